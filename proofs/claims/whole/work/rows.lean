section
-- ===== PART A: goes FIRST, ahead of the names: the tables' words, and 'selects' of the private methods out of them =====
/-- a private method of a class that the tables say can be made, by its rows of tables_1 -/
def lw_okq (q : MethodName × Nat) : Prop := (q.1.cls ≠ "java/lang/invoke/MethodHandle" ∧ q.1.cls ≠ "java/lang/invoke/VarHandle") ∧ Cond.instantiable q.1.cls q.2 ∈ tables_1 ∧ Cond.privateMethod q.1 ∈ tables_1 ∧ Cond.instanceMethod q.1 ∈ tables_1
theorem lw_p0 : lw_okq (⟨"SwordSeat$Realm", "clear", "()V"⟩, 13) := ⟨⟨by decide +kernel, by decide +kernel⟩, List.mem_of_getElem? (i := 24) (by decide +kernel), List.mem_of_getElem? (i := 30) (by decide +kernel), List.mem_of_getElem? (i := 31) (by decide +kernel)⟩
theorem lw_p1 : lw_okq (⟨"SwordSeat$Tape", "append", "(I)Z"⟩, 2) := ⟨⟨by decide +kernel, by decide +kernel⟩, List.mem_of_getElem? (i := 108) (by decide +kernel), List.mem_of_getElem? (i := 286) (by decide +kernel), List.mem_of_getElem? (i := 287) (by decide +kernel)⟩
theorem lw_p2 : lw_okq (⟨"SwordSeat$Reader", "readAll", "()I"⟩, 11) := ⟨⟨by decide +kernel, by decide +kernel⟩, List.mem_of_getElem? (i := 102) (by decide +kernel), List.mem_of_getElem? (i := 298) (by decide +kernel), List.mem_of_getElem? (i := 299) (by decide +kernel)⟩
theorem lw_p3 : lw_okq (⟨"SwordSeat$Reader", "nextToken", "()Z"⟩, 11) := ⟨⟨by decide +kernel, by decide +kernel⟩, List.mem_of_getElem? (i := 102) (by decide +kernel), List.mem_of_getElem? (i := 303) (by decide +kernel), List.mem_of_getElem? (i := 304) (by decide +kernel)⟩
theorem lw_p4 : lw_okq (⟨"SwordSeat$Tape", "byteAt", "(I)I"⟩, 2) := ⟨⟨by decide +kernel, by decide +kernel⟩, List.mem_of_getElem? (i := 108) (by decide +kernel), List.mem_of_getElem? (i := 307) (by decide +kernel), List.mem_of_getElem? (i := 308) (by decide +kernel)⟩
theorem lw_p5 : lw_okq (⟨"SwordSeat$Reader", "fail", "(II)Z"⟩, 11) := ⟨⟨by decide +kernel, by decide +kernel⟩, List.mem_of_getElem? (i := 102) (by decide +kernel), List.mem_of_getElem? (i := 314) (by decide +kernel), List.mem_of_getElem? (i := 315) (by decide +kernel)⟩
theorem lw_p6 : lw_okq (⟨"SwordSeat$Reader", "readLine", "()Z"⟩, 11) := ⟨⟨by decide +kernel, by decide +kernel⟩, List.mem_of_getElem? (i := 102) (by decide +kernel), List.mem_of_getElem? (i := 318) (by decide +kernel), List.mem_of_getElem? (i := 319) (by decide +kernel)⟩
theorem lw_p7 : lw_okq (⟨"SwordSeat$Reader", "spells", "(Ljava/lang/String;)Z"⟩, 11) := ⟨⟨by decide +kernel, by decide +kernel⟩, List.mem_of_getElem? (i := 102) (by decide +kernel), List.mem_of_getElem? (i := 323) (by decide +kernel), List.mem_of_getElem? (i := 324) (by decide +kernel)⟩
theorem lw_p8 : lw_okq (⟨"SwordSeat$Reader", "readHair", "()Z"⟩, 11) := ⟨⟨by decide +kernel, by decide +kernel⟩, List.mem_of_getElem? (i := 102) (by decide +kernel), List.mem_of_getElem? (i := 375) (by decide +kernel), List.mem_of_getElem? (i := 376) (by decide +kernel)⟩
theorem lw_p9 : lw_okq (⟨"SwordSeat$Reader", "spelledKind", "()I"⟩, 11) := ⟨⟨by decide +kernel, by decide +kernel⟩, List.mem_of_getElem? (i := 102) (by decide +kernel), List.mem_of_getElem? (i := 379) (by decide +kernel), List.mem_of_getElem? (i := 380) (by decide +kernel)⟩
theorem lw_p10 : lw_okq (⟨"SwordSeat$Reader", "readNumber", "(II)Z"⟩, 11) := ⟨⟨by decide +kernel, by decide +kernel⟩, List.mem_of_getElem? (i := 102) (by decide +kernel), List.mem_of_getElem? (i := 388) (by decide +kernel), List.mem_of_getElem? (i := 389) (by decide +kernel)⟩
theorem lw_p11 : lw_okq (⟨"SwordSeat$Realm", "addHair", "(II)Z"⟩, 13) := ⟨⟨by decide +kernel, by decide +kernel⟩, List.mem_of_getElem? (i := 24) (by decide +kernel), List.mem_of_getElem? (i := 393) (by decide +kernel), List.mem_of_getElem? (i := 394) (by decide +kernel)⟩
theorem lw_p12 : lw_okq (⟨"SwordSeat$Reader", "readStop", "()Z"⟩, 11) := ⟨⟨by decide +kernel, by decide +kernel⟩, List.mem_of_getElem? (i := 102) (by decide +kernel), List.mem_of_getElem? (i := 397) (by decide +kernel), List.mem_of_getElem? (i := 398) (by decide +kernel)⟩
theorem lw_p13 : lw_okq (⟨"SwordSeat$Reader", "readKing", "()Z"⟩, 11) := ⟨⟨by decide +kernel, by decide +kernel⟩, List.mem_of_getElem? (i := 102) (by decide +kernel), List.mem_of_getElem? (i := 402) (by decide +kernel), List.mem_of_getElem? (i := 403) (by decide +kernel)⟩
theorem lw_p14 : lw_okq (⟨"SwordSeat$Realm", "addKing", "(II)Z"⟩, 13) := ⟨⟨by decide +kernel, by decide +kernel⟩, List.mem_of_getElem? (i := 24) (by decide +kernel), List.mem_of_getElem? (i := 406) (by decide +kernel), List.mem_of_getElem? (i := 407) (by decide +kernel)⟩
theorem lw_p15 : lw_okq (⟨"SwordSeat$Reader", "readLaw", "()Z"⟩, 11) := ⟨⟨by decide +kernel, by decide +kernel⟩, List.mem_of_getElem? (i := 102) (by decide +kernel), List.mem_of_getElem? (i := 411) (by decide +kernel), List.mem_of_getElem? (i := 412) (by decide +kernel)⟩
def lw_privs_1 : List (MethodName × Nat) := [(⟨"SwordSeat$Realm", "clear", "()V"⟩, 13), (⟨"SwordSeat$Tape", "append", "(I)Z"⟩, 2), (⟨"SwordSeat$Reader", "readAll", "()I"⟩, 11), (⟨"SwordSeat$Reader", "nextToken", "()Z"⟩, 11), (⟨"SwordSeat$Tape", "byteAt", "(I)I"⟩, 2), (⟨"SwordSeat$Reader", "fail", "(II)Z"⟩, 11), (⟨"SwordSeat$Reader", "readLine", "()Z"⟩, 11), (⟨"SwordSeat$Reader", "spells", "(Ljava/lang/String;)Z"⟩, 11), (⟨"SwordSeat$Reader", "readHair", "()Z"⟩, 11), (⟨"SwordSeat$Reader", "spelledKind", "()I"⟩, 11), (⟨"SwordSeat$Reader", "readNumber", "(II)Z"⟩, 11), (⟨"SwordSeat$Realm", "addHair", "(II)Z"⟩, 13), (⟨"SwordSeat$Reader", "readStop", "()Z"⟩, 11), (⟨"SwordSeat$Reader", "readKing", "()Z"⟩, 11), (⟨"SwordSeat$Realm", "addKing", "(II)Z"⟩, 13), (⟨"SwordSeat$Reader", "readLaw", "()Z"⟩, 11)]
theorem lw_r1 : ∀ q ∈ lw_privs_1, lw_okq q := List.forall_mem_cons.mpr ⟨lw_p0, List.forall_mem_cons.mpr ⟨lw_p1, List.forall_mem_cons.mpr ⟨lw_p2, List.forall_mem_cons.mpr ⟨lw_p3, List.forall_mem_cons.mpr ⟨lw_p4, List.forall_mem_cons.mpr ⟨lw_p5, List.forall_mem_cons.mpr ⟨lw_p6, List.forall_mem_cons.mpr ⟨lw_p7, List.forall_mem_cons.mpr ⟨lw_p8, List.forall_mem_cons.mpr ⟨lw_p9, List.forall_mem_cons.mpr ⟨lw_p10, List.forall_mem_cons.mpr ⟨lw_p11, List.forall_mem_cons.mpr ⟨lw_p12, List.forall_mem_cons.mpr ⟨lw_p13, List.forall_mem_cons.mpr ⟨lw_p14, List.forall_mem_cons.mpr ⟨lw_p15, fun _ h => absurd h List.not_mem_nil⟩⟩⟩⟩⟩⟩⟩⟩⟩⟩⟩⟩⟩⟩⟩⟩
theorem lw_p16 : lw_okq (⟨"SwordSeat$Realm", "addLaw", "(II)Z"⟩, 13) := ⟨⟨by decide +kernel, by decide +kernel⟩, List.mem_of_getElem? (i := 24) (by decide +kernel), List.mem_of_getElem? (i := 415) (by decide +kernel), List.mem_of_getElem? (i := 416) (by decide +kernel)⟩
theorem lw_p17 : lw_okq (⟨"SwordSeat$Reader", "readLoad", "()Z"⟩, 11) := ⟨⟨by decide +kernel, by decide +kernel⟩, List.mem_of_getElem? (i := 102) (by decide +kernel), List.mem_of_getElem? (i := 420) (by decide +kernel), List.mem_of_getElem? (i := 421) (by decide +kernel)⟩
theorem lw_p18 : lw_okq (⟨"SwordSeat$Reader", "readPrize", "()Z"⟩, 11) := ⟨⟨by decide +kernel, by decide +kernel⟩, List.mem_of_getElem? (i := 102) (by decide +kernel), List.mem_of_getElem? (i := 425) (by decide +kernel), List.mem_of_getElem? (i := 426) (by decide +kernel)⟩
theorem lw_p19 : lw_okq (⟨"SwordSeat$Reader", "readBroken", "()Z"⟩, 11) := ⟨⟨by decide +kernel, by decide +kernel⟩, List.mem_of_getElem? (i := 102) (by decide +kernel), List.mem_of_getElem? (i := 430) (by decide +kernel), List.mem_of_getElem? (i := 431) (by decide +kernel)⟩
theorem lw_p20 : lw_okq (⟨"SwordSeat$Realm", "copy", "(LSwordSeat$Realm;)V"⟩, 13) := ⟨⟨by decide +kernel, by decide +kernel⟩, List.mem_of_getElem? (i := 24) (by decide +kernel), List.mem_of_getElem? (i := 434) (by decide +kernel), List.mem_of_getElem? (i := 435) (by decide +kernel)⟩
theorem lw_p21 : lw_okq (⟨"SwordSeat$Realm", "wholeBit", "(I)I"⟩, 13) := ⟨⟨by decide +kernel, by decide +kernel⟩, List.mem_of_getElem? (i := 24) (by decide +kernel), List.mem_of_getElem? (i := 453) (by decide +kernel), List.mem_of_getElem? (i := 454) (by decide +kernel)⟩
theorem lw_p22 : lw_okq (⟨"SwordSeat$Realm", "breaks", "(I)I"⟩, 13) := ⟨⟨by decide +kernel, by decide +kernel⟩, List.mem_of_getElem? (i := 24) (by decide +kernel), List.mem_of_getElem? (i := 457) (by decide +kernel), List.mem_of_getElem? (i := 458) (by decide +kernel)⟩
theorem lw_p23 : lw_okq (⟨"SwordSeat$Realm", "tryHour", "(I)I"⟩, 13) := ⟨⟨by decide +kernel, by decide +kernel⟩, List.mem_of_getElem? (i := 24) (by decide +kernel), List.mem_of_getElem? (i := 512) (by decide +kernel), List.mem_of_getElem? (i := 513) (by decide +kernel)⟩
theorem lw_p24 : lw_okq (⟨"SwordSeat$Realm", "passHour", "(I)V"⟩, 13) := ⟨⟨by decide +kernel, by decide +kernel⟩, List.mem_of_getElem? (i := 24) (by decide +kernel), List.mem_of_getElem? (i := 516) (by decide +kernel), List.mem_of_getElem? (i := 517) (by decide +kernel)⟩
theorem lw_p25 : lw_okq (⟨"SwordSeat", "heldFromNow", "(I)J"⟩, 9) := ⟨⟨by decide +kernel, by decide +kernel⟩, List.mem_of_getElem? (i := 16) (by decide +kernel), List.mem_of_getElem? (i := 533) (by decide +kernel), List.mem_of_getElem? (i := 534) (by decide +kernel)⟩
theorem lw_p26 : lw_okq (⟨"SwordSeat$Odds", "take", "(LSwordSeat$Realm;)V"⟩, 12) := ⟨⟨by decide +kernel, by decide +kernel⟩, List.mem_of_getElem? (i := 164) (by decide +kernel), List.mem_of_getElem? (i := 537) (by decide +kernel), List.mem_of_getElem? (i := 538) (by decide +kernel)⟩
theorem lw_p27 : lw_okq (⟨"SwordSeat$Odds", "begin", "(I)V"⟩, 12) := ⟨⟨by decide +kernel, by decide +kernel⟩, List.mem_of_getElem? (i := 164) (by decide +kernel), List.mem_of_getElem? (i := 541) (by decide +kernel), List.mem_of_getElem? (i := 542) (by decide +kernel)⟩
theorem lw_p28 : lw_okq (⟨"SwordSeat$Odds", "passHours", "(I)V"⟩, 12) := ⟨⟨by decide +kernel, by decide +kernel⟩, List.mem_of_getElem? (i := 164) (by decide +kernel), List.mem_of_getElem? (i := 545) (by decide +kernel), List.mem_of_getElem? (i := 546) (by decide +kernel)⟩
theorem lw_p29 : lw_okq (⟨"SwordSeat$Odds", "passHour", "(I)V"⟩, 12) := ⟨⟨by decide +kernel, by decide +kernel⟩, List.mem_of_getElem? (i := 164) (by decide +kernel), List.mem_of_getElem? (i := 549) (by decide +kernel), List.mem_of_getElem? (i := 550) (by decide +kernel)⟩
theorem lw_p30 : lw_okq (⟨"SwordSeat$Odds", "weigh", "(II)V"⟩, 12) := ⟨⟨by decide +kernel, by decide +kernel⟩, List.mem_of_getElem? (i := 164) (by decide +kernel), List.mem_of_getElem? (i := 553) (by decide +kernel), List.mem_of_getElem? (i := 554) (by decide +kernel)⟩
theorem lw_p31 : lw_okq (⟨"SwordSeat$Odds", "weight", "(II)J"⟩, 12) := ⟨⟨by decide +kernel, by decide +kernel⟩, List.mem_of_getElem? (i := 164) (by decide +kernel), List.mem_of_getElem? (i := 560) (by decide +kernel), List.mem_of_getElem? (i := 561) (by decide +kernel)⟩
def lw_privs_2 : List (MethodName × Nat) := [(⟨"SwordSeat$Realm", "addLaw", "(II)Z"⟩, 13), (⟨"SwordSeat$Reader", "readLoad", "()Z"⟩, 11), (⟨"SwordSeat$Reader", "readPrize", "()Z"⟩, 11), (⟨"SwordSeat$Reader", "readBroken", "()Z"⟩, 11), (⟨"SwordSeat$Realm", "copy", "(LSwordSeat$Realm;)V"⟩, 13), (⟨"SwordSeat$Realm", "wholeBit", "(I)I"⟩, 13), (⟨"SwordSeat$Realm", "breaks", "(I)I"⟩, 13), (⟨"SwordSeat$Realm", "tryHour", "(I)I"⟩, 13), (⟨"SwordSeat$Realm", "passHour", "(I)V"⟩, 13), (⟨"SwordSeat", "heldFromNow", "(I)J"⟩, 9), (⟨"SwordSeat$Odds", "take", "(LSwordSeat$Realm;)V"⟩, 12), (⟨"SwordSeat$Odds", "begin", "(I)V"⟩, 12), (⟨"SwordSeat$Odds", "passHours", "(I)V"⟩, 12), (⟨"SwordSeat$Odds", "passHour", "(I)V"⟩, 12), (⟨"SwordSeat$Odds", "weigh", "(II)V"⟩, 12), (⟨"SwordSeat$Odds", "weight", "(II)J"⟩, 12)]
theorem lw_r2 : ∀ q ∈ lw_privs_2, lw_okq q := List.forall_mem_cons.mpr ⟨lw_p16, List.forall_mem_cons.mpr ⟨lw_p17, List.forall_mem_cons.mpr ⟨lw_p18, List.forall_mem_cons.mpr ⟨lw_p19, List.forall_mem_cons.mpr ⟨lw_p20, List.forall_mem_cons.mpr ⟨lw_p21, List.forall_mem_cons.mpr ⟨lw_p22, List.forall_mem_cons.mpr ⟨lw_p23, List.forall_mem_cons.mpr ⟨lw_p24, List.forall_mem_cons.mpr ⟨lw_p25, List.forall_mem_cons.mpr ⟨lw_p26, List.forall_mem_cons.mpr ⟨lw_p27, List.forall_mem_cons.mpr ⟨lw_p28, List.forall_mem_cons.mpr ⟨lw_p29, List.forall_mem_cons.mpr ⟨lw_p30, List.forall_mem_cons.mpr ⟨lw_p31, fun _ h => absurd h List.not_mem_nil⟩⟩⟩⟩⟩⟩⟩⟩⟩⟩⟩⟩⟩⟩⟩⟩
theorem lw_p32 : lw_okq (⟨"SwordSeat$Odds", "held", "()J"⟩, 12) := ⟨⟨by decide +kernel, by decide +kernel⟩, List.mem_of_getElem? (i := 164) (by decide +kernel), List.mem_of_getElem? (i := 565) (by decide +kernel), List.mem_of_getElem? (i := 566) (by decide +kernel)⟩
theorem lw_p33 : lw_okq (⟨"SwordSeat$Odds", "justWhole", "(I)J"⟩, 12) := ⟨⟨by decide +kernel, by decide +kernel⟩, List.mem_of_getElem? (i := 164) (by decide +kernel), List.mem_of_getElem? (i := 582) (by decide +kernel), List.mem_of_getElem? (i := 583) (by decide +kernel)⟩
theorem lw_p34 : lw_okq (⟨"SwordSeat$Odds", "sitting", "(IIIZ)J"⟩, 12) := ⟨⟨by decide +kernel, by decide +kernel⟩, List.mem_of_getElem? (i := 164) (by decide +kernel), List.mem_of_getElem? (i := 594) (by decide +kernel), List.mem_of_getElem? (i := 595) (by decide +kernel)⟩
theorem lw_p35 : lw_okq (⟨"SwordSeat", "seeingGain", "(II)J"⟩, 9) := ⟨⟨by decide +kernel, by decide +kernel⟩, List.mem_of_getElem? (i := 16) (by decide +kernel), List.mem_of_getElem? (i := 606) (by decide +kernel), List.mem_of_getElem? (i := 607) (by decide +kernel)⟩
theorem lw_p36 : lw_okq (⟨"SwordSeat$Odds", "takeNew", "(III)V"⟩, 12) := ⟨⟨by decide +kernel, by decide +kernel⟩, List.mem_of_getElem? (i := 164) (by decide +kernel), List.mem_of_getElem? (i := 619) (by decide +kernel), List.mem_of_getElem? (i := 620) (by decide +kernel)⟩
theorem lw_p37 : lw_okq (⟨"SwordSeat$Odds", "holdsBy", "(II)Z"⟩, 12) := ⟨⟨by decide +kernel, by decide +kernel⟩, List.mem_of_getElem? (i := 164) (by decide +kernel), List.mem_of_getElem? (i := 623) (by decide +kernel), List.mem_of_getElem? (i := 624) (by decide +kernel)⟩
theorem lw_p38 : lw_okq (⟨"SwordSeat$Odds", "renew", "(I)V"⟩, 12) := ⟨⟨by decide +kernel, by decide +kernel⟩, List.mem_of_getElem? (i := 164) (by decide +kernel), List.mem_of_getElem? (i := 636) (by decide +kernel), List.mem_of_getElem? (i := 637) (by decide +kernel)⟩
theorem lw_p39 : lw_okq (⟨"SwordSeat$Odds", "contest", "(LSwordSeat$Realm;III)V"⟩, 12) := ⟨⟨by decide +kernel, by decide +kernel⟩, List.mem_of_getElem? (i := 164) (by decide +kernel), List.mem_of_getElem? (i := 645) (by decide +kernel), List.mem_of_getElem? (i := 646) (by decide +kernel)⟩
theorem lw_p40 : lw_okq (⟨"SwordSeat$Odds", "duelHour", "(IJJJ[J[J)V"⟩, 12) := ⟨⟨by decide +kernel, by decide +kernel⟩, List.mem_of_getElem? (i := 164) (by decide +kernel), List.mem_of_getElem? (i := 649) (by decide +kernel), List.mem_of_getElem? (i := 650) (by decide +kernel)⟩
theorem lw_p41 : lw_okq (⟨"SwordSeat$Odds", "foresee", "()V"⟩, 12) := ⟨⟨by decide +kernel, by decide +kernel⟩, List.mem_of_getElem? (i := 164) (by decide +kernel), List.mem_of_getElem? (i := 666) (by decide +kernel), List.mem_of_getElem? (i := 667) (by decide +kernel)⟩
theorem lw_p42 : lw_okq (⟨"SwordSeat", "worthOfLaws", "(I)J"⟩, 9) := ⟨⟨by decide +kernel, by decide +kernel⟩, List.mem_of_getElem? (i := 16) (by decide +kernel), List.mem_of_getElem? (i := 670) (by decide +kernel), List.mem_of_getElem? (i := 671) (by decide +kernel)⟩
theorem lw_p43 : lw_okq (⟨"SwordSeat$Seen", "append", "(II)Z"⟩, 3) := ⟨⟨by decide +kernel, by decide +kernel⟩, List.mem_of_getElem? (i := 212) (by decide +kernel), List.mem_of_getElem? (i := 682) (by decide +kernel), List.mem_of_getElem? (i := 683) (by decide +kernel)⟩
theorem lw_p44 : lw_okq (⟨"SwordSeat", "likelihood", "(II)J"⟩, 9) := ⟨⟨by decide +kernel, by decide +kernel⟩, List.mem_of_getElem? (i := 16) (by decide +kernel), List.mem_of_getElem? (i := 694) (by decide +kernel), List.mem_of_getElem? (i := 695) (by decide +kernel)⟩
theorem lw_p45 : lw_okq (⟨"SwordSeat$Seen", "lastHour", "()I"⟩, 3) := ⟨⟨by decide +kernel, by decide +kernel⟩, List.mem_of_getElem? (i := 212) (by decide +kernel), List.mem_of_getElem? (i := 698) (by decide +kernel), List.mem_of_getElem? (i := 699) (by decide +kernel)⟩
theorem lw_p46 : lw_okq (⟨"SwordSeat$Odds", "keepOnly", "(I)V"⟩, 12) := ⟨⟨by decide +kernel, by decide +kernel⟩, List.mem_of_getElem? (i := 164) (by decide +kernel), List.mem_of_getElem? (i := 703) (by decide +kernel), List.mem_of_getElem? (i := 704) (by decide +kernel)⟩
theorem lw_p47 : lw_okq (⟨"SwordSeat$Odds", "all", "()J"⟩, 12) := ⟨⟨by decide +kernel, by decide +kernel⟩, List.mem_of_getElem? (i := 164) (by decide +kernel), List.mem_of_getElem? (i := 707) (by decide +kernel), List.mem_of_getElem? (i := 708) (by decide +kernel)⟩
def lw_privs_3 : List (MethodName × Nat) := [(⟨"SwordSeat$Odds", "held", "()J"⟩, 12), (⟨"SwordSeat$Odds", "justWhole", "(I)J"⟩, 12), (⟨"SwordSeat$Odds", "sitting", "(IIIZ)J"⟩, 12), (⟨"SwordSeat", "seeingGain", "(II)J"⟩, 9), (⟨"SwordSeat$Odds", "takeNew", "(III)V"⟩, 12), (⟨"SwordSeat$Odds", "holdsBy", "(II)Z"⟩, 12), (⟨"SwordSeat$Odds", "renew", "(I)V"⟩, 12), (⟨"SwordSeat$Odds", "contest", "(LSwordSeat$Realm;III)V"⟩, 12), (⟨"SwordSeat$Odds", "duelHour", "(IJJJ[J[J)V"⟩, 12), (⟨"SwordSeat$Odds", "foresee", "()V"⟩, 12), (⟨"SwordSeat", "worthOfLaws", "(I)J"⟩, 9), (⟨"SwordSeat$Seen", "append", "(II)Z"⟩, 3), (⟨"SwordSeat", "likelihood", "(II)J"⟩, 9), (⟨"SwordSeat$Seen", "lastHour", "()I"⟩, 3), (⟨"SwordSeat$Odds", "keepOnly", "(I)V"⟩, 12), (⟨"SwordSeat$Odds", "all", "()J"⟩, 12)]
theorem lw_r3 : ∀ q ∈ lw_privs_3, lw_okq q := List.forall_mem_cons.mpr ⟨lw_p32, List.forall_mem_cons.mpr ⟨lw_p33, List.forall_mem_cons.mpr ⟨lw_p34, List.forall_mem_cons.mpr ⟨lw_p35, List.forall_mem_cons.mpr ⟨lw_p36, List.forall_mem_cons.mpr ⟨lw_p37, List.forall_mem_cons.mpr ⟨lw_p38, List.forall_mem_cons.mpr ⟨lw_p39, List.forall_mem_cons.mpr ⟨lw_p40, List.forall_mem_cons.mpr ⟨lw_p41, List.forall_mem_cons.mpr ⟨lw_p42, List.forall_mem_cons.mpr ⟨lw_p43, List.forall_mem_cons.mpr ⟨lw_p44, List.forall_mem_cons.mpr ⟨lw_p45, List.forall_mem_cons.mpr ⟨lw_p46, List.forall_mem_cons.mpr ⟨lw_p47, fun _ h => absurd h List.not_mem_nil⟩⟩⟩⟩⟩⟩⟩⟩⟩⟩⟩⟩⟩⟩⟩⟩
theorem lw_p48 : lw_okq (⟨"SwordSeat$Sheet", "renew", "(II)V"⟩, 3) := ⟨⟨by decide +kernel, by decide +kernel⟩, List.mem_of_getElem? (i := 232) (by decide +kernel), List.mem_of_getElem? (i := 733) (by decide +kernel), List.mem_of_getElem? (i := 734) (by decide +kernel)⟩
theorem lw_p49 : lw_okq (⟨"SwordSeat$Sheet", "faultAt", "(I)I"⟩, 3) := ⟨⟨by decide +kernel, by decide +kernel⟩, List.mem_of_getElem? (i := 232) (by decide +kernel), List.mem_of_getElem? (i := 742) (by decide +kernel), List.mem_of_getElem? (i := 743) (by decide +kernel)⟩
theorem lw_p50 : lw_okq (⟨"SwordSeat$Sheet", "write", "(II)V"⟩, 3) := ⟨⟨by decide +kernel, by decide +kernel⟩, List.mem_of_getElem? (i := 232) (by decide +kernel), List.mem_of_getElem? (i := 747) (by decide +kernel), List.mem_of_getElem? (i := 748) (by decide +kernel)⟩
theorem lw_p51 : lw_okq (⟨"SwordSeat$Sheet", "faultAs", "(II)I"⟩, 3) := ⟨⟨by decide +kernel, by decide +kernel⟩, List.mem_of_getElem? (i := 232) (by decide +kernel), List.mem_of_getElem? (i := 755) (by decide +kernel), List.mem_of_getElem? (i := 756) (by decide +kernel)⟩
theorem lw_p52 : lw_okq (⟨"SwordSeat$Realm", "allAges", "()I"⟩, 13) := ⟨⟨by decide +kernel, by decide +kernel⟩, List.mem_of_getElem? (i := 24) (by decide +kernel), List.mem_of_getElem? (i := 769) (by decide +kernel), List.mem_of_getElem? (i := 770) (by decide +kernel)⟩
theorem lw_p53 : lw_okq (⟨"SwordSeatModel", "step", "()V"⟩, 42) := ⟨⟨by decide +kernel, by decide +kernel⟩, List.mem_of_getElem? (i := 773) (by decide +kernel), List.mem_of_getElem? (i := 922) (by decide +kernel), List.mem_of_getElem? (i := 923) (by decide +kernel)⟩
theorem lw_p54 : lw_okq (⟨"SwordSeatModel", "byteAt", "(I)I"⟩, 42) := ⟨⟨by decide +kernel, by decide +kernel⟩, List.mem_of_getElem? (i := 773) (by decide +kernel), List.mem_of_getElem? (i := 926) (by decide +kernel), List.mem_of_getElem? (i := 927) (by decide +kernel)⟩
theorem lw_p55 : lw_okq (⟨"SwordSeatModel", "fails", "(I)V"⟩, 42) := ⟨⟨by decide +kernel, by decide +kernel⟩, List.mem_of_getElem? (i := 773) (by decide +kernel), List.mem_of_getElem? (i := 934) (by decide +kernel), List.mem_of_getElem? (i := 935) (by decide +kernel)⟩
theorem lw_p56 : lw_okq (⟨"SwordSeatModel", "readLine", "()V"⟩, 42) := ⟨⟨by decide +kernel, by decide +kernel⟩, List.mem_of_getElem? (i := 773) (by decide +kernel), List.mem_of_getElem? (i := 938) (by decide +kernel), List.mem_of_getElem? (i := 939) (by decide +kernel)⟩
theorem lw_p57 : lw_okq (⟨"SwordSeatModel", "nameHere", "()I"⟩, 42) := ⟨⟨by decide +kernel, by decide +kernel⟩, List.mem_of_getElem? (i := 773) (by decide +kernel), List.mem_of_getElem? (i := 942) (by decide +kernel), List.mem_of_getElem? (i := 943) (by decide +kernel)⟩
theorem lw_p58 : lw_okq (⟨"SwordSeatModel", "readMore", "(I)V"⟩, 42) := ⟨⟨by decide +kernel, by decide +kernel⟩, List.mem_of_getElem? (i := 773) (by decide +kernel), List.mem_of_getElem? (i := 949) (by decide +kernel), List.mem_of_getElem? (i := 950) (by decide +kernel)⟩
theorem lw_p59 : lw_okq (⟨"SwordSeatModel", "number", "(II)I"⟩, 42) := ⟨⟨by decide +kernel, by decide +kernel⟩, List.mem_of_getElem? (i := 773) (by decide +kernel), List.mem_of_getElem? (i := 953) (by decide +kernel), List.mem_of_getElem? (i := 954) (by decide +kernel)⟩
theorem lw_p60 : lw_okq (⟨"SwordSeatModel", "load", "()I"⟩, 42) := ⟨⟨by decide +kernel, by decide +kernel⟩, List.mem_of_getElem? (i := 773) (by decide +kernel), List.mem_of_getElem? (i := 966) (by decide +kernel), List.mem_of_getElem? (i := 967) (by decide +kernel)⟩
theorem lw_p61 : lw_okq (⟨"SwordSeatModel", "prize", "()I"⟩, 42) := ⟨⟨by decide +kernel, by decide +kernel⟩, List.mem_of_getElem? (i := 773) (by decide +kernel), List.mem_of_getElem? (i := 970) (by decide +kernel), List.mem_of_getElem? (i := 971) (by decide +kernel)⟩
theorem lw_p62 : lw_okq (⟨"SwordSeatModel", "wholeNow", "()I"⟩, 42) := ⟨⟨by decide +kernel, by decide +kernel⟩, List.mem_of_getElem? (i := 773) (by decide +kernel), List.mem_of_getElem? (i := 974) (by decide +kernel), List.mem_of_getElem? (i := 975) (by decide +kernel)⟩
theorem lw_p63 : lw_okq (⟨"SwordSeatModel", "isHair", "(I)Z"⟩, 42) := ⟨⟨by decide +kernel, by decide +kernel⟩, List.mem_of_getElem? (i := 773) (by decide +kernel), List.mem_of_getElem? (i := 982) (by decide +kernel), List.mem_of_getElem? (i := 983) (by decide +kernel)⟩
def lw_privs_4 : List (MethodName × Nat) := [(⟨"SwordSeat$Sheet", "renew", "(II)V"⟩, 3), (⟨"SwordSeat$Sheet", "faultAt", "(I)I"⟩, 3), (⟨"SwordSeat$Sheet", "write", "(II)V"⟩, 3), (⟨"SwordSeat$Sheet", "faultAs", "(II)I"⟩, 3), (⟨"SwordSeat$Realm", "allAges", "()I"⟩, 13), (⟨"SwordSeatModel", "step", "()V"⟩, 42), (⟨"SwordSeatModel", "byteAt", "(I)I"⟩, 42), (⟨"SwordSeatModel", "fails", "(I)V"⟩, 42), (⟨"SwordSeatModel", "readLine", "()V"⟩, 42), (⟨"SwordSeatModel", "nameHere", "()I"⟩, 42), (⟨"SwordSeatModel", "readMore", "(I)V"⟩, 42), (⟨"SwordSeatModel", "number", "(II)I"⟩, 42), (⟨"SwordSeatModel", "load", "()I"⟩, 42), (⟨"SwordSeatModel", "prize", "()I"⟩, 42), (⟨"SwordSeatModel", "wholeNow", "()I"⟩, 42), (⟨"SwordSeatModel", "isHair", "(I)Z"⟩, 42)]
theorem lw_r4 : ∀ q ∈ lw_privs_4, lw_okq q := List.forall_mem_cons.mpr ⟨lw_p48, List.forall_mem_cons.mpr ⟨lw_p49, List.forall_mem_cons.mpr ⟨lw_p50, List.forall_mem_cons.mpr ⟨lw_p51, List.forall_mem_cons.mpr ⟨lw_p52, List.forall_mem_cons.mpr ⟨lw_p53, List.forall_mem_cons.mpr ⟨lw_p54, List.forall_mem_cons.mpr ⟨lw_p55, List.forall_mem_cons.mpr ⟨lw_p56, List.forall_mem_cons.mpr ⟨lw_p57, List.forall_mem_cons.mpr ⟨lw_p58, List.forall_mem_cons.mpr ⟨lw_p59, List.forall_mem_cons.mpr ⟨lw_p60, List.forall_mem_cons.mpr ⟨lw_p61, List.forall_mem_cons.mpr ⟨lw_p62, List.forall_mem_cons.mpr ⟨lw_p63, fun _ h => absurd h List.not_mem_nil⟩⟩⟩⟩⟩⟩⟩⟩⟩⟩⟩⟩⟩⟩⟩⟩
theorem lw_p64 : lw_okq (⟨"SwordSeatModel", "lays", "()V"⟩, 42) := ⟨⟨by decide +kernel, by decide +kernel⟩, List.mem_of_getElem? (i := 773) (by decide +kernel), List.mem_of_getElem? (i := 986) (by decide +kernel), List.mem_of_getElem? (i := 987) (by decide +kernel)⟩
theorem lw_p65 : lw_okq (⟨"SwordSeatModel", "breaksOf", "(III)I"⟩, 42) := ⟨⟨by decide +kernel, by decide +kernel⟩, List.mem_of_getElem? (i := 773) (by decide +kernel), List.mem_of_getElem? (i := 990) (by decide +kernel), List.mem_of_getElem? (i := 991) (by decide +kernel)⟩
theorem lw_p66 : lw_okq (⟨"SwordSeatModel", "isKing", "(I)Z"⟩, 42) := ⟨⟨by decide +kernel, by decide +kernel⟩, List.mem_of_getElem? (i := 773) (by decide +kernel), List.mem_of_getElem? (i := 1001) (by decide +kernel), List.mem_of_getElem? (i := 1002) (by decide +kernel)⟩
theorem lw_p67 : lw_okq (⟨"SwordSeatModel", "puts", "(ZIII)I"⟩, 42) := ⟨⟨by decide +kernel, by decide +kernel⟩, List.mem_of_getElem? (i := 773) (by decide +kernel), List.mem_of_getElem? (i := 1014) (by decide +kernel), List.mem_of_getElem? (i := 1015) (by decide +kernel)⟩
theorem lw_p68 : lw_okq (⟨"SwordSeatModel", "hours", "(I)I"⟩, 42) := ⟨⟨by decide +kernel, by decide +kernel⟩, List.mem_of_getElem? (i := 773) (by decide +kernel), List.mem_of_getElem? (i := 1039) (by decide +kernel), List.mem_of_getElem? (i := 1040) (by decide +kernel)⟩
theorem lw_p69 : lw_okq (⟨"SwordSeatModel", "holds", "(I)J"⟩, 42) := ⟨⟨by decide +kernel, by decide +kernel⟩, List.mem_of_getElem? (i := 773) (by decide +kernel), List.mem_of_getElem? (i := 1055) (by decide +kernel), List.mem_of_getElem? (i := 1056) (by decide +kernel)⟩
theorem lw_p70 : lw_okq (⟨"SwordSeatModel", "hoursOn", "(I)V"⟩, 42) := ⟨⟨by decide +kernel, by decide +kernel⟩, List.mem_of_getElem? (i := 773) (by decide +kernel), List.mem_of_getElem? (i := 1059) (by decide +kernel), List.mem_of_getElem? (i := 1060) (by decide +kernel)⟩
theorem lw_p71 : lw_okq (⟨"SwordSeatModel", "begins", "()V"⟩, 42) := ⟨⟨by decide +kernel, by decide +kernel⟩, List.mem_of_getElem? (i := 773) (by decide +kernel), List.mem_of_getElem? (i := 1063) (by decide +kernel), List.mem_of_getElem? (i := 1064) (by decide +kernel)⟩
theorem lw_p72 : lw_okq (⟨"SwordSeatModel", "hourOn", "(I)V"⟩, 42) := ⟨⟨by decide +kernel, by decide +kernel⟩, List.mem_of_getElem? (i := 773) (by decide +kernel), List.mem_of_getElem? (i := 1067) (by decide +kernel), List.mem_of_getElem? (i := 1068) (by decide +kernel)⟩
theorem lw_p73 : lw_okq (⟨"SwordSeatModel", "wayOf", "(III)J"⟩, 42) := ⟨⟨by decide +kernel, by decide +kernel⟩, List.mem_of_getElem? (i := 773) (by decide +kernel), List.mem_of_getElem? (i := 1071) (by decide +kernel), List.mem_of_getElem? (i := 1072) (by decide +kernel)⟩
theorem lw_p74 : lw_okq (⟨"SwordSeatModel", "bestOf", "(II)J"⟩, 42) := ⟨⟨by decide +kernel, by decide +kernel⟩, List.mem_of_getElem? (i := 773) (by decide +kernel), List.mem_of_getElem? (i := 1094) (by decide +kernel), List.mem_of_getElem? (i := 1095) (by decide +kernel)⟩
theorem lw_p75 : lw_okq (⟨"SwordSeatModel", "laysNew", "(II)V"⟩, 42) := ⟨⟨by decide +kernel, by decide +kernel⟩, List.mem_of_getElem? (i := 773) (by decide +kernel), List.mem_of_getElem? (i := 1106) (by decide +kernel), List.mem_of_getElem? (i := 1107) (by decide +kernel)⟩
theorem lw_p76 : lw_okq (⟨"SwordSeatModel", "holdsBy", "(II)Z"⟩, 42) := ⟨⟨by decide +kernel, by decide +kernel⟩, List.mem_of_getElem? (i := 773) (by decide +kernel), List.mem_of_getElem? (i := 1110) (by decide +kernel), List.mem_of_getElem? (i := 1111) (by decide +kernel)⟩
theorem lw_p77 : lw_okq (⟨"SwordSeatModel", "duels", "(III)V"⟩, 42) := ⟨⟨by decide +kernel, by decide +kernel⟩, List.mem_of_getElem? (i := 773) (by decide +kernel), List.mem_of_getElem? (i := 1126) (by decide +kernel), List.mem_of_getElem? (i := 1127) (by decide +kernel)⟩
theorem lw_p78 : lw_okq (⟨"SwordSeatModel", "readOf", "(I)J"⟩, 42) := ⟨⟨by decide +kernel, by decide +kernel⟩, List.mem_of_getElem? (i := 773) (by decide +kernel), List.mem_of_getElem? (i := 1139) (by decide +kernel), List.mem_of_getElem? (i := 1140) (by decide +kernel)⟩
theorem lw_p79 : lw_okq (⟨"SwordSeatModel", "likeliness", "(II)J"⟩, 42) := ⟨⟨by decide +kernel, by decide +kernel⟩, List.mem_of_getElem? (i := 773) (by decide +kernel), List.mem_of_getElem? (i := 1159) (by decide +kernel), List.mem_of_getElem? (i := 1160) (by decide +kernel)⟩
def lw_privs_5 : List (MethodName × Nat) := [(⟨"SwordSeatModel", "lays", "()V"⟩, 42), (⟨"SwordSeatModel", "breaksOf", "(III)I"⟩, 42), (⟨"SwordSeatModel", "isKing", "(I)Z"⟩, 42), (⟨"SwordSeatModel", "puts", "(ZIII)I"⟩, 42), (⟨"SwordSeatModel", "hours", "(I)I"⟩, 42), (⟨"SwordSeatModel", "holds", "(I)J"⟩, 42), (⟨"SwordSeatModel", "hoursOn", "(I)V"⟩, 42), (⟨"SwordSeatModel", "begins", "()V"⟩, 42), (⟨"SwordSeatModel", "hourOn", "(I)V"⟩, 42), (⟨"SwordSeatModel", "wayOf", "(III)J"⟩, 42), (⟨"SwordSeatModel", "bestOf", "(II)J"⟩, 42), (⟨"SwordSeatModel", "laysNew", "(II)V"⟩, 42), (⟨"SwordSeatModel", "holdsBy", "(II)Z"⟩, 42), (⟨"SwordSeatModel", "duels", "(III)V"⟩, 42), (⟨"SwordSeatModel", "readOf", "(I)J"⟩, 42), (⟨"SwordSeatModel", "likeliness", "(II)J"⟩, 42)]
theorem lw_r5 : ∀ q ∈ lw_privs_5, lw_okq q := List.forall_mem_cons.mpr ⟨lw_p64, List.forall_mem_cons.mpr ⟨lw_p65, List.forall_mem_cons.mpr ⟨lw_p66, List.forall_mem_cons.mpr ⟨lw_p67, List.forall_mem_cons.mpr ⟨lw_p68, List.forall_mem_cons.mpr ⟨lw_p69, List.forall_mem_cons.mpr ⟨lw_p70, List.forall_mem_cons.mpr ⟨lw_p71, List.forall_mem_cons.mpr ⟨lw_p72, List.forall_mem_cons.mpr ⟨lw_p73, List.forall_mem_cons.mpr ⟨lw_p74, List.forall_mem_cons.mpr ⟨lw_p75, List.forall_mem_cons.mpr ⟨lw_p76, List.forall_mem_cons.mpr ⟨lw_p77, List.forall_mem_cons.mpr ⟨lw_p78, List.forall_mem_cons.mpr ⟨lw_p79, fun _ h => absurd h List.not_mem_nil⟩⟩⟩⟩⟩⟩⟩⟩⟩⟩⟩⟩⟩⟩⟩⟩
theorem lw_p80 : lw_okq (⟨"SwordSeatModel", "sifts", "(I)V"⟩, 42) := ⟨⟨by decide +kernel, by decide +kernel⟩, List.mem_of_getElem? (i := 773) (by decide +kernel), List.mem_of_getElem? (i := 1163) (by decide +kernel), List.mem_of_getElem? (i := 1164) (by decide +kernel)⟩
theorem lw_p81 : lw_okq (⟨"SwordSeatModel", "copies", "(II)V"⟩, 42) := ⟨⟨by decide +kernel, by decide +kernel⟩, List.mem_of_getElem? (i := 773) (by decide +kernel), List.mem_of_getElem? (i := 1181) (by decide +kernel), List.mem_of_getElem? (i := 1182) (by decide +kernel)⟩
def lw_privs_6 : List (MethodName × Nat) := [(⟨"SwordSeatModel", "sifts", "(I)V"⟩, 42), (⟨"SwordSeatModel", "copies", "(II)V"⟩, 42)]
theorem lw_r6 : ∀ q ∈ lw_privs_6, lw_okq q := List.forall_mem_cons.mpr ⟨lw_p80, List.forall_mem_cons.mpr ⟨lw_p81, fun _ h => absurd h List.not_mem_nil⟩⟩
def lw_privs : List (MethodName × Nat) := lw_privs_1 ++ (lw_privs_2 ++ (lw_privs_3 ++ (lw_privs_4 ++ (lw_privs_5 ++ (lw_privs_6)))))
def lw_tbl : List Cond := k2_sels lw_privs ++ tables_1
theorem lw_privs_ok : ∀ q ∈ lw_privs, lw_okq q := by
  show ∀ q ∈ lw_privs_1 ++ (lw_privs_2 ++ (lw_privs_3 ++ (lw_privs_4 ++ (lw_privs_5 ++ (lw_privs_6))))), lw_okq q
  exact List.forall_mem_append.mpr ⟨lw_r1, List.forall_mem_append.mpr ⟨lw_r2, List.forall_mem_append.mpr ⟨lw_r3, List.forall_mem_append.mpr ⟨lw_r4, List.forall_mem_append.mpr ⟨lw_r5, lw_r6⟩⟩⟩⟩⟩
end
section
def RX0 : String := "SwordSeat$Odds"
def TX0 : u_T := fun k => match k with
  | 0 => ("SwordSeat$Odds", "kind", "[I", true)
  | 1 => ("SwordSeat$Odds", "age", "[I", true)
  | 2 => ("SwordSeat$Odds", "tenths", "[I", true)
  | 3 => ("SwordSeat$Odds", "whole", "I", false)
  | 4 => ("SwordSeat$Odds", "load", "I", false)
  | 5 => ("SwordSeat$Odds", "shares", "[J", true)
  | 6 => ("SwordSeat$Odds", "next", "[J", true)
  | 7 => ("SwordSeat$Odds", "firstGains", "[J", true)
  | 8 => ("SwordSeat$Odds", "secondGains", "[J", true)
  | 9 => ("SwordSeat$Odds", "heldBehind", "[J", true)
  | 10 => ("SwordSeat$Odds", "firstGain", "J", false)
  | _ => ("SwordSeat$Odds", "secondGain", "J", false)
def tyX0 : Nat → FieldType := fun k => match k with
  | 0 => .array .int
  | 1 => .array .int
  | 2 => .array .int
  | 3 => .int
  | 4 => .int
  | 5 => .array .long
  | 6 => .array .long
  | 7 => .array .long
  | 8 => .array .long
  | 9 => .array .long
  | 10 => .long
  | _ => .long
abbrev wsX00 : List Cond := u_ws RX0 TX0 12
theorem nmX0 : ∀ a, a < 12 → ∀ b, b < 12 → a ≠ b → (TX0 a).2.1 ≠ (TX0 b).2.1 := by decide +kernel
theorem tyX0_ok : ∀ k, k < 12 → parseFieldDescriptor (TX0 k).2.2.1 = some (tyX0 k) := by decide +kernel
abbrev cX0_init : ByteArray := prog_2_method_1_code
def yX0_init : MethodName := ⟨RX0, "<init>", "()V"⟩
abbrev cX0_take : ByteArray := prog_2_method_2_code
def yX0_take : MethodName := ⟨RX0, "take", "(LSwordSeat$Realm;)V"⟩
abbrev cX0_takeNew : ByteArray := prog_2_method_3_code
def yX0_takeNew : MethodName := ⟨RX0, "takeNew", "(III)V"⟩
abbrev cX0_renew : ByteArray := prog_2_method_4_code
def yX0_renew : MethodName := ⟨RX0, "renew", "(I)V"⟩
abbrev cX0_begin : ByteArray := prog_2_method_5_code
def yX0_begin : MethodName := ⟨RX0, "begin", "(I)V"⟩
abbrev cX0_passHours : ByteArray := prog_2_method_6_code
def yX0_passHours : MethodName := ⟨RX0, "passHours", "(I)V"⟩
abbrev cX0_passHour : ByteArray := prog_2_method_7_code
def yX0_passHour : MethodName := ⟨RX0, "passHour", "(I)V"⟩
abbrev cX0_weigh : ByteArray := prog_2_method_8_code
def yX0_weigh : MethodName := ⟨RX0, "weigh", "(II)V"⟩
abbrev cX0_weight : ByteArray := prog_2_method_9_code
def yX0_weight : MethodName := ⟨RX0, "weight", "(II)J"⟩
abbrev cX0_all : ByteArray := prog_2_method_10_code
def yX0_all : MethodName := ⟨RX0, "all", "()J"⟩
abbrev cX0_held : ByteArray := prog_2_method_11_code
def yX0_held : MethodName := ⟨RX0, "held", "()J"⟩
abbrev cX0_justWhole : ByteArray := prog_2_method_12_code
def yX0_justWhole : MethodName := ⟨RX0, "justWhole", "(I)J"⟩
abbrev cX0_keepOnly : ByteArray := prog_2_method_13_code
def yX0_keepOnly : MethodName := ⟨RX0, "keepOnly", "(I)V"⟩
abbrev cX0_holdsBy : ByteArray := prog_2_method_14_code
def yX0_holdsBy : MethodName := ⟨RX0, "holdsBy", "(II)Z"⟩
abbrev cX0_foresee : ByteArray := prog_2_method_15_code
def yX0_foresee : MethodName := ⟨RX0, "foresee", "()V"⟩
abbrev cX0_sitting : ByteArray := prog_2_method_16_code
def yX0_sitting : MethodName := ⟨RX0, "sitting", "(IIIZ)J"⟩
abbrev cX0_contest : ByteArray := prog_2_method_17_code
def yX0_contest : MethodName := ⟨RX0, "contest", "(LSwordSeat$Realm;III)V"⟩
abbrev cX0_duelHour : ByteArray := prog_2_method_18_code
def yX0_duelHour : MethodName := ⟨RX0, "duelHour", "(IJJJ[J[J)V"⟩
abbrev cX0_clearGains : ByteArray := prog_2_method_19_code
def yX0_clearGains : MethodName := ⟨RX0, "clearGains", "([J)V"⟩
def RX1 : String := "SwordSeat$Reader"
def TX1 : u_T := fun k => match k with
  | 0 => ("SwordSeat$Reader", "tape", "LSwordSeat$Tape;", true)
  | 1 => ("SwordSeat$Reader", "draft", "LSwordSeat$Realm;", true)
  | 2 => ("SwordSeat$Reader", "sort", "I", false)
  | 3 => ("SwordSeat$Reader", "from", "I", false)
  | 4 => ("SwordSeat$Reader", "to", "I", false)
  | 5 => ("SwordSeat$Reader", "value", "I", false)
  | 6 => ("SwordSeat$Reader", "broken", "I", false)
  | 7 => ("SwordSeat$Reader", "loadTold", "Z", false)
  | 8 => ("SwordSeat$Reader", "prizeTold", "Z", false)
  | 9 => ("SwordSeat$Reader", "fault", "I", false)
  | _ => ("SwordSeat$Reader", "place", "I", false)
def tyX1 : Nat → FieldType := fun k => match k with
  | 0 => .object "SwordSeat$Tape"
  | 1 => .object "SwordSeat$Realm"
  | 2 => .int
  | 3 => .int
  | 4 => .int
  | 5 => .int
  | 6 => .int
  | 7 => .boolean
  | 8 => .boolean
  | 9 => .int
  | _ => .int
abbrev wsX10 : List Cond := u_ws RX1 TX1 11
theorem nmX1 : ∀ a, a < 11 → ∀ b, b < 11 → a ≠ b → (TX1 a).2.1 ≠ (TX1 b).2.1 := by decide +kernel
theorem tyX1_ok : ∀ k, k < 11 → parseFieldDescriptor (TX1 k).2.2.1 = some (tyX1 k) := by decide +kernel
abbrev cX1_init : ByteArray := prog_3_method_1_code
def yX1_init : MethodName := ⟨RX1, "<init>", "()V"⟩
abbrev cX1_readAll : ByteArray := prog_3_method_2_code
def yX1_readAll : MethodName := ⟨RX1, "readAll", "()I"⟩
abbrev cX1_readLine : ByteArray := prog_3_method_3_code
def yX1_readLine : MethodName := ⟨RX1, "readLine", "()Z"⟩
abbrev cX1_readHair : ByteArray := prog_3_method_4_code
def yX1_readHair : MethodName := ⟨RX1, "readHair", "()Z"⟩
abbrev cX1_readKing : ByteArray := prog_3_method_5_code
def yX1_readKing : MethodName := ⟨RX1, "readKing", "()Z"⟩
abbrev cX1_readLaw : ByteArray := prog_3_method_6_code
def yX1_readLaw : MethodName := ⟨RX1, "readLaw", "()Z"⟩
abbrev cX1_readLoad : ByteArray := prog_3_method_7_code
def yX1_readLoad : MethodName := ⟨RX1, "readLoad", "()Z"⟩
abbrev cX1_readPrize : ByteArray := prog_3_method_8_code
def yX1_readPrize : MethodName := ⟨RX1, "readPrize", "()Z"⟩
abbrev cX1_readBroken : ByteArray := prog_3_method_9_code
def yX1_readBroken : MethodName := ⟨RX1, "readBroken", "()Z"⟩
abbrev cX1_readNumber : ByteArray := prog_3_method_10_code
def yX1_readNumber : MethodName := ⟨RX1, "readNumber", "(II)Z"⟩
abbrev cX1_readStop : ByteArray := prog_3_method_11_code
def yX1_readStop : MethodName := ⟨RX1, "readStop", "()Z"⟩
abbrev cX1_spelledKind : ByteArray := prog_3_method_12_code
def yX1_spelledKind : MethodName := ⟨RX1, "spelledKind", "()I"⟩
abbrev cX1_spells : ByteArray := prog_3_method_13_code
def yX1_spells : MethodName := ⟨RX1, "spells", "(Ljava/lang/String;)Z"⟩
abbrev cX1_nextToken : ByteArray := prog_3_method_14_code
def yX1_nextToken : MethodName := ⟨RX1, "nextToken", "()Z"⟩
abbrev cX1_sortOf : ByteArray := prog_3_method_15_code
def yX1_sortOf : MethodName := ⟨RX1, "sortOf", "(I)I"⟩
abbrev cX1_fail : ByteArray := prog_3_method_16_code
def yX1_fail : MethodName := ⟨RX1, "fail", "(II)Z"⟩
def RX2 : String := "SwordSeat$Realm"
def TX2 : u_T := fun k => match k with
  | 0 => ("SwordSeat$Realm", "kind", "[I", true)
  | 1 => ("SwordSeat$Realm", "age", "[I", true)
  | 2 => ("SwordSeat$Realm", "worth", "[I", true)
  | 3 => ("SwordSeat$Realm", "life", "[I", true)
  | 4 => ("SwordSeat$Realm", "lawHours", "[I", true)
  | 5 => ("SwordSeat$Realm", "lawWorth", "[I", true)
  | 6 => ("SwordSeat$Realm", "hairs", "I", false)
  | 7 => ("SwordSeat$Realm", "kings", "I", false)
  | 8 => ("SwordSeat$Realm", "laws", "I", false)
  | 9 => ("SwordSeat$Realm", "whole", "I", false)
  | 10 => ("SwordSeat$Realm", "load", "I", false)
  | 11 => ("SwordSeat$Realm", "prize", "I", false)
  | _ => ("SwordSeat$Realm", "hour", "I", false)
def tyX2 : Nat → FieldType := fun k => match k with
  | 0 => .array .int
  | 1 => .array .int
  | 2 => .array .int
  | 3 => .array .int
  | 4 => .array .int
  | 5 => .array .int
  | 6 => .int
  | 7 => .int
  | 8 => .int
  | 9 => .int
  | 10 => .int
  | 11 => .int
  | _ => .int
abbrev wsX20 : List Cond := u_ws RX2 TX2 13
theorem nmX2 : ∀ a, a < 13 → ∀ b, b < 13 → a ≠ b → (TX2 a).2.1 ≠ (TX2 b).2.1 := by decide +kernel
theorem tyX2_ok : ∀ k, k < 13 → parseFieldDescriptor (TX2 k).2.2.1 = some (tyX2 k) := by decide +kernel
abbrev cX2_init : ByteArray := prog_4_method_1_code
def yX2_init : MethodName := ⟨RX2, "<init>", "()V"⟩
abbrev cX2_clear : ByteArray := prog_4_method_2_code
def yX2_clear : MethodName := ⟨RX2, "clear", "()V"⟩
abbrev cX2_copy : ByteArray := prog_4_method_3_code
def yX2_copy : MethodName := ⟨RX2, "copy", "(LSwordSeat$Realm;)V"⟩
abbrev cX2_copyRow : ByteArray := prog_4_method_4_code
def yX2_copyRow : MethodName := ⟨RX2, "copyRow", "([I[I)V"⟩
abbrev cX2_addHair : ByteArray := prog_4_method_5_code
def yX2_addHair : MethodName := ⟨RX2, "addHair", "(II)Z"⟩
abbrev cX2_addKing : ByteArray := prog_4_method_6_code
def yX2_addKing : MethodName := ⟨RX2, "addKing", "(II)Z"⟩
abbrev cX2_addLaw : ByteArray := prog_4_method_7_code
def yX2_addLaw : MethodName := ⟨RX2, "addLaw", "(II)Z"⟩
abbrev cX2_wholeBit : ByteArray := prog_4_method_8_code
def yX2_wholeBit : MethodName := ⟨RX2, "wholeBit", "(I)I"⟩
abbrev cX2_breaks : ByteArray := prog_4_method_9_code
def yX2_breaks : MethodName := ⟨RX2, "breaks", "(I)I"⟩
abbrev cX2_tryHour : ByteArray := prog_4_method_10_code
def yX2_tryHour : MethodName := ⟨RX2, "tryHour", "(I)I"⟩
abbrev cX2_passHour : ByteArray := prog_4_method_11_code
def yX2_passHour : MethodName := ⟨RX2, "passHour", "(I)V"⟩
abbrev cX2_allAges : ByteArray := prog_4_method_12_code
def yX2_allAges : MethodName := ⟨RX2, "allAges", "()I"⟩
def RX3 : String := "SwordSeat$Seen"
def TX3 : u_T := fun k => match k with
  | 0 => ("SwordSeat$Seen", "hours", "[I", true)
  | 1 => ("SwordSeat$Seen", "whole", "[I", true)
  | _ => ("SwordSeat$Seen", "many", "I", false)
def tyX3 : Nat → FieldType := fun k => match k with
  | 0 => .array .int
  | 1 => .array .int
  | _ => .int
abbrev wsX30 : List Cond := u_ws RX3 TX3 3
theorem nmX3 : ∀ a, a < 3 → ∀ b, b < 3 → a ≠ b → (TX3 a).2.1 ≠ (TX3 b).2.1 := by decide +kernel
theorem tyX3_ok : ∀ k, k < 3 → parseFieldDescriptor (TX3 k).2.2.1 = some (tyX3 k) := by decide +kernel
abbrev cX3_init : ByteArray := prog_5_method_1_code
def yX3_init : MethodName := ⟨RX3, "<init>", "()V"⟩
abbrev cX3_append : ByteArray := prog_5_method_2_code
def yX3_append : MethodName := ⟨RX3, "append", "(II)Z"⟩
abbrev cX3_lastHour : ByteArray := prog_5_method_3_code
def yX3_lastHour : MethodName := ⟨RX3, "lastHour", "()I"⟩
def RX4 : String := "SwordSeat$Sheet"
def TX4 : u_T := fun k => match k with
  | 0 => ("SwordSeat$Sheet", "cells", "[I", true)
  | 1 => ("SwordSeat$Sheet", "lane", "I", false)
  | _ => ("SwordSeat$Sheet", "length", "I", false)
def tyX4 : Nat → FieldType := fun k => match k with
  | 0 => .array .int
  | 1 => .int
  | _ => .int
abbrev wsX40 : List Cond := u_ws RX4 TX4 3
theorem nmX4 : ∀ a, a < 3 → ∀ b, b < 3 → a ≠ b → (TX4 a).2.1 ≠ (TX4 b).2.1 := by decide +kernel
theorem tyX4_ok : ∀ k, k < 3 → parseFieldDescriptor (TX4 k).2.2.1 = some (tyX4 k) := by decide +kernel
abbrev cX4_init : ByteArray := prog_6_method_1_code
def yX4_init : MethodName := ⟨RX4, "<init>", "()V"⟩
abbrev cX4_renew : ByteArray := prog_6_method_2_code
def yX4_renew : MethodName := ⟨RX4, "renew", "(II)V"⟩
abbrev cX4_faultAt : ByteArray := prog_6_method_3_code
def yX4_faultAt : MethodName := ⟨RX4, "faultAt", "(I)I"⟩
abbrev cX4_faultAs : ByteArray := prog_6_method_4_code
def yX4_faultAs : MethodName := ⟨RX4, "faultAs", "(II)I"⟩
abbrev cX4_write : ByteArray := prog_6_method_5_code
def yX4_write : MethodName := ⟨RX4, "write", "(II)V"⟩
def RX5 : String := "SwordSeat$Tape"
def TX5 : u_T := fun k => match k with
  | 0 => ("SwordSeat$Tape", "bytes", "[B", true)
  | _ => ("SwordSeat$Tape", "length", "I", false)
def tyX5 : Nat → FieldType := fun k => match k with
  | 0 => .array .byte
  | _ => .int
abbrev wsX50 : List Cond := u_ws RX5 TX5 2
theorem nmX5 : ∀ a, a < 2 → ∀ b, b < 2 → a ≠ b → (TX5 a).2.1 ≠ (TX5 b).2.1 := by decide +kernel
theorem tyX5_ok : ∀ k, k < 2 → parseFieldDescriptor (TX5 k).2.2.1 = some (tyX5 k) := by decide +kernel
abbrev cX5_init : ByteArray := prog_7_method_1_code
def yX5_init : MethodName := ⟨RX5, "<init>", "()V"⟩
abbrev cX5_append : ByteArray := prog_7_method_2_code
def yX5_append : MethodName := ⟨RX5, "append", "(I)Z"⟩
abbrev cX5_byteAt : ByteArray := prog_7_method_3_code
def yX5_byteAt : MethodName := ⟨RX5, "byteAt", "(I)I"⟩
def RX6 : String := "SwordSeat"
def TX6 : u_T := fun k => match k with
  | 0 => ("SwordSeat", "now", "LSwordSeat$Realm;", true)
  | 1 => ("SwordSeat", "trial", "LSwordSeat$Realm;", true)
  | 2 => ("SwordSeat", "images", "[LSwordSeat$Realm;", true)
  | 3 => ("SwordSeat", "kept", "[Z", true)
  | 4 => ("SwordSeat", "reader", "LSwordSeat$Reader;", true)
  | 5 => ("SwordSeat", "odds", "LSwordSeat$Odds;", true)
  | 6 => ("SwordSeat", "seen", "LSwordSeat$Seen;", true)
  | 7 => ("SwordSeat", "sheets", "[LSwordSeat$Sheet;", true)
  | _ => ("SwordSeat", "torn", "I", false)
def tyX6 : Nat → FieldType := fun k => match k with
  | 0 => .object "SwordSeat$Realm"
  | 1 => .object "SwordSeat$Realm"
  | 2 => .array (.object "SwordSeat$Realm")
  | 3 => .array .boolean
  | 4 => .object "SwordSeat$Reader"
  | 5 => .object "SwordSeat$Odds"
  | 6 => .object "SwordSeat$Seen"
  | 7 => .array (.object "SwordSeat$Sheet")
  | _ => .int
abbrev wsX60 : List Cond := u_ws RX6 TX6 9
theorem nmX6 : ∀ a, a < 9 → ∀ b, b < 9 → a ≠ b → (TX6 a).2.1 ≠ (TX6 b).2.1 := by decide +kernel
theorem tyX6_ok : ∀ k, k < 9 → parseFieldDescriptor (TX6 k).2.2.1 = some (tyX6 k) := by decide +kernel
abbrev cX6_init : ByteArray := prog_1_method_1_code
def yX6_init : MethodName := ⟨RX6, "<init>", "()V"⟩
abbrev cX6_feed : ByteArray := prog_1_method_2_code
def yX6_feed : MethodName := ⟨RX6, "feed", "(I)I"⟩
abbrev cX6_end : ByteArray := prog_1_method_3_code
def yX6_end : MethodName := ⟨RX6, "end", "(I)I"⟩
abbrev cX6_text : ByteArray := prog_1_method_4_code
def yX6_text : MethodName := ⟨RX6, "text", "()I"⟩
abbrev cX6_fault : ByteArray := prog_1_method_5_code
def yX6_fault : MethodName := ⟨RX6, "fault", "()I"⟩
abbrev cX6_rule : ByteArray := prog_1_method_6_code
def yX6_rule : MethodName := ⟨RX6, "rule", "(I)I"⟩
abbrev cX6_hair : ByteArray := prog_1_method_7_code
def yX6_hair : MethodName := ⟨RX6, "hair", "(II)I"⟩
abbrev cX6_king : ByteArray := prog_1_method_8_code
def yX6_king : MethodName := ⟨RX6, "king", "(II)I"⟩
abbrev cX6_law : ByteArray := prog_1_method_9_code
def yX6_law : MethodName := ⟨RX6, "law", "(II)I"⟩
abbrev cX6_set : ByteArray := prog_1_method_10_code
def yX6_set : MethodName := ⟨RX6, "set", "(II)I"⟩
abbrev cX6_age : ByteArray := prog_1_method_11_code
def yX6_age : MethodName := ⟨RX6, "age", "(II)I"⟩
abbrev cX6_dye : ByteArray := prog_1_method_12_code
def yX6_dye : MethodName := ⟨RX6, "dye", "(II)I"⟩
abbrev cX6_knot : ByteArray := prog_1_method_13_code
def yX6_knot : MethodName := ⟨RX6, "knot", "(IZ)I"⟩
abbrev cX6_pay : ByteArray := prog_1_method_14_code
def yX6_pay : MethodName := ⟨RX6, "pay", "(III)I"⟩
abbrev cX6_hour : ByteArray := prog_1_method_15_code
def yX6_hour : MethodName := ⟨RX6, "hour", "(I)I"⟩
abbrev cX6_falls : ByteArray := prog_1_method_16_code
def yX6_falls : MethodName := ⟨RX6, "falls", "(II)J"⟩
abbrev cX6_left : ByteArray := prog_1_method_17_code
def yX6_left : MethodName := ⟨RX6, "left", "(III)J"⟩
abbrev cX6_mean : ByteArray := prog_1_method_18_code
def yX6_mean : MethodName := ⟨RX6, "mean", "(II)J"⟩
abbrev cX6_sits : ByteArray := prog_1_method_19_code
def yX6_sits : MethodName := ⟨RX6, "sits", "(III)J"⟩
abbrev cX6_best : ByteArray := prog_1_method_20_code
def yX6_best : MethodName := ⟨RX6, "best", "(III)J"⟩
abbrev cX6_test : ByteArray := prog_1_method_21_code
def yX6_test : MethodName := ⟨RX6, "test", "(III)J"⟩
abbrev cX6_plait : ByteArray := prog_1_method_22_code
def yX6_plait : MethodName := ⟨RX6, "plait", "(III)I"⟩
abbrev cX6_bears : ByteArray := prog_1_method_23_code
def yX6_bears : MethodName := ⟨RX6, "bears", "(II)I"⟩
abbrev cX6_mend : ByteArray := prog_1_method_24_code
def yX6_mend : MethodName := ⟨RX6, "mend", "(II)J"⟩
abbrev cX6_duel : ByteArray := prog_1_method_25_code
def yX6_duel : MethodName := ⟨RX6, "duel", "(IIII)J"⟩
abbrev cX6_crown : ByteArray := prog_1_method_26_code
def yX6_crown : MethodName := ⟨RX6, "crown", "(II)J"⟩
abbrev cX6_reads : ByteArray := prog_1_method_27_code
def yX6_reads : MethodName := ⟨RX6, "reads", "(II)J"⟩
abbrev cX6_laws : ByteArray := prog_1_method_28_code
def yX6_laws : MethodName := ⟨RX6, "laws", "(I)J"⟩
abbrev cX6_see : ByteArray := prog_1_method_29_code
def yX6_see : MethodName := ⟨RX6, "see", "(II)I"⟩
abbrev cX6_forget : ByteArray := prog_1_method_30_code
def yX6_forget : MethodName := ⟨RX6, "forget", "(I)I"⟩
abbrev cX6_likely : ByteArray := prog_1_method_31_code
def yX6_likely : MethodName := ⟨RX6, "likely", "(III)J"⟩
abbrev cX6_guess : ByteArray := prog_1_method_32_code
def yX6_guess : MethodName := ⟨RX6, "guess", "(I)J"⟩
abbrev cX6_drift : ByteArray := prog_1_method_33_code
def yX6_drift : MethodName := ⟨RX6, "drift", "(III)I"⟩
abbrev cX6_keep : ByteArray := prog_1_method_34_code
def yX6_keep : MethodName := ⟨RX6, "keep", "(I)I"⟩
abbrev cX6_back : ByteArray := prog_1_method_35_code
def yX6_back : MethodName := ⟨RX6, "back", "(I)I"⟩
abbrev cX6_sheet : ByteArray := prog_1_method_36_code
def yX6_sheet : MethodName := ⟨RX6, "sheet", "(III)I"⟩
abbrev cX6_lay : ByteArray := prog_1_method_37_code
def yX6_lay : MethodName := ⟨RX6, "lay", "(III)I"⟩
abbrev cX6_read : ByteArray := prog_1_method_38_code
def yX6_read : MethodName := ⟨RX6, "read", "(IIII)I"⟩
abbrev cX6_torn : ByteArray := prog_1_method_39_code
def yX6_torn : MethodName := ⟨RX6, "torn", "()I"⟩
abbrev cX6_count : ByteArray := prog_1_method_40_code
def yX6_count : MethodName := ⟨RX6, "count", "(I)I"⟩
abbrev cX6_within : ByteArray := prog_1_method_41_code
def yX6_within : MethodName := ⟨RX6, "within", "(III)Z"⟩
abbrev cX6_foreseen : ByteArray := prog_1_method_42_code
def yX6_foreseen : MethodName := ⟨RX6, "foreseen", "(I)Z"⟩
abbrev cX6_thousands : ByteArray := prog_1_method_43_code
def yX6_thousands : MethodName := ⟨RX6, "thousands", "(I)J"⟩
abbrev cX6_part : ByteArray := prog_1_method_44_code
def yX6_part : MethodName := ⟨RX6, "part", "(JJI)J"⟩
abbrev cX6_common : ByteArray := prog_1_method_45_code
def yX6_common : MethodName := ⟨RX6, "common", "(JJ)J"⟩
abbrev cX6_breaksOf : ByteArray := prog_1_method_46_code
def yX6_breaksOf : MethodName := ⟨RX6, "breaksOf", "(IIII)I"⟩
abbrev cX6_baseOf : ByteArray := prog_1_method_47_code
def yX6_baseOf : MethodName := ⟨RX6, "baseOf", "(II)I"⟩
abbrev cX6_heldFromNow : ByteArray := prog_1_method_48_code
def yX6_heldFromNow : MethodName := ⟨RX6, "heldFromNow", "(I)J"⟩
abbrev cX6_seeingGain : ByteArray := prog_1_method_49_code
def yX6_seeingGain : MethodName := ⟨RX6, "seeingGain", "(II)J"⟩
abbrev cX6_worthOfLaws : ByteArray := prog_1_method_50_code
def yX6_worthOfLaws : MethodName := ⟨RX6, "worthOfLaws", "(I)J"⟩
abbrev cX6_likelihood : ByteArray := prog_1_method_51_code
def yX6_likelihood : MethodName := ⟨RX6, "likelihood", "(II)J"⟩
def RX7 : String := "SwordSeatModel"
def TX7 : u_T := fun k => match k with
  | 0 => ("SwordSeatModel", "state", "[I", true)
  | 1 => ("SwordSeatModel", "hairMany", "I", false)
  | 2 => ("SwordSeatModel", "kingMany", "I", false)
  | 3 => ("SwordSeatModel", "laws", "[I", true)
  | 4 => ("SwordSeatModel", "lawMany", "I", false)
  | 5 => ("SwordSeatModel", "readPage", "[I", true)
  | 6 => ("SwordSeatModel", "readLaws", "[I", true)
  | 7 => ("SwordSeatModel", "readHairs", "I", false)
  | 8 => ("SwordSeatModel", "readKings", "I", false)
  | 9 => ("SwordSeatModel", "readLawMany", "I", false)
  | 10 => ("SwordSeatModel", "toldOnce", "I", false)
  | 11 => ("SwordSeatModel", "brokenTold", "I", false)
  | 12 => ("SwordSeatModel", "tape", "[I", true)
  | 13 => ("SwordSeatModel", "taped", "I", false)
  | 14 => ("SwordSeatModel", "fault", "I", false)
  | 15 => ("SwordSeatModel", "broken", "I", false)
  | 16 => ("SwordSeatModel", "brokenAt", "I", false)
  | 17 => ("SwordSeatModel", "spot", "I", false)
  | 18 => ("SwordSeatModel", "here", "I", false)
  | 19 => ("SwordSeatModel", "token", "I", false)
  | 20 => ("SwordSeatModel", "value", "I", false)
  | 21 => ("SwordSeatModel", "cuts", "[I", true)
  | 22 => ("SwordSeatModel", "letters", "[I", true)
  | 23 => ("SwordSeatModel", "kinds", "[I", true)
  | 24 => ("SwordSeatModel", "ages", "[I", true)
  | 25 => ("SwordSeatModel", "many", "I", false)
  | 26 => ("SwordSeatModel", "whole", "I", false)
  | 27 => ("SwordSeatModel", "bearing", "I", false)
  | 28 => ("SwordSeatModel", "odds", "[J", true)
  | 29 => ("SwordSeatModel", "then", "[J", true)
  | 30 => ("SwordSeatModel", "worths", "[J", true)
  | 31 => ("SwordSeatModel", "worthsThen", "[J", true)
  | 32 => ("SwordSeatModel", "isSitting", "Z", false)
  | 33 => ("SwordSeatModel", "firsts", "[J", true)
  | 34 => ("SwordSeatModel", "seconds", "[J", true)
  | 35 => ("SwordSeatModel", "seen", "[I", true)
  | 36 => ("SwordSeatModel", "seenMany", "I", false)
  | 37 => ("SwordSeatModel", "isKept", "[Z", true)
  | 38 => ("SwordSeatModel", "lanes", "[I", true)
  | 39 => ("SwordSeatModel", "lengths", "[I", true)
  | 40 => ("SwordSeatModel", "cells", "[I", true)
  | _ => ("SwordSeatModel", "torn", "I", false)
def tyX7 : Nat → FieldType := fun k => match k with
  | 0 => .array .int
  | 1 => .int
  | 2 => .int
  | 3 => .array .int
  | 4 => .int
  | 5 => .array .int
  | 6 => .array .int
  | 7 => .int
  | 8 => .int
  | 9 => .int
  | 10 => .int
  | 11 => .int
  | 12 => .array .int
  | 13 => .int
  | 14 => .int
  | 15 => .int
  | 16 => .int
  | 17 => .int
  | 18 => .int
  | 19 => .int
  | 20 => .int
  | 21 => .array .int
  | 22 => .array .int
  | 23 => .array .int
  | 24 => .array .int
  | 25 => .int
  | 26 => .int
  | 27 => .int
  | 28 => .array .long
  | 29 => .array .long
  | 30 => .array .long
  | 31 => .array .long
  | 32 => .boolean
  | 33 => .array .long
  | 34 => .array .long
  | 35 => .array .int
  | 36 => .int
  | 37 => .array .boolean
  | 38 => .array .int
  | 39 => .array .int
  | 40 => .array .int
  | _ => .int
abbrev wsX70 : List Cond := u_ws RX7 TX7 42
theorem nmX7 : ∀ a, a < 42 → ∀ b, b < 42 → a ≠ b → (TX7 a).2.1 ≠ (TX7 b).2.1 := by decide +kernel
theorem tyX7_ok : ∀ k, k < 42 → parseFieldDescriptor (TX7 k).2.2.1 = some (tyX7 k) := by decide +kernel
abbrev cX7_init : ByteArray := prog_9_method_1_code
def yX7_init : MethodName := ⟨RX7, "<init>", "()V"⟩
abbrev cX7_in : ByteArray := prog_9_method_3_code
def yX7_in : MethodName := ⟨RX7, "in", "(JJJ)Z"⟩
abbrev cX7_feed : ByteArray := prog_9_method_4_code
def yX7_feed : MethodName := ⟨RX7, "feed", "(I)I"⟩
abbrev cX7_end : ByteArray := prog_9_method_5_code
def yX7_end : MethodName := ⟨RX7, "end", "(I)I"⟩
abbrev cX7_byteAt : ByteArray := prog_9_method_6_code
def yX7_byteAt : MethodName := ⟨RX7, "byteAt", "(I)I"⟩
abbrev cX7_fails : ByteArray := prog_9_method_7_code
def yX7_fails : MethodName := ⟨RX7, "fails", "(I)V"⟩
abbrev cX7_nameHere : ByteArray := prog_9_method_8_code
def yX7_nameHere : MethodName := ⟨RX7, "nameHere", "()I"⟩
abbrev cX7_step : ByteArray := prog_9_method_9_code
def yX7_step : MethodName := ⟨RX7, "step", "()V"⟩
abbrev cX7_number : ByteArray := prog_9_method_10_code
def yX7_number : MethodName := ⟨RX7, "number", "(II)I"⟩
abbrev cX7_readMore : ByteArray := prog_9_method_11_code
def yX7_readMore : MethodName := ⟨RX7, "readMore", "(I)V"⟩
abbrev cX7_readLine : ByteArray := prog_9_method_12_code
def yX7_readLine : MethodName := ⟨RX7, "readLine", "()V"⟩
abbrev cX7_text : ByteArray := prog_9_method_13_code
def yX7_text : MethodName := ⟨RX7, "text", "()I"⟩
abbrev cX7_fault : ByteArray := prog_9_method_14_code
def yX7_fault : MethodName := ⟨RX7, "fault", "()I"⟩
abbrev cX7_isHair : ByteArray := prog_9_method_15_code
def yX7_isHair : MethodName := ⟨RX7, "isHair", "(I)Z"⟩
abbrev cX7_isKing : ByteArray := prog_9_method_16_code
def yX7_isKing : MethodName := ⟨RX7, "isKing", "(I)Z"⟩
abbrev cX7_load : ByteArray := prog_9_method_17_code
def yX7_load : MethodName := ⟨RX7, "load", "()I"⟩
abbrev cX7_prize : ByteArray := prog_9_method_18_code
def yX7_prize : MethodName := ⟨RX7, "prize", "()I"⟩
abbrev cX7_wholeNow : ByteArray := prog_9_method_19_code
def yX7_wholeNow : MethodName := ⟨RX7, "wholeNow", "()I"⟩
abbrev cX7_rule : ByteArray := prog_9_method_20_code
def yX7_rule : MethodName := ⟨RX7, "rule", "(I)I"⟩
abbrev cX7_lays : ByteArray := prog_9_method_21_code
def yX7_lays : MethodName := ⟨RX7, "lays", "()V"⟩
abbrev cX7_laysNew : ByteArray := prog_9_method_22_code
def yX7_laysNew : MethodName := ⟨RX7, "laysNew", "(II)V"⟩
abbrev cX7_bitsOf : ByteArray := prog_9_method_23_code
def yX7_bitsOf : MethodName := ⟨RX7, "bitsOf", "(I)I"⟩
abbrev cX7_breaksOf : ByteArray := prog_9_method_24_code
def yX7_breaksOf : MethodName := ⟨RX7, "breaksOf", "(III)I"⟩
abbrev cX7_hair : ByteArray := prog_9_method_25_code
def yX7_hair : MethodName := ⟨RX7, "hair", "(II)I"⟩
abbrev cX7_king : ByteArray := prog_9_method_26_code
def yX7_king : MethodName := ⟨RX7, "king", "(II)I"⟩
abbrev cX7_law : ByteArray := prog_9_method_27_code
def yX7_law : MethodName := ⟨RX7, "law", "(II)I"⟩
abbrev cX7_puts : ByteArray := prog_9_method_28_code
def yX7_puts : MethodName := ⟨RX7, "puts", "(ZIII)I"⟩
abbrev cX7_set : ByteArray := prog_9_method_29_code
def yX7_set : MethodName := ⟨RX7, "set", "(II)I"⟩
abbrev cX7_age : ByteArray := prog_9_method_30_code
def yX7_age : MethodName := ⟨RX7, "age", "(II)I"⟩
abbrev cX7_dye : ByteArray := prog_9_method_31_code
def yX7_dye : MethodName := ⟨RX7, "dye", "(II)I"⟩
abbrev cX7_knot : ByteArray := prog_9_method_32_code
def yX7_knot : MethodName := ⟨RX7, "knot", "(IZ)I"⟩
abbrev cX7_pay : ByteArray := prog_9_method_33_code
def yX7_pay : MethodName := ⟨RX7, "pay", "(III)I"⟩
abbrev cX7_hours : ByteArray := prog_9_method_34_code
def yX7_hours : MethodName := ⟨RX7, "hours", "(I)I"⟩
abbrev cX7_hour : ByteArray := prog_9_method_35_code
def yX7_hour : MethodName := ⟨RX7, "hour", "(I)I"⟩
abbrev cX7_wayOf : ByteArray := prog_9_method_36_code
def yX7_wayOf : MethodName := ⟨RX7, "wayOf", "(III)J"⟩
abbrev cX7_begins : ByteArray := prog_9_method_37_code
def yX7_begins : MethodName := ⟨RX7, "begins", "()V"⟩
abbrev cX7_hourOn : ByteArray := prog_9_method_38_code
def yX7_hourOn : MethodName := ⟨RX7, "hourOn", "(I)V"⟩
abbrev cX7_hoursOn : ByteArray := prog_9_method_39_code
def yX7_hoursOn : MethodName := ⟨RX7, "hoursOn", "(I)V"⟩
abbrev cX7_tens : ByteArray := prog_9_method_40_code
def yX7_tens : MethodName := ⟨RX7, "tens", "(I)J"⟩
abbrev cX7_lowest : ByteArray := prog_9_method_41_code
def yX7_lowest : MethodName := ⟨RX7, "lowest", "(JJI)J"⟩
abbrev cX7_holds : ByteArray := prog_9_method_42_code
def yX7_holds : MethodName := ⟨RX7, "holds", "(I)J"⟩
abbrev cX7_isLong : ByteArray := prog_9_method_43_code
def yX7_isLong : MethodName := ⟨RX7, "isLong", "(I)Z"⟩
abbrev cX7_falls : ByteArray := prog_9_method_44_code
def yX7_falls : MethodName := ⟨RX7, "falls", "(II)J"⟩
abbrev cX7_left : ByteArray := prog_9_method_45_code
def yX7_left : MethodName := ⟨RX7, "left", "(III)J"⟩
abbrev cX7_mean : ByteArray := prog_9_method_46_code
def yX7_mean : MethodName := ⟨RX7, "mean", "(II)J"⟩
abbrev cX7_sits : ByteArray := prog_9_method_47_code
def yX7_sits : MethodName := ⟨RX7, "sits", "(III)J"⟩
abbrev cX7_bestOf : ByteArray := prog_9_method_48_code
def yX7_bestOf : MethodName := ⟨RX7, "bestOf", "(II)J"⟩
abbrev cX7_best : ByteArray := prog_9_method_49_code
def yX7_best : MethodName := ⟨RX7, "best", "(III)J"⟩
abbrev cX7_test : ByteArray := prog_9_method_50_code
def yX7_test : MethodName := ⟨RX7, "test", "(III)J"⟩
abbrev cX7_holdsBy : ByteArray := prog_9_method_51_code
def yX7_holdsBy : MethodName := ⟨RX7, "holdsBy", "(II)Z"⟩
abbrev cX7_plait : ByteArray := prog_9_method_52_code
def yX7_plait : MethodName := ⟨RX7, "plait", "(III)I"⟩
abbrev cX7_bears : ByteArray := prog_9_method_53_code
def yX7_bears : MethodName := ⟨RX7, "bears", "(II)I"⟩
abbrev cX7_mend : ByteArray := prog_9_method_54_code
def yX7_mend : MethodName := ⟨RX7, "mend", "(II)J"⟩
abbrev cX7_duels : ByteArray := prog_9_method_55_code
def yX7_duels : MethodName := ⟨RX7, "duels", "(III)V"⟩
abbrev cX7_duel : ByteArray := prog_9_method_56_code
def yX7_duel : MethodName := ⟨RX7, "duel", "(IIII)J"⟩
abbrev cX7_crown : ByteArray := prog_9_method_57_code
def yX7_crown : MethodName := ⟨RX7, "crown", "(II)J"⟩
abbrev cX7_readOf : ByteArray := prog_9_method_58_code
def yX7_readOf : MethodName := ⟨RX7, "readOf", "(I)J"⟩
abbrev cX7_reads : ByteArray := prog_9_method_59_code
def yX7_reads : MethodName := ⟨RX7, "reads", "(II)J"⟩
abbrev cX7_laws : ByteArray := prog_9_method_60_code
def yX7_laws : MethodName := ⟨RX7, "laws", "(I)J"⟩
abbrev cX7_see : ByteArray := prog_9_method_61_code
def yX7_see : MethodName := ⟨RX7, "see", "(II)I"⟩
abbrev cX7_forget : ByteArray := prog_9_method_62_code
def yX7_forget : MethodName := ⟨RX7, "forget", "(I)I"⟩
abbrev cX7_sifts : ByteArray := prog_9_method_63_code
def yX7_sifts : MethodName := ⟨RX7, "sifts", "(I)V"⟩
abbrev cX7_likeliness : ByteArray := prog_9_method_64_code
def yX7_likeliness : MethodName := ⟨RX7, "likeliness", "(II)J"⟩
abbrev cX7_likely : ByteArray := prog_9_method_65_code
def yX7_likely : MethodName := ⟨RX7, "likely", "(III)J"⟩
abbrev cX7_guess : ByteArray := prog_9_method_66_code
def yX7_guess : MethodName := ⟨RX7, "guess", "(I)J"⟩
abbrev cX7_drift : ByteArray := prog_9_method_67_code
def yX7_drift : MethodName := ⟨RX7, "drift", "(III)I"⟩
abbrev cX7_copies : ByteArray := prog_9_method_68_code
def yX7_copies : MethodName := ⟨RX7, "copies", "(II)V"⟩
abbrev cX7_keep : ByteArray := prog_9_method_69_code
def yX7_keep : MethodName := ⟨RX7, "keep", "(I)I"⟩
abbrev cX7_back : ByteArray := prog_9_method_70_code
def yX7_back : MethodName := ⟨RX7, "back", "(I)I"⟩
abbrev cX7_sheet : ByteArray := prog_9_method_71_code
def yX7_sheet : MethodName := ⟨RX7, "sheet", "(III)I"⟩
abbrev cX7_lay : ByteArray := prog_9_method_72_code
def yX7_lay : MethodName := ⟨RX7, "lay", "(III)I"⟩
abbrev cX7_read : ByteArray := prog_9_method_73_code
def yX7_read : MethodName := ⟨RX7, "read", "(IIII)I"⟩
abbrev cX7_torn : ByteArray := prog_9_method_74_code
def yX7_torn : MethodName := ⟨RX7, "torn", "()I"⟩
abbrev cX7_count : ByteArray := prog_9_method_75_code
def yX7_count : MethodName := ⟨RX7, "count", "(I)I"⟩
def RJ6 : String := "java/lang/Integer"
def TJ6 : u_T := fun k => match k with
  | _ => ("", "", "", false)
def tyJ6 : Nat → FieldType := fun k => match k with
  | _ => .int
abbrev wsJ60 : List Cond := u_ws RJ6 TJ6 0
theorem nmJ6 : ∀ a, a < 0 → ∀ b, b < 0 → a ≠ b → (TJ6 a).2.1 ≠ (TJ6 b).2.1 := by decide +kernel
theorem tyJ6_ok : ∀ k, k < 0 → parseFieldDescriptor (TJ6 k).2.2.1 = some (tyJ6 k) := by decide +kernel
abbrev cJ6_bitCount_0f7a4 : ByteArray := prog_10_method_49_code
def yJ6_bitCount_0f7a4 : MethodName := ⟨RJ6, "bitCount", "(I)I"⟩
def RJ9 : String := "java/lang/Math"
def TJ9 : u_T := fun k => match k with
  | _ => ("", "", "", false)
def tyJ9 : Nat → FieldType := fun k => match k with
  | _ => .int
abbrev wsJ90 : List Cond := u_ws RJ9 TJ9 0
theorem nmJ9 : ∀ a, a < 0 → ∀ b, b < 0 → a ≠ b → (TJ9 a).2.1 ≠ (TJ9 b).2.1 := by decide +kernel
theorem tyJ9_ok : ∀ k, k < 0 → parseFieldDescriptor (TJ9 k).2.2.1 = some (tyJ9 k) := by decide +kernel
abbrev cJ9_abs_067f4 : ByteArray := prog_11_method_61_code
def yJ9_abs_067f4 : MethodName := ⟨RJ9, "abs", "(J)J"⟩
abbrev cJ9_max_7cf53 : ByteArray := prog_11_method_65_code
def yJ9_max_7cf53 : MethodName := ⟨RJ9, "max", "(II)I"⟩
abbrev cJ9_max_f86c9 : ByteArray := prog_11_method_66_code
def yJ9_max_f86c9 : MethodName := ⟨RJ9, "max", "(JJ)J"⟩
abbrev cJ9_min_7cf53 : ByteArray := prog_11_method_69_code
def yJ9_min_7cf53 : MethodName := ⟨RJ9, "min", "(II)I"⟩
def RJ0 : String := "java/lang/String"
def TJ0 : u_T := fun k => match k with
  | _ => ("", "", "", false)
def tyJ0 : Nat → FieldType := fun k => match k with
  | _ => .int
abbrev wsJ00 : List Cond := u_ws RJ0 TJ0 0
theorem nmJ0 : ∀ a, a < 0 → ∀ b, b < 0 → a ≠ b → (TJ0 a).2.1 ≠ (TJ0 b).2.1 := by decide +kernel
theorem tyJ0_ok : ∀ k, k < 0 → parseFieldDescriptor (TJ0 k).2.2.1 = some (tyJ0 k) := by decide +kernel
abbrev cJ0_length_8abf5 : ByteArray := prog_12_method_54_code
def yJ0_length_8abf5 : MethodName := ⟨RJ0, "length", "()I"⟩
abbrev cJ0_charAt_5068e : ByteArray := prog_12_method_56_code
def yJ0_charAt_5068e : MethodName := ⟨RJ0, "charAt", "(I)C"⟩
abbrev cJ0_coder_7d493 : ByteArray := prog_12_method_152_code
def yJ0_coder_7d493 : MethodName := ⟨RJ0, "coder", "()B"⟩
abbrev cJ0_isLatin1_aae02 : ByteArray := prog_12_method_154_code
def yJ0_isLatin1_aae02 : MethodName := ⟨RJ0, "isLatin1", "()Z"⟩
abbrev cJ0_checkIndex_df160 : ByteArray := prog_12_method_155_code
def yJ0_checkIndex_df160 : MethodName := ⟨RJ0, "checkIndex", "(II)V"⟩
def RJ1 : String := "java/lang/StringLatin1"
def TJ1 : u_T := fun k => match k with
  | _ => ("", "", "", false)
def tyJ1 : Nat → FieldType := fun k => match k with
  | _ => .int
abbrev wsJ10 : List Cond := u_ws RJ1 TJ1 0
theorem nmJ1 : ∀ a, a < 0 → ∀ b, b < 0 → a ≠ b → (TJ1 a).2.1 ≠ (TJ1 b).2.1 := by decide +kernel
theorem tyJ1_ok : ∀ k, k < 0 → parseFieldDescriptor (TJ1 k).2.2.1 = some (tyJ1 k) := by decide +kernel
abbrev cJ1_charAt_3b067 : ByteArray := prog_13_method_2_code
def yJ1_charAt_3b067 : MethodName := ⟨RJ1, "charAt", "([BI)C"⟩
def RJ2 : String := "java/lang/StringUTF16"
def TJ2 : u_T := fun k => match k with
  | _ => ("", "", "", false)
def tyJ2 : Nat → FieldType := fun k => match k with
  | _ => .int
abbrev wsJ20 : List Cond := u_ws RJ2 TJ2 0
theorem nmJ2 : ∀ a, a < 0 → ∀ b, b < 0 → a ≠ b → (TJ2 a).2.1 ≠ (TJ2 b).2.1 := by decide +kernel
theorem tyJ2_ok : ∀ k, k < 0 → parseFieldDescriptor (TJ2 k).2.2.1 = some (tyJ2 k) := by decide +kernel
abbrev cJ2_getChar_3b067 : ByteArray := prog_14_method_5_code
def yJ2_getChar_3b067 : MethodName := ⟨RJ2, "getChar", "([BI)C"⟩
abbrev cJ2_length_9d52b : ByteArray := prog_14_method_6_code
def yJ2_length_9d52b : MethodName := ⟨RJ2, "length", "([B)I"⟩
abbrev cJ2_charAt_3b067 : ByteArray := prog_14_method_83_code
def yJ2_charAt_3b067 : MethodName := ⟨RJ2, "charAt", "([BI)C"⟩
abbrev cJ2_checkIndex_2214a : ByteArray := prog_14_method_91_code
def yJ2_checkIndex_2214a : MethodName := ⟨RJ2, "checkIndex", "(I[B)V"⟩
def RJ3 : String := "jdk/internal/util/Preconditions"
def TJ3 : u_T := fun k => match k with
  | _ => ("", "", "", false)
def tyJ3 : Nat → FieldType := fun k => match k with
  | _ => .int
abbrev wsJ30 : List Cond := u_ws RJ3 TJ3 0
theorem nmJ3 : ∀ a, a < 0 → ∀ b, b < 0 → a ≠ b → (TJ3 a).2.1 ≠ (TJ3 b).2.1 := by decide +kernel
theorem tyJ3_ok : ∀ k, k < 0 → parseFieldDescriptor (TJ3 k).2.2.1 = some (tyJ3 k) := by decide +kernel
abbrev cJ3_checkIndex_8e157 : ByteArray := prog_15_method_11_code
def yJ3_checkIndex_8e157 : MethodName := ⟨RJ3, "checkIndex", "(IILjava/util/function/BiFunction;)I"⟩
def RL : String := "SwordSeatLaw"
abbrev cL_law : ByteArray := code
end
section
/-! ===== the logic: runs of a method over a world whose cells are numbered; a reference is a cell's number ===== -/
abbrev jE : Type := (Nat × vp_A) ⊕ (Nat × List Value)
abbrev jW : Type := List jE
def jg (ad : Nat → Nat) (v : Value) : Value := match v with
  | .ref k => .ref (ad k)
  | v => v
def jgA (ad : Nat → Nat) (a : vp_A) : vp_A := (a.1, match a.2 with
  | .inr (.inr (.inr (.inr f))) => .inr (.inr (.inr (.inr (fun j => (f j).map ad))))
  | x => x)
def jgE (cy : Nat → ClassId) (ad : Nat → Nat) (x : jE) : va_E := match x with
  | .inl (t, a) => .inl (cy t, jgA ad a)
  | .inr (c, fs) => .inr (c, fs.map (jg ad))
/-- a cell whose references are numbered anew -/
def jrE (ro : Nat → Nat) (x : jE) : jE := match x with
  | .inl (t, a) => .inl (t, jgA ro a)
  | .inr (c, fs) => .inr (c, fs.map (jg ro))
def jgW (cy : Nat → ClassId) (ad : Nat → Nat) (A : jW) : va_W := A.mapIdx (fun k x => (ad k, jgE cy ad x))
theorem jgW_get {cy : Nat → ClassId} {ad : Nat → Nat} {A : jW} {k : Nat} {x : jE} (h : A[k]? = some x) : (jgW cy ad A)[k]? = some (ad k, jgE cy ad x) := by
  simp [jgW, h]
theorem jgW_of {cy : Nat → ClassId} {ad : Nat → Nat} {A : jW} {k : Nat} {q : Nat × va_E} (h : (jgW cy ad A)[k]? = some q) : ∃ x, A[k]? = some x ∧ q = (ad k, jgE cy ad x) := by
  simp only [jgW, List.getElem?_mapIdx, Option.map_eq_some_iff] at h
  obtain ⟨x, h1, h2⟩ := h
  exact ⟨x, h1, h2.symm⟩
theorem jgW_set {cy : Nat → ClassId} {ad : Nat → Nat} {A : jW} {k : Nat} {x : jE} : (jgW cy ad A).set k (ad k, jgE cy ad x) = jgW cy ad (A.set k x) := by
  apply List.ext_getElem?
  intro i
  simp only [jgW, List.getElem?_set, List.getElem?_mapIdx, List.length_mapIdx]
  by_cases h : k = i
  · subst h
    by_cases h2 : k < A.length <;> simp [h2]
  · simp [h]
theorem jgW_len {cy : Nat → ClassId} {ad : Nat → Nat} {A : jW} : (jgW cy ad A).length = A.length := by simp [jgW]
theorem jg_comp (ad ro : Nat → Nat) (v : Value) : jg (fun k => ad (ro k)) v = jg ad (jg ro v) := by cases v <;> rfl
theorem jgA_comp (ad ro : Nat → Nat) (a : vp_A) : jgA (fun k => ad (ro k)) a = jgA ad (jgA ro a) := by
  obtain ⟨n, f | f | f | f | f⟩ := a <;> first | rfl | (simp only [jgA, Option.map_map]; rfl)
theorem jgE_comp (cy : Nat → ClassId) (ad ro : Nat → Nat) (x : jE) : jgE cy (fun k => ad (ro k)) x = jgE cy ad (jrE ro x) := by
  obtain ⟨t, a⟩ | ⟨c, fs⟩ := x
  · simp only [jgE, jrE, jgA_comp]
  · simp only [jgE, jrE, List.map_map]
    congr 2
    apply List.map_congr_left
    intro v _
    exact jg_comp ad ro v
theorem jg_cat (ad : Nat → Nat) (v : Value) : (jg ad v).category = v.category := by cases v <;> rfl
/-- words, classes, kinds of array -/
def jTs : List Cond := lw_tbl.filter goodWord
def jNb (c : Cond) : Bool := match c with
  | .fieldLinkNest .. => true
  | .methodLinkNest .. => true
  | _ => false
def jNs : List Cond := tables_1.filter jNb
abbrev jCl : List vw_C := [(RX0, TX0, 12), (RX1, TX1, 11), (RX2, TX2, 13), (RX3, TX3, 3), (RX4, TX4, 3), (RX5, TX5, 2), (RX6, TX6, 9), (RX7, TX7, 42)]
abbrev jTys (cy : Nat → ClassId) : List (ClassId × FieldType) := [(cy 0, .int), (cy 1, .long), (cy 2, .byte), (cy 3, .boolean), (cy 4, .object RX2), (cy 5, .object RX4)]
/-- the String constants of the class Reader: their lengths, bytes, places in its pool, texts -/
def jlen : List Nat := [4, 5, 4, 4, 7, 4, 4, 3, 4, 5, 6]
def jbyt : List (List Int32) := [[104, 97, 105, 114], [112, 108, 97, 105, 110], [100, 97, 109, 112], [100, 121, 101, 100], [100, 111, 117, 98, 108, 101, 100], [115, 117, 110, 103], [107, 105, 110, 103], [108, 97, 119], [108, 111, 97, 100], [112, 114, 105, 122, 101], [98, 114, 111, 107, 101, 110]]
def jidx : List Nat := [71, 147, 149, 151, 153, 155, 83, 88, 93, 98, 103]
def jtx : List String := ["hair", "plain", "damp", "dyed", "doubled", "sung", "king", "law", "load", "prize", "broken"]
def jS (ad : Nat → Nat) (A0 : Nat → Prop) (s : State) (H : Heap) : Prop :=
  vk_S 11 jlen jbyt (fun i => ad (1000 + i)) (fun i => ad (2000 + i)) A0 s H ∧ (∀ i, i < 11 → vk_R RX1 (jidx.getD i 0) (jtx.getD i "") (ad (1000 + i)) s) ∧
  va_Z "java/lang/String" "COMPACT_STRINGS" "Z" (.int 1) A0 s H ∧ (va_Z "jdk/internal/util/Preconditions" "SIOOBE_FORMATTER" "Ljava/util/function/BiFunction;" .null A0 s H ∨ va_Z "jdk/internal/util/Preconditions" "SIOOBE_FORMATTER" "Ljava/util/function/BiFunction;" (.ref (ad 3000)) A0 s H)
/-- what holds of the tables in every state -/
def jU (dC : Nat → ClassId) (dI : Nat → Nat → Nat) (cy : Nat → ClassId) (s : State) : Prop :=
  (∀ w ∈ jNs, va_Nw w s) ∧ va_K (dC, dI) jCl (jTys cy) s ∧ va_AO RX2 s ∧ va_AO RX4 s
theorem jU.warm {dC : Nat → ClassId} {dI : Nat → Nat → Nat} {cy : Nat → ClassId} {s U : State} (h : jU dC dI cy s) (hW : s.WarmedH U.vm) : jU dC dI cy U := by
  refine ⟨fun w hw => ?_, va_K.moved hW.alike h.2.1, va_AO.moved hW.alike h.2.2.1, va_AO.moved hW.alike h.2.2.2⟩
  have h1 := h.1 w hw
  have h2 := (List.mem_filter.mp hw).2
  cases w <;> first | exact va_Nw.warmF hW h1 | exact va_Nw.warmM hW h1 | (exfalso; revert h2; simp [jNb])
theorem jU.same {dC : Nat → ClassId} {dI : Nat → Nat → Nat} {cy : Nat → ClassId} {s U : State} (h : jU dC dI cy s) (hv : s.vm = U.vm) : jU dC dI cy U := by
  have ha : s.vm.Alike U.vm := by rw [← hv]; exact Vm.Alike.refl s.vm
  refine ⟨fun w hw => ?_, va_K.moved ha h.2.1, va_AO.moved ha h.2.2.1, va_AO.moved ha h.2.2.2⟩
  have h1 := h.1 w hw
  have h2 := (List.mem_filter.mp hw).2
  cases w <;> first | exact va_Nw.same rfl hv h1 | (exfalso; revert h2; simp [jNb])
theorem jS.step {ad : Nat → Nat} {A0 A1 : Nat → Prop} {s U : State} {H0 H : Heap} (h : jS ad A0 s H0) (hW : s.WarmedH U.vm) (hq : ∀ a : Nat, a < H0.size → ¬ A0 a → H[a]? = H0[a]?) (hA : ∀ q, A1 q → A0 q) : jS ad A1 U H :=
  ⟨((vk_S.moved hW.alike h.1).kept hq).narrow hA, fun i hi => vk_R.warm hW (h.2.1 i hi), ((va_Z.moved hW.alike h.2.2.1).kept hq).narrow hA, h.2.2.2.imp (fun h => ((va_Z.moved hW.alike h).kept hq).narrow hA) (fun h => ((va_Z.moved hW.alike h).kept hq).narrow hA)⟩
theorem jS.same {ad : Nat → Nat} {A0 : Nat → Prop} {s U : State} {H : Heap} (h : jS ad A0 s H) (hv : s.vm = U.vm) : jS ad A0 U H := by
  have ha : s.vm.Alike U.vm := by rw [← hv]; exact Vm.Alike.refl s.vm
  exact ⟨vk_S.moved ha h.1, fun i hi => vk_R.same hv.symm (h.2.1 i hi), va_Z.moved ha h.2.2.1, h.2.2.2.imp (fun h => va_Z.moved ha h) (fun h => va_Z.moved ha h)⟩
theorem jS.ad {ad ad' : Nat → Nat} {A0 : Nat → Prop} {s : State} {H : Heap} (h : jS ad A0 s H) (he : ∀ k, 1000 ≤ k → ad' k = ad k) : jS ad' A0 s H := by
  have e1 : (fun i => ad' (1000 + i)) = (fun i => ad (1000 + i)) := funext fun i => he _ (by omega)
  have e2 : (fun i => ad' (2000 + i)) = (fun i => ad (2000 + i)) := funext fun i => he _ (by omega)
  unfold jS
  rw [e1, e2, he 3000 (by omega)]
  exact ⟨h.1, fun i hi => by rw [he _ (by omega)]; exact h.2.1 i hi, h.2.2⟩
/-- a method: its class, code, locals, name, answer's type, room -/
abbrev jM : Type := String × ByteArray × Nat × MethodName × Option FieldType × Room
def jL (ad : Nat → Nat) (ls : Array Slot) (n : Nat) (L : List (Option Value)) : Prop := ls.size = n ∧ lv_wf ls ∧ ∀ (i : Nat) (v : Value), L[i]? = some (some v) → ls[i]? = some (.val (jg ad v))
/-- where a method stands -/
def jX (K : jM) (n0 : Nat) (p : Program) (s : State) (m : MethodId) (args : Array Value) (meth : Method) (c : Code) (dC : Nat → ClassId) (dI : Nat → Nat → Nat) (cy : Nat → ClassId) (A0 : Nat → Prop) (ad0 ad : Nat → Nat) (H : Heap) (locs : List Loc) (ls : Array Slot) (L : List (Option Value)) (A : jW) : Prop :=
  (p.tables.exec = Jvm.exec ∧ c.code = K.2.1 ∧ meth.sig.returnType = K.2.2.2.2.1 ∧ c.maxLocals = K.2.2.1 ∧ s.vm.findClass K.1 = some m.cls ∧ (∀ w ∈ jTs, w.before args s = true) ∧ meth.locks = false ∧ meth.name = K.2.2.2.1.name ∧ jU dC dI cy s ∧ jS ad A0 s s.heap) ∧
  (∀ k, k < n0 ∨ A.length ≤ k → ad k = ad0 k) ∧ (∀ q, s.heap.size ≤ q → A0 q) ∧ va_P (dC, dI) jCl (jgW cy ad A) H ∧ va_D A0 (jgW cy ad A) ∧ va_S A0 s.heap H locs ∧ jL ad ls K.2.2.1 L
def jQ (Q : Option Value → jW → Prop) (dC : Nat → ClassId) (dI : Nat → Nat → Nat) (cy : Nat → ClassId) (A0 : Nat → Prop) (n0 : Nat) (ad0 : Nat → Nat) : Array Value → State → Outcome → State → Prop := fun _ st oc t =>
  (∃ (r : Option Value) (A' : jW) (ad' : Nat → Nat), oc = .returned (r.map (jg ad')) ∧ Q r A' ∧ (∀ k, k < n0 ∨ A'.length ≤ k → ad' k = ad0 k) ∧ va_P (dC, dI) jCl (jgW cy ad' A') t.heap ∧ va_D A0 (jgW cy ad' A')) ∧ va_F A0 st t
/-- from this place on the method comes to its end, with Q of its answer and of the world -/
def J (K : jM) (n0 : Nat) (Q : Option Value → jW → Prop) (pc : Nat) (L : List (Option Value)) (st : List Value) (A : jW) (cells slots : Nat) : Prop :=
  ∀ (l : Launch) (p : Program) (e : Env) (s : State) (m : MethodId) (args : Array Value) (below : List Frame) (meth : Method) (c : Code) (dC : Nat → ClassId) (dI : Nat → Nat → Nat) (cy : Nat → ClassId) (A0 : Nat → Prop) (ad0 ad : Nat → Nat) (H : Heap) (locs : List Loc) (ls : Array Slot),
    jX K n0 p s m args meth c dC dI cy A0 ad0 ad H locs ls L A →
    W p l e K.2.2.2.2.2 s m args below meth c H locs cells slots (MQ below (jQ Q dC dI cy A0 n0 ad0) args s K.2.2.2.2.2.cells K.2.2.2.2.2.slots A0) (F0 m pc ls (st.map (jg ad)))
section JR
variable {K : jM} {n0 : Nat} {Q : Option Value → jW → Prop} {pc : Nat} {L : List (Option Value)} {st : List Value} {A : jW} {cells slots : Nat}
theorem J.weaken {Q' : Option Value → jW → Prop} (h : J K n0 Q pc L st A cells slots) (hQ : ∀ r A', Q r A' → Q' r A') : J K n0 Q' pc L st A cells slots := by
  intro l p e s m args below meth c dC dI cy A0 ad0 ad H locs ls hX T hT X
  obtain ⟨t, h1, o, h2, h3, ⟨⟨r, A', ad', e1, e2, e3⟩, e4⟩, h5⟩ := h l p e s m args below meth c dC dI cy A0 ad0 ad H locs ls hX T hT X
  exact ⟨t, h1, o, h2, h3, ⟨⟨r, A', ad', e1, hQ r A' e2, e3⟩, e4⟩, h5⟩
theorem J.at {L' : List (Option Value)} {st' : List Value} {A' : jW} (h : J K n0 Q pc L st A cells slots) (h1 : L = L') (h2 : st = st') (h3 : A = A') : J K n0 Q pc L' st' A' cells slots := by
  subst h1; subst h2; subst h3; exact h
/-- a world whose cells are the same cells -/
theorem J.world {A' : jW} (h : J K n0 Q pc L st A' cells slots) (hA : ∀ cy ad H dC dI, va_P (dC, dI) jCl (jgW cy ad A) H → va_P (dC, dI) jCl (jgW cy ad A') H) (hl : A'.length = A.length) : J K n0 Q pc L st A cells slots := by
  intro l p e s m args below meth c dC dI cy A0 ad0 ad H locs ls hX
  refine h l p e s m args below meth c dC dI cy A0 ad0 ad H locs ls ⟨hX.1, by rw [hl]; exact hX.2.1, hX.2.2.1, hA _ _ _ _ _ hX.2.2.2.1, ?_, hX.2.2.2.2.2⟩
  have hD := hX.2.2.2.2.1
  have key : ∀ (k : Nat) (q : Nat × va_E), (jgW cy ad A')[k]? = some q → ∃ q', (jgW cy ad A)[k]? = some q' ∧ q'.1 = q.1 := by
    intro k q hq
    obtain ⟨x, hx, rfl⟩ := jgW_of hq
    have hk : k < A.length := by rw [← hl]; exact (List.getElem?_eq_some_iff.mp hx).1
    exact ⟨_, jgW_get (List.getElem?_eq_getElem hk), rfl⟩
  refine ⟨fun i j x y hi hj hxy => ?_, fun k q hk => ?_⟩
  · obtain ⟨x', a1, a2⟩ := key i x hi
    obtain ⟨y', b1, b2⟩ := key j y hj
    exact hD.1 i j x' y' a1 b1 (by rw [a2, b2]; exact hxy)
  · obtain ⟨q', a1, a2⟩ := key k q hk
    rw [← a2]
    exact hD.2 k q' a1
/-- fewer locals are known -/
theorem J.locals {L' : List (Option Value)} (h : J K n0 Q pc L' st A cells slots) (hL : ∀ (i : Nat) (v : Value), L'[i]? = some (some v) → L[i]? = some (some v)) : J K n0 Q pc L st A cells slots := by
  intro l p e s m args below meth c dC dI cy A0 ad0 ad H locs ls hX
  exact h l p e s m args below meth c dC dI cy A0 ad0 ad H locs ls ⟨hX.1, hX.2.1, hX.2.2.1, hX.2.2.2.1, hX.2.2.2.2.1, hX.2.2.2.2.2.1, hX.2.2.2.2.2.2.1, hX.2.2.2.2.2.2.2.1, fun i v hv => hX.2.2.2.2.2.2.2.2 i v (hL i v hv)⟩
theorem J.iconst {n : Int} (v : Int32) (d : decode K.2.1 pc = .ok (.iconst n, 1)) (hv : Int32.ofInt n = v)
    (k : J K n0 Q (pc + 1) L (.int v :: st) A cells slots) : J K n0 Q pc L st A cells slots := by
  intro l p e s m args below meth c dC dI cy A0 ad0 ad H locs ls hX
  exact lv_iconst hX.1.1 hX.1.2.1 d hv (k l p e s m args below meth c dC dI cy A0 ad0 ad H locs ls hX)
theorem J.bipush {n : Int} (v : Int32) (d : decode K.2.1 pc = .ok (.bipush n, 2)) (hv : (Int8.ofInt n).toInt32 = v)
    (k : J K n0 Q (pc + 2) L (.int v :: st) A cells slots) : J K n0 Q pc L st A cells slots := by
  intro l p e s m args below meth c dC dI cy A0 ad0 ad H locs ls hX
  exact lv_bipush hX.1.1 hX.1.2.1 d hv (k l p e s m args below meth c dC dI cy A0 ad0 ad H locs ls hX)
theorem J.sipush {n : Int} (v : Int32) (d : decode K.2.1 pc = .ok (.sipush n, 3)) (hv : (Int16.ofInt n).toInt32 = v)
    (k : J K n0 Q (pc + 3) L (.int v :: st) A cells slots) : J K n0 Q pc L st A cells slots := by
  intro l p e s m args below meth c dC dI cy A0 ad0 ad H locs ls hX
  exact lv_sipush hX.1.1 hX.1.2.1 d hv (k l p e s m args below meth c dC dI cy A0 ad0 ad H locs ls hX)
theorem J.lconst {n : Fin 2} (v : Int64) (d : decode K.2.1 pc = .ok (.lconst n, 1)) (hv : Int64.ofNat (n : Nat) = v)
    (k : J K n0 Q (pc + 1) L (.long v :: st) A cells slots) : J K n0 Q pc L st A cells slots := by
  intro l p e s m args below meth c dC dI cy A0 ad0 ad H locs ls hX
  exact lv_lconst hX.1.1 hX.1.2.1 d hv (k l p e s m args below meth c dC dI cy A0 ad0 ad H locs ls hX)
theorem J.ldc {i : Nat} {v : Int32} (d : decode K.2.1 pc = .ok (.ldc i, 2)) (hw : Cond.constant K.1 i v ∈ jTs)
    (k : J K n0 Q (pc + 2) L (.int v :: st) A cells slots) : J K n0 Q pc L st A cells slots := by
  intro l p e s m args below meth c dC dI cy A0 ad0 ad H locs ls hX
  exact lv_ldc hX.1.1 hX.1.2.1 hX.1.2.2.2.2.1 (hX.1.2.2.2.2.2.1 _ hw) d (k l p e s m args below meth c dC dI cy A0 ad0 ad H locs ls hX)
theorem J.ldcw {i : Nat} {v : Int32} (d : decode K.2.1 pc = .ok (.ldc_w i, 3)) (hw : Cond.constant K.1 i v ∈ jTs)
    (k : J K n0 Q (pc + 3) L (.int v :: st) A cells slots) : J K n0 Q pc L st A cells slots := by
  intro l p e s m args below meth c dC dI cy A0 ad0 ad H locs ls hX
  exact lv_ldcw hX.1.1 hX.1.2.1 hX.1.2.2.2.2.1 (hX.1.2.2.2.2.2.1 _ hw) d (k l p e s m args below meth c dC dI cy A0 ad0 ad H locs ls hX)
theorem J.ldc2 {i : Nat} {v : Int64} (d : decode K.2.1 pc = .ok (.ldc2_w i, 3)) (hw : Cond.constantLong K.1 i v ∈ jTs)
    (k : J K n0 Q (pc + 3) L (.long v :: st) A cells slots) : J K n0 Q pc L st A cells slots := by
  intro l p e s m args below meth c dC dI cy A0 ad0 ad H locs ls hX
  exact lv_ldc2 hX.1.1 hX.1.2.1 hX.1.2.2.2.2.1 (hX.1.2.2.2.2.2.1 _ hw) d (k l p e s m args below meth c dC dI cy A0 ad0 ad H locs ls hX)
theorem J.iload_n {f : Fin 4} {i : Nat} {x : Int32} (d : decode K.2.1 pc = .ok (.iload_n f, 1)) (hi : (f : Nat) = i) (hl : L[i]? = some (some (.int x)))
    (k : J K n0 Q (pc + 1) L (.int x :: st) A cells slots) : J K n0 Q pc L st A cells slots := by
  intro l p e s m args below meth c dC dI cy A0 ad0 ad H locs ls hX
  exact lv_iload_n hX.1.1 hX.1.2.1 d hi (hX.2.2.2.2.2.2.2.2 i _ hl) (k l p e s m args below meth c dC dI cy A0 ad0 ad H locs ls hX)
theorem J.iload {i : Nat} {x : Int32} (d : decode K.2.1 pc = .ok (.iload i, 2)) (hl : L[i]? = some (some (.int x)))
    (k : J K n0 Q (pc + 2) L (.int x :: st) A cells slots) : J K n0 Q pc L st A cells slots := by
  intro l p e s m args below meth c dC dI cy A0 ad0 ad H locs ls hX
  exact lv_iload hX.1.1 hX.1.2.1 d (hX.2.2.2.2.2.2.2.2 i _ hl) (k l p e s m args below meth c dC dI cy A0 ad0 ad H locs ls hX)
theorem J.lload_n {f : Fin 4} {i : Nat} {x : Int64} (d : decode K.2.1 pc = .ok (.lload_n f, 1)) (hi : (f : Nat) = i) (hl : L[i]? = some (some (.long x)))
    (k : J K n0 Q (pc + 1) L (.long x :: st) A cells slots) : J K n0 Q pc L st A cells slots := by
  intro l p e s m args below meth c dC dI cy A0 ad0 ad H locs ls hX
  exact lv_lload_n hX.1.1 hX.1.2.1 d hi (hX.2.2.2.2.2.2.2.2 i _ hl) (k l p e s m args below meth c dC dI cy A0 ad0 ad H locs ls hX)
theorem J.lload {i : Nat} {x : Int64} (d : decode K.2.1 pc = .ok (.lload i, 2)) (hl : L[i]? = some (some (.long x)))
    (k : J K n0 Q (pc + 2) L (.long x :: st) A cells slots) : J K n0 Q pc L st A cells slots := by
  intro l p e s m args below meth c dC dI cy A0 ad0 ad H locs ls hX
  exact lv_lload hX.1.1 hX.1.2.1 d (hX.2.2.2.2.2.2.2.2 i _ hl) (k l p e s m args below meth c dC dI cy A0 ad0 ad H locs ls hX)
theorem J.aload_n {f : Fin 4} {i : Nat} {x : Nat} (d : decode K.2.1 pc = .ok (.aload_n f, 1)) (hi : (f : Nat) = i) (hl : L[i]? = some (some (.ref x)))
    (k : J K n0 Q (pc + 1) L (.ref x :: st) A cells slots) : J K n0 Q pc L st A cells slots := by
  intro l p e s m args below meth c dC dI cy A0 ad0 ad H locs ls hX
  exact lv_aload_n hX.1.1 hX.1.2.1 d hi (hX.2.2.2.2.2.2.2.2 i _ hl) (k l p e s m args below meth c dC dI cy A0 ad0 ad H locs ls hX)
theorem J.aload {i : Nat} {x : Nat} (d : decode K.2.1 pc = .ok (.aload i, 2)) (hl : L[i]? = some (some (.ref x)))
    (k : J K n0 Q (pc + 2) L (.ref x :: st) A cells slots) : J K n0 Q pc L st A cells slots := by
  intro l p e s m args below meth c dC dI cy A0 ad0 ad H locs ls hX
  exact lv_aload hX.1.1 hX.1.2.1 d (hX.2.2.2.2.2.2.2.2 i _ hl) (k l p e s m args below meth c dC dI cy A0 ad0 ad H locs ls hX)
theorem J.iadd {x y : Int32} (d : decode K.2.1 pc = .ok (.iadd, 1))
    (k : J K n0 Q (pc + 1) L (.int (x + y) :: st) A cells slots) : J K n0 Q pc L (.int y :: .int x :: st) A cells slots := by
  intro l p e s m args below meth c dC dI cy A0 ad0 ad H locs ls hX
  exact lv_iadd hX.1.1 hX.1.2.1 d (k l p e s m args below meth c dC dI cy A0 ad0 ad H locs ls hX)
theorem J.isub {x y : Int32} (d : decode K.2.1 pc = .ok (.isub, 1))
    (k : J K n0 Q (pc + 1) L (.int (x - y) :: st) A cells slots) : J K n0 Q pc L (.int y :: .int x :: st) A cells slots := by
  intro l p e s m args below meth c dC dI cy A0 ad0 ad H locs ls hX
  exact lv_isub hX.1.1 hX.1.2.1 d (k l p e s m args below meth c dC dI cy A0 ad0 ad H locs ls hX)
theorem J.imul {x y : Int32} (d : decode K.2.1 pc = .ok (.imul, 1))
    (k : J K n0 Q (pc + 1) L (.int (x * y) :: st) A cells slots) : J K n0 Q pc L (.int y :: .int x :: st) A cells slots := by
  intro l p e s m args below meth c dC dI cy A0 ad0 ad H locs ls hX
  exact lv_imul hX.1.1 hX.1.2.1 d (k l p e s m args below meth c dC dI cy A0 ad0 ad H locs ls hX)
theorem J.iand {x y : Int32} (d : decode K.2.1 pc = .ok (.iand, 1))
    (k : J K n0 Q (pc + 1) L (.int (x &&& y) :: st) A cells slots) : J K n0 Q pc L (.int y :: .int x :: st) A cells slots := by
  intro l p e s m args below meth c dC dI cy A0 ad0 ad H locs ls hX
  exact lv_iand hX.1.1 hX.1.2.1 d (k l p e s m args below meth c dC dI cy A0 ad0 ad H locs ls hX)
theorem J.ior {x y : Int32} (d : decode K.2.1 pc = .ok (.ior, 1))
    (k : J K n0 Q (pc + 1) L (.int (x ||| y) :: st) A cells slots) : J K n0 Q pc L (.int y :: .int x :: st) A cells slots := by
  intro l p e s m args below meth c dC dI cy A0 ad0 ad H locs ls hX
  exact lv_ior hX.1.1 hX.1.2.1 d (k l p e s m args below meth c dC dI cy A0 ad0 ad H locs ls hX)
theorem J.ixor {x y : Int32} (d : decode K.2.1 pc = .ok (.ixor, 1))
    (k : J K n0 Q (pc + 1) L (.int (x ^^^ y) :: st) A cells slots) : J K n0 Q pc L (.int y :: .int x :: st) A cells slots := by
  intro l p e s m args below meth c dC dI cy A0 ad0 ad H locs ls hX
  exact lv_ixor hX.1.1 hX.1.2.1 d (k l p e s m args below meth c dC dI cy A0 ad0 ad H locs ls hX)
theorem J.ishl {x y : Int32} (d : decode K.2.1 pc = .ok (.ishl, 1))
    (k : J K n0 Q (pc + 1) L (.int (x <<< (y &&& 31)) :: st) A cells slots) : J K n0 Q pc L (.int y :: .int x :: st) A cells slots := by
  intro l p e s m args below meth c dC dI cy A0 ad0 ad H locs ls hX
  exact lv_ishl hX.1.1 hX.1.2.1 d (k l p e s m args below meth c dC dI cy A0 ad0 ad H locs ls hX)
theorem J.ishr {x y : Int32} (d : decode K.2.1 pc = .ok (.ishr, 1))
    (k : J K n0 Q (pc + 1) L (.int (x >>> (y &&& 31)) :: st) A cells slots) : J K n0 Q pc L (.int y :: .int x :: st) A cells slots := by
  intro l p e s m args below meth c dC dI cy A0 ad0 ad H locs ls hX
  exact lv_ishr hX.1.1 hX.1.2.1 d (k l p e s m args below meth c dC dI cy A0 ad0 ad H locs ls hX)
theorem J.iushr {x y : Int32} (d : decode K.2.1 pc = .ok (.iushr, 1))
    (k : J K n0 Q (pc + 1) L (.int ((x.toUInt32 >>> (y.toUInt32 &&& Int32.toUInt32 31)).toInt32) :: st) A cells slots) : J K n0 Q pc L (.int y :: .int x :: st) A cells slots := by
  intro l p e s m args below meth c dC dI cy A0 ad0 ad H locs ls hX
  exact lv_iushr hX.1.1 hX.1.2.1 d rfl (k l p e s m args below meth c dC dI cy A0 ad0 ad H locs ls hX)
theorem J.ladd {x y : Int64} (d : decode K.2.1 pc = .ok (.ladd, 1))
    (k : J K n0 Q (pc + 1) L (.long (x + y) :: st) A cells slots) : J K n0 Q pc L (.long y :: .long x :: st) A cells slots := by
  intro l p e s m args below meth c dC dI cy A0 ad0 ad H locs ls hX
  exact lv_ladd hX.1.1 hX.1.2.1 d (k l p e s m args below meth c dC dI cy A0 ad0 ad H locs ls hX)
theorem J.lsub {x y : Int64} (d : decode K.2.1 pc = .ok (.lsub, 1))
    (k : J K n0 Q (pc + 1) L (.long (x - y) :: st) A cells slots) : J K n0 Q pc L (.long y :: .long x :: st) A cells slots := by
  intro l p e s m args below meth c dC dI cy A0 ad0 ad H locs ls hX
  exact lv_lsub hX.1.1 hX.1.2.1 d (k l p e s m args below meth c dC dI cy A0 ad0 ad H locs ls hX)
theorem J.lmul {x y : Int64} (d : decode K.2.1 pc = .ok (.lmul, 1))
    (k : J K n0 Q (pc + 1) L (.long (x * y) :: st) A cells slots) : J K n0 Q pc L (.long y :: .long x :: st) A cells slots := by
  intro l p e s m args below meth c dC dI cy A0 ad0 ad H locs ls hX
  exact lv_lmul hX.1.1 hX.1.2.1 d (k l p e s m args below meth c dC dI cy A0 ad0 ad H locs ls hX)
theorem J.idiv {x y : Int32} (d : decode K.2.1 pc = .ok (.idiv, 1)) (hne : ¬ y = 0)
    (k : J K n0 Q (pc + 1) L (.int (x / y) :: st) A cells slots) : J K n0 Q pc L (.int y :: .int x :: st) A cells slots := by
  intro l p e s m args below meth c dC dI cy A0 ad0 ad H locs ls hX
  exact lv_idiv hX.1.1 hX.1.2.1 d hne (k l p e s m args below meth c dC dI cy A0 ad0 ad H locs ls hX)
theorem J.irem {x y : Int32} (d : decode K.2.1 pc = .ok (.irem, 1)) (hne : ¬ y = 0)
    (k : J K n0 Q (pc + 1) L (.int (x - x / y * y) :: st) A cells slots) : J K n0 Q pc L (.int y :: .int x :: st) A cells slots := by
  intro l p e s m args below meth c dC dI cy A0 ad0 ad H locs ls hX
  exact lv_irem hX.1.1 hX.1.2.1 d hne (k l p e s m args below meth c dC dI cy A0 ad0 ad H locs ls hX)
theorem J.ldiv {x y : Int64} (d : decode K.2.1 pc = .ok (.ldiv, 1)) (hne : ¬ y = 0)
    (k : J K n0 Q (pc + 1) L (.long (x / y) :: st) A cells slots) : J K n0 Q pc L (.long y :: .long x :: st) A cells slots := by
  intro l p e s m args below meth c dC dI cy A0 ad0 ad H locs ls hX
  exact lv_ldiv hX.1.1 hX.1.2.1 d hne (k l p e s m args below meth c dC dI cy A0 ad0 ad H locs ls hX)
theorem J.lrem {x y : Int64} (d : decode K.2.1 pc = .ok (.lrem, 1)) (hne : ¬ y = 0)
    (k : J K n0 Q (pc + 1) L (.long (x - x / y * y) :: st) A cells slots) : J K n0 Q pc L (.long y :: .long x :: st) A cells slots := by
  intro l p e s m args below meth c dC dI cy A0 ad0 ad H locs ls hX
  exact lv_lrem hX.1.1 hX.1.2.1 d hne (k l p e s m args below meth c dC dI cy A0 ad0 ad H locs ls hX)
theorem J.ineg {x : Int32} (d : decode K.2.1 pc = .ok (.ineg, 1))
    (k : J K n0 Q (pc + 1) L (.int (-x) :: st) A cells slots) : J K n0 Q pc L (.int x :: st) A cells slots := by
  intro l p e s m args below meth c dC dI cy A0 ad0 ad H locs ls hX
  exact lv_ineg hX.1.1 hX.1.2.1 d (k l p e s m args below meth c dC dI cy A0 ad0 ad H locs ls hX)
theorem J.lneg {x : Int64} (d : decode K.2.1 pc = .ok (.lneg, 1))
    (k : J K n0 Q (pc + 1) L (.long (-x) :: st) A cells slots) : J K n0 Q pc L (.long x :: st) A cells slots := by
  intro l p e s m args below meth c dC dI cy A0 ad0 ad H locs ls hX
  exact lv_lneg hX.1.1 hX.1.2.1 d (k l p e s m args below meth c dC dI cy A0 ad0 ad H locs ls hX)
theorem J.i2l {x : Int32} (d : decode K.2.1 pc = .ok (.i2l, 1))
    (k : J K n0 Q (pc + 1) L (.long x.toInt64 :: st) A cells slots) : J K n0 Q pc L (.int x :: st) A cells slots := by
  intro l p e s m args below meth c dC dI cy A0 ad0 ad H locs ls hX
  exact lv_i2l hX.1.1 hX.1.2.1 d rfl (k l p e s m args below meth c dC dI cy A0 ad0 ad H locs ls hX)
theorem J.i2b {x : Int32} (d : decode K.2.1 pc = .ok (.i2b, 1))
    (k : J K n0 Q (pc + 1) L (.int x.toInt8.toInt32 :: st) A cells slots) : J K n0 Q pc L (.int x :: st) A cells slots := by
  intro l p e s m args below meth c dC dI cy A0 ad0 ad H locs ls hX
  exact lv_i2b hX.1.1 hX.1.2.1 d rfl (k l p e s m args below meth c dC dI cy A0 ad0 ad H locs ls hX)
theorem J.i2s {x : Int32} (d : decode K.2.1 pc = .ok (.i2s, 1))
    (k : J K n0 Q (pc + 1) L (.int x.toInt16.toInt32 :: st) A cells slots) : J K n0 Q pc L (.int x :: st) A cells slots := by
  intro l p e s m args below meth c dC dI cy A0 ad0 ad H locs ls hX
  exact lv_i2s hX.1.1 hX.1.2.1 d rfl (k l p e s m args below meth c dC dI cy A0 ad0 ad H locs ls hX)
theorem J.i2c {x : Int32} (d : decode K.2.1 pc = .ok (.i2c, 1))
    (k : J K n0 Q (pc + 1) L (.int x.toUInt32.toUInt16.toUInt32.toInt32 :: st) A cells slots) : J K n0 Q pc L (.int x :: st) A cells slots := by
  intro l p e s m args below meth c dC dI cy A0 ad0 ad H locs ls hX
  exact lv_i2c hX.1.1 hX.1.2.1 d rfl (k l p e s m args below meth c dC dI cy A0 ad0 ad H locs ls hX)
theorem J.lcmp {x y : Int64} (d : decode K.2.1 pc = .ok (.lcmp, 1))
    (k : J K n0 Q (pc + 1) L (.int (lg_cmp x y) :: st) A cells slots) : J K n0 Q pc L (.long y :: .long x :: st) A cells slots := by
  intro l p e s m args below meth c dC dI cy A0 ad0 ad H locs ls hX
  exact W.lcmp hX.1.1 hX.1.2.1 d (k l p e s m args below meth c dC dI cy A0 ad0 ad H locs ls hX)
theorem J.dup {v : Value} (d : decode K.2.1 pc = .ok (.dup, 1)) (hc : v.category = 1)
    (k : J K n0 Q (pc + 1) L (v :: v :: st) A cells slots) : J K n0 Q pc L (v :: st) A cells slots := by
  intro l p e s m args below meth c dC dI cy A0 ad0 ad H locs ls hX
  exact lv_dup hX.1.1 hX.1.2.1 d ((jg_cat ad v).trans hc) (k l p e s m args below meth c dC dI cy A0 ad0 ad H locs ls hX)
theorem J.pop {v : Value} (d : decode K.2.1 pc = .ok (.pop, 1)) (hc : v.category = 1)
    (k : J K n0 Q (pc + 1) L st A cells slots) : J K n0 Q pc L (v :: st) A cells slots := by
  intro l p e s m args below meth c dC dI cy A0 ad0 ad H locs ls hX
  exact lv_pop hX.1.1 hX.1.2.1 d ((jg_cat ad v).trans hc) (k l p e s m args below meth c dC dI cy A0 ad0 ad H locs ls hX)
theorem J.dup2 {v u : Value} (d : decode K.2.1 pc = .ok (.dup2, 1)) (hc : v.category = 1) (hu : u.category = 1)
    (k : J K n0 Q (pc + 1) L (v :: u :: v :: u :: st) A cells slots) : J K n0 Q pc L (v :: u :: st) A cells slots := by
  intro l p e s m args below meth c dC dI cy A0 ad0 ad H locs ls hX
  exact lv_dup2_11 hX.1.1 hX.1.2.1 d ((jg_cat ad v).trans hc) ((jg_cat ad u).trans hu) (k l p e s m args below meth c dC dI cy A0 ad0 ad H locs ls hX)
theorem J.dup2l {v : Value} (d : decode K.2.1 pc = .ok (.dup2, 1)) (hc : v.category = 2)
    (k : J K n0 Q (pc + 1) L (v :: v :: st) A cells slots) : J K n0 Q pc L (v :: st) A cells slots := by
  intro l p e s m args below meth c dC dI cy A0 ad0 ad H locs ls hX
  exact lv_dup2_2 hX.1.1 hX.1.2.1 d ((jg_cat ad v).trans hc) (k l p e s m args below meth c dC dI cy A0 ad0 ad H locs ls hX)
theorem J.if_eq {x : Int32} {off : Int} {tgt : Nat} (d : decode K.2.1 pc = .ok (.ifCond .eq off, 3)) (ht : (pc : Int) + off = (tgt : Int)) (kt : x = 0 → J K n0 Q tgt L st A cells slots) (kf : ¬ x = 0 → J K n0 Q (pc + 3) L st A cells slots) : J K n0 Q pc L (.int x :: st) A cells slots := by
  intro l p e s m args below meth c dC dI cy A0 ad0 ad H locs ls hX
  exact lv_if_eq hX.1.1 hX.1.2.1 d ht (fun h => kt h l p e s m args below meth c dC dI cy A0 ad0 ad H locs ls hX) (fun h => kf h l p e s m args below meth c dC dI cy A0 ad0 ad H locs ls hX)
theorem J.icmp_eq {x y : Int32} {off : Int} {tgt : Nat} (d : decode K.2.1 pc = .ok (.if_icmp .eq off, 3)) (ht : (pc : Int) + off = (tgt : Int)) (kt : x = y → J K n0 Q tgt L st A cells slots) (kf : ¬ x = y → J K n0 Q (pc + 3) L st A cells slots) : J K n0 Q pc L (.int y :: .int x :: st) A cells slots := by
  intro l p e s m args below meth c dC dI cy A0 ad0 ad H locs ls hX
  exact lv_icmp_eq hX.1.1 hX.1.2.1 d ht (fun h => kt h l p e s m args below meth c dC dI cy A0 ad0 ad H locs ls hX) (fun h => kf h l p e s m args below meth c dC dI cy A0 ad0 ad H locs ls hX)
theorem J.if_ne {x : Int32} {off : Int} {tgt : Nat} (d : decode K.2.1 pc = .ok (.ifCond .ne off, 3)) (ht : (pc : Int) + off = (tgt : Int)) (kt : ¬ x = 0 → J K n0 Q tgt L st A cells slots) (kf : x = 0 → J K n0 Q (pc + 3) L st A cells slots) : J K n0 Q pc L (.int x :: st) A cells slots := by
  intro l p e s m args below meth c dC dI cy A0 ad0 ad H locs ls hX
  exact lv_if_ne hX.1.1 hX.1.2.1 d ht (fun h => kt h l p e s m args below meth c dC dI cy A0 ad0 ad H locs ls hX) (fun h => kf h l p e s m args below meth c dC dI cy A0 ad0 ad H locs ls hX)
theorem J.icmp_ne {x y : Int32} {off : Int} {tgt : Nat} (d : decode K.2.1 pc = .ok (.if_icmp .ne off, 3)) (ht : (pc : Int) + off = (tgt : Int)) (kt : ¬ x = y → J K n0 Q tgt L st A cells slots) (kf : x = y → J K n0 Q (pc + 3) L st A cells slots) : J K n0 Q pc L (.int y :: .int x :: st) A cells slots := by
  intro l p e s m args below meth c dC dI cy A0 ad0 ad H locs ls hX
  exact lv_icmp_ne hX.1.1 hX.1.2.1 d ht (fun h => kt h l p e s m args below meth c dC dI cy A0 ad0 ad H locs ls hX) (fun h => kf h l p e s m args below meth c dC dI cy A0 ad0 ad H locs ls hX)
theorem J.if_lt {x : Int32} {off : Int} {tgt : Nat} (d : decode K.2.1 pc = .ok (.ifCond .lt off, 3)) (ht : (pc : Int) + off = (tgt : Int)) (kt : x < 0 → J K n0 Q tgt L st A cells slots) (kf : ¬ x < 0 → J K n0 Q (pc + 3) L st A cells slots) : J K n0 Q pc L (.int x :: st) A cells slots := by
  intro l p e s m args below meth c dC dI cy A0 ad0 ad H locs ls hX
  exact lv_if_lt hX.1.1 hX.1.2.1 d ht (fun h => kt h l p e s m args below meth c dC dI cy A0 ad0 ad H locs ls hX) (fun h => kf h l p e s m args below meth c dC dI cy A0 ad0 ad H locs ls hX)
theorem J.icmp_lt {x y : Int32} {off : Int} {tgt : Nat} (d : decode K.2.1 pc = .ok (.if_icmp .lt off, 3)) (ht : (pc : Int) + off = (tgt : Int)) (kt : x < y → J K n0 Q tgt L st A cells slots) (kf : ¬ x < y → J K n0 Q (pc + 3) L st A cells slots) : J K n0 Q pc L (.int y :: .int x :: st) A cells slots := by
  intro l p e s m args below meth c dC dI cy A0 ad0 ad H locs ls hX
  exact lv_icmp_lt hX.1.1 hX.1.2.1 d ht (fun h => kt h l p e s m args below meth c dC dI cy A0 ad0 ad H locs ls hX) (fun h => kf h l p e s m args below meth c dC dI cy A0 ad0 ad H locs ls hX)
theorem J.if_ge {x : Int32} {off : Int} {tgt : Nat} (d : decode K.2.1 pc = .ok (.ifCond .ge off, 3)) (ht : (pc : Int) + off = (tgt : Int)) (kt : 0 ≤ x → J K n0 Q tgt L st A cells slots) (kf : ¬ 0 ≤ x → J K n0 Q (pc + 3) L st A cells slots) : J K n0 Q pc L (.int x :: st) A cells slots := by
  intro l p e s m args below meth c dC dI cy A0 ad0 ad H locs ls hX
  exact lv_if_ge hX.1.1 hX.1.2.1 d ht (fun h => kt h l p e s m args below meth c dC dI cy A0 ad0 ad H locs ls hX) (fun h => kf h l p e s m args below meth c dC dI cy A0 ad0 ad H locs ls hX)
theorem J.icmp_ge {x y : Int32} {off : Int} {tgt : Nat} (d : decode K.2.1 pc = .ok (.if_icmp .ge off, 3)) (ht : (pc : Int) + off = (tgt : Int)) (kt : y ≤ x → J K n0 Q tgt L st A cells slots) (kf : ¬ y ≤ x → J K n0 Q (pc + 3) L st A cells slots) : J K n0 Q pc L (.int y :: .int x :: st) A cells slots := by
  intro l p e s m args below meth c dC dI cy A0 ad0 ad H locs ls hX
  exact lv_icmp_ge hX.1.1 hX.1.2.1 d ht (fun h => kt h l p e s m args below meth c dC dI cy A0 ad0 ad H locs ls hX) (fun h => kf h l p e s m args below meth c dC dI cy A0 ad0 ad H locs ls hX)
theorem J.if_gt {x : Int32} {off : Int} {tgt : Nat} (d : decode K.2.1 pc = .ok (.ifCond .gt off, 3)) (ht : (pc : Int) + off = (tgt : Int)) (kt : 0 < x → J K n0 Q tgt L st A cells slots) (kf : ¬ 0 < x → J K n0 Q (pc + 3) L st A cells slots) : J K n0 Q pc L (.int x :: st) A cells slots := by
  intro l p e s m args below meth c dC dI cy A0 ad0 ad H locs ls hX
  exact lv_if_gt hX.1.1 hX.1.2.1 d ht (fun h => kt h l p e s m args below meth c dC dI cy A0 ad0 ad H locs ls hX) (fun h => kf h l p e s m args below meth c dC dI cy A0 ad0 ad H locs ls hX)
theorem J.icmp_gt {x y : Int32} {off : Int} {tgt : Nat} (d : decode K.2.1 pc = .ok (.if_icmp .gt off, 3)) (ht : (pc : Int) + off = (tgt : Int)) (kt : y < x → J K n0 Q tgt L st A cells slots) (kf : ¬ y < x → J K n0 Q (pc + 3) L st A cells slots) : J K n0 Q pc L (.int y :: .int x :: st) A cells slots := by
  intro l p e s m args below meth c dC dI cy A0 ad0 ad H locs ls hX
  exact lv_icmp_gt hX.1.1 hX.1.2.1 d ht (fun h => kt h l p e s m args below meth c dC dI cy A0 ad0 ad H locs ls hX) (fun h => kf h l p e s m args below meth c dC dI cy A0 ad0 ad H locs ls hX)
theorem J.if_le {x : Int32} {off : Int} {tgt : Nat} (d : decode K.2.1 pc = .ok (.ifCond .le off, 3)) (ht : (pc : Int) + off = (tgt : Int)) (kt : x ≤ 0 → J K n0 Q tgt L st A cells slots) (kf : ¬ x ≤ 0 → J K n0 Q (pc + 3) L st A cells slots) : J K n0 Q pc L (.int x :: st) A cells slots := by
  intro l p e s m args below meth c dC dI cy A0 ad0 ad H locs ls hX
  exact lv_if_le hX.1.1 hX.1.2.1 d ht (fun h => kt h l p e s m args below meth c dC dI cy A0 ad0 ad H locs ls hX) (fun h => kf h l p e s m args below meth c dC dI cy A0 ad0 ad H locs ls hX)
theorem J.icmp_le {x y : Int32} {off : Int} {tgt : Nat} (d : decode K.2.1 pc = .ok (.if_icmp .le off, 3)) (ht : (pc : Int) + off = (tgt : Int)) (kt : x ≤ y → J K n0 Q tgt L st A cells slots) (kf : ¬ x ≤ y → J K n0 Q (pc + 3) L st A cells slots) : J K n0 Q pc L (.int y :: .int x :: st) A cells slots := by
  intro l p e s m args below meth c dC dI cy A0 ad0 ad H locs ls hX
  exact lv_icmp_le hX.1.1 hX.1.2.1 d ht (fun h => kt h l p e s m args below meth c dC dI cy A0 ad0 ad H locs ls hX) (fun h => kf h l p e s m args below meth c dC dI cy A0 ad0 ad H locs ls hX)
theorem J.goto {off : Int} {tgt : Nat} (d : decode K.2.1 pc = .ok (.goto off, 3)) (ht : (pc : Int) + off = (tgt : Int))
    (k : J K n0 Q tgt L st A cells slots) : J K n0 Q pc L st A cells slots := by
  intro l p e s m args below meth c dC dI cy A0 ad0 ad H locs ls hX
  exact lv_goto hX.1.1 hX.1.2.1 d ht (k l p e s m args below meth c dC dI cy A0 ad0 ad H locs ls hX)
theorem J.tableOut {dflt lo hi : Int} {offs : Array Int} {len : Nat} {x : Int32} {tgt : Nat} (d : decode K.2.1 pc = .ok (.tableswitch dflt lo hi offs, len)) (h : x.toInt < lo ∨ hi < x.toInt) (ht : (pc : Int) + dflt = (tgt : Int))
    (k : J K n0 Q tgt L st A cells slots) : J K n0 Q pc L (.int x :: st) A cells slots := by
  intro l p e s m args below meth c dC dI cy A0 ad0 ad H locs ls hX
  exact lv_tableOut hX.1.1 hX.1.2.1 d h ht (k l p e s m args below meth c dC dI cy A0 ad0 ad H locs ls hX)
theorem J.tableIn {dflt lo hi : Int} {offs : Array Int} {len : Nat} {x : Int32} {off : Int} {tgt : Nat} (d : decode K.2.1 pc = .ok (.tableswitch dflt lo hi offs, len)) (h1 : ¬ x.toInt < lo) (h2 : ¬ hi < x.toInt) (ho : offs[(x.toInt - lo).toNat]? = some off) (ht : (pc : Int) + off = (tgt : Int))
    (k : J K n0 Q tgt L st A cells slots) : J K n0 Q pc L (.int x :: st) A cells slots := by
  intro l p e s m args below meth c dC dI cy A0 ad0 ad H locs ls hX
  exact lv_tableIn hX.1.1 hX.1.2.1 d h1 h2 ho ht (k l p e s m args below meth c dC dI cy A0 ad0 ad H locs ls hX)
/-- no long stands just ahead of local i -/
def jno (L : List (Option Value)) (i : Nat) : Bool := match i with
  | 0 => true
  | i + 1 => match L[i]? with
    | some (some (.long _)) => false
    | some (some (.double _)) => false
    | _ => true
theorem jno_spec {L : List (Option Value)} {i j : Nat} {v : Value} (h : jno L i = true) (hj : j + 1 = i) (hv : L[j]? = some (some v)) : ¬ v.category = 2 := by
  subst hj
  simp only [jno, hv] at h
  cases v <;> simp_all [Value.category]
def jpairs (ad : Nat → Nat) (L : List (Option Value)) : List (Nat × Value) := (List.range L.length).filterMap (fun i => match L[i]? with
  | some (some v) => some (i, jg ad v)
  | _ => none)
theorem jpairs_has {ad : Nat → Nat} {ls : Array Slot} {n : Nat} {L : List (Option Value)} (h : jL ad ls n L) : lv_has ls n (jpairs ad L) := by
  refine ⟨h.1, h.2.1, fun q hq => ?_⟩
  simp only [jpairs, List.mem_filterMap, List.mem_range] at hq
  obtain ⟨i, -, hi⟩ := hq
  split at hi
  · next v hv =>
    cases hi
    exact h.2.2 i v hv
  · cases hi
theorem jpairs_mem {ad : Nat → Nat} {L : List (Option Value)} {i : Nat} {v : Value} (h : L[i]? = some (some v)) : (i, jg ad v) ∈ jpairs ad L := by
  simp only [jpairs, List.mem_filterMap, List.mem_range]
  exact ⟨i, (List.getElem?_eq_some_iff.mp h).1, by rw [h]⟩
theorem jst1 {ad : Nat → Nat} {ls' : Array Slot} {n i : Nat} {L : List (Option Value)} {v : Value} (hno : jno L i = true)
    (h : lv_has ls' n ((i, jg ad v) :: (jpairs ad L).filter (fun q => !(q.1 == i) && !(q.1 + 1 == i && q.2.category == 2)))) : jL ad ls' n (L.set i (some v)) := by
  refine ⟨h.1, h.2.1, fun j u hj => ?_⟩
  by_cases e : i = j
  · subst e
    have hl : i < L.length := by
      have := (List.getElem?_eq_some_iff.mp hj).1
      simpa using this
    rw [List.getElem?_set_self hl] at hj
    cases hj
    exact h.2.2 _ List.mem_cons_self
  · rw [List.getElem?_set_ne e] at hj
    refine h.2.2 (j, jg ad u) (List.mem_cons_of_mem _ (List.mem_filter.mpr ⟨jpairs_mem hj, ?_⟩))
    have e1 : (j == i) = false := by simpa using fun q => e q.symm
    by_cases e2 : j + 1 = i
    · have e3 := jno_spec hno e2 hj
      have e4 : ((jg ad u).category == 2) = false := by rw [jg_cat]; simpa using e3
      simp [e1, e4]
    · simp [e1, e2]
theorem jst2 {ad : Nat → Nat} {ls' : Array Slot} {n i : Nat} {L : List (Option Value)} {v : Value} (hno : jno L i = true)
    (h : lv_has ls' n ((i, jg ad v) :: (jpairs ad L).filter (fun q => !(q.1 == i) && (!(q.1 == i + 1) && !(q.1 + 1 == i && q.2.category == 2))))) : jL ad ls' n ((L.set i (some v)).set (i + 1) none) := by
  refine ⟨h.1, h.2.1, fun j u hj => ?_⟩
  by_cases e0 : i + 1 = j
  · subst e0
    have hl : i + 1 < (L.set i (some v)).length := by
      have := (List.getElem?_eq_some_iff.mp hj).1
      simpa using this
    rw [List.getElem?_set_self hl] at hj
    cases hj
  · rw [List.getElem?_set_ne e0] at hj
    by_cases e : i = j
    · subst e
      have hl : i < L.length := by
        have := (List.getElem?_eq_some_iff.mp hj).1
        simpa using this
      rw [List.getElem?_set_self hl] at hj
      cases hj
      exact h.2.2 _ List.mem_cons_self
    · rw [List.getElem?_set_ne e] at hj
      refine h.2.2 (j, jg ad u) (List.mem_cons_of_mem _ (List.mem_filter.mpr ⟨jpairs_mem hj, ?_⟩))
      have e1 : (j == i) = false := by simpa using fun q => e q.symm
      have e5 : (j == i + 1) = false := by simpa using fun q => e0 q.symm
      by_cases e2 : j + 1 = i
      · have e3 := jno_spec hno e2 hj
        have e4 : ((jg ad u).category == 2) = false := by rw [jg_cat]; simpa using e3
        simp [e1, e4, e5]
      · simp [e1, e2, e5]
theorem jX.loc {p : Program} {s : State} {m : MethodId} {args : Array Value} {meth : Method} {c : Code} {dC : Nat → ClassId} {dI : Nat → Nat → Nat} {cy : Nat → ClassId} {A0 : Nat → Prop} {ad0 ad : Nat → Nat} {H : Heap} {locs : List Loc} {ls ls' : Array Slot} {L' : List (Option Value)} (hX : jX K n0 p s m args meth c dC dI cy A0 ad0 ad H locs ls L A) (h : jL ad ls' K.2.2.1 L') : jX K n0 p s m args meth c dC dI cy A0 ad0 ad H locs ls' L' A :=
  ⟨hX.1, hX.2.1, hX.2.2.1, hX.2.2.2.1, hX.2.2.2.2.1, hX.2.2.2.2.2.1, h⟩
theorem jX.wor {p : Program} {s : State} {m : MethodId} {args : Array Value} {meth : Method} {c : Code} {dC : Nat → ClassId} {dI : Nat → Nat → Nat} {cy : Nat → ClassId} {A0 : Nat → Prop} {ad0 ad : Nat → Nat} {H H1 : Heap} {locs locs1 : List Loc} {ls : Array Slot} {A' : jW} (hX : jX K n0 p s m args meth c dC dI cy A0 ad0 ad H locs ls L A) (hz : A'.length = A.length) (hP : va_P (dC, dI) jCl (jgW cy ad A') H1) (hD : va_D A0 (jgW cy ad A')) (hS : va_S A0 s.heap H1 locs1) : jX K n0 p s m args meth c dC dI cy A0 ad0 ad H1 locs1 ls L A' :=
  ⟨hX.1, by rw [hz]; exact hX.2.1, hX.2.2.1, hP, hD, hS, hX.2.2.2.2.2.2⟩
theorem J.istore_n {f : Fin 4} {i : Nat} {x : Int32} (d : decode K.2.1 pc = .ok (.istore_n f, 1)) (hi : (f : Nat) = i) (hn : i < K.2.2.1) (hno : jno L i = true)
    (k : J K n0 Q (pc + 1) (L.set i (some (.int x))) st A cells slots) : J K n0 Q pc L (.int x :: st) A cells slots := by
  intro l p e s m args below meth c dC dI cy A0 ad0 ad H locs ls hX
  exact lv_istore_n hX.1.1 hX.1.2.1 d hi (jpairs_has hX.2.2.2.2.2.2) hn rfl (fun ls' h => k l p e s m args below meth c dC dI cy A0 ad0 ad H locs ls' (hX.loc (jst1 (v := .int x) hno h)))
theorem J.istore {i : Nat} {x : Int32} (d : decode K.2.1 pc = .ok (.istore i, 2)) (hn : i < K.2.2.1) (hno : jno L i = true)
    (k : J K n0 Q (pc + 2) (L.set i (some (.int x))) st A cells slots) : J K n0 Q pc L (.int x :: st) A cells slots := by
  intro l p e s m args below meth c dC dI cy A0 ad0 ad H locs ls hX
  exact lv_istore hX.1.1 hX.1.2.1 d (jpairs_has hX.2.2.2.2.2.2) hn rfl (fun ls' h => k l p e s m args below meth c dC dI cy A0 ad0 ad H locs ls' (hX.loc (jst1 (v := .int x) hno h)))
theorem J.lstore_n {f : Fin 4} {i : Nat} {x : Int64} (d : decode K.2.1 pc = .ok (.lstore_n f, 1)) (hi : (f : Nat) = i) (hn : i + 1 < K.2.2.1) (hno : jno L i = true)
    (k : J K n0 Q (pc + 1) ((L.set i (some (.long x))).set (i + 1) none) st A cells slots) : J K n0 Q pc L (.long x :: st) A cells slots := by
  intro l p e s m args below meth c dC dI cy A0 ad0 ad H locs ls hX
  exact lv_lstore_n hX.1.1 hX.1.2.1 d hi (jpairs_has hX.2.2.2.2.2.2) hn rfl (fun ls' h => k l p e s m args below meth c dC dI cy A0 ad0 ad H locs ls' (hX.loc (jst2 (v := .long x) hno h)))
theorem J.lstore {i : Nat} {x : Int64} (d : decode K.2.1 pc = .ok (.lstore i, 2)) (hn : i + 1 < K.2.2.1) (hno : jno L i = true)
    (k : J K n0 Q (pc + 2) ((L.set i (some (.long x))).set (i + 1) none) st A cells slots) : J K n0 Q pc L (.long x :: st) A cells slots := by
  intro l p e s m args below meth c dC dI cy A0 ad0 ad H locs ls hX
  exact lv_lstore hX.1.1 hX.1.2.1 d (jpairs_has hX.2.2.2.2.2.2) hn rfl (fun ls' h => k l p e s m args below meth c dC dI cy A0 ad0 ad H locs ls' (hX.loc (jst2 (v := .long x) hno h)))
theorem J.astore_n {f : Fin 4} {i : Nat} {x : Nat} (d : decode K.2.1 pc = .ok (.astore_n f, 1)) (hi : (f : Nat) = i) (hn : i < K.2.2.1) (hno : jno L i = true)
    (k : J K n0 Q (pc + 1) (L.set i (some (.ref x))) st A cells slots) : J K n0 Q pc L (.ref x :: st) A cells slots := by
  intro l p e s m args below meth c dC dI cy A0 ad0 ad H locs ls hX
  exact lv_astore_n hX.1.1 hX.1.2.1 d hi (jpairs_has hX.2.2.2.2.2.2) hn rfl (fun ls' h => k l p e s m args below meth c dC dI cy A0 ad0 ad H locs ls' (hX.loc (jst1 (v := .ref x) hno h)))
theorem J.astore {i : Nat} {x : Nat} (d : decode K.2.1 pc = .ok (.astore i, 2)) (hn : i < K.2.2.1) (hno : jno L i = true)
    (k : J K n0 Q (pc + 2) (L.set i (some (.ref x))) st A cells slots) : J K n0 Q pc L (.ref x :: st) A cells slots := by
  intro l p e s m args below meth c dC dI cy A0 ad0 ad H locs ls hX
  exact lv_astore hX.1.1 hX.1.2.1 d (jpairs_has hX.2.2.2.2.2.2) hn rfl (fun ls' h => k l p e s m args below meth c dC dI cy A0 ad0 ad H locs ls' (hX.loc (jst1 (v := .ref x) hno h)))
theorem J.iinc {i : Nat} {n : Int} {x : Int32} (v : Int32) (d : decode K.2.1 pc = .ok (.iinc i n, 3)) (hv : Int32.ofInt n = v) (hl : L[i]? = some (some (.int x))) (hn : i < K.2.2.1) (hno : jno L i = true)
    (k : J K n0 Q (pc + 3) (L.set i (some (.int (x + v)))) st A cells slots) : J K n0 Q pc L st A cells slots := by
  intro l p e s m args below meth c dC dI cy A0 ad0 ad H locs ls hX
  subst hv
  obtain ⟨j, hj⟩ := List.getElem?_of_mem (jpairs_mem (ad := ad) hl)
  exact lv_iinc hX.1.1 hX.1.2.1 d (jpairs_has hX.2.2.2.2.2.2) hj rfl hn rfl (fun ls' h => k l p e s m args below meth c dC dI cy A0 ad0 ad H locs ls' (hX.loc (jst1 (v := .int (x + Int32.ofInt n)) hno h)))
end JR
/-- a truth as 0 or 1 -/
def jB (b : Prop) [Decidable b] : Int32 := if b then 1 else 0
section JB
variable {b : Prop}
theorem jB_t (hd : Decidable b) (h : b) : jB b = 1 := if_pos h
theorem jB_f (hd : Decidable b) (h : ¬ b) : jB b = 0 := if_neg h
theorem jB_0 (hd : Decidable b) : jB b = 0 ↔ ¬ b := by
  unfold jB
  split <;> simp_all
theorem jB_1 (hd : Decidable b) : jB b = 1 ↔ b := by
  unfold jB
  split <;> simp_all
theorem jB_z (hd : Decidable b) : narrow .boolean (.int (jB b)) = .int (jB b) := by
  unfold jB
  split <;> decide
theorem jB_fit (hd : Decidable b) : fits .boolean (.int (jB b)) = true := by
  unfold jB
  split <;> decide
end JB
end
section
theorem jg_narrow {ty : FieldType} {v : Value} (ad : Nat → Nat) (h : narrow ty v = v) : narrow ty (jg ad v) = jg ad v := by
  cases v <;> first | exact h | (cases ty <;> rfl)
theorem jg_fits {ty : FieldType} {v : Value} (ad : Nat → Nat) (h : fits ty v = true) : fits ty (jg ad v) = true := by
  cases v <;> first | exact h | (cases ty <;> first | exact h | rfl)
theorem jg_rf (ad : Nat → Nat) (r : Option Nat) : jg ad (va_rf r) = va_rf (r.map ad) := by cases r <;> rfl
/-- a field that an entry of a class's pool means: number k of class ci -/
def jF (own : String) (idx ci k : Nat) : Prop := ∃ (C : String) (T : u_T) (N : Nat), jCl[ci]? = some (C, T, N) ∧ k < N ∧ (∀ w ∈ u_ws C T N, w ∈ jTs) ∧ (Cond.fieldLink own idx (T k).1 (T k).2.1 (T k).2.2.1 ∈ jTs ∨ ∃ host, Cond.fieldLinkNest own idx (T k).1 (T k).2.1 (T k).2.2.1 host ∈ jNs)
/-- ... and what may be stored in it -/
def jP (ci k : Nat) (fin : Bool) (ty : FieldType) : Prop := ∃ (C : String) (T : u_T) (N : Nat) (ty0 : Nat → FieldType), jCl[ci]? = some (C, T, N) ∧ (∀ k, k < N → parseFieldDescriptor (T k).2.2.1 = some (ty0 k)) ∧ (∀ a, a < N → ∀ b, b < N → a ≠ b → (T a).2.1 ≠ (T b).2.1) ∧ (T k).2.2.2 = fin ∧ parseFieldDescriptor (T k).2.2.1 = some ty ∧ (T k).1 = C
section JH
variable {K : jM} {n0 : Nat} {Q : Option Value → jW → Prop} {pc : Nat} {L : List (Option Value)} {st : List Value} {A : jW} {cells slots : Nat}
theorem J.getfield {i ci k r : Nat} {fs : List Value} {v : Value} (d : decode K.2.1 pc = .ok (.getfield i, 3)) (hF : jF K.1 i ci k) (hA : A[r]? = some (.inr (ci, fs))) (hv : fs[k]? = some v)
    (k9 : J K n0 Q (pc + 3) L (v :: st) A cells slots) : J K n0 Q pc L (.ref r :: st) A cells slots := by
  intro l p e s m args below meth c dC dI cy A0 ad0 ad H locs ls hX
  obtain ⟨C, T, N, h1, h2, h3, h4⟩ := hF
  have hv' : (fs.map (jg ad))[k]? = some (jg ad v) := by simp [hv]
  rcases h4 with h4 | ⟨host, h4⟩
  · exact va_get hX.1.1 hX.1.2.1 hX.1.2.2.2.2.2.1 h3 hX.1.2.2.2.2.1 hX.1.2.2.2.2.2.2.2.2.1.2.1 hX.2.2.2.1 r (jgW_get hA) h1 k h2 (hX.1.2.2.2.2.2.1 _ h4) (fun _ h => h) hv' d (k9 l p e s m args below meth c dC dI cy A0 ad0 ad H locs ls hX)
  · exact va_getN hX.1.1 hX.1.2.1 hX.1.2.2.2.2.2.1 h3 hX.1.2.2.2.2.1 hX.1.2.2.2.2.2.2.2.2.1.2.1 hX.2.2.2.1 r (jgW_get hA) h1 k h2 (va_Nw.use rfl (hX.1.2.2.2.2.2.2.2.2.1.1 _ h4)) (fun _ h => h) hv' d (k9 l p e s m args below meth c dC dI cy A0 ad0 ad H locs ls hX)
theorem J.putfield {i ci k r : Nat} {ty : FieldType} {fs : List Value} {v : Value} (d : decode K.2.1 pc = .ok (.putfield i, 3)) (hF : jF K.1 i ci k) (hG : jP ci k false ty) (hA : A[r]? = some (.inr (ci, fs))) (hn : narrow ty v = v) (hfit : fits ty v = true) (hl : k < fs.length)
    (k9 : J K n0 Q (pc + 3) L st (A.set r (.inr (ci, fs.set k v))) cells slots) : J K n0 Q pc L (v :: .ref r :: st) A cells slots := by
  intro l p e s m args below meth c dC dI cy A0 ad0 ad H locs ls hX
  obtain ⟨C, T, N, h1, h2, h3, h4⟩ := hF
  obtain ⟨C', T', N', ty0, g1, g2, g3, g4, g5, g6⟩ := hG
  have e8 : (C', T', N') = (C, T, N) := Option.some.inj (g1.symm.trans h1)
  cases e8
  have hz : (A.set r (Sum.inr (ci, fs.set k v) : jE)).length = A.length := by simp
  have go : ∀ (H1 : Heap) (locs1 : List Loc), va_P (dC, dI) jCl ((jgW cy ad A).set r (ad r, .inr (ci, (fs.map (jg ad)).set k (jg ad v)))) H1 → va_D A0 ((jgW cy ad A).set r (ad r, .inr (ci, (fs.map (jg ad)).set k (jg ad v)))) → va_S A0 s.heap H1 locs1 → W p l e K.2.2.2.2.2 s m args below meth c H1 locs1 cells slots (MQ below (jQ Q dC dI cy A0 n0 ad0) args s K.2.2.2.2.2.cells K.2.2.2.2.2.slots A0) (F0 m (pc + 3) ls (st.map (jg ad))) := by
    intro H1 locs1 a1 a2 a3
    have e9 : (jgW cy ad A).set r (ad r, .inr (ci, (fs.map (jg ad)).set k (jg ad v))) = jgW cy ad (A.set r (.inr (ci, fs.set k v))) := by
      rw [← jgW_set]
      simp only [jgE, List.map_set]
    rw [e9] at a1 a2
    exact k9 l p e s m args below meth c dC dI cy A0 ad0 ad H1 locs1 ls (hX.wor hz a1 a2 a3)
  rcases h4 with h4 | ⟨host, h4⟩
  · exact va_put hX.1.1 hX.1.2.1 hX.1.2.2.2.2.2.1 h3 ty0 g2 g3 hX.1.2.2.2.2.1 hX.1.2.2.2.2.2.2.2.2.1.2.1 hX.2.2.2.1 hX.2.2.2.2.1 hX.2.2.2.2.2.1 r (jgW_get hA) h1 k h2 (hX.1.2.2.2.2.2.1 _ h4) (fun _ h => h) g4 g5 (jg_narrow ad hn) (jg_fits ad hfit) (by simpa using hl) d go
  · exact va_putN hX.1.1 hX.1.2.1 hX.1.2.2.2.2.2.1 h3 ty0 g2 g3 hX.1.2.2.2.2.1 hX.1.2.2.2.2.2.2.2.2.1.2.1 hX.2.2.2.1 hX.2.2.2.2.1 hX.2.2.2.2.2.1 r (jgW_get hA) h1 k h2 (va_Nw.use rfl (hX.1.2.2.2.2.2.2.2.2.1.1 _ h4)) (fun _ h => h) g4 g5 (jg_narrow ad hn) (jg_fits ad hfit) (by simpa using hl) d go
theorem J.putfieldF {i ci k r : Nat} {ty : FieldType} {fs : List Value} {v : Value} (d : decode K.2.1 pc = .ok (.putfield i, 3)) (hF : jF K.1 i ci k) (hG : jP ci k true ty) (hI : K.2.2.2.1.name = "<init>") (hc : jCl[ci]?.map (fun q => q.1) = some K.1) (hno : ∀ host, ∀ C n e, Cond.fieldLinkNest K.1 i C n e host ∉ jNs) (hA : A[r]? = some (.inr (ci, fs))) (hn : narrow ty v = v) (hfit : fits ty v = true) (hl : k < fs.length)
    (k9 : J K n0 Q (pc + 3) L st (A.set r (.inr (ci, fs.set k v))) cells slots) : J K n0 Q pc L (v :: .ref r :: st) A cells slots := by
  intro l p e s m args below meth c dC dI cy A0 ad0 ad H locs ls hX
  obtain ⟨C, T, N, h1, h2, h3, h4⟩ := hF
  obtain ⟨C', T', N', ty0, g1, g2, g3, g4, g5, g6⟩ := hG
  have e8 : (C', T', N') = (C, T, N) := Option.some.inj (g1.symm.trans h1)
  cases e8
  have hC : C = K.1 := by rw [h1] at hc; exact Option.some.inj hc
  have hz : (A.set r (Sum.inr (ci, fs.set k v) : jE)).length = A.length := by simp
  have go : ∀ (H1 : Heap) (locs1 : List Loc), va_P (dC, dI) jCl ((jgW cy ad A).set r (ad r, .inr (ci, (fs.map (jg ad)).set k (jg ad v)))) H1 → va_D A0 ((jgW cy ad A).set r (ad r, .inr (ci, (fs.map (jg ad)).set k (jg ad v)))) → va_S A0 s.heap H1 locs1 → W p l e K.2.2.2.2.2 s m args below meth c H1 locs1 cells slots (MQ below (jQ Q dC dI cy A0 n0 ad0) args s K.2.2.2.2.2.cells K.2.2.2.2.2.slots A0) (F0 m (pc + 3) ls (st.map (jg ad))) := by
    intro H1 locs1 a1 a2 a3
    have e9 : (jgW cy ad A).set r (ad r, .inr (ci, (fs.map (jg ad)).set k (jg ad v))) = jgW cy ad (A.set r (.inr (ci, fs.set k v))) := by
      rw [← jgW_set]
      simp only [jgE, List.map_set]
    rw [e9] at a1 a2
    exact k9 l p e s m args below meth c dC dI cy A0 ad0 ad H1 locs1 ls (hX.wor hz a1 a2 a3)
  rcases h4 with h4 | ⟨host, h4⟩
  · exact va_putF hX.1.1 hX.1.2.1 hX.1.2.2.2.2.2.1 h3 ty0 g2 g3 hX.1.2.2.2.2.1 hX.1.2.2.2.2.2.2.2.2.1.2.1 hX.2.2.2.1 hX.2.2.2.2.1 hX.2.2.2.2.2.1 r (jgW_get hA) h1 k h2 (hX.1.2.2.2.2.2.1 _ h4) (fun _ h => h) g4 (by rw [hX.1.2.2.2.2.2.2.2.1]; exact hI) (by rw [g6]; exact hC) g5 (jg_narrow ad hn) (jg_fits ad hfit) (by simpa using hl) d go
  · exact absurd h4 (hno _ _ _ _)
theorem J.iaload {r n : Nat} {f : Nat → Int32} {i : Int32} (d : decode K.2.1 pc = .ok (.iaload, 1)) (hA : A[r]? = some (.inl (0, n, .inl f))) (hin : vp_in i n)
    (k9 : J K n0 Q (pc + 1) L (.int (f i.toNatClampNeg) :: st) A cells slots) : J K n0 Q pc L (.int i :: .ref r :: st) A cells slots := by
  intro l p e s m args below meth c dC dI cy A0 ad0 ad H locs ls hX
  exact va_iald hX.1.1 hX.1.2.1 hX.1.2.2.2.2.2.2.2.2.1.2.1 hX.2.2.2.1 r 0 (jgW_get hA) rfl hin d (k9 l p e s m args below meth c dC dI cy A0 ad0 ad H locs ls hX)
theorem J.baload {r n : Nat} {f : Nat → Int32} {i : Int32} (d : decode K.2.1 pc = .ok (.baload, 1)) (hA : A[r]? = some (.inl (2, n, .inl f))) (hin : vp_in i n)
    (k9 : J K n0 Q (pc + 1) L (.int (f i.toNatClampNeg) :: st) A cells slots) : J K n0 Q pc L (.int i :: .ref r :: st) A cells slots := by
  intro l p e s m args below meth c dC dI cy A0 ad0 ad H locs ls hX
  exact va_bald hX.1.1 hX.1.2.1 hX.1.2.2.2.2.2.2.2.2.1.2.1 hX.2.2.2.1 r 2 (jgW_get hA) rfl hin d (k9 l p e s m args below meth c dC dI cy A0 ad0 ad H locs ls hX)
theorem J.zaload {r n : Nat} {f : Nat → Int32} {i : Int32} (d : decode K.2.1 pc = .ok (.baload, 1)) (hA : A[r]? = some (.inl (3, n, .inl f))) (hin : vp_in i n)
    (k9 : J K n0 Q (pc + 1) L (.int (f i.toNatClampNeg) :: st) A cells slots) : J K n0 Q pc L (.int i :: .ref r :: st) A cells slots := by
  intro l p e s m args below meth c dC dI cy A0 ad0 ad H locs ls hX
  exact va_zald hX.1.1 hX.1.2.1 hX.1.2.2.2.2.2.2.2.2.1.2.1 hX.2.2.2.1 r 3 (jgW_get hA) rfl hin d (k9 l p e s m args below meth c dC dI cy A0 ad0 ad H locs ls hX)
theorem J.laload {r n : Nat} {f : Nat → Int64} {i : Int32} (d : decode K.2.1 pc = .ok (.laload, 1)) (hA : A[r]? = some (.inl (1, n, .inr (.inl f)))) (hin : vp_in i n)
    (k9 : J K n0 Q (pc + 1) L (.long (f i.toNatClampNeg) :: st) A cells slots) : J K n0 Q pc L (.int i :: .ref r :: st) A cells slots := by
  intro l p e s m args below meth c dC dI cy A0 ad0 ad H locs ls hX
  exact va_lald hX.1.1 hX.1.2.1 hX.1.2.2.2.2.2.2.2.2.1.2.1 hX.2.2.2.1 r 1 (jgW_get hA) rfl hin d (k9 l p e s m args below meth c dC dI cy A0 ad0 ad H locs ls hX)
theorem J.aaload4 {r n q : Nat} {f : Nat → Option Nat} {i : Int32} (d : decode K.2.1 pc = .ok (.aaload, 1)) (hA : A[r]? = some (.inl (4, n, .inr (.inr (.inr (.inr f)))))) (hin : vp_in i n) (hq : f i.toNatClampNeg = some q)
    (k9 : J K n0 Q (pc + 1) L (.ref q :: st) A cells slots) : J K n0 Q pc L (.int i :: .ref r :: st) A cells slots := by
  intro l p e s m args below meth c dC dI cy A0 ad0 ad H locs ls hX
  refine va_aldq (C := RX2) hX.1.1 hX.1.2.1 hX.1.2.2.2.2.2.2.2.2.1.2.1 hX.2.2.2.1 r 4 (jgW_get hA) rfl hin d ?_
  rw [hq]
  exact k9 l p e s m args below meth c dC dI cy A0 ad0 ad H locs ls hX
theorem J.aaload5 {r n q : Nat} {f : Nat → Option Nat} {i : Int32} (d : decode K.2.1 pc = .ok (.aaload, 1)) (hA : A[r]? = some (.inl (5, n, .inr (.inr (.inr (.inr f)))))) (hin : vp_in i n) (hq : f i.toNatClampNeg = some q)
    (k9 : J K n0 Q (pc + 1) L (.ref q :: st) A cells slots) : J K n0 Q pc L (.int i :: .ref r :: st) A cells slots := by
  intro l p e s m args below meth c dC dI cy A0 ad0 ad H locs ls hX
  refine va_aldq (C := RX4) hX.1.1 hX.1.2.1 hX.1.2.2.2.2.2.2.2.2.1.2.1 hX.2.2.2.1 r 5 (jgW_get hA) rfl hin d ?_
  rw [hq]
  exact k9 l p e s m args below meth c dC dI cy A0 ad0 ad H locs ls hX
theorem J.iastore {r n : Nat} {f : Nat → Int32} {i : Int32} {x : Int32} (d : decode K.2.1 pc = .ok (.iastore, 1)) (hA : A[r]? = some (.inl (0, n, .inl f))) (hin : vp_in i n)
    (k9 : J K n0 Q (pc + 1) L st (A.set r (.inl (0, n, .inl (upd f i.toNatClampNeg x)))) cells slots) : J K n0 Q pc L (.int x :: .int i :: .ref r :: st) A cells slots := by
  intro l p e s m args below meth c dC dI cy A0 ad0 ad H locs ls hX
  have hz : (A.set r (Sum.inl (0, n, .inl (upd f i.toNatClampNeg x)) : jE)).length = A.length := by simp
  refine va_iast hX.1.1 hX.1.2.1 hX.1.2.2.2.2.2.2.2.2.1.2.1 hX.2.2.2.1 hX.2.2.2.2.1 hX.2.2.2.2.2.1 r 0 (jgW_get hA) rfl hin d (fun H1 locs1 a1 a2 a3 => ?_)
  have e9 : (jgW cy ad A).set r (ad r, .inl (cy 0, n, .inl (upd f i.toNatClampNeg x))) = jgW cy ad (A.set r (.inl (0, n, .inl (upd f i.toNatClampNeg x)))) := by
    rw [← jgW_set]
    rfl
  rw [e9] at a1 a2
  exact k9 l p e s m args below meth c dC dI cy A0 ad0 ad H1 locs1 ls (hX.wor hz a1 a2 a3)
theorem J.bastore {r n : Nat} {f : Nat → Int32} {i : Int32} {x : Int32} (d : decode K.2.1 pc = .ok (.bastore, 1)) (hA : A[r]? = some (.inl (2, n, .inl f))) (hin : vp_in i n)
    (k9 : J K n0 Q (pc + 1) L st (A.set r (.inl (2, n, .inl (upd f i.toNatClampNeg (vp_nar .byte x))))) cells slots) : J K n0 Q pc L (.int x :: .int i :: .ref r :: st) A cells slots := by
  intro l p e s m args below meth c dC dI cy A0 ad0 ad H locs ls hX
  have hz : (A.set r (Sum.inl (2, n, .inl (upd f i.toNatClampNeg (vp_nar .byte x))) : jE)).length = A.length := by simp
  refine va_bast hX.1.1 hX.1.2.1 hX.1.2.2.2.2.2.2.2.2.1.2.1 hX.2.2.2.1 hX.2.2.2.2.1 hX.2.2.2.2.2.1 r 2 (jgW_get hA) rfl hin d (fun H1 locs1 a1 a2 a3 => ?_)
  have e9 : (jgW cy ad A).set r (ad r, .inl (cy 2, n, .inl (upd f i.toNatClampNeg (vp_nar .byte x)))) = jgW cy ad (A.set r (.inl (2, n, .inl (upd f i.toNatClampNeg (vp_nar .byte x))))) := by
    rw [← jgW_set]
    rfl
  rw [e9] at a1 a2
  exact k9 l p e s m args below meth c dC dI cy A0 ad0 ad H1 locs1 ls (hX.wor hz a1 a2 a3)
theorem J.zastore {r n : Nat} {f : Nat → Int32} {i : Int32} {x : Int32} (d : decode K.2.1 pc = .ok (.bastore, 1)) (hA : A[r]? = some (.inl (3, n, .inl f))) (hin : vp_in i n)
    (k9 : J K n0 Q (pc + 1) L st (A.set r (.inl (3, n, .inl (upd f i.toNatClampNeg (vp_nar .boolean x))))) cells slots) : J K n0 Q pc L (.int x :: .int i :: .ref r :: st) A cells slots := by
  intro l p e s m args below meth c dC dI cy A0 ad0 ad H locs ls hX
  have hz : (A.set r (Sum.inl (3, n, .inl (upd f i.toNatClampNeg (vp_nar .boolean x))) : jE)).length = A.length := by simp
  refine va_zast hX.1.1 hX.1.2.1 hX.1.2.2.2.2.2.2.2.2.1.2.1 hX.2.2.2.1 hX.2.2.2.2.1 hX.2.2.2.2.2.1 r 3 (jgW_get hA) rfl hin d (fun H1 locs1 a1 a2 a3 => ?_)
  have e9 : (jgW cy ad A).set r (ad r, .inl (cy 3, n, .inl (upd f i.toNatClampNeg (vp_nar .boolean x)))) = jgW cy ad (A.set r (.inl (3, n, .inl (upd f i.toNatClampNeg (vp_nar .boolean x))))) := by
    rw [← jgW_set]
    rfl
  rw [e9] at a1 a2
  exact k9 l p e s m args below meth c dC dI cy A0 ad0 ad H1 locs1 ls (hX.wor hz a1 a2 a3)
theorem J.lastore {r n : Nat} {f : Nat → Int64} {i : Int32} {x : Int64} (d : decode K.2.1 pc = .ok (.lastore, 1)) (hA : A[r]? = some (.inl (1, n, .inr (.inl f)))) (hin : vp_in i n)
    (k9 : J K n0 Q (pc + 1) L st (A.set r (.inl (1, n, .inr (.inl (vp_updL f i.toNatClampNeg x))))) cells slots) : J K n0 Q pc L (.long x :: .int i :: .ref r :: st) A cells slots := by
  intro l p e s m args below meth c dC dI cy A0 ad0 ad H locs ls hX
  have hz : (A.set r (Sum.inl (1, n, .inr (.inl (vp_updL f i.toNatClampNeg x))) : jE)).length = A.length := by simp
  refine va_last hX.1.1 hX.1.2.1 hX.1.2.2.2.2.2.2.2.2.1.2.1 hX.2.2.2.1 hX.2.2.2.2.1 hX.2.2.2.2.2.1 r 1 (jgW_get hA) rfl hin d (fun H1 locs1 a1 a2 a3 => ?_)
  have e9 : (jgW cy ad A).set r (ad r, .inl (cy 1, n, .inr (.inl (vp_updL f i.toNatClampNeg x)))) = jgW cy ad (A.set r (.inl (1, n, .inr (.inl (vp_updL f i.toNatClampNeg x))))) := by
    rw [← jgW_set]
    rfl
  rw [e9] at a1 a2
  exact k9 l p e s m args below meth c dC dI cy A0 ad0 ad H1 locs1 ls (hX.wor hz a1 a2 a3)
theorem J.arraylength {r t : Nat} {x : vp_A} (d : decode K.2.1 pc = .ok (.arraylength, 1)) (hA : A[r]? = some (.inl (t, x))) (ht : t < 6)
    (k9 : J K n0 Q (pc + 1) L (.int (Int32.ofNat x.1) :: st) A cells slots) : J K n0 Q pc L (.ref r :: st) A cells slots := by
  intro l p e s m args below meth c dC dI cy A0 ad0 ad H locs ls hX
  have h1 : ∃ ty, (jTys cy)[t]? = some (cy t, ty) := by
    match t, ht with
    | 0, _ => exact ⟨_, rfl⟩
    | 1, _ => exact ⟨_, rfl⟩
    | 2, _ => exact ⟨_, rfl⟩
    | 3, _ => exact ⟨_, rfl⟩
    | 4, _ => exact ⟨_, rfl⟩
    | 5, _ => exact ⟨_, rfl⟩
  obtain ⟨ty, h1⟩ := h1
  exact va_alen hX.1.1 hX.1.2.1 hX.1.2.2.2.2.2.2.2.2.1.2.1 hX.2.2.2.1 r t (jgW_get hA) h1 rfl d (k9 l p e s m args below meth c dC dI cy A0 ad0 ad H locs ls hX)
theorem J.iret {ty : FieldType} {v : Int32} (d : decode K.2.1 pc = .ok (.ireturn, 1)) (hr : K.2.2.2.2.1 = some ty) (hn : narrow ty (.int v) = .int v) (hc : cells ≤ K.2.2.2.2.2.cells) (hs : slots ≤ K.2.2.2.2.2.slots) (hQ : Q (some (.int v)) A) : J K n0 Q pc L [.int v] A cells slots := by
  intro l p e s m args below meth c dC dI cy A0 ad0 ad H locs ls hX
  refine W.widen hc hs ?_
  exact W.zret hX.1.1 hX.1.2.1 (hX.1.2.2.1.trans hr) hn (fun t ht hW => ⟨⟨some (.int v), A, ad, rfl, hQ, hX.2.1, by rw [ht]; exact hX.2.2.2.1, hX.2.2.2.2.1⟩, hX.2.2.2.2.2.1.F ht⟩) hX.2.2.2.2.2.1.2.2 d hX.1.2.2.2.2.2.2.1
theorem J.lret {v : Int64} (d : decode K.2.1 pc = .ok (.lreturn, 1)) (hr : K.2.2.2.2.1 = some .long) (hc : cells ≤ K.2.2.2.2.2.cells) (hs : slots ≤ K.2.2.2.2.2.slots) (hQ : Q (some (.long v)) A) : J K n0 Q pc L [.long v] A cells slots := by
  intro l p e s m args below meth c dC dI cy A0 ad0 ad H locs ls hX
  refine W.widen hc hs ?_
  exact W.lret hX.1.1 hX.1.2.1 (hX.1.2.2.1.trans hr) (fun t ht hW => ⟨⟨some (.long v), A, ad, rfl, hQ, hX.2.1, by rw [ht]; exact hX.2.2.2.1, hX.2.2.2.2.1⟩, hX.2.2.2.2.2.1.F ht⟩) hX.2.2.2.2.2.1.2.2 d hX.1.2.2.2.2.2.2.1
theorem J.vret (d : decode K.2.1 pc = .ok (.return_, 1)) (hr : K.2.2.2.2.1 = none) (hc : cells ≤ K.2.2.2.2.2.cells) (hs : slots ≤ K.2.2.2.2.2.slots) (hQ : Q none A) : J K n0 Q pc L [] A cells slots := by
  intro l p e s m args below meth c dC dI cy A0 ad0 ad H locs ls hX
  refine W.widen hc hs ?_
  exact W.vret hX.1.1 hX.1.2.1 (hX.1.2.2.1.trans hr) (fun t ht hW => ⟨⟨none, A, ad, rfl, hQ, hX.2.1, by rw [ht]; exact hX.2.2.2.1, hX.2.2.2.2.1⟩, hX.2.2.2.2.2.1.F ht⟩) hX.2.2.2.2.2.1.2.2 d hX.1.2.2.2.2.2.2.1
end JH
/-! ===== calls ===== -/
def jent (n : Nat) (as : List Value) : List (Option Value) := (as.flatMap fun v => if v.category = 2 then [some v, none] else [some v]) ++ List.replicate (n - (as.flatMap fun v => if v.category = 2 then [some v, none] else [some v]).length) none
theorem jent_len (ad : Nat → Nat) (as : List Value) : (lg_sl (as.map (jg ad))).length = (as.flatMap fun v => if v.category = 2 then [some v, none] else [some v]).length := by
  induction as with
  | nil => rfl
  | cons v as ih =>
    simp only [lg_sl, List.map_cons, List.flatMap_cons, List.length_append] at ih ⊢
    rw [ih, jg_cat]
    by_cases h : v.category = 2 <;> simp [h]
theorem jent_at (ad : Nat → Nat) (as : List Value) : ∀ (i : Nat) (v : Value), (as.flatMap fun v => if v.category = 2 then [some v, none] else [some v])[i]? = some (some v) → (lg_sl (as.map (jg ad)))[i]? = some (.val (jg ad v)) := by
  induction as with
  | nil => intro i v h; simp at h
  | cons u as ih =>
    intro i v h
    simp only [lg_sl, List.map_cons, List.flatMap_cons] at ih h ⊢
    by_cases hc : u.category = 2
    · rw [if_pos hc] at h
      rw [if_pos ((jg_cat ad u).trans hc)]
      match i, h with
      | 0, h => cases h; rfl
      | 1, h => cases h
      | i + 2, h => exact ih i v h
    · rw [if_neg hc] at h
      rw [if_neg (fun q => hc ((jg_cat ad u).symm.trans q))]
      match i, h with
      | 0, h => cases h; rfl
      | i + 1, h => exact ih i v h
theorem jent_ok (ad : Nat → Nat) {n : Nat} {as : List Value} {L0 : List (Option Value)} (h : jent n as = L0) (hl : L0.length = n) : jL ad ((lg_sl (as.map (jg ad)) ++ List.replicate (n - (lg_sl (as.map (jg ad))).length) Slot.unset).toArray) n L0 := by
  have hle : (lg_sl (as.map (jg ad))).length ≤ n := by
    rw [jent_len, ← hl, ← h]
    simp [jent]
  obtain ⟨h1, h2, -⟩ := lv_entry (as.map (jg ad)) hle
  refine ⟨h1, h2, fun i v hv => ?_⟩
  rw [← h, jent] at hv
  by_cases hi : i < (as.flatMap fun v => if v.category = 2 then [some v, none] else [some v]).length
  · rw [List.getElem?_append_left hi] at hv
    simp only [List.getElem?_toArray]
    rw [List.getElem?_append_left (by rw [jent_len]; exact hi)]
    exact jent_at ad as i v hv
  · rw [List.getElem?_append_right (by omega)] at hv
    have := List.eq_of_mem_replicate (List.mem_of_getElem? hv)
    cases this
/-- a method that the tables know -/
def jmOK (K : jM) : Prop := K.1 = K.2.2.2.1.cls ∧ plainName K.2.2.2.1.cls = true ∧ Cond.code K.2.2.2.1 K.2.1 K.2.2.1 K.2.2.2.2.1 ∈ jTs ∧ Cond.initialized K.2.2.2.1.cls ∈ jTs ∧ K.2.2.2.1.cls ≠ "java/lang/invoke/MethodHandle" ∧ K.2.2.2.1.cls ≠ "java/lang/invoke/VarHandle"
abbrev jPc (dC : Nat → ClassId) (dI : Nat → Nat → Nat) (cy : Nat → ClassId) (ad : Nat → Nat) (sz : Nat) (B : jW) (as : List Value) : Array Value → State → Prop := va_Pc (as.map (jg ad)) (fun U => U.heap.size = sz ∧ va_P (dC, dI) jCl (jgW cy ad B) U.heap ∧ jU dC dI cy U ∧ va_D (fun _ => True) (jgW cy ad B) ∧ jS ad (va_A (jgW cy ad B) sz) U U.heap)
theorem J.met {K : jM} {Q : Option Value → jW → Prop} {as : List Value} {B : jW} {L0 : List (Option Value)} (hm : jmOK K) (hJ : J K B.length Q 0 L0 [] B 0 0) (hL : jent K.2.2.1 as = L0) (hl : L0.length = K.2.2.1) (l : Launch) (dC : Nat → ClassId) (dI : Nat → Nat → Nat) (cy : Nat → ClassId) (ad : Nat → Nat) (sz : Nat) :
    Met l K.2.2.2.1 (Cond.code K.2.2.2.1 K.2.1 K.2.2.1 K.2.2.2.2.1 :: jTs) K.2.2.2.2.2 (jPc dC dI cy ad sz B as) (jQ Q dC dI cy (va_A (jgW cy ad B) sz) B.length ad) K.2.2.2.2.2.cells K.2.2.2.2.2.slots (va_A (jgW cy ad B) sz) := by
  refine Met.ofW (cc := K.2.1) (maxL := K.2.2.1) (ret := K.2.2.2.2.1) hm.2.1 rfl ?_
  intro p e s m args below meth c s₁ B' hml hv
  obtain ⟨rfl, hsz, hP, hU, hD0, hSt⟩ := hv
  have hts := atoms_spec (ws := Cond.code K.2.2.2.1 K.2.1 K.2.2.1 K.2.2.2.2.1 :: jTs) B'.pre
  have hown : s.vm.findClass K.2.2.2.1.cls = some m.cls := findClass_of_methodNamed B'.named
  have hin : meth.name = K.2.2.2.1.name := (name_of_methodNamed B'.named B'.method).1
  subst hsz
  rw [lg_entry_eq]
  exact hJ l p e s m _ below meth c dC dI cy (va_A (jgW cy ad B) s.heap.size) ad ad s.heap [] _ ⟨⟨B'.exec, B'.bytes, B'.returns, hml, by rw [hm.1]; exact hown, fun w hw => hts w (List.mem_cons_of_mem _ hw), B'.notSynchronized, hin, hU, hSt⟩, fun _ _ => rfl, fun q h => Or.inr h, hP, hD0.self, va_S.rf, jent_ok ad hL hl⟩
def jr (is : List Nat) (k : Nat) : Nat := if 1000 ≤ k then k else is.getD k 0
def jput (A : jW) (is : List Nat) (xs : jW) : jW := match is, xs with
  | i :: is, x :: xs => jput (A.set i x) is xs
  | _, _ => A
theorem jput_len : ∀ (is : List Nat) (A xs : jW), (jput A is xs).length = A.length
  | [], A, xs => by simp [jput]
  | i :: is, A, [] => by simp [jput]
  | i :: is, A, x :: xs => by simp only [jput]; rw [jput_len is (A.set i x) xs]; simp
theorem jput_ne : ∀ (is : List Nat) (A xs : jW) (k : Nat), k ∉ is → (jput A is xs)[k]? = A[k]?
  | [], A, xs, k, _ => by simp [jput]
  | i :: is, A, [], k, _ => by simp [jput]
  | i :: is, A, x :: xs, k, h => by
    simp only [jput]
    rw [jput_ne is (A.set i x) xs k (fun q => h (List.mem_cons_of_mem _ q)), List.getElem?_set_ne (fun q => h (by rw [q]; exact List.mem_cons_self))]
theorem jput_at : ∀ (is : List Nat) (A xs : jW) (j k : Nat), va_nd is = true → is[j]? = some k → k < A.length → j < xs.length → (jput A is xs)[k]? = xs[j]?
  | [], A, xs, j, k, _, h, _, _ => by simp at h
  | i :: is, A, [], j, k, _, _, _, h => by simp at h
  | i :: is, A, x :: xs, j, k, hn, h, hk, hj => by
    simp only [va_nd, Bool.and_eq_true, decide_eq_true_eq] at hn
    simp only [jput]
    cases j with
    | zero =>
      simp only [List.getElem?_cons_zero, Option.some.injEq] at h
      subst h
      rw [jput_ne is _ xs i hn.1, List.getElem?_set_self hk]
      rfl
    | succ j =>
      rw [List.getElem?_cons_succ] at h ⊢
      exact jput_at is (A.set i x) xs j k hn.2 h (by simpa using hk) (by simpa using hj)
section JC
variable {p : Program} {l : Launch} {e : Env} {s : State} {m : MethodId} {args : Array Value} {below : List Frame} {meth : Method} {c : Code} {dC : Nat → ClassId} {dI : Nat → Nat → Nat} {cy : Nat → ClassId} {A0 : Nat → Prop} {ad0 ad : Nat → Nat} {H : Heap} {locs : List Loc} {ls : Array Slot}
variable {K K' : jM} {n0 : Nat} {Q Q' : Option Value → jW → Prop} {pc : Nat} {L : List (Option Value)} {st rest as : List Value} {A B : jW} {cells slots : Nat} {is : List Nat}
theorem jcells (hB : is.map (fun i => A[i]?) = B.map (fun b => some (jrE (jr is) b))) (hl : B.length < 1000) {j : Nat} {b : jE} (hb : B[j]? = some b) : ∃ i, is[j]? = some i ∧ jr is j = i ∧ A[i]? = some (jrE (jr is) b) := by
  have h1 : (is.map (fun i => A[i]?))[j]? = some (some (jrE (jr is) b)) := by rw [hB, List.getElem?_map, hb]; rfl
  rw [List.getElem?_map] at h1
  have hj : j < B.length := (List.getElem?_eq_some_iff.mp hb).1
  cases hi : is[j]? with
  | none => rw [hi] at h1; cases h1
  | some i =>
    rw [hi] at h1
    refine ⟨i, rfl, ?_, Option.some.inj h1⟩
    simp only [jr]
    rw [if_neg (by omega), List.getD_eq_getElem?_getD, hi]
    rfl
theorem jsub (hB : is.map (fun i => A[i]?) = B.map (fun b => some (jrE (jr is) b))) (hl : B.length < 1000) : is.map (fun i => (jgW cy ad A)[i]?) = (jgW cy (fun k => ad (jr is k)) B).map some := by
  have hlen : is.length = B.length := by have := congrArg List.length hB; simpa using this
  apply List.ext_getElem?
  intro j
  by_cases hj : j < B.length
  · obtain ⟨i, h1, h2, h3⟩ := jcells hB hl (List.getElem?_eq_getElem hj)
    rw [List.getElem?_map, h1, List.getElem?_map, jgW_get (List.getElem?_eq_getElem hj)]
    simp only [Option.map_some]
    rw [jgW_get h3, jgE_comp cy ad (jr is) B[j], h2]
  · rw [List.getElem?_eq_none (by simp; omega), List.getElem?_eq_none (by simp [jgW_len]; omega)]
theorem jfree (hX : jX K n0 p s m args meth c dC dI cy A0 ad0 ad H locs ls L A) (hB : is.map (fun i => A[i]?) = B.map (fun b => some (jrE (jr is) b))) (hl : B.length < 1000) : ∀ q, va_A (jgW cy (fun k => ad (jr is k)) B) H.size q → A0 q :=
  va_free hX.2.2.2.2.1 hX.2.2.2.2.2.1 hX.2.2.1 is (jsub hB hl)
/-- what the callee needs at its start -/
theorem jpre (hX : jX K n0 p s m args meth c dC dI cy A0 ad0 ad H locs ls L A) (hB : is.map (fun i => A[i]?) = B.map (fun b => some (jrE (jr is) b))) (hl : B.length < 1000) (hnd : va_nd is = true) : FrameBlind (jPc dC dI cy (fun k => ad (jr is k)) H.size B as) ∧ ∀ U : State, U.heap = H → s.WarmedH U.vm → jPc dC dI cy (fun k => ad (jr is k)) H.size B as ((as.map (jg (fun k => ad (jr is k)))).toArray) U := by
  refine ⟨fun a U g mk q => ?_, fun U hU hW => ?_⟩
  · obtain ⟨q0, q1, q2, q3, q4, q5⟩ := q
    exact ⟨q0, q1, q2, q3.same rfl, q4, q5.same rfl⟩
  · have hs := jsub (cy := cy) (ad := ad) hB hl
    refine ⟨rfl, by rw [hU], ?_, hX.1.2.2.2.2.2.2.2.2.1.warm hW, ?_, ?_⟩
    · rw [hU]
      intro j q hq
      have h1 : (is.map (fun i => (jgW cy ad A)[i]?))[j]? = some (some q) := by rw [hs, List.getElem?_map, hq]; rfl
      rw [List.getElem?_map] at h1
      cases hi : is[j]? with
      | none => rw [hi] at h1; cases h1
      | some i => rw [hi] at h1; exact hX.2.2.2.1 i q (Option.some.inj h1)
    · exact (hX.2.2.2.2.1.sub is hnd hs).weaken (fun _ _ _ _ => trivial)
    · have h1 : jS (fun k => ad (jr is k)) A0 s s.heap := hX.1.2.2.2.2.2.2.2.2.2.ad (fun k hk => by simp only [jr]; rw [if_pos hk])
      rw [hU]
      exact h1.step hW (fun a h1 h2 => hX.2.2.2.2.2.1.2.1 a h1 h2) (jfree hX hB hl)
/-- behind a call that made no cell -/
theorem jback (hX : jX K n0 p s m args meth c dC dI cy A0 ad0 ad H locs ls L A) (hB : is.map (fun i => A[i]?) = B.map (fun b => some (jrE (jr is) b))) (hl : B.length < 1000) (hnd : va_nd is = true) {a : Array Value} {st0 : List Value}
    (hr : va_Run p l e K.2.2.2.2.2 s m args below meth c H locs cells slots 0 0 (F0 m pc ls st0) (rest.map (jg ad)) (jQ Q' dC dI cy (va_A (jgW cy (fun k => ad (jr is k)) B) H.size) B.length (fun k => ad (jr is k)) a) (va_A (jgW cy (fun k => ad (jr is k)) B) H.size))
    (kk : ∀ r B', Q' r B' → B'.length = B.length ∧ J K n0 Q (pc + 3) L ((r.map (jg (jr is))).toList ++ rest) (jput A is (B'.map (jrE (jr is)))) cells slots) :
    W p l e K.2.2.2.2.2 s m args below meth c H locs cells slots (MQ below (jQ Q dC dI cy A0 n0 ad0) args s K.2.2.2.2.2.cells K.2.2.2.2.2.slots A0) (F0 m pc ls st0) := by
  intro T hT X
  obtain ⟨v, st₀, t, T', L', h0, X', hL, e1, e2, ⟨⟨r, B', ad', hv, hq, hag, hP1, hD1⟩, hz, hk⟩, st9⟩ := hr T hT X
  cases hv
  obtain ⟨hlB, kJ⟩ := kk r B' hq
  have hA1 := jfree hX hB hl
  have hae : ad' = fun k => ad (jr is k) := funext fun k => hag k (by omega)
  subst hae
  rw [h0] at hz hk
  have hP := hX.2.2.2.1
  have hD := hX.2.2.2.2.1
  have hS := hX.2.2.2.2.2.1
  have hlen : is.length = B.length := by have := congrArg List.length hB; simpa using this
  have hlt : ∀ i ∈ is, i < A.length := by
    intro i hi
    obtain ⟨j, hj, rfl⟩ := List.getElem_of_mem hi
    obtain ⟨i', a1, -, a3⟩ := jcells hB hl (List.getElem?_eq_getElem (show j < B.length by omega))
    rw [List.getElem?_eq_getElem hj] at a1
    cases a1
    exact (List.getElem?_eq_some_iff.mp a3).1
  have hPn : va_P (dC, dI) jCl (jgW cy ad (jput A is (B'.map (jrE (jr is))))) t.heap := by
    intro k q hq
    obtain ⟨x, hx, rfl⟩ := jgW_of hq
    by_cases hki : k ∈ is
    · obtain ⟨j, hj, rfl⟩ := List.getElem_of_mem hki
      have hj2 : is[j]? = some is[j] := List.getElem?_eq_getElem hj
      have hjB : j < B'.length := by omega
      rw [jput_at is A _ j is[j] hnd hj2 (hlt _ hki) (by simp; omega), List.getElem?_map, List.getElem?_eq_getElem hjB] at hx
      simp only [Option.map_some, Option.some.injEq] at hx
      have h3 := hP1 j _ (jgW_get (List.getElem?_eq_getElem hjB))
      obtain ⟨i', a1, a2, -⟩ := jcells hB hl (List.getElem?_eq_getElem (show j < B.length by omega))
      rw [hj2] at a1
      cases a1
      rw [a2, jgE_comp, hx] at h3
      exact h3
    · rw [jput_ne is A _ k hki] at hx
      have h3 := hP k _ (jgW_get hx)
      refine h3.kept (hk _ h3.lt (fun h => ?_))
      rcases h with ⟨j, e9, h⟩ | h
      · obtain ⟨b, hb, hb2⟩ := jgW_of h
        obtain ⟨i', a1, a2, a3⟩ := jcells hB hl hb
        have h4 : ad k = ad i' := by
          have := congrArg Prod.fst hb2
          simp only at this
          rw [← a2]
          exact this
        have h5 := hD.1 k i' _ _ (jgW_get hx) (jgW_get a3) h4
        exact hki (by rw [h5]; exact List.mem_of_getElem? a1)
      · have := h3.lt
        simp only at this h
        omega
  have hDn : va_D A0 (jgW cy ad (jput A is (B'.map (jrE (jr is))))) := by
    have key : ∀ (k : Nat) (q : Nat × va_E), (jgW cy ad (jput A is (B'.map (jrE (jr is)))))[k]? = some q → ∃ q', (jgW cy ad A)[k]? = some q' ∧ q'.1 = q.1 := by
      intro k q hq
      obtain ⟨x, hx, rfl⟩ := jgW_of hq
      have hk : k < A.length := by rw [← jput_len is A (B'.map (jrE (jr is)))]; exact (List.getElem?_eq_some_iff.mp hx).1
      exact ⟨_, jgW_get (List.getElem?_eq_getElem hk), rfl⟩
    refine ⟨fun i j x y hi hj hxy => ?_, fun k q hk => ?_⟩
    · obtain ⟨x', a1, a2⟩ := key i x hi
      obtain ⟨y', b1, b2⟩ := key j y hj
      exact hD.1 i j x' y' a1 b1 (by rw [a2, b2]; exact hxy)
    · obtain ⟨q', a1, a2⟩ := key k q hk
      rw [← a2]
      exact hD.2 k q' a1
  have hSn : va_S A0 s.heap T'.heap (locs ++ L') := ⟨Nat.le_trans hS.1 (by rw [e1]; exact hz), fun q h1 h2 => by rw [e1, hk q (Nat.lt_of_lt_of_le h1 hS.1) (fun z => h2 (hA1 q z))]; exact hS.2.1 q h1 h2, fun q hq => by
      rcases List.mem_append.mp hq with h | h
      · exact hS.2.2 q h
      · exact hA1 _ (hL q h)⟩
  rw [← e1] at hPn
  obtain ⟨t2, a1, b1⟩ := kJ l p e s m args below meth c dC dI cy A0 ad0 ad T'.heap (locs ++ L') ls (hX.wor (jput_len _ _ _) hPn hDn hSn) T' rfl X'
  refine ⟨t2, st9 t2 ?_, b1⟩
  have hst : (((r.map (jg (jr is))).toList ++ rest).map (jg ad)) = (r.map (jg (fun k => ad (jr is k)))).toList ++ rest.map (jg ad) := by
    cases r with
    | none => simp
    | some v => simp [jg_comp]
  rw [hst] at a1
  exact a1
theorem jgood (hm : jmOK K') : GoodIn jTs (Cond.code K'.2.2.2.1 K'.2.1 K'.2.2.1 K'.2.2.2.2.1 :: jTs) := by
  intro w hw
  rcases List.mem_cons.mp hw with rfl | hw
  · exact ⟨hm.2.2.1, good_of_word (List.mem_filter.mp hm.2.2.1).2⟩
  · exact ⟨hw, good_of_word (List.mem_filter.mp hw).2⟩
/-- the entry of a pool that means a method: of its own nest, or another's -/
def jLk (own : String) (idx : Nat) (y : MethodName) : Prop := Cond.methodLink own idx y ∈ jTs ∨ ∃ host, Cond.methodLinkNest own idx y host ∈ jNs
def jcS (own : String) (idx : Nat) (K' : jM) (n : Nat) : Prop := jLk own idx K'.2.2.2.1 ∧ Cond.static K'.2.2.2.1 ∈ jTs ∧ (parseMethodDescriptor K'.2.2.2.1.desc).map (fun d => d.parameters.length) = some n
def jcV (own : String) (idx : Nat) (K' : jM) (ci n : Nat) : Prop := jLk own idx K'.2.2.2.1 ∧ Cond.instanceMethod K'.2.2.2.1 ∈ jTs ∧ Cond.selects K'.2.2.2.1.cls K'.2.2.2.1 K'.2.2.2.1 ∈ jTs ∧ (parseMethodDescriptor K'.2.2.2.1.desc).map (fun d => d.parameters.length) = some n ∧ (jCl[ci]?).map (fun q => q.1) = some K'.2.2.2.1.cls
/-- the callee's room within the caller's; it makes no cell -/
def jroom (K K' : jM) : Bool := decide (K'.2.2.2.2.2.cells = 0 ∧ K'.2.2.2.2.2.slots = 0 ∧ K'.2.2.2.2.2.frames + 1 ≤ K.2.2.2.2.2.frames ∧ 8 + (K'.2.2.1 + 11) + K'.2.2.2.2.2.locals ≤ K.2.2.2.2.2.locals)
/-- a static method is called -/
theorem J.cs {i n1 : Nat} {L0 : List (Option Value)} (hm : jmOK K') (hc : jcS K.1 i K' as.length) (hJ : J K' n1 Q' 0 L0 [] B 0 0) (d : decode K.2.1 pc = .ok (.invokestatic i, 3)) (hn1 : B.length = n1)
    (hst : st = (as.map (jg (jr is))).reverse ++ rest) (hB : is.map (fun i => A[i]?) = B.map (fun b => some (jrE (jr is) b))) (hL : jent K'.2.2.1 as = L0) (hl0 : L0.length = K'.2.2.1)
    (hnum : (decide (B.length < 1000) && va_nd is && decide ((rest.map fun v => v.category).sum ≤ 8) && jroom K K' && decide (cells ≤ K.2.2.2.2.2.cells) && decide (slots ≤ K.2.2.2.2.2.slots)) = true)
    (kk : ∀ r B', Q' r B' → B'.length = B.length ∧ J K n0 Q (pc + 3) L ((r.map (jg (jr is))).toList ++ rest) (jput A is (B'.map (jrE (jr is)))) cells slots) : J K n0 Q pc L st A cells slots := by
  subst hn1
  intro l p e s m args below meth c dC dI cy A0 ad0 ad H locs ls hX
  simp only [jroom, Bool.and_eq_true, decide_eq_true_eq] at hnum
  obtain ⟨⟨⟨⟨⟨hl, hnd⟩, hcat⟩, hrc, hrs, hrf, hrl⟩, hce⟩, hsl⟩ := hnum
  obtain ⟨hlk, hstat, hpar⟩ := hc
  have hts := hX.1.2.2.2.2.2.1
  have hpre := jpre (as := as) hX hB hl hnd
  have hM := J.met hm hJ hL hl0 l dC dI cy (fun k => ad (jr is k)) H.size
  rw [hrc, hrs] at hM
  have hstk : (F0 m pc ls (st.map (jg ad))).stack = (as.map (jg (fun k => ad (jr is k)))).reverse ++ rest.map (jg ad) := by
    show st.map (jg ad) = _
    rw [hst, List.map_append, List.map_reverse, List.map_map]
    congr 2
    apply List.map_congr_left
    intro v _
    exact (jg_comp ad (jr is) v).symm
  have hcat2 : ((rest.map (jg ad)).map fun v => v.category).sum ≤ 8 := by
    rw [List.map_map]
    have : ((fun v => Value.category v) ∘ jg ad) = fun v => v.category := funext fun v => jg_cat ad v
    rw [this]
    exact hcat
  refine jback (a := (as.map (jg (fun k => ad (jr is k)))).toArray) hX hB hl hnd ?_ kk
  rcases hlk with hlk | ⟨host, hlk⟩
  · exact va_runS (own := K.1) (bytes := K'.2.1) (maxL := K'.2.2.1) (ret := K'.2.2.2.2.1) (n := as.length) ⟨hX.1.1, hX.1.2.1, hX.1.2.2.2.1, hX.1.2.2.2.2.1, hts⟩ hM ⟨callB_of as.length hts (jgood hm) rfl hrc hrs (hts _ hm.2.2.2.1) (hts _ hlk) ⟨hm.2.2.2.2.1, hm.2.2.2.2.2, hpar⟩ ⟨hrf, hrl⟩, hts _ hstat⟩ hpre rfl (by simp) hX.2.2.2.2.2.2.1 hstk (lv_room hcat2) d ⟨hce, hsl⟩
  · exact va_runSN (own := K.1) (bytes := K'.2.1) (maxL := K'.2.2.1) (ret := K'.2.2.2.2.1) (n := as.length) ⟨hX.1.1, hX.1.2.1, hX.1.2.2.2.1, hX.1.2.2.2.2.1, hts⟩ hM ⟨va_cnB as.length hts (jgood hm) rfl hrc hrs (hX.1.2.2.2.2.2.2.2.2.1.1 _ hlk) (hts _ hm.2.2.2.1) ⟨hm.2.2.2.2.1, hm.2.2.2.2.2, hpar⟩ ⟨hrf, hrl⟩, hts _ hstat, trivial⟩ hpre rfl (by simp) hX.2.2.2.2.2.2.1 hstk (lv_room hcat2) d ⟨hce, hsl⟩
/-- a method of an object is called: cell number o of the callee's world -/
theorem J.cv {i ci o n1 : Nat} {fs : List Value} {L0 : List (Option Value)} (hm : jmOK K') (hc : jcV K.1 i K' ci as.length) (hJ : J K' n1 Q' 0 L0 [] B 0 0) (d : decode K.2.1 pc = .ok (.invokevirtual i, 3)) (hn1 : B.length = n1)
    (hst : st = (as.map (jg (jr is))).reverse ++ .ref (jr is o) :: rest) (ho : A[jr is o]? = some (.inr (ci, fs))) (hB : is.map (fun i => A[i]?) = B.map (fun b => some (jrE (jr is) b))) (hL : jent K'.2.2.1 (.ref o :: as) = L0) (hl0 : L0.length = K'.2.2.1)
    (hnum : (decide (B.length < 1000) && va_nd is && decide ((rest.map fun v => v.category).sum ≤ 8) && jroom K K' && decide (cells ≤ K.2.2.2.2.2.cells) && decide (slots ≤ K.2.2.2.2.2.slots)) = true)
    (kk : ∀ r B', Q' r B' → B'.length = B.length ∧ J K n0 Q (pc + 3) L ((r.map (jg (jr is))).toList ++ rest) (jput A is (B'.map (jrE (jr is)))) cells slots) : J K n0 Q pc L st A cells slots := by
  subst hn1
  intro l p e s m args below meth c dC dI cy A0 ad0 ad H locs ls hX
  simp only [jroom, Bool.and_eq_true, decide_eq_true_eq] at hnum
  obtain ⟨⟨⟨⟨⟨hl, hnd⟩, hcat⟩, hrc, hrs, hrf, hrl⟩, hce⟩, hsl⟩ := hnum
  obtain ⟨hlk, hinst, hsel, hpar, hci⟩ := hc
  have hts := hX.1.2.2.2.2.2.1
  have hpre := jpre (as := .ref o :: as) hX hB hl hnd
  have hM := J.met hm hJ hL hl0 l dC dI cy (fun k => ad (jr is k)) H.size
  rw [hrc, hrs] at hM
  have hstk : (F0 m pc ls (st.map (jg ad))).stack = (as.map (jg (fun k => ad (jr is k)))).reverse ++ .ref (ad (jr is o)) :: rest.map (jg ad) := by
    show st.map (jg ad) = _
    rw [hst, List.map_append, List.map_reverse, List.map_map, List.map_cons]
    congr 2
    apply List.map_congr_left
    intro v _
    exact (jg_comp ad (jr is) v).symm
  have hcat2 : ((rest.map (jg ad)).map fun v => v.category).sum ≤ 8 := by
    rw [List.map_map]
    have : ((fun v => Value.category v) ∘ jg ad) = fun v => v.category := funext fun v => jg_cat ad v
    rw [this]
    exact hcat
  obtain ⟨q, hq1, hq2⟩ : ∃ q, jCl[ci]? = some q ∧ q.1 = K'.2.2.2.1.cls := by
    simpa [Option.map_eq_some_iff] using hci
  have hrec := va_recv hX.1.2.2.2.2.2.2.2.2.1.2.1 hX.2.2.2.1 hq1 (jgW_get ho)
  rw [hq2] at hrec
  refine jback (a := (.ref (ad (jr is o)) :: as.map (jg (fun k => ad (jr is k)))).toArray) hX hB hl hnd ?_ kk
  rcases hlk with hlk | ⟨host, hlk⟩
  · exact va_runV (own := K.1) (C := K'.2.2.2.1.cls) (bytes := K'.2.1) (maxL := K'.2.2.1) (ret := K'.2.2.2.2.1) (n := as.length) ⟨hX.1.1, hX.1.2.1, hX.1.2.2.2.1, hX.1.2.2.2.2.1, hts⟩ hM ⟨callB_of as.length hts (jgood hm) rfl hrc hrs (hts _ hm.2.2.2.1) (hts _ hlk) ⟨hm.2.2.2.2.1, hm.2.2.2.2.2, hpar⟩ ⟨hrf, hrl⟩, hts _ hinst, hts _ hsel⟩ ⟨hpre.1, hrec, hpre.2⟩ rfl (by simp) hX.2.2.2.2.2.2.1 hstk (lv_room hcat2) d ⟨hce, hsl⟩
  · exact va_runVN (own := K.1) (C := K'.2.2.2.1.cls) (bytes := K'.2.1) (maxL := K'.2.2.1) (ret := K'.2.2.2.2.1) (n := as.length) ⟨hX.1.1, hX.1.2.1, hX.1.2.2.2.1, hX.1.2.2.2.2.1, hts⟩ hM ⟨va_cnB as.length hts (jgood hm) rfl hrc hrs (hX.1.2.2.2.2.2.2.2.2.1.1 _ hlk) (hts _ hm.2.2.2.1) ⟨hm.2.2.2.2.1, hm.2.2.2.2.2, hpar⟩ ⟨hrf, hrl⟩, hts _ hinst, hts _ hsel⟩ ⟨hpre.1, hrec, hpre.2⟩ rfl (by simp) hX.2.2.2.2.2.2.1 hstk (lv_room hcat2) d ⟨hce, hsl⟩
end JC
end
section
theorem jt (n : Nat) {w : Cond} (h : tables_1[n]? = some w) (hg : goodWord w = true) : w ∈ jTs := List.mem_filter.mpr ⟨List.mem_append_right _ (List.mem_of_getElem? h), hg⟩
theorem jn (n : Nat) {w : Cond} (h : tables_1[n]? = some w) (hg : jNb w = true) : w ∈ jNs := List.mem_filter.mpr ⟨List.mem_of_getElem? h, hg⟩
theorem jsel (n : Nat) {q : MethodName × Nat} (h : lw_privs[n]? = some q) (hg : goodWord (Cond.selects q.1.cls q.1 q.1) = true) : Cond.selects q.1.cls q.1 q.1 ∈ jTs := List.mem_filter.mpr ⟨List.mem_append_left _ (List.mem_map.mpr ⟨q, List.mem_of_getElem? h, rfl⟩), hg⟩
theorem jin0 : ∀ w ∈ u_ws RX0 TX0 12, w ∈ jTs := by decide +kernel
theorem jin1 : ∀ w ∈ u_ws RX1 TX1 11, w ∈ jTs := by decide +kernel
theorem jin2 : ∀ w ∈ u_ws RX2 TX2 13, w ∈ jTs := by decide +kernel
theorem jin3 : ∀ w ∈ u_ws RX3 TX3 3, w ∈ jTs := by decide +kernel
theorem jin4 : ∀ w ∈ u_ws RX4 TX4 3, w ∈ jTs := by decide +kernel
theorem jin5 : ∀ w ∈ u_ws RX5 TX5 2, w ∈ jTs := by decide +kernel
theorem jin6 : ∀ w ∈ u_ws RX6 TX6 9, w ∈ jTs := by decide +kernel
theorem jin7 : ∀ w ∈ u_ws RX7 TX7 42, w ∈ jTs := by decide +kernel
def KX0_init : jM := (RX0, cX0_init, 1, yX0_init, (none : Option Jvm.ClassFile.FieldType), { frames := 1, cells := 8, slots := 47, locals := 40 })
set_option maxRecDepth 100000 in
theorem okX0_init : jmOK KX0_init := ⟨rfl, by decide +kernel, jt 167 rfl rfl, jt 5 rfl rfl, by decide +kernel, by decide +kernel⟩
def KX0_take : jM := (RX0, cX0_take, 3, yX0_take, (none : Option Jvm.ClassFile.FieldType), { frames := 1, cells := 0, slots := 0, locals := 22 })
set_option maxRecDepth 100000 in
theorem okX0_take : jmOK KX0_take := ⟨rfl, by decide +kernel, jt 539 rfl rfl, jt 5 rfl rfl, by decide +kernel, by decide +kernel⟩
def KX0_takeNew : jM := (RX0, cX0_takeNew, 5, yX0_takeNew, (none : Option Jvm.ClassFile.FieldType), { frames := 1, cells := 0, slots := 0, locals := 22 })
set_option maxRecDepth 100000 in
theorem okX0_takeNew : jmOK KX0_takeNew := ⟨rfl, by decide +kernel, jt 621 rfl rfl, jt 5 rfl rfl, by decide +kernel, by decide +kernel⟩
def KX0_renew : jM := (RX0, cX0_renew, 2, yX0_renew, (none : Option Jvm.ClassFile.FieldType), { frames := 1, cells := 0, slots := 0, locals := 22 })
set_option maxRecDepth 100000 in
theorem okX0_renew : jmOK KX0_renew := ⟨rfl, by decide +kernel, jt 638 rfl rfl, jt 5 rfl rfl, by decide +kernel, by decide +kernel⟩
def KX0_begin : jM := (RX0, cX0_begin, 3, yX0_begin, (none : Option Jvm.ClassFile.FieldType), { frames := 0, cells := 0, slots := 0, locals := 0 })
set_option maxRecDepth 100000 in
theorem okX0_begin : jmOK KX0_begin := ⟨rfl, by decide +kernel, jt 543 rfl rfl, jt 5 rfl rfl, by decide +kernel, by decide +kernel⟩
def KX0_passHours : jM := (RX0, cX0_passHours, 3, yX0_passHours, (none : Option Jvm.ClassFile.FieldType), { frames := 4, cells := 0, slots := 0, locals := 93 })
set_option maxRecDepth 100000 in
theorem okX0_passHours : jmOK KX0_passHours := ⟨rfl, by decide +kernel, jt 547 rfl rfl, jt 5 rfl rfl, by decide +kernel, by decide +kernel⟩
def KX0_passHour : jM := (RX0, cX0_passHour, 4, yX0_passHour, (none : Option Jvm.ClassFile.FieldType), { frames := 3, cells := 0, slots := 0, locals := 70 })
set_option maxRecDepth 100000 in
theorem okX0_passHour : jmOK KX0_passHour := ⟨rfl, by decide +kernel, jt 551 rfl rfl, jt 5 rfl rfl, by decide +kernel, by decide +kernel⟩
def KX0_weigh : jM := (RX0, cX0_weigh, 5, yX0_weigh, (none : Option Jvm.ClassFile.FieldType), { frames := 2, cells := 0, slots := 0, locals := 46 })
set_option maxRecDepth 100000 in
theorem okX0_weigh : jmOK KX0_weigh := ⟨rfl, by decide +kernel, jt 555 rfl rfl, jt 5 rfl rfl, by decide +kernel, by decide +kernel⟩
def KX0_weight : jM := (RX0, cX0_weight, 6, yX0_weight, some .long, { frames := 0, cells := 0, slots := 0, locals := 0 })
set_option maxRecDepth 100000 in
theorem okX0_weight : jmOK KX0_weight := ⟨rfl, by decide +kernel, jt 562 rfl rfl, jt 5 rfl rfl, by decide +kernel, by decide +kernel⟩
def KX0_all : jM := (RX0, cX0_all, 1, yX0_all, some .long, { frames := 1, cells := 0, slots := 0, locals := 23 })
set_option maxRecDepth 100000 in
theorem okX0_all : jmOK KX0_all := ⟨rfl, by decide +kernel, jt 709 rfl rfl, jt 5 rfl rfl, by decide +kernel, by decide +kernel⟩
def KX0_held : jM := (RX0, cX0_held, 4, yX0_held, some .long, { frames := 0, cells := 0, slots := 0, locals := 0 })
set_option maxRecDepth 100000 in
theorem okX0_held : jmOK KX0_held := ⟨rfl, by decide +kernel, jt 567 rfl rfl, jt 5 rfl rfl, by decide +kernel, by decide +kernel⟩
def KX0_justWhole : jM := (RX0, cX0_justWhole, 5, yX0_justWhole, some .long, { frames := 1, cells := 0, slots := 0, locals := 20 })
set_option maxRecDepth 100000 in
theorem okX0_justWhole : jmOK KX0_justWhole := ⟨rfl, by decide +kernel, jt 584 rfl rfl, jt 5 rfl rfl, by decide +kernel, by decide +kernel⟩
def KX0_keepOnly : jM := (RX0, cX0_keepOnly, 3, yX0_keepOnly, (none : Option Jvm.ClassFile.FieldType), { frames := 1, cells := 0, slots := 0, locals := 20 })
set_option maxRecDepth 100000 in
theorem okX0_keepOnly : jmOK KX0_keepOnly := ⟨rfl, by decide +kernel, jt 705 rfl rfl, jt 5 rfl rfl, by decide +kernel, by decide +kernel⟩
def KX0_holdsBy : jM := (RX0, cX0_holdsBy, 3, yX0_holdsBy, some .boolean, { frames := 1, cells := 0, slots := 0, locals := 23 })
set_option maxRecDepth 100000 in
theorem okX0_holdsBy : jmOK KX0_holdsBy := ⟨rfl, by decide +kernel, jt 625 rfl rfl, jt 5 rfl rfl, by decide +kernel, by decide +kernel⟩
def KX0_foresee : jM := (RX0, cX0_foresee, 2, yX0_foresee, (none : Option Jvm.ClassFile.FieldType), { frames := 4, cells := 0, slots := 0, locals := 93 })
set_option maxRecDepth 100000 in
theorem okX0_foresee : jmOK KX0_foresee := ⟨rfl, by decide +kernel, jt 668 rfl rfl, jt 5 rfl rfl, by decide +kernel, by decide +kernel⟩
def KX0_sitting : jM := (RX0, cX0_sitting, 13, yX0_sitting, some .long, { frames := 3, cells := 0, slots := 0, locals := 70 })
set_option maxRecDepth 100000 in
theorem okX0_sitting : jmOK KX0_sitting := ⟨rfl, by decide +kernel, jt 596 rfl rfl, jt 5 rfl rfl, by decide +kernel, by decide +kernel⟩
def KX0_contest : jM := (RX0, cX0_contest, 13, yX0_contest, (none : Option Jvm.ClassFile.FieldType), { frames := 3, cells := 0, slots := 0, locals := 70 })
set_option maxRecDepth 100000 in
theorem okX0_contest : jmOK KX0_contest := ⟨rfl, by decide +kernel, jt 647 rfl rfl, jt 5 rfl rfl, by decide +kernel, by decide +kernel⟩
def KX0_duelHour : jM := (RX0, cX0_duelHour, 17, yX0_duelHour, (none : Option Jvm.ClassFile.FieldType), { frames := 1, cells := 0, slots := 0, locals := 25 })
set_option maxRecDepth 100000 in
theorem okX0_duelHour : jmOK KX0_duelHour := ⟨rfl, by decide +kernel, jt 651 rfl rfl, jt 5 rfl rfl, by decide +kernel, by decide +kernel⟩
def KX0_clearGains : jM := (RX0, cX0_clearGains, 2, yX0_clearGains, (none : Option Jvm.ClassFile.FieldType), { frames := 0, cells := 0, slots := 0, locals := 0 })
set_option maxRecDepth 100000 in
theorem okX0_clearGains : jmOK KX0_clearGains := ⟨rfl, by decide +kernel, jt 599 rfl rfl, jt 5 rfl rfl, by decide +kernel, by decide +kernel⟩
def KX1_init : jM := (RX1, cX1_init, 1, yX1_init, (none : Option Jvm.ClassFile.FieldType), { frames := 2, cells := 9, slots := 195, locals := 60 })
set_option maxRecDepth 100000 in
theorem okX1_init : jmOK KX1_init := ⟨rfl, by decide +kernel, jt 105 rfl rfl, jt 3 rfl rfl, by decide +kernel, by decide +kernel⟩
def KX1_readAll : jM := (RX1, cX1_readAll, 3, yX1_readAll, some .int, { frames := 10, cells := 0, slots := 0, locals := 229 })
set_option maxRecDepth 100000 in
theorem okX1_readAll : jmOK KX1_readAll := ⟨rfl, by decide +kernel, jt 300 rfl rfl, jt 3 rfl rfl, by decide +kernel, by decide +kernel⟩
def KX1_readLine : jM := (RX1, cX1_readLine, 1, yX1_readLine, some .boolean, { frames := 9, cells := 0, slots := 0, locals := 209 })
set_option maxRecDepth 100000 in
theorem okX1_readLine : jmOK KX1_readLine := ⟨rfl, by decide +kernel, jt 320 rfl rfl, jt 3 rfl rfl, by decide +kernel, by decide +kernel⟩
def KX1_readHair : jM := (RX1, cX1_readHair, 2, yX1_readHair, some .boolean, { frames := 8, cells := 0, slots := 0, locals := 188 })
set_option maxRecDepth 100000 in
theorem okX1_readHair : jmOK KX1_readHair := ⟨rfl, by decide +kernel, jt 377 rfl rfl, jt 3 rfl rfl, by decide +kernel, by decide +kernel⟩
def KX1_readKing : jM := (RX1, cX1_readKing, 2, yX1_readKing, some .boolean, { frames := 3, cells := 0, slots := 0, locals := 66 })
set_option maxRecDepth 100000 in
theorem okX1_readKing : jmOK KX1_readKing := ⟨rfl, by decide +kernel, jt 404 rfl rfl, jt 3 rfl rfl, by decide +kernel, by decide +kernel⟩
def KX1_readLaw : jM := (RX1, cX1_readLaw, 2, yX1_readLaw, some .boolean, { frames := 3, cells := 0, slots := 0, locals := 66 })
set_option maxRecDepth 100000 in
theorem okX1_readLaw : jmOK KX1_readLaw := ⟨rfl, by decide +kernel, jt 413 rfl rfl, jt 3 rfl rfl, by decide +kernel, by decide +kernel⟩
def KX1_readLoad : jM := (RX1, cX1_readLoad, 1, yX1_readLoad, some .boolean, { frames := 3, cells := 0, slots := 0, locals := 66 })
set_option maxRecDepth 100000 in
theorem okX1_readLoad : jmOK KX1_readLoad := ⟨rfl, by decide +kernel, jt 422 rfl rfl, jt 3 rfl rfl, by decide +kernel, by decide +kernel⟩
def KX1_readPrize : jM := (RX1, cX1_readPrize, 1, yX1_readPrize, some .boolean, { frames := 3, cells := 0, slots := 0, locals := 66 })
set_option maxRecDepth 100000 in
theorem okX1_readPrize : jmOK KX1_readPrize := ⟨rfl, by decide +kernel, jt 427 rfl rfl, jt 3 rfl rfl, by decide +kernel, by decide +kernel⟩
def KX1_readBroken : jM := (RX1, cX1_readBroken, 1, yX1_readBroken, some .boolean, { frames := 3, cells := 0, slots := 0, locals := 66 })
set_option maxRecDepth 100000 in
theorem okX1_readBroken : jmOK KX1_readBroken := ⟨rfl, by decide +kernel, jt 432 rfl rfl, jt 3 rfl rfl, by decide +kernel, by decide +kernel⟩
def KX1_readNumber : jM := (RX1, cX1_readNumber, 4, yX1_readNumber, some .boolean, { frames := 2, cells := 0, slots := 0, locals := 43 })
set_option maxRecDepth 100000 in
theorem okX1_readNumber : jmOK KX1_readNumber := ⟨rfl, by decide +kernel, jt 390 rfl rfl, jt 3 rfl rfl, by decide +kernel, by decide +kernel⟩
def KX1_readStop : jM := (RX1, cX1_readStop, 1, yX1_readStop, some .boolean, { frames := 2, cells := 0, slots := 0, locals := 43 })
set_option maxRecDepth 100000 in
theorem okX1_readStop : jmOK KX1_readStop := ⟨rfl, by decide +kernel, jt 399 rfl rfl, jt 3 rfl rfl, by decide +kernel, by decide +kernel⟩
def KX1_spelledKind : jM := (RX1, cX1_spelledKind, 1, yX1_spelledKind, some .int, { frames := 7, cells := 0, slots := 0, locals := 168 })
set_option maxRecDepth 100000 in
theorem okX1_spelledKind : jmOK KX1_spelledKind := ⟨rfl, by decide +kernel, jt 381 rfl rfl, jt 3 rfl rfl, by decide +kernel, by decide +kernel⟩
def KX1_spells : jM := (RX1, cX1_spells, 3, yX1_spells, some .boolean, { frames := 6, cells := 0, slots := 0, locals := 146 })
set_option maxRecDepth 100000 in
theorem okX1_spells : jmOK KX1_spells := ⟨rfl, by decide +kernel, jt 325 rfl rfl, jt 3 rfl rfl, by decide +kernel, by decide +kernel⟩
def KX1_nextToken : jM := (RX1, cX1_nextToken, 2, yX1_nextToken, some .boolean, { frames := 1, cells := 0, slots := 0, locals := 22 })
set_option maxRecDepth 100000 in
theorem okX1_nextToken : jmOK KX1_nextToken := ⟨rfl, by decide +kernel, jt 305 rfl rfl, jt 3 rfl rfl, by decide +kernel, by decide +kernel⟩
def KX1_sortOf : jM := (RX1, cX1_sortOf, 1, yX1_sortOf, some .int, { frames := 0, cells := 0, slots := 0, locals := 0 })
set_option maxRecDepth 100000 in
theorem okX1_sortOf : jmOK KX1_sortOf := ⟨rfl, by decide +kernel, jt 312 rfl rfl, jt 3 rfl rfl, by decide +kernel, by decide +kernel⟩
def KX1_fail : jM := (RX1, cX1_fail, 3, yX1_fail, some .boolean, { frames := 0, cells := 0, slots := 0, locals := 0 })
set_option maxRecDepth 100000 in
theorem okX1_fail : jmOK KX1_fail := ⟨rfl, by decide +kernel, jt 316 rfl rfl, jt 3 rfl rfl, by decide +kernel, by decide +kernel⟩
def KX2_init : jM := (RX2, cX2_init, 1, yX2_init, (none : Option Jvm.ClassFile.FieldType), { frames := 1, cells := 6, slots := 20, locals := 40 })
set_option maxRecDepth 100000 in
theorem okX2_init : jmOK KX2_init := ⟨rfl, by decide +kernel, jt 27 rfl rfl, jt 2 rfl rfl, by decide +kernel, by decide +kernel⟩
def KX2_clear : jM := (RX2, cX2_clear, 1, yX2_clear, (none : Option Jvm.ClassFile.FieldType), { frames := 0, cells := 0, slots := 0, locals := 0 })
set_option maxRecDepth 100000 in
theorem okX2_clear : jmOK KX2_clear := ⟨rfl, by decide +kernel, jt 32 rfl rfl, jt 2 rfl rfl, by decide +kernel, by decide +kernel⟩
def KX2_copy : jM := (RX2, cX2_copy, 2, yX2_copy, (none : Option Jvm.ClassFile.FieldType), { frames := 1, cells := 0, slots := 0, locals := 22 })
set_option maxRecDepth 100000 in
theorem okX2_copy : jmOK KX2_copy := ⟨rfl, by decide +kernel, jt 436 rfl rfl, jt 2 rfl rfl, by decide +kernel, by decide +kernel⟩
def KX2_copyRow : jM := (RX2, cX2_copyRow, 3, yX2_copyRow, (none : Option Jvm.ClassFile.FieldType), { frames := 0, cells := 0, slots := 0, locals := 0 })
set_option maxRecDepth 100000 in
theorem okX2_copyRow : jmOK KX2_copyRow := ⟨rfl, by decide +kernel, jt 439 rfl rfl, jt 2 rfl rfl, by decide +kernel, by decide +kernel⟩
def KX2_addHair : jM := (RX2, cX2_addHair, 3, yX2_addHair, some .boolean, { frames := 0, cells := 0, slots := 0, locals := 0 })
set_option maxRecDepth 100000 in
theorem okX2_addHair : jmOK KX2_addHair := ⟨rfl, by decide +kernel, jt 395 rfl rfl, jt 2 rfl rfl, by decide +kernel, by decide +kernel⟩
def KX2_addKing : jM := (RX2, cX2_addKing, 3, yX2_addKing, some .boolean, { frames := 0, cells := 0, slots := 0, locals := 0 })
set_option maxRecDepth 100000 in
theorem okX2_addKing : jmOK KX2_addKing := ⟨rfl, by decide +kernel, jt 408 rfl rfl, jt 2 rfl rfl, by decide +kernel, by decide +kernel⟩
def KX2_addLaw : jM := (RX2, cX2_addLaw, 3, yX2_addLaw, some .boolean, { frames := 0, cells := 0, slots := 0, locals := 0 })
set_option maxRecDepth 100000 in
theorem okX2_addLaw : jmOK KX2_addLaw := ⟨rfl, by decide +kernel, jt 417 rfl rfl, jt 2 rfl rfl, by decide +kernel, by decide +kernel⟩
def KX2_wholeBit : jM := (RX2, cX2_wholeBit, 2, yX2_wholeBit, some .int, { frames := 0, cells := 0, slots := 0, locals := 0 })
set_option maxRecDepth 100000 in
theorem okX2_wholeBit : jmOK KX2_wholeBit := ⟨rfl, by decide +kernel, jt 455 rfl rfl, jt 2 rfl rfl, by decide +kernel, by decide +kernel⟩
def KX2_breaks : jM := (RX2, cX2_breaks, 2, yX2_breaks, some .int, { frames := 2, cells := 0, slots := 0, locals := 46 })
set_option maxRecDepth 100000 in
theorem okX2_breaks : jmOK KX2_breaks := ⟨rfl, by decide +kernel, jt 459 rfl rfl, jt 2 rfl rfl, by decide +kernel, by decide +kernel⟩
def KX2_tryHour : jM := (RX2, cX2_tryHour, 2, yX2_tryHour, some .int, { frames := 2, cells := 0, slots := 0, locals := 43 })
set_option maxRecDepth 100000 in
theorem okX2_tryHour : jmOK KX2_tryHour := ⟨rfl, by decide +kernel, jt 514 rfl rfl, jt 2 rfl rfl, by decide +kernel, by decide +kernel⟩
def KX2_passHour : jM := (RX2, cX2_passHour, 3, yX2_passHour, (none : Option Jvm.ClassFile.FieldType), { frames := 1, cells := 0, slots := 0, locals := 21 })
set_option maxRecDepth 100000 in
theorem okX2_passHour : jmOK KX2_passHour := ⟨rfl, by decide +kernel, jt 518 rfl rfl, jt 2 rfl rfl, by decide +kernel, by decide +kernel⟩
def KX2_allAges : jM := (RX2, cX2_allAges, 3, yX2_allAges, some .int, { frames := 0, cells := 0, slots := 0, locals := 0 })
set_option maxRecDepth 100000 in
theorem okX2_allAges : jmOK KX2_allAges := ⟨rfl, by decide +kernel, jt 771 rfl rfl, jt 2 rfl rfl, by decide +kernel, by decide +kernel⟩
def KX3_init : jM := (RX3, cX3_init, 1, yX3_init, (none : Option Jvm.ClassFile.FieldType), { frames := 1, cells := 2, slots := 12, locals := 40 })
set_option maxRecDepth 100000 in
theorem okX3_init : jmOK KX3_init := ⟨rfl, by decide +kernel, jt 215 rfl rfl, jt 6 rfl rfl, by decide +kernel, by decide +kernel⟩
def KX3_append : jM := (RX3, cX3_append, 3, yX3_append, some .boolean, { frames := 0, cells := 0, slots := 0, locals := 0 })
set_option maxRecDepth 100000 in
theorem okX3_append : jmOK KX3_append := ⟨rfl, by decide +kernel, jt 684 rfl rfl, jt 6 rfl rfl, by decide +kernel, by decide +kernel⟩
def KX3_lastHour : jM := (RX3, cX3_lastHour, 3, yX3_lastHour, some .int, { frames := 1, cells := 0, slots := 0, locals := 21 })
set_option maxRecDepth 100000 in
theorem okX3_lastHour : jmOK KX3_lastHour := ⟨rfl, by decide +kernel, jt 700 rfl rfl, jt 6 rfl rfl, by decide +kernel, by decide +kernel⟩
def KX4_init : jM := (RX4, cX4_init, 1, yX4_init, (none : Option Jvm.ClassFile.FieldType), { frames := 1, cells := 1, slots := 40, locals := 40 })
set_option maxRecDepth 100000 in
theorem okX4_init : jmOK KX4_init := ⟨rfl, by decide +kernel, jt 235 rfl rfl, jt 7 rfl rfl, by decide +kernel, by decide +kernel⟩
def KX4_renew : jM := (RX4, cX4_renew, 4, yX4_renew, (none : Option Jvm.ClassFile.FieldType), { frames := 1, cells := 0, slots := 0, locals := 21 })
set_option maxRecDepth 100000 in
theorem okX4_renew : jmOK KX4_renew := ⟨rfl, by decide +kernel, jt 735 rfl rfl, jt 7 rfl rfl, by decide +kernel, by decide +kernel⟩
def KX4_faultAt : jM := (RX4, cX4_faultAt, 2, yX4_faultAt, some .int, { frames := 1, cells := 0, slots := 0, locals := 22 })
set_option maxRecDepth 100000 in
theorem okX4_faultAt : jmOK KX4_faultAt := ⟨rfl, by decide +kernel, jt 744 rfl rfl, jt 7 rfl rfl, by decide +kernel, by decide +kernel⟩
def KX4_faultAs : jM := (RX4, cX4_faultAs, 3, yX4_faultAs, some .int, { frames := 2, cells := 0, slots := 0, locals := 43 })
set_option maxRecDepth 100000 in
theorem okX4_faultAs : jmOK KX4_faultAs := ⟨rfl, by decide +kernel, jt 757 rfl rfl, jt 7 rfl rfl, by decide +kernel, by decide +kernel⟩
def KX4_write : jM := (RX4, cX4_write, 3, yX4_write, (none : Option Jvm.ClassFile.FieldType), { frames := 1, cells := 0, slots := 0, locals := 22 })
set_option maxRecDepth 100000 in
theorem okX4_write : jmOK KX4_write := ⟨rfl, by decide +kernel, jt 749 rfl rfl, jt 7 rfl rfl, by decide +kernel, by decide +kernel⟩
def KX5_init : jM := (RX5, cX5_init, 1, yX5_init, (none : Option Jvm.ClassFile.FieldType), { frames := 1, cells := 1, slots := 160, locals := 40 })
set_option maxRecDepth 100000 in
theorem okX5_init : jmOK KX5_init := ⟨rfl, by decide +kernel, jt 111 rfl rfl, jt 4 rfl rfl, by decide +kernel, by decide +kernel⟩
def KX5_append : jM := (RX5, cX5_append, 2, yX5_append, some .boolean, { frames := 0, cells := 0, slots := 0, locals := 0 })
set_option maxRecDepth 100000 in
theorem okX5_append : jmOK KX5_append := ⟨rfl, by decide +kernel, jt 288 rfl rfl, jt 4 rfl rfl, by decide +kernel, by decide +kernel⟩
def KX5_byteAt : jM := (RX5, cX5_byteAt, 2, yX5_byteAt, some .int, { frames := 0, cells := 0, slots := 0, locals := 0 })
set_option maxRecDepth 100000 in
theorem okX5_byteAt : jmOK KX5_byteAt := ⟨rfl, by decide +kernel, jt 309 rfl rfl, jt 4 rfl rfl, by decide +kernel, by decide +kernel⟩
def KX6_init : jM := (RX6, cX6_init, 2, yX6_init, (none : Option Jvm.ClassFile.FieldType), { frames := 3, cells := 0, slots := 0, locals := 80 })
set_option maxRecDepth 100000 in
theorem okX6_init : jmOK KX6_init := ⟨rfl, by decide +kernel, jt 19 rfl rfl, jt 1 rfl rfl, by decide +kernel, by decide +kernel⟩
def KX6_feed : jM := (RX6, cX6_feed, 2, yX6_feed, some .int, { frames := 1, cells := 0, slots := 0, locals := 22 })
set_option maxRecDepth 100000 in
theorem okX6_feed : jmOK KX6_feed := ⟨rfl, by decide +kernel, jt 281 rfl rfl, jt 1 rfl rfl, by decide +kernel, by decide +kernel⟩
def KX6_end : jM := (RX6, cX6_end, 3, yX6_end, some .int, { frames := 1, cells := 0, slots := 0, locals := 22 })
set_option maxRecDepth 100000 in
theorem okX6_end : jmOK KX6_end := ⟨rfl, by decide +kernel, jt 292 rfl rfl, jt 1 rfl rfl, by decide +kernel, by decide +kernel⟩
def KX6_text : jM := (RX6, cX6_text, 3, yX6_text, some .int, { frames := 11, cells := 0, slots := 0, locals := 251 })
set_option maxRecDepth 100000 in
theorem okX6_text : jmOK KX6_text := ⟨rfl, by decide +kernel, jt 296 rfl rfl, jt 1 rfl rfl, by decide +kernel, by decide +kernel⟩
def KX6_fault : jM := (RX6, cX6_fault, 1, yX6_fault, some .int, { frames := 0, cells := 0, slots := 0, locals := 0 })
set_option maxRecDepth 100000 in
theorem okX6_fault : jmOK KX6_fault := ⟨rfl, by decide +kernel, jt 443 rfl rfl, jt 1 rfl rfl, by decide +kernel, by decide +kernel⟩
def KX6_rule : jM := (RX6, cX6_rule, 2, yX6_rule, some .int, { frames := 0, cells := 0, slots := 0, locals := 0 })
set_option maxRecDepth 100000 in
theorem okX6_rule : jmOK KX6_rule := ⟨rfl, by decide +kernel, jt 447 rfl rfl, jt 1 rfl rfl, by decide +kernel, by decide +kernel⟩
def KX6_hair : jM := (RX6, cX6_hair, 3, yX6_hair, some .int, { frames := 3, cells := 0, slots := 0, locals := 67 })
set_option maxRecDepth 100000 in
theorem okX6_hair : jmOK KX6_hair := ⟨rfl, by decide +kernel, jt 451 rfl rfl, jt 1 rfl rfl, by decide +kernel, by decide +kernel⟩
def KX6_king : jM := (RX6, cX6_king, 3, yX6_king, some .int, { frames := 1, cells := 0, slots := 0, locals := 22 })
set_option maxRecDepth 100000 in
theorem okX6_king : jmOK KX6_king := ⟨rfl, by decide +kernel, jt 482 rfl rfl, jt 1 rfl rfl, by decide +kernel, by decide +kernel⟩
def KX6_law : jM := (RX6, cX6_law, 3, yX6_law, some .int, { frames := 1, cells := 0, slots := 0, locals := 22 })
set_option maxRecDepth 100000 in
theorem okX6_law : jmOK KX6_law := ⟨rfl, by decide +kernel, jt 486 rfl rfl, jt 1 rfl rfl, by decide +kernel, by decide +kernel⟩
def KX6_set : jM := (RX6, cX6_set, 4, yX6_set, some .int, { frames := 1, cells := 0, slots := 0, locals := 22 })
set_option maxRecDepth 100000 in
theorem okX6_set : jmOK KX6_set := ⟨rfl, by decide +kernel, jt 490 rfl rfl, jt 1 rfl rfl, by decide +kernel, by decide +kernel⟩
def KX6_age : jM := (RX6, cX6_age, 4, yX6_age, some .int, { frames := 1, cells := 0, slots := 0, locals := 22 })
set_option maxRecDepth 100000 in
theorem okX6_age : jmOK KX6_age := ⟨rfl, by decide +kernel, jt 494 rfl rfl, jt 1 rfl rfl, by decide +kernel, by decide +kernel⟩
def KX6_dye : jM := (RX6, cX6_dye, 4, yX6_dye, some .int, { frames := 1, cells := 0, slots := 0, locals := 22 })
set_option maxRecDepth 100000 in
theorem okX6_dye : jmOK KX6_dye := ⟨rfl, by decide +kernel, jt 498 rfl rfl, jt 1 rfl rfl, by decide +kernel, by decide +kernel⟩
def KX6_knot : jM := (RX6, cX6_knot, 4, yX6_knot, some .int, { frames := 1, cells := 0, slots := 0, locals := 22 })
set_option maxRecDepth 100000 in
theorem okX6_knot : jmOK KX6_knot := ⟨rfl, by decide +kernel, jt 502 rfl rfl, jt 1 rfl rfl, by decide +kernel, by decide +kernel⟩
def KX6_pay : jM := (RX6, cX6_pay, 5, yX6_pay, some .int, { frames := 1, cells := 0, slots := 0, locals := 22 })
set_option maxRecDepth 100000 in
theorem okX6_pay : jmOK KX6_pay := ⟨rfl, by decide +kernel, jt 506 rfl rfl, jt 1 rfl rfl, by decide +kernel, by decide +kernel⟩
def KX6_hour : jM := (RX6, cX6_hour, 2, yX6_hour, some .int, { frames := 3, cells := 0, slots := 0, locals := 64 })
set_option maxRecDepth 100000 in
theorem okX6_hour : jmOK KX6_hour := ⟨rfl, by decide +kernel, jt 510 rfl rfl, jt 1 rfl rfl, by decide +kernel, by decide +kernel⟩
def KX6_falls : jM := (RX6, cX6_falls, 5, yX6_falls, some .long, { frames := 6, cells := 0, slots := 0, locals := 136 })
set_option maxRecDepth 100000 in
theorem okX6_falls : jmOK KX6_falls := ⟨rfl, by decide +kernel, jt 523 rfl rfl, jt 1 rfl rfl, by decide +kernel, by decide +kernel⟩
def KX6_left : jM := (RX6, cX6_left, 4, yX6_left, some .long, { frames := 5, cells := 0, slots := 0, locals := 115 })
set_option maxRecDepth 100000 in
theorem okX6_left : jmOK KX6_left := ⟨rfl, by decide +kernel, jt 580 rfl rfl, jt 1 rfl rfl, by decide +kernel, by decide +kernel⟩
def KX6_mean : jM := (RX6, cX6_mean, 6, yX6_mean, some .long, { frames := 5, cells := 0, slots := 0, locals := 115 })
set_option maxRecDepth 100000 in
theorem okX6_mean : jmOK KX6_mean := ⟨rfl, by decide +kernel, jt 588 rfl rfl, jt 1 rfl rfl, by decide +kernel, by decide +kernel⟩
def KX6_sits : jM := (RX6, cX6_sits, 4, yX6_sits, some .long, { frames := 4, cells := 0, slots := 0, locals := 102 })
set_option maxRecDepth 100000 in
theorem okX6_sits : jmOK KX6_sits := ⟨rfl, by decide +kernel, jt 592 rfl rfl, jt 1 rfl rfl, by decide +kernel, by decide +kernel⟩
def KX6_best : jM := (RX6, cX6_best, 6, yX6_best, some .long, { frames := 5, cells := 0, slots := 0, locals := 124 })
set_option maxRecDepth 100000 in
theorem okX6_best : jmOK KX6_best := ⟨rfl, by decide +kernel, jt 604 rfl rfl, jt 1 rfl rfl, by decide +kernel, by decide +kernel⟩
def KX6_test : jM := (RX6, cX6_test, 5, yX6_test, some .long, { frames := 4, cells := 0, slots := 0, locals := 93 })
set_option maxRecDepth 100000 in
theorem okX6_test : jmOK KX6_test := ⟨rfl, by decide +kernel, jt 612 rfl rfl, jt 1 rfl rfl, by decide +kernel, by decide +kernel⟩
def KX6_plait : jM := (RX6, cX6_plait, 5, yX6_plait, some .int, { frames := 5, cells := 0, slots := 0, locals := 115 })
set_option maxRecDepth 100000 in
theorem okX6_plait : jmOK KX6_plait := ⟨rfl, by decide +kernel, jt 617 rfl rfl, jt 1 rfl rfl, by decide +kernel, by decide +kernel⟩
def KX6_bears : jM := (RX6, cX6_bears, 4, yX6_bears, some .int, { frames := 5, cells := 0, slots := 0, locals := 115 })
set_option maxRecDepth 100000 in
theorem okX6_bears : jmOK KX6_bears := ⟨rfl, by decide +kernel, jt 630 rfl rfl, jt 1 rfl rfl, by decide +kernel, by decide +kernel⟩
def KX6_mend : jM := (RX6, cX6_mend, 9, yX6_mend, some .long, { frames := 6, cells := 0, slots := 0, locals := 136 })
set_option maxRecDepth 100000 in
theorem okX6_mend : jmOK KX6_mend := ⟨rfl, by decide +kernel, jt 634 rfl rfl, jt 1 rfl rfl, by decide +kernel, by decide +kernel⟩
def KX6_duel : jM := (RX6, cX6_duel, 5, yX6_duel, some .long, { frames := 4, cells := 0, slots := 0, locals := 102 })
set_option maxRecDepth 100000 in
theorem okX6_duel : jmOK KX6_duel := ⟨rfl, by decide +kernel, jt 643 rfl rfl, jt 1 rfl rfl, by decide +kernel, by decide +kernel⟩
def KX6_crown : jM := (RX6, cX6_crown, 9, yX6_crown, some .long, { frames := 5, cells := 0, slots := 0, locals := 124 })
set_option maxRecDepth 100000 in
theorem okX6_crown : jmOK KX6_crown := ⟨rfl, by decide +kernel, jt 659 rfl rfl, jt 1 rfl rfl, by decide +kernel, by decide +kernel⟩
def KX6_reads : jM := (RX6, cX6_reads, 3, yX6_reads, some .long, { frames := 5, cells := 0, slots := 0, locals := 114 })
set_option maxRecDepth 100000 in
theorem okX6_reads : jmOK KX6_reads := ⟨rfl, by decide +kernel, jt 664 rfl rfl, jt 1 rfl rfl, by decide +kernel, by decide +kernel⟩
def KX6_laws : jM := (RX6, cX6_laws, 8, yX6_laws, some .long, { frames := 5, cells := 0, slots := 0, locals := 114 })
set_option maxRecDepth 100000 in
theorem okX6_laws : jmOK KX6_laws := ⟨rfl, by decide +kernel, jt 676 rfl rfl, jt 1 rfl rfl, by decide +kernel, by decide +kernel⟩
def KX6_see : jM := (RX6, cX6_see, 3, yX6_see, some .int, { frames := 2, cells := 0, slots := 0, locals := 42 })
set_option maxRecDepth 100000 in
theorem okX6_see : jmOK KX6_see := ⟨rfl, by decide +kernel, jt 680 rfl rfl, jt 1 rfl rfl, by decide +kernel, by decide +kernel⟩
def KX6_forget : jM := (RX6, cX6_forget, 3, yX6_forget, some .int, { frames := 1, cells := 0, slots := 0, locals := 22 })
set_option maxRecDepth 100000 in
theorem okX6_forget : jmOK KX6_forget := ⟨rfl, by decide +kernel, jt 688 rfl rfl, jt 1 rfl rfl, by decide +kernel, by decide +kernel⟩
def KX6_likely : jM := (RX6, cX6_likely, 4, yX6_likely, some .long, { frames := 5, cells := 0, slots := 0, locals := 118 })
set_option maxRecDepth 100000 in
theorem okX6_likely : jmOK KX6_likely := ⟨rfl, by decide +kernel, jt 692 rfl rfl, jt 1 rfl rfl, by decide +kernel, by decide +kernel⟩
def KX6_guess : jM := (RX6, cX6_guess, 9, yX6_guess, some .long, { frames := 5, cells := 0, slots := 0, locals := 118 })
set_option maxRecDepth 100000 in
theorem okX6_guess : jmOK KX6_guess := ⟨rfl, by decide +kernel, jt 713 rfl rfl, jt 1 rfl rfl, by decide +kernel, by decide +kernel⟩
def KX6_drift : jM := (RX6, cX6_drift, 9, yX6_drift, some .int, { frames := 3, cells := 0, slots := 0, locals := 67 })
set_option maxRecDepth 100000 in
theorem okX6_drift : jmOK KX6_drift := ⟨rfl, by decide +kernel, jt 717 rfl rfl, jt 1 rfl rfl, by decide +kernel, by decide +kernel⟩
def KX6_keep : jM := (RX6, cX6_keep, 3, yX6_keep, some .int, { frames := 2, cells := 0, slots := 0, locals := 43 })
set_option maxRecDepth 100000 in
theorem okX6_keep : jmOK KX6_keep := ⟨rfl, by decide +kernel, jt 723 rfl rfl, jt 1 rfl rfl, by decide +kernel, by decide +kernel⟩
def KX6_back : jM := (RX6, cX6_back, 2, yX6_back, some .int, { frames := 2, cells := 0, slots := 0, locals := 43 })
set_option maxRecDepth 100000 in
theorem okX6_back : jmOK KX6_back := ⟨rfl, by decide +kernel, jt 727 rfl rfl, jt 1 rfl rfl, by decide +kernel, by decide +kernel⟩
def KX6_sheet : jM := (RX6, cX6_sheet, 4, yX6_sheet, some .int, { frames := 2, cells := 0, slots := 0, locals := 44 })
set_option maxRecDepth 100000 in
theorem okX6_sheet : jmOK KX6_sheet := ⟨rfl, by decide +kernel, jt 731 rfl rfl, jt 1 rfl rfl, by decide +kernel, by decide +kernel⟩
def KX6_lay : jM := (RX6, cX6_lay, 5, yX6_lay, some .int, { frames := 2, cells := 0, slots := 0, locals := 44 })
set_option maxRecDepth 100000 in
theorem okX6_lay : jmOK KX6_lay := ⟨rfl, by decide +kernel, jt 740 rfl rfl, jt 1 rfl rfl, by decide +kernel, by decide +kernel⟩
def KX6_read : jM := (RX6, cX6_read, 9, yX6_read, some .int, { frames := 3, cells := 0, slots := 0, locals := 65 })
set_option maxRecDepth 100000 in
theorem okX6_read : jmOK KX6_read := ⟨rfl, by decide +kernel, jt 753 rfl rfl, jt 1 rfl rfl, by decide +kernel, by decide +kernel⟩
def KX6_torn : jM := (RX6, cX6_torn, 1, yX6_torn, some .int, { frames := 0, cells := 0, slots := 0, locals := 0 })
set_option maxRecDepth 100000 in
theorem okX6_torn : jmOK KX6_torn := ⟨rfl, by decide +kernel, jt 762 rfl rfl, jt 1 rfl rfl, by decide +kernel, by decide +kernel⟩
def KX6_count : jM := (RX6, cX6_count, 2, yX6_count, some .int, { frames := 1, cells := 0, slots := 0, locals := 22 })
set_option maxRecDepth 100000 in
theorem okX6_count : jmOK KX6_count := ⟨rfl, by decide +kernel, jt 766 rfl rfl, jt 1 rfl rfl, by decide +kernel, by decide +kernel⟩
def KX6_within : jM := (RX6, cX6_within, 3, yX6_within, some .boolean, { frames := 0, cells := 0, slots := 0, locals := 0 })
set_option maxRecDepth 100000 in
theorem okX6_within : jmOK KX6_within := ⟨rfl, by decide +kernel, jt 284 rfl rfl, jt 1 rfl rfl, by decide +kernel, by decide +kernel⟩
def KX6_foreseen : jM := (RX6, cX6_foreseen, 1, yX6_foreseen, some .boolean, { frames := 1, cells := 0, slots := 0, locals := 22 })
set_option maxRecDepth 100000 in
theorem okX6_foreseen : jmOK KX6_foreseen := ⟨rfl, by decide +kernel, jt 526 rfl rfl, jt 1 rfl rfl, by decide +kernel, by decide +kernel⟩
def KX6_thousands : jM := (RX6, cX6_thousands, 4, yX6_thousands, some .long, { frames := 0, cells := 0, slots := 0, locals := 0 })
set_option maxRecDepth 100000 in
theorem okX6_thousands : jmOK KX6_thousands := ⟨rfl, by decide +kernel, jt 530 rfl rfl, jt 1 rfl rfl, by decide +kernel, by decide +kernel⟩
def KX6_part : jM := (RX6, cX6_part, 7, yX6_part, some .long, { frames := 1, cells := 0, slots := 0, locals := 30 })
set_option maxRecDepth 100000 in
theorem okX6_part : jmOK KX6_part := ⟨rfl, by decide +kernel, jt 570 rfl rfl, jt 1 rfl rfl, by decide +kernel, by decide +kernel⟩
def KX6_common : jM := (RX6, cX6_common, 11, yX6_common, some .long, { frames := 0, cells := 0, slots := 0, locals := 0 })
set_option maxRecDepth 100000 in
theorem okX6_common : jmOK KX6_common := ⟨rfl, by decide +kernel, jt 576 rfl rfl, jt 1 rfl rfl, by decide +kernel, by decide +kernel⟩
def KX6_breaksOf : jM := (RX6, cX6_breaksOf, 5, yX6_breaksOf, some .int, { frames := 1, cells := 0, slots := 0, locals := 22 })
set_option maxRecDepth 100000 in
theorem okX6_breaksOf : jmOK KX6_breaksOf := ⟨rfl, by decide +kernel, jt 469 rfl rfl, jt 1 rfl rfl, by decide +kernel, by decide +kernel⟩
def KX6_baseOf : jM := (RX6, cX6_baseOf, 3, yX6_baseOf, some .int, { frames := 0, cells := 0, slots := 0, locals := 0 })
set_option maxRecDepth 100000 in
theorem okX6_baseOf : jmOK KX6_baseOf := ⟨rfl, by decide +kernel, jt 472 rfl rfl, jt 1 rfl rfl, by decide +kernel, by decide +kernel⟩
def KX6_heldFromNow : jM := (RX6, cX6_heldFromNow, 2, yX6_heldFromNow, some .long, { frames := 5, cells := 0, slots := 0, locals := 115 })
set_option maxRecDepth 100000 in
theorem okX6_heldFromNow : jmOK KX6_heldFromNow := ⟨rfl, by decide +kernel, jt 535 rfl rfl, jt 1 rfl rfl, by decide +kernel, by decide +kernel⟩
def KX6_seeingGain : jM := (RX6, cX6_seeingGain, 3, yX6_seeingGain, some .long, { frames := 4, cells := 0, slots := 0, locals := 102 })
set_option maxRecDepth 100000 in
theorem okX6_seeingGain : jmOK KX6_seeingGain := ⟨rfl, by decide +kernel, jt 608 rfl rfl, jt 1 rfl rfl, by decide +kernel, by decide +kernel⟩
def KX6_worthOfLaws : jM := (RX6, cX6_worthOfLaws, 6, yX6_worthOfLaws, some .long, { frames := 0, cells := 0, slots := 0, locals := 0 })
set_option maxRecDepth 100000 in
theorem okX6_worthOfLaws : jmOK KX6_worthOfLaws := ⟨rfl, by decide +kernel, jt 672 rfl rfl, jt 1 rfl rfl, by decide +kernel, by decide +kernel⟩
def KX6_likelihood : jM := (RX6, cX6_likelihood, 6, yX6_likelihood, some .long, { frames := 4, cells := 0, slots := 0, locals := 93 })
set_option maxRecDepth 100000 in
theorem okX6_likelihood : jmOK KX6_likelihood := ⟨rfl, by decide +kernel, jt 696 rfl rfl, jt 1 rfl rfl, by decide +kernel, by decide +kernel⟩
def KX7_init : jM := (RX7, cX7_init, 1, yX7_init, (none : Option Jvm.ClassFile.FieldType), { frames := 1, cells := 20, slots := 0, locals := 40 })
set_option maxRecDepth 100000 in
theorem okX7_init : jmOK KX7_init := ⟨rfl, by decide +kernel, jt 776 rfl rfl, jt 8 rfl rfl, by decide +kernel, by decide +kernel⟩
def KX7_in : jM := (RX7, cX7_in, 6, yX7_in, some .boolean, { frames := 0, cells := 0, slots := 0, locals := 0 })
set_option maxRecDepth 100000 in
theorem okX7_in : jmOK KX7_in := ⟨rfl, by decide +kernel, jt 912 rfl rfl, jt 8 rfl rfl, by decide +kernel, by decide +kernel⟩
def KX7_feed : jM := (RX7, cX7_feed, 2, yX7_feed, some .int, { frames := 1, cells := 0, slots := 0, locals := 25 })
set_option maxRecDepth 100000 in
theorem okX7_feed : jmOK KX7_feed := ⟨rfl, by decide +kernel, jt 908 rfl rfl, jt 8 rfl rfl, by decide +kernel, by decide +kernel⟩
def KX7_end : jM := (RX7, cX7_end, 3, yX7_end, some .int, { frames := 1, cells := 0, slots := 0, locals := 25 })
set_option maxRecDepth 100000 in
theorem okX7_end : jmOK KX7_end := ⟨rfl, by decide +kernel, jt 916 rfl rfl, jt 8 rfl rfl, by decide +kernel, by decide +kernel⟩
def KX7_byteAt : jM := (RX7, cX7_byteAt, 2, yX7_byteAt, some .int, { frames := 0, cells := 0, slots := 0, locals := 0 })
set_option maxRecDepth 100000 in
theorem okX7_byteAt : jmOK KX7_byteAt := ⟨rfl, by decide +kernel, jt 928 rfl rfl, jt 8 rfl rfl, by decide +kernel, by decide +kernel⟩
def KX7_fails : jM := (RX7, cX7_fails, 2, yX7_fails, (none : Option Jvm.ClassFile.FieldType), { frames := 0, cells := 0, slots := 0, locals := 0 })
set_option maxRecDepth 100000 in
theorem okX7_fails : jmOK KX7_fails := ⟨rfl, by decide +kernel, jt 936 rfl rfl, jt 8 rfl rfl, by decide +kernel, by decide +kernel⟩
def KX7_nameHere : jM := (RX7, cX7_nameHere, 4, yX7_nameHere, some .int, { frames := 1, cells := 0, slots := 0, locals := 21 })
set_option maxRecDepth 100000 in
theorem okX7_nameHere : jmOK KX7_nameHere := ⟨rfl, by decide +kernel, jt 944 rfl rfl, jt 8 rfl rfl, by decide +kernel, by decide +kernel⟩
def KX7_step : jM := (RX7, cX7_step, 2, yX7_step, (none : Option Jvm.ClassFile.FieldType), { frames := 1, cells := 0, slots := 0, locals := 25 })
set_option maxRecDepth 100000 in
theorem okX7_step : jmOK KX7_step := ⟨rfl, by decide +kernel, jt 924 rfl rfl, jt 8 rfl rfl, by decide +kernel, by decide +kernel⟩
def KX7_number : jM := (RX7, cX7_number, 4, yX7_number, some .int, { frames := 2, cells := 0, slots := 0, locals := 46 })
set_option maxRecDepth 100000 in
theorem okX7_number : jmOK KX7_number := ⟨rfl, by decide +kernel, jt 955 rfl rfl, jt 8 rfl rfl, by decide +kernel, by decide +kernel⟩
def KX7_readMore : jM := (RX7, cX7_readMore, 3, yX7_readMore, (none : Option Jvm.ClassFile.FieldType), { frames := 3, cells := 0, slots := 0, locals := 69 })
set_option maxRecDepth 100000 in
theorem okX7_readMore : jmOK KX7_readMore := ⟨rfl, by decide +kernel, jt 951 rfl rfl, jt 8 rfl rfl, by decide +kernel, by decide +kernel⟩
def KX7_readLine : jM := (RX7, cX7_readLine, 2, yX7_readLine, (none : Option Jvm.ClassFile.FieldType), { frames := 4, cells := 0, slots := 0, locals := 91 })
set_option maxRecDepth 100000 in
theorem okX7_readLine : jmOK KX7_readLine := ⟨rfl, by decide +kernel, jt 940 rfl rfl, jt 8 rfl rfl, by decide +kernel, by decide +kernel⟩
def KX7_text : jM := (RX7, cX7_text, 3, yX7_text, some .int, { frames := 5, cells := 0, slots := 0, locals := 112 })
set_option maxRecDepth 100000 in
theorem okX7_text : jmOK KX7_text := ⟨rfl, by decide +kernel, jt 920 rfl rfl, jt 8 rfl rfl, by decide +kernel, by decide +kernel⟩
def KX7_fault : jM := (RX7, cX7_fault, 1, yX7_fault, some .int, { frames := 0, cells := 0, slots := 0, locals := 0 })
set_option maxRecDepth 100000 in
theorem okX7_fault : jmOK KX7_fault := ⟨rfl, by decide +kernel, jt 960 rfl rfl, jt 8 rfl rfl, by decide +kernel, by decide +kernel⟩
def KX7_isHair : jM := (RX7, cX7_isHair, 2, yX7_isHair, some .boolean, { frames := 1, cells := 0, slots := 0, locals := 25 })
set_option maxRecDepth 100000 in
theorem okX7_isHair : jmOK KX7_isHair := ⟨rfl, by decide +kernel, jt 984 rfl rfl, jt 8 rfl rfl, by decide +kernel, by decide +kernel⟩
def KX7_isKing : jM := (RX7, cX7_isKing, 2, yX7_isKing, some .boolean, { frames := 1, cells := 0, slots := 0, locals := 25 })
set_option maxRecDepth 100000 in
theorem okX7_isKing : jmOK KX7_isKing := ⟨rfl, by decide +kernel, jt 1003 rfl rfl, jt 8 rfl rfl, by decide +kernel, by decide +kernel⟩
def KX7_load : jM := (RX7, cX7_load, 1, yX7_load, some .int, { frames := 0, cells := 0, slots := 0, locals := 0 })
set_option maxRecDepth 100000 in
theorem okX7_load : jmOK KX7_load := ⟨rfl, by decide +kernel, jt 968 rfl rfl, jt 8 rfl rfl, by decide +kernel, by decide +kernel⟩
def KX7_prize : jM := (RX7, cX7_prize, 1, yX7_prize, some .int, { frames := 0, cells := 0, slots := 0, locals := 0 })
set_option maxRecDepth 100000 in
theorem okX7_prize : jmOK KX7_prize := ⟨rfl, by decide +kernel, jt 972 rfl rfl, jt 8 rfl rfl, by decide +kernel, by decide +kernel⟩
def KX7_wholeNow : jM := (RX7, cX7_wholeNow, 3, yX7_wholeNow, some .int, { frames := 0, cells := 0, slots := 0, locals := 0 })
set_option maxRecDepth 100000 in
theorem okX7_wholeNow : jmOK KX7_wholeNow := ⟨rfl, by decide +kernel, jt 976 rfl rfl, jt 8 rfl rfl, by decide +kernel, by decide +kernel⟩
def KX7_rule : jM := (RX7, cX7_rule, 2, yX7_rule, some .int, { frames := 1, cells := 0, slots := 0, locals := 22 })
set_option maxRecDepth 100000 in
theorem okX7_rule : jmOK KX7_rule := ⟨rfl, by decide +kernel, jt 964 rfl rfl, jt 8 rfl rfl, by decide +kernel, by decide +kernel⟩
def KX7_lays : jM := (RX7, cX7_lays, 2, yX7_lays, (none : Option Jvm.ClassFile.FieldType), { frames := 1, cells := 0, slots := 0, locals := 22 })
set_option maxRecDepth 100000 in
theorem okX7_lays : jmOK KX7_lays := ⟨rfl, by decide +kernel, jt 988 rfl rfl, jt 8 rfl rfl, by decide +kernel, by decide +kernel⟩
def KX7_laysNew : jM := (RX7, cX7_laysNew, 4, yX7_laysNew, (none : Option Jvm.ClassFile.FieldType), { frames := 1, cells := 0, slots := 0, locals := 20 })
set_option maxRecDepth 100000 in
theorem okX7_laysNew : jmOK KX7_laysNew := ⟨rfl, by decide +kernel, jt 1108 rfl rfl, jt 8 rfl rfl, by decide +kernel, by decide +kernel⟩
def KX7_bitsOf : jM := (RX7, cX7_bitsOf, 1, yX7_bitsOf, some .int, { frames := 0, cells := 0, slots := 0, locals := 0 })
set_option maxRecDepth 100000 in
theorem okX7_bitsOf : jmOK KX7_bitsOf := ⟨rfl, by decide +kernel, jt 995 rfl rfl, jt 8 rfl rfl, by decide +kernel, by decide +kernel⟩
def KX7_breaksOf : jM := (RX7, cX7_breaksOf, 7, yX7_breaksOf, some .int, { frames := 1, cells := 0, slots := 0, locals := 20 })
set_option maxRecDepth 100000 in
theorem okX7_breaksOf : jmOK KX7_breaksOf := ⟨rfl, by decide +kernel, jt 992 rfl rfl, jt 8 rfl rfl, by decide +kernel, by decide +kernel⟩
def KX7_hair : jM := (RX7, cX7_hair, 3, yX7_hair, some .int, { frames := 2, cells := 0, slots := 0, locals := 46 })
set_option maxRecDepth 100000 in
theorem okX7_hair : jmOK KX7_hair := ⟨rfl, by decide +kernel, jt 980 rfl rfl, jt 8 rfl rfl, by decide +kernel, by decide +kernel⟩
def KX7_king : jM := (RX7, cX7_king, 3, yX7_king, some .int, { frames := 2, cells := 0, slots := 0, locals := 46 })
set_option maxRecDepth 100000 in
theorem okX7_king : jmOK KX7_king := ⟨rfl, by decide +kernel, jt 999 rfl rfl, jt 8 rfl rfl, by decide +kernel, by decide +kernel⟩
def KX7_law : jM := (RX7, cX7_law, 3, yX7_law, some .int, { frames := 1, cells := 0, slots := 0, locals := 25 })
set_option maxRecDepth 100000 in
theorem okX7_law : jmOK KX7_law := ⟨rfl, by decide +kernel, jt 1007 rfl rfl, jt 8 rfl rfl, by decide +kernel, by decide +kernel⟩
def KX7_puts : jM := (RX7, cX7_puts, 6, yX7_puts, some .int, { frames := 0, cells := 0, slots := 0, locals := 0 })
set_option maxRecDepth 100000 in
theorem okX7_puts : jmOK KX7_puts := ⟨rfl, by decide +kernel, jt 1016 rfl rfl, jt 8 rfl rfl, by decide +kernel, by decide +kernel⟩
def KX7_set : jM := (RX7, cX7_set, 3, yX7_set, some .int, { frames := 1, cells := 0, slots := 0, locals := 25 })
set_option maxRecDepth 100000 in
theorem okX7_set : jmOK KX7_set := ⟨rfl, by decide +kernel, jt 1011 rfl rfl, jt 8 rfl rfl, by decide +kernel, by decide +kernel⟩
def KX7_age : jM := (RX7, cX7_age, 3, yX7_age, some .int, { frames := 2, cells := 0, slots := 0, locals := 46 })
set_option maxRecDepth 100000 in
theorem okX7_age : jmOK KX7_age := ⟨rfl, by decide +kernel, jt 1021 rfl rfl, jt 8 rfl rfl, by decide +kernel, by decide +kernel⟩
def KX7_dye : jM := (RX7, cX7_dye, 3, yX7_dye, some .int, { frames := 2, cells := 0, slots := 0, locals := 46 })
set_option maxRecDepth 100000 in
theorem okX7_dye : jmOK KX7_dye := ⟨rfl, by decide +kernel, jt 1025 rfl rfl, jt 8 rfl rfl, by decide +kernel, by decide +kernel⟩
def KX7_knot : jM := (RX7, cX7_knot, 3, yX7_knot, some .int, { frames := 2, cells := 0, slots := 0, locals := 46 })
set_option maxRecDepth 100000 in
theorem okX7_knot : jmOK KX7_knot := ⟨rfl, by decide +kernel, jt 1029 rfl rfl, jt 8 rfl rfl, by decide +kernel, by decide +kernel⟩
def KX7_pay : jM := (RX7, cX7_pay, 4, yX7_pay, some .int, { frames := 2, cells := 0, slots := 0, locals := 46 })
set_option maxRecDepth 100000 in
theorem okX7_pay : jmOK KX7_pay := ⟨rfl, by decide +kernel, jt 1033 rfl rfl, jt 8 rfl rfl, by decide +kernel, by decide +kernel⟩
def KX7_hours : jM := (RX7, cX7_hours, 3, yX7_hours, some .int, { frames := 1, cells := 0, slots := 0, locals := 25 })
set_option maxRecDepth 100000 in
theorem okX7_hours : jmOK KX7_hours := ⟨rfl, by decide +kernel, jt 1041 rfl rfl, jt 8 rfl rfl, by decide +kernel, by decide +kernel⟩
def KX7_hour : jM := (RX7, cX7_hour, 2, yX7_hour, some .int, { frames := 2, cells := 0, slots := 0, locals := 47 })
set_option maxRecDepth 100000 in
theorem okX7_hour : jmOK KX7_hour := ⟨rfl, by decide +kernel, jt 1037 rfl rfl, jt 8 rfl rfl, by decide +kernel, by decide +kernel⟩
def KX7_wayOf : jM := (RX7, cX7_wayOf, 9, yX7_wayOf, some .long, { frames := 2, cells := 0, slots := 0, locals := 46 })
set_option maxRecDepth 100000 in
theorem okX7_wayOf : jmOK KX7_wayOf := ⟨rfl, by decide +kernel, jt 1073 rfl rfl, jt 8 rfl rfl, by decide +kernel, by decide +kernel⟩
def KX7_begins : jM := (RX7, cX7_begins, 2, yX7_begins, (none : Option Jvm.ClassFile.FieldType), { frames := 0, cells := 0, slots := 0, locals := 0 })
set_option maxRecDepth 100000 in
theorem okX7_begins : jmOK KX7_begins := ⟨rfl, by decide +kernel, jt 1065 rfl rfl, jt 8 rfl rfl, by decide +kernel, by decide +kernel⟩
def KX7_hourOn : jM := (RX7, cX7_hourOn, 4, yX7_hourOn, (none : Option Jvm.ClassFile.FieldType), { frames := 3, cells := 0, slots := 0, locals := 74 })
set_option maxRecDepth 100000 in
theorem okX7_hourOn : jmOK KX7_hourOn := ⟨rfl, by decide +kernel, jt 1069 rfl rfl, jt 8 rfl rfl, by decide +kernel, by decide +kernel⟩
def KX7_hoursOn : jM := (RX7, cX7_hoursOn, 3, yX7_hoursOn, (none : Option Jvm.ClassFile.FieldType), { frames := 4, cells := 0, slots := 0, locals := 97 })
set_option maxRecDepth 100000 in
theorem okX7_hoursOn : jmOK KX7_hoursOn := ⟨rfl, by decide +kernel, jt 1061 rfl rfl, jt 8 rfl rfl, by decide +kernel, by decide +kernel⟩
def KX7_tens : jM := (RX7, cX7_tens, 4, yX7_tens, some .long, { frames := 0, cells := 0, slots := 0, locals := 0 })
set_option maxRecDepth 100000 in
theorem okX7_tens : jmOK KX7_tens := ⟨rfl, by decide +kernel, jt 1052 rfl rfl, jt 8 rfl rfl, by decide +kernel, by decide +kernel⟩
def KX7_lowest : jM := (RX7, cX7_lowest, 11, yX7_lowest, some .long, { frames := 0, cells := 0, slots := 0, locals := 0 })
set_option maxRecDepth 100000 in
theorem okX7_lowest : jmOK KX7_lowest := ⟨rfl, by decide +kernel, jt 1076 rfl rfl, jt 8 rfl rfl, by decide +kernel, by decide +kernel⟩
def KX7_holds : jM := (RX7, cX7_holds, 2, yX7_holds, some .long, { frames := 5, cells := 0, slots := 0, locals := 119 })
set_option maxRecDepth 100000 in
theorem okX7_holds : jmOK KX7_holds := ⟨rfl, by decide +kernel, jt 1057 rfl rfl, jt 8 rfl rfl, by decide +kernel, by decide +kernel⟩
def KX7_isLong : jM := (RX7, cX7_isLong, 1, yX7_isLong, some .boolean, { frames := 1, cells := 0, slots := 0, locals := 25 })
set_option maxRecDepth 100000 in
theorem okX7_isLong : jmOK KX7_isLong := ⟨rfl, by decide +kernel, jt 1048 rfl rfl, jt 8 rfl rfl, by decide +kernel, by decide +kernel⟩
def KX7_falls : jM := (RX7, cX7_falls, 5, yX7_falls, some .long, { frames := 6, cells := 0, slots := 0, locals := 140 })
set_option maxRecDepth 100000 in
theorem okX7_falls : jmOK KX7_falls := ⟨rfl, by decide +kernel, jt 1045 rfl rfl, jt 8 rfl rfl, by decide +kernel, by decide +kernel⟩
def KX7_left : jM := (RX7, cX7_left, 7, yX7_left, some .long, { frames := 5, cells := 0, slots := 0, locals := 119 })
set_option maxRecDepth 100000 in
theorem okX7_left : jmOK KX7_left := ⟨rfl, by decide +kernel, jt 1080 rfl rfl, jt 8 rfl rfl, by decide +kernel, by decide +kernel⟩
def KX7_mean : jM := (RX7, cX7_mean, 6, yX7_mean, some .long, { frames := 5, cells := 0, slots := 0, locals := 119 })
set_option maxRecDepth 100000 in
theorem okX7_mean : jmOK KX7_mean := ⟨rfl, by decide +kernel, jt 1084 rfl rfl, jt 8 rfl rfl, by decide +kernel, by decide +kernel⟩
def KX7_sits : jM := (RX7, cX7_sits, 7, yX7_sits, some .long, { frames := 4, cells := 0, slots := 0, locals := 97 })
set_option maxRecDepth 100000 in
theorem okX7_sits : jmOK KX7_sits := ⟨rfl, by decide +kernel, jt 1088 rfl rfl, jt 8 rfl rfl, by decide +kernel, by decide +kernel⟩
def KX7_bestOf : jM := (RX7, cX7_bestOf, 12, yX7_bestOf, some .long, { frames := 3, cells := 0, slots := 0, locals := 74 })
set_option maxRecDepth 100000 in
theorem okX7_bestOf : jmOK KX7_bestOf := ⟨rfl, by decide +kernel, jt 1096 rfl rfl, jt 8 rfl rfl, by decide +kernel, by decide +kernel⟩
def KX7_best : jM := (RX7, cX7_best, 6, yX7_best, some .long, { frames := 4, cells := 0, slots := 0, locals := 105 })
set_option maxRecDepth 100000 in
theorem okX7_best : jmOK KX7_best := ⟨rfl, by decide +kernel, jt 1092 rfl rfl, jt 8 rfl rfl, by decide +kernel, by decide +kernel⟩
def KX7_test : jM := (RX7, cX7_test, 6, yX7_test, some .long, { frames := 4, cells := 0, slots := 0, locals := 97 })
set_option maxRecDepth 100000 in
theorem okX7_test : jmOK KX7_test := ⟨rfl, by decide +kernel, jt 1100 rfl rfl, jt 8 rfl rfl, by decide +kernel, by decide +kernel⟩
def KX7_holdsBy : jM := (RX7, cX7_holdsBy, 3, yX7_holdsBy, some .boolean, { frames := 6, cells := 0, slots := 0, locals := 140 })
set_option maxRecDepth 100000 in
theorem okX7_holdsBy : jmOK KX7_holdsBy := ⟨rfl, by decide +kernel, jt 1112 rfl rfl, jt 8 rfl rfl, by decide +kernel, by decide +kernel⟩
def KX7_plait : jM := (RX7, cX7_plait, 5, yX7_plait, some .int, { frames := 7, cells := 0, slots := 0, locals := 162 })
set_option maxRecDepth 100000 in
theorem okX7_plait : jmOK KX7_plait := ⟨rfl, by decide +kernel, jt 1104 rfl rfl, jt 8 rfl rfl, by decide +kernel, by decide +kernel⟩
def KX7_bears : jM := (RX7, cX7_bears, 4, yX7_bears, some .int, { frames := 7, cells := 0, slots := 0, locals := 162 })
set_option maxRecDepth 100000 in
theorem okX7_bears : jmOK KX7_bears := ⟨rfl, by decide +kernel, jt 1116 rfl rfl, jt 8 rfl rfl, by decide +kernel, by decide +kernel⟩
def KX7_mend : jM := (RX7, cX7_mend, 9, yX7_mend, some .long, { frames := 6, cells := 0, slots := 0, locals := 140 })
set_option maxRecDepth 100000 in
theorem okX7_mend : jmOK KX7_mend := ⟨rfl, by decide +kernel, jt 1120 rfl rfl, jt 8 rfl rfl, by decide +kernel, by decide +kernel⟩
def KX7_duels : jM := (RX7, cX7_duels, 20, yX7_duels, (none : Option Jvm.ClassFile.FieldType), { frames := 3, cells := 0, slots := 0, locals := 74 })
set_option maxRecDepth 100000 in
theorem okX7_duels : jmOK KX7_duels := ⟨rfl, by decide +kernel, jt 1128 rfl rfl, jt 8 rfl rfl, by decide +kernel, by decide +kernel⟩
def KX7_duel : jM := (RX7, cX7_duel, 5, yX7_duel, some .long, { frames := 4, cells := 0, slots := 0, locals := 113 })
set_option maxRecDepth 100000 in
theorem okX7_duel : jmOK KX7_duel := ⟨rfl, by decide +kernel, jt 1124 rfl rfl, jt 8 rfl rfl, by decide +kernel, by decide +kernel⟩
def KX7_crown : jM := (RX7, cX7_crown, 9, yX7_crown, some .long, { frames := 4, cells := 0, slots := 0, locals := 105 })
set_option maxRecDepth 100000 in
theorem okX7_crown : jmOK KX7_crown := ⟨rfl, by decide +kernel, jt 1132 rfl rfl, jt 8 rfl rfl, by decide +kernel, by decide +kernel⟩
def KX7_readOf : jM := (RX7, cX7_readOf, 6, yX7_readOf, some .long, { frames := 6, cells := 0, slots := 0, locals := 140 })
set_option maxRecDepth 100000 in
theorem okX7_readOf : jmOK KX7_readOf := ⟨rfl, by decide +kernel, jt 1141 rfl rfl, jt 8 rfl rfl, by decide +kernel, by decide +kernel⟩
def KX7_reads : jM := (RX7, cX7_reads, 3, yX7_reads, some .long, { frames := 7, cells := 0, slots := 0, locals := 165 })
set_option maxRecDepth 100000 in
theorem okX7_reads : jmOK KX7_reads := ⟨rfl, by decide +kernel, jt 1137 rfl rfl, jt 8 rfl rfl, by decide +kernel, by decide +kernel⟩
def KX7_laws : jM := (RX7, cX7_laws, 8, yX7_laws, some .long, { frames := 7, cells := 0, slots := 0, locals := 165 })
set_option maxRecDepth 100000 in
theorem okX7_laws : jmOK KX7_laws := ⟨rfl, by decide +kernel, jt 1145 rfl rfl, jt 8 rfl rfl, by decide +kernel, by decide +kernel⟩
def KX7_see : jM := (RX7, cX7_see, 3, yX7_see, some .int, { frames := 2, cells := 0, slots := 0, locals := 45 })
set_option maxRecDepth 100000 in
theorem okX7_see : jmOK KX7_see := ⟨rfl, by decide +kernel, jt 1149 rfl rfl, jt 8 rfl rfl, by decide +kernel, by decide +kernel⟩
def KX7_forget : jM := (RX7, cX7_forget, 3, yX7_forget, some .int, { frames := 1, cells := 0, slots := 0, locals := 25 })
set_option maxRecDepth 100000 in
theorem okX7_forget : jmOK KX7_forget := ⟨rfl, by decide +kernel, jt 1153 rfl rfl, jt 8 rfl rfl, by decide +kernel, by decide +kernel⟩
def KX7_sifts : jM := (RX7, cX7_sifts, 4, yX7_sifts, (none : Option Jvm.ClassFile.FieldType), { frames := 1, cells := 0, slots := 0, locals := 20 })
set_option maxRecDepth 100000 in
theorem okX7_sifts : jmOK KX7_sifts := ⟨rfl, by decide +kernel, jt 1165 rfl rfl, jt 8 rfl rfl, by decide +kernel, by decide +kernel⟩
def KX7_likeliness : jM := (RX7, cX7_likeliness, 6, yX7_likeliness, some .long, { frames := 4, cells := 0, slots := 0, locals := 97 })
set_option maxRecDepth 100000 in
theorem okX7_likeliness : jmOK KX7_likeliness := ⟨rfl, by decide +kernel, jt 1161 rfl rfl, jt 8 rfl rfl, by decide +kernel, by decide +kernel⟩
def KX7_likely : jM := (RX7, cX7_likely, 4, yX7_likely, some .long, { frames := 5, cells := 0, slots := 0, locals := 122 })
set_option maxRecDepth 100000 in
theorem okX7_likely : jmOK KX7_likely := ⟨rfl, by decide +kernel, jt 1157 rfl rfl, jt 8 rfl rfl, by decide +kernel, by decide +kernel⟩
def KX7_guess : jM := (RX7, cX7_guess, 9, yX7_guess, some .long, { frames := 5, cells := 0, slots := 0, locals := 122 })
set_option maxRecDepth 100000 in
theorem okX7_guess : jmOK KX7_guess := ⟨rfl, by decide +kernel, jt 1169 rfl rfl, jt 8 rfl rfl, by decide +kernel, by decide +kernel⟩
def KX7_drift : jM := (RX7, cX7_drift, 10, yX7_drift, some .int, { frames := 2, cells := 0, slots := 0, locals := 46 })
set_option maxRecDepth 100000 in
theorem okX7_drift : jmOK KX7_drift := ⟨rfl, by decide +kernel, jt 1173 rfl rfl, jt 8 rfl rfl, by decide +kernel, by decide +kernel⟩
def KX7_copies : jM := (RX7, cX7_copies, 4, yX7_copies, (none : Option Jvm.ClassFile.FieldType), { frames := 0, cells := 0, slots := 0, locals := 0 })
set_option maxRecDepth 100000 in
theorem okX7_copies : jmOK KX7_copies := ⟨rfl, by decide +kernel, jt 1183 rfl rfl, jt 8 rfl rfl, by decide +kernel, by decide +kernel⟩
def KX7_keep : jM := (RX7, cX7_keep, 3, yX7_keep, some .int, { frames := 1, cells := 0, slots := 0, locals := 25 })
set_option maxRecDepth 100000 in
theorem okX7_keep : jmOK KX7_keep := ⟨rfl, by decide +kernel, jt 1179 rfl rfl, jt 8 rfl rfl, by decide +kernel, by decide +kernel⟩
def KX7_back : jM := (RX7, cX7_back, 2, yX7_back, some .int, { frames := 1, cells := 0, slots := 0, locals := 25 })
set_option maxRecDepth 100000 in
theorem okX7_back : jmOK KX7_back := ⟨rfl, by decide +kernel, jt 1187 rfl rfl, jt 8 rfl rfl, by decide +kernel, by decide +kernel⟩
def KX7_sheet : jM := (RX7, cX7_sheet, 5, yX7_sheet, some .int, { frames := 1, cells := 0, slots := 0, locals := 25 })
set_option maxRecDepth 100000 in
theorem okX7_sheet : jmOK KX7_sheet := ⟨rfl, by decide +kernel, jt 1191 rfl rfl, jt 8 rfl rfl, by decide +kernel, by decide +kernel⟩
def KX7_lay : jM := (RX7, cX7_lay, 4, yX7_lay, some .int, { frames := 1, cells := 0, slots := 0, locals := 25 })
set_option maxRecDepth 100000 in
theorem okX7_lay : jmOK KX7_lay := ⟨rfl, by decide +kernel, jt 1195 rfl rfl, jt 8 rfl rfl, by decide +kernel, by decide +kernel⟩
def KX7_read : jM := (RX7, cX7_read, 7, yX7_read, some .int, { frames := 2, cells := 0, slots := 0, locals := 47 })
set_option maxRecDepth 100000 in
theorem okX7_read : jmOK KX7_read := ⟨rfl, by decide +kernel, jt 1199 rfl rfl, jt 8 rfl rfl, by decide +kernel, by decide +kernel⟩
def KX7_torn : jM := (RX7, cX7_torn, 1, yX7_torn, some .int, { frames := 0, cells := 0, slots := 0, locals := 0 })
set_option maxRecDepth 100000 in
theorem okX7_torn : jmOK KX7_torn := ⟨rfl, by decide +kernel, jt 1204 rfl rfl, jt 8 rfl rfl, by decide +kernel, by decide +kernel⟩
def KX7_count : jM := (RX7, cX7_count, 4, yX7_count, some .int, { frames := 1, cells := 0, slots := 0, locals := 22 })
set_option maxRecDepth 100000 in
theorem okX7_count : jmOK KX7_count := ⟨rfl, by decide +kernel, jt 1208 rfl rfl, jt 8 rfl rfl, by decide +kernel, by decide +kernel⟩
def KJ6_bitCount_0f7a4 : jM := (RJ6, cJ6_bitCount_0f7a4, 1, yJ6_bitCount_0f7a4, some .int, { frames := 0, cells := 0, slots := 0, locals := 0 })
set_option maxRecDepth 100000 in
theorem okJ6_bitCount_0f7a4 : jmOK KJ6_bitCount_0f7a4 := ⟨rfl, by decide +kernel, jt 463 rfl rfl, jt 13 rfl rfl, by decide +kernel, by decide +kernel⟩
def KJ0_length_8abf5 : jM := (RJ0, cJ0_length_8abf5, 1, yJ0_length_8abf5, some .int, { frames := 1, cells := 0, slots := 0, locals := 20 })
set_option maxRecDepth 100000 in
theorem okJ0_length_8abf5 : jmOK KJ0_length_8abf5 := ⟨rfl, by decide +kernel, jt 329 rfl rfl, jt 9 rfl rfl, by decide +kernel, by decide +kernel⟩
def KJ0_charAt_5068e : jM := (RJ0, cJ0_charAt_5068e, 2, yJ0_charAt_5068e, some .char, { frames := 5, cells := 0, slots := 0, locals := 125 })
set_option maxRecDepth 100000 in
theorem okJ0_charAt_5068e : jmOK KJ0_charAt_5068e := ⟨rfl, by decide +kernel, jt 339 rfl rfl, jt 9 rfl rfl, by decide +kernel, by decide +kernel⟩
def KJ0_coder_7d493 : jM := (RJ0, cJ0_coder_7d493, 1, yJ0_coder_7d493, some .byte, { frames := 0, cells := 0, slots := 0, locals := 0 })
set_option maxRecDepth 100000 in
theorem okJ0_coder_7d493 : jmOK KJ0_coder_7d493 := ⟨rfl, by decide +kernel, jt 333 rfl rfl, jt 9 rfl rfl, by decide +kernel, by decide +kernel⟩
def KJ0_isLatin1_aae02 : jM := (RJ0, cJ0_isLatin1_aae02, 1, yJ0_isLatin1_aae02, some .boolean, { frames := 0, cells := 0, slots := 0, locals := 0 })
set_option maxRecDepth 100000 in
theorem okJ0_isLatin1_aae02 : jmOK KJ0_isLatin1_aae02 := ⟨rfl, by decide +kernel, jt 343 rfl rfl, jt 9 rfl rfl, by decide +kernel, by decide +kernel⟩
def KJ0_checkIndex_df160 : jM := (RJ0, cJ0_checkIndex_df160, 2, yJ0_checkIndex_df160, (none : Option Jvm.ClassFile.FieldType), { frames := 2, cells := 0, slots := 0, locals := 62 })
set_option maxRecDepth 100000 in
theorem okJ0_checkIndex_df160 : jmOK KJ0_checkIndex_df160 := ⟨rfl, by decide +kernel, jt 349 rfl rfl, jt 9 rfl rfl, by decide +kernel, by decide +kernel⟩
def KJ1_charAt_3b067 : jM := (RJ1, cJ1_charAt_3b067, 2, yJ1_charAt_3b067, some .char, { frames := 3, cells := 0, slots := 0, locals := 83 })
set_option maxRecDepth 100000 in
theorem okJ1_charAt_3b067 : jmOK KJ1_charAt_3b067 := ⟨rfl, by decide +kernel, jt 346 rfl rfl, jt 10 rfl rfl, by decide +kernel, by decide +kernel⟩
def KJ2_getChar_3b067 : jM := (RJ2, cJ2_getChar_3b067, 2, yJ2_getChar_3b067, some .char, { frames := 1, cells := 0, slots := 0, locals := 40 })
set_option maxRecDepth 100000 in
theorem okJ2_getChar_3b067 : jmOK KJ2_getChar_3b067 := ⟨rfl, by decide +kernel, jt 367 rfl rfl, jt 12 rfl rfl, by decide +kernel, by decide +kernel⟩
def KJ2_length_9d52b : jM := (RJ2, cJ2_length_9d52b, 1, yJ2_length_9d52b, some .int, { frames := 0, cells := 0, slots := 0, locals := 0 })
set_option maxRecDepth 100000 in
theorem okJ2_length_9d52b : jmOK KJ2_length_9d52b := ⟨rfl, by decide +kernel, jt 363 rfl rfl, jt 12 rfl rfl, by decide +kernel, by decide +kernel⟩
def KJ2_charAt_3b067 : jM := (RJ2, cJ2_charAt_3b067, 2, yJ2_charAt_3b067, some .char, { frames := 4, cells := 0, slots := 0, locals := 104 })
set_option maxRecDepth 100000 in
theorem okJ2_charAt_3b067 : jmOK KJ2_charAt_3b067 := ⟨rfl, by decide +kernel, jt 357 rfl rfl, jt 12 rfl rfl, by decide +kernel, by decide +kernel⟩
def KJ2_checkIndex_2214a : jM := (RJ2, cJ2_checkIndex_2214a, 2, yJ2_checkIndex_2214a, (none : Option Jvm.ClassFile.FieldType), { frames := 3, cells := 0, slots := 0, locals := 83 })
set_option maxRecDepth 100000 in
theorem okJ2_checkIndex_2214a : jmOK KJ2_checkIndex_2214a := ⟨rfl, by decide +kernel, jt 360 rfl rfl, jt 12 rfl rfl, by decide +kernel, by decide +kernel⟩
def KJ3_checkIndex_8e157 : jM := (RJ3, cJ3_checkIndex_8e157, 3, yJ3_checkIndex_8e157, some .int, { frames := 1, cells := 0, slots := 0, locals := 40 })
set_option maxRecDepth 100000 in
theorem okJ3_checkIndex_8e157 : jmOK KJ3_checkIndex_8e157 := ⟨rfl, by decide +kernel, jt 354 rfl rfl, jt 11 rfl rfl, by decide +kernel, by decide +kernel⟩
set_option maxRecDepth 100000 in
theorem jFX6_12 : jF RX6 12 6 0 := ⟨RX6, TX6, 9, rfl, by decide, jin6, Or.inl (jt 250 rfl rfl)⟩
set_option maxRecDepth 100000 in
theorem jFX6_16 : jF RX6 16 6 1 := ⟨RX6, TX6, 9, rfl, by decide, jin6, Or.inl (jt 251 rfl rfl)⟩
set_option maxRecDepth 100000 in
theorem jFX6_19 : jF RX6 19 6 2 := ⟨RX6, TX6, 9, rfl, by decide, jin6, Or.inl (jt 252 rfl rfl)⟩
set_option maxRecDepth 100000 in
theorem jFX6_23 : jF RX6 23 6 3 := ⟨RX6, TX6, 9, rfl, by decide, jin6, Or.inl (jt 253 rfl rfl)⟩
set_option maxRecDepth 100000 in
theorem jFX6_30 : jF RX6 30 6 4 := ⟨RX6, TX6, 9, rfl, by decide, jin6, Or.inl (jt 254 rfl rfl)⟩
set_option maxRecDepth 100000 in
theorem jFX6_37 : jF RX6 37 6 5 := ⟨RX6, TX6, 9, rfl, by decide, jin6, Or.inl (jt 255 rfl rfl)⟩
set_option maxRecDepth 100000 in
theorem jFX6_44 : jF RX6 44 6 6 := ⟨RX6, TX6, 9, rfl, by decide, jin6, Or.inl (jt 256 rfl rfl)⟩
set_option maxRecDepth 100000 in
theorem jFX6_50 : jF RX6 50 6 7 := ⟨RX6, TX6, 9, rfl, by decide, jin6, Or.inl (jt 257 rfl rfl)⟩
set_option maxRecDepth 100000 in
theorem jFX6_54 : jF RX6 54 6 8 := ⟨RX6, TX6, 9, rfl, by decide, jin6, Or.inl (jt 258 rfl rfl)⟩
set_option maxRecDepth 100000 in
theorem jFX6_63 : jF RX6 63 1 0 := ⟨RX1, TX1, 11, rfl, by decide, jin1, Or.inr ⟨"SwordSeat", jn 127 rfl rfl⟩⟩
set_option maxRecDepth 100000 in
theorem jFX6_73 : jF RX6 73 5 1 := ⟨RX5, TX5, 2, rfl, by decide, jin5, Or.inr ⟨"SwordSeat", jn 115 rfl rfl⟩⟩
set_option maxRecDepth 100000 in
theorem jFX6_80 : jF RX6 80 1 9 := ⟨RX1, TX1, 11, rfl, by decide, jin1, Or.inr ⟨"SwordSeat", jn 138 rfl rfl⟩⟩
set_option maxRecDepth 100000 in
theorem jFX6_83 : jF RX6 83 1 1 := ⟨RX1, TX1, 11, rfl, by decide, jin1, Or.inr ⟨"SwordSeat", jn 129 rfl rfl⟩⟩
set_option maxRecDepth 100000 in
theorem jFX6_90 : jF RX6 90 3 2 := ⟨RX3, TX3, 3, rfl, by decide, jin3, Or.inr ⟨"SwordSeat", jn 222 rfl rfl⟩⟩
set_option maxRecDepth 100000 in
theorem jFX6_93 : jF RX6 93 2 6 := ⟨RX2, TX2, 13, rfl, by decide, jin2, Or.inr ⟨"SwordSeat", jn 51 rfl rfl⟩⟩
set_option maxRecDepth 100000 in
theorem jFX6_96 : jF RX6 96 2 7 := ⟨RX2, TX2, 13, rfl, by decide, jin2, Or.inr ⟨"SwordSeat", jn 54 rfl rfl⟩⟩
set_option maxRecDepth 100000 in
theorem jFX6_99 : jF RX6 99 2 8 := ⟨RX2, TX2, 13, rfl, by decide, jin2, Or.inr ⟨"SwordSeat", jn 57 rfl rfl⟩⟩
set_option maxRecDepth 100000 in
theorem jFX6_102 : jF RX6 102 2 10 := ⟨RX2, TX2, 13, rfl, by decide, jin2, Or.inr ⟨"SwordSeat", jn 64 rfl rfl⟩⟩
set_option maxRecDepth 100000 in
theorem jFX6_105 : jF RX6 105 2 11 := ⟨RX2, TX2, 13, rfl, by decide, jin2, Or.inr ⟨"SwordSeat", jn 67 rfl rfl⟩⟩
set_option maxRecDepth 100000 in
theorem jFX6_108 : jF RX6 108 2 12 := ⟨RX2, TX2, 13, rfl, by decide, jin2, Or.inr ⟨"SwordSeat", jn 71 rfl rfl⟩⟩
set_option maxRecDepth 100000 in
theorem jFX6_111 : jF RX6 111 2 9 := ⟨RX2, TX2, 13, rfl, by decide, jin2, Or.inr ⟨"SwordSeat", jn 61 rfl rfl⟩⟩
set_option maxRecDepth 100000 in
theorem jFX6_114 : jF RX6 114 2 0 := ⟨RX2, TX2, 13, rfl, by decide, jin2, Or.inr ⟨"SwordSeat", jn 35 rfl rfl⟩⟩
set_option maxRecDepth 100000 in
theorem jFX6_118 : jF RX6 118 2 1 := ⟨RX2, TX2, 13, rfl, by decide, jin2, Or.inr ⟨"SwordSeat", jn 38 rfl rfl⟩⟩
set_option maxRecDepth 100000 in
theorem jFX6_128 : jF RX6 128 2 2 := ⟨RX2, TX2, 13, rfl, by decide, jin2, Or.inr ⟨"SwordSeat", jn 40 rfl rfl⟩⟩
set_option maxRecDepth 100000 in
theorem jFX6_131 : jF RX6 131 2 3 := ⟨RX2, TX2, 13, rfl, by decide, jin2, Or.inr ⟨"SwordSeat", jn 43 rfl rfl⟩⟩
set_option maxRecDepth 100000 in
theorem jFX6_134 : jF RX6 134 2 4 := ⟨RX2, TX2, 13, rfl, by decide, jin2, Or.inr ⟨"SwordSeat", jn 46 rfl rfl⟩⟩
set_option maxRecDepth 100000 in
theorem jFX6_137 : jF RX6 137 2 5 := ⟨RX2, TX2, 13, rfl, by decide, jin2, Or.inr ⟨"SwordSeat", jn 48 rfl rfl⟩⟩
set_option maxRecDepth 100000 in
theorem jFX6_177 : jF RX6 177 0 4 := ⟨RX0, TX0, 12, rfl, by decide, jin0, Or.inr ⟨"SwordSeat", jn 174 rfl rfl⟩⟩
set_option maxRecDepth 100000 in
theorem jFX6_200 : jF RX6 200 0 10 := ⟨RX0, TX0, 12, rfl, by decide, jin0, Or.inr ⟨"SwordSeat", jn 182 rfl rfl⟩⟩
set_option maxRecDepth 100000 in
theorem jFX6_204 : jF RX6 204 0 11 := ⟨RX0, TX0, 12, rfl, by decide, jin0, Or.inr ⟨"SwordSeat", jn 184 rfl rfl⟩⟩
set_option maxRecDepth 100000 in
theorem jFX6_238 : jF RX6 238 4 0 := ⟨RX4, TX4, 3, rfl, by decide, jin4, Or.inr ⟨"SwordSeat", jn 238 rfl rfl⟩⟩
set_option maxRecDepth 100000 in
theorem jFX6_241 : jF RX6 241 4 1 := ⟨RX4, TX4, 3, rfl, by decide, jin4, Or.inr ⟨"SwordSeat", jn 240 rfl rfl⟩⟩
set_option maxRecDepth 100000 in
theorem jFX6_244 : jF RX6 244 4 2 := ⟨RX4, TX4, 3, rfl, by decide, jin4, Or.inr ⟨"SwordSeat", jn 242 rfl rfl⟩⟩
set_option maxRecDepth 100000 in
theorem jFX6_274 : jF RX6 274 0 9 := ⟨RX0, TX0, 12, rfl, by decide, jin0, Or.inr ⟨"SwordSeat", jn 180 rfl rfl⟩⟩
set_option maxRecDepth 100000 in
theorem jFX6_278 : jF RX6 278 3 0 := ⟨RX3, TX3, 3, rfl, by decide, jin3, Or.inr ⟨"SwordSeat", jn 218 rfl rfl⟩⟩
set_option maxRecDepth 100000 in
theorem jFX6_281 : jF RX6 281 3 1 := ⟨RX3, TX3, 3, rfl, by decide, jin3, Or.inr ⟨"SwordSeat", jn 220 rfl rfl⟩⟩
set_option maxRecDepth 100000 in
theorem jFX0_9 : jF RX0 9 0 0 := ⟨RX0, TX0, 12, rfl, by decide, jin0, Or.inl (jt 169 rfl rfl)⟩
set_option maxRecDepth 100000 in
theorem jFX0_15 : jF RX0 15 0 1 := ⟨RX0, TX0, 12, rfl, by decide, jin0, Or.inl (jt 170 rfl rfl)⟩
set_option maxRecDepth 100000 in
theorem jFX0_18 : jF RX0 18 0 2 := ⟨RX0, TX0, 12, rfl, by decide, jin0, Or.inl (jt 171 rfl rfl)⟩
set_option maxRecDepth 100000 in
theorem jFX0_21 : jF RX0 21 0 5 := ⟨RX0, TX0, 12, rfl, by decide, jin0, Or.inl (jt 175 rfl rfl)⟩
set_option maxRecDepth 100000 in
theorem jFX0_25 : jF RX0 25 0 6 := ⟨RX0, TX0, 12, rfl, by decide, jin0, Or.inl (jt 176 rfl rfl)⟩
set_option maxRecDepth 100000 in
theorem jFX0_28 : jF RX0 28 0 7 := ⟨RX0, TX0, 12, rfl, by decide, jin0, Or.inl (jt 177 rfl rfl)⟩
set_option maxRecDepth 100000 in
theorem jFX0_31 : jF RX0 31 0 8 := ⟨RX0, TX0, 12, rfl, by decide, jin0, Or.inl (jt 178 rfl rfl)⟩
set_option maxRecDepth 100000 in
theorem jFX0_34 : jF RX0 34 0 9 := ⟨RX0, TX0, 12, rfl, by decide, jin0, Or.inl (jt 179 rfl rfl)⟩
set_option maxRecDepth 100000 in
theorem jFX0_37 : jF RX0 37 2 0 := ⟨RX2, TX2, 13, rfl, by decide, jin2, Or.inr ⟨"SwordSeat", jn 34 rfl rfl⟩⟩
set_option maxRecDepth 100000 in
theorem jFX0_40 : jF RX0 40 2 1 := ⟨RX2, TX2, 13, rfl, by decide, jin2, Or.inr ⟨"SwordSeat", jn 37 rfl rfl⟩⟩
set_option maxRecDepth 100000 in
theorem jFX0_41 : jF RX0 41 2 10 := ⟨RX2, TX2, 13, rfl, by decide, jin2, Or.inr ⟨"SwordSeat", jn 63 rfl rfl⟩⟩
set_option maxRecDepth 100000 in
theorem jFX0_45 : jF RX0 45 0 4 := ⟨RX0, TX0, 12, rfl, by decide, jin0, Or.inl (jt 173 rfl rfl)⟩
set_option maxRecDepth 100000 in
theorem jFX0_46 : jF RX0 46 2 9 := ⟨RX2, TX2, 13, rfl, by decide, jin2, Or.inr ⟨"SwordSeat", jn 59 rfl rfl⟩⟩
set_option maxRecDepth 100000 in
theorem jFX0_57 : jF RX0 57 0 3 := ⟨RX0, TX0, 12, rfl, by decide, jin0, Or.inl (jt 172 rfl rfl)⟩
set_option maxRecDepth 100000 in
theorem jFX0_99 : jF RX0 99 2 2 := ⟨RX2, TX2, 13, rfl, by decide, jin2, Or.inr ⟨"SwordSeat", jn 41 rfl rfl⟩⟩
set_option maxRecDepth 100000 in
theorem jFX0_102 : jF RX0 102 2 3 := ⟨RX2, TX2, 13, rfl, by decide, jin2, Or.inr ⟨"SwordSeat", jn 44 rfl rfl⟩⟩
set_option maxRecDepth 100000 in
theorem jFX0_105 : jF RX0 105 2 11 := ⟨RX2, TX2, 13, rfl, by decide, jin2, Or.inr ⟨"SwordSeat", jn 69 rfl rfl⟩⟩
set_option maxRecDepth 100000 in
theorem jFX0_112 : jF RX0 112 0 10 := ⟨RX0, TX0, 12, rfl, by decide, jin0, Or.inl (jt 181 rfl rfl)⟩
set_option maxRecDepth 100000 in
theorem jFX0_116 : jF RX0 116 0 11 := ⟨RX0, TX0, 12, rfl, by decide, jin0, Or.inl (jt 183 rfl rfl)⟩
set_option maxRecDepth 100000 in
theorem jFX1_12 : jF RX1 12 1 0 := ⟨RX1, TX1, 11, rfl, by decide, jin1, Or.inl (jt 126 rfl rfl)⟩
set_option maxRecDepth 100000 in
theorem jFX1_21 : jF RX1 21 1 1 := ⟨RX1, TX1, 11, rfl, by decide, jin1, Or.inl (jt 128 rfl rfl)⟩
set_option maxRecDepth 100000 in
theorem jFX1_25 : jF RX1 25 1 9 := ⟨RX1, TX1, 11, rfl, by decide, jin1, Or.inl (jt 137 rfl rfl)⟩
set_option maxRecDepth 100000 in
theorem jFX1_32 : jF RX1 32 1 4 := ⟨RX1, TX1, 11, rfl, by decide, jin1, Or.inl (jt 132 rfl rfl)⟩
set_option maxRecDepth 100000 in
theorem jFX1_35 : jF RX1 35 1 6 := ⟨RX1, TX1, 11, rfl, by decide, jin1, Or.inl (jt 134 rfl rfl)⟩
set_option maxRecDepth 100000 in
theorem jFX1_38 : jF RX1 38 1 7 := ⟨RX1, TX1, 11, rfl, by decide, jin1, Or.inl (jt 135 rfl rfl)⟩
set_option maxRecDepth 100000 in
theorem jFX1_42 : jF RX1 42 1 8 := ⟨RX1, TX1, 11, rfl, by decide, jin1, Or.inl (jt 136 rfl rfl)⟩
set_option maxRecDepth 100000 in
theorem jFX1_49 : jF RX1 49 1 2 := ⟨RX1, TX1, 11, rfl, by decide, jin1, Or.inl (jt 130 rfl rfl)⟩
set_option maxRecDepth 100000 in
theorem jFX1_55 : jF RX1 55 2 6 := ⟨RX2, TX2, 13, rfl, by decide, jin2, Or.inr ⟨"SwordSeat", jn 50 rfl rfl⟩⟩
set_option maxRecDepth 100000 in
theorem jFX1_58 : jF RX1 58 5 1 := ⟨RX5, TX5, 2, rfl, by decide, jin5, Or.inr ⟨"SwordSeat", jn 116 rfl rfl⟩⟩
set_option maxRecDepth 100000 in
theorem jFX1_65 : jF RX1 65 2 9 := ⟨RX2, TX2, 13, rfl, by decide, jin2, Or.inr ⟨"SwordSeat", jn 60 rfl rfl⟩⟩
set_option maxRecDepth 100000 in
theorem jFX1_68 : jF RX1 68 1 10 := ⟨RX1, TX1, 11, rfl, by decide, jin1, Or.inl (jt 139 rfl rfl)⟩
set_option maxRecDepth 100000 in
theorem jFX1_107 : jF RX1 107 1 3 := ⟨RX1, TX1, 11, rfl, by decide, jin1, Or.inl (jt 131 rfl rfl)⟩
set_option maxRecDepth 100000 in
theorem jFX1_117 : jF RX1 117 1 5 := ⟨RX1, TX1, 11, rfl, by decide, jin1, Or.inl (jt 133 rfl rfl)⟩
set_option maxRecDepth 100000 in
theorem jFX1_123 : jF RX1 123 2 7 := ⟨RX2, TX2, 13, rfl, by decide, jin2, Or.inr ⟨"SwordSeat", jn 53 rfl rfl⟩⟩
set_option maxRecDepth 100000 in
theorem jFX1_129 : jF RX1 129 2 8 := ⟨RX2, TX2, 13, rfl, by decide, jin2, Or.inr ⟨"SwordSeat", jn 56 rfl rfl⟩⟩
set_option maxRecDepth 100000 in
theorem jFX1_135 : jF RX1 135 2 10 := ⟨RX2, TX2, 13, rfl, by decide, jin2, Or.inr ⟨"SwordSeat", jn 65 rfl rfl⟩⟩
set_option maxRecDepth 100000 in
theorem jFX1_137 : jF RX1 137 2 11 := ⟨RX2, TX2, 13, rfl, by decide, jin2, Or.inr ⟨"SwordSeat", jn 68 rfl rfl⟩⟩
set_option maxRecDepth 100000 in
theorem jFX2_9 : jF RX2 9 2 0 := ⟨RX2, TX2, 13, rfl, by decide, jin2, Or.inl (jt 33 rfl rfl)⟩
set_option maxRecDepth 100000 in
theorem jFX2_15 : jF RX2 15 2 1 := ⟨RX2, TX2, 13, rfl, by decide, jin2, Or.inl (jt 36 rfl rfl)⟩
set_option maxRecDepth 100000 in
theorem jFX2_18 : jF RX2 18 2 2 := ⟨RX2, TX2, 13, rfl, by decide, jin2, Or.inl (jt 39 rfl rfl)⟩
set_option maxRecDepth 100000 in
theorem jFX2_21 : jF RX2 21 2 3 := ⟨RX2, TX2, 13, rfl, by decide, jin2, Or.inl (jt 42 rfl rfl)⟩
set_option maxRecDepth 100000 in
theorem jFX2_24 : jF RX2 24 2 4 := ⟨RX2, TX2, 13, rfl, by decide, jin2, Or.inl (jt 45 rfl rfl)⟩
set_option maxRecDepth 100000 in
theorem jFX2_27 : jF RX2 27 2 5 := ⟨RX2, TX2, 13, rfl, by decide, jin2, Or.inl (jt 47 rfl rfl)⟩
set_option maxRecDepth 100000 in
theorem jFX2_33 : jF RX2 33 2 6 := ⟨RX2, TX2, 13, rfl, by decide, jin2, Or.inl (jt 49 rfl rfl)⟩
set_option maxRecDepth 100000 in
theorem jFX2_37 : jF RX2 37 2 7 := ⟨RX2, TX2, 13, rfl, by decide, jin2, Or.inl (jt 52 rfl rfl)⟩
set_option maxRecDepth 100000 in
theorem jFX2_40 : jF RX2 40 2 8 := ⟨RX2, TX2, 13, rfl, by decide, jin2, Or.inl (jt 55 rfl rfl)⟩
set_option maxRecDepth 100000 in
theorem jFX2_43 : jF RX2 43 2 9 := ⟨RX2, TX2, 13, rfl, by decide, jin2, Or.inl (jt 58 rfl rfl)⟩
set_option maxRecDepth 100000 in
theorem jFX2_46 : jF RX2 46 2 10 := ⟨RX2, TX2, 13, rfl, by decide, jin2, Or.inl (jt 62 rfl rfl)⟩
set_option maxRecDepth 100000 in
theorem jFX2_49 : jF RX2 49 2 11 := ⟨RX2, TX2, 13, rfl, by decide, jin2, Or.inl (jt 66 rfl rfl)⟩
set_option maxRecDepth 100000 in
theorem jFX2_52 : jF RX2 52 2 12 := ⟨RX2, TX2, 13, rfl, by decide, jin2, Or.inl (jt 70 rfl rfl)⟩
set_option maxRecDepth 100000 in
theorem jFX3_9 : jF RX3 9 3 0 := ⟨RX3, TX3, 3, rfl, by decide, jin3, Or.inl (jt 217 rfl rfl)⟩
set_option maxRecDepth 100000 in
theorem jFX3_15 : jF RX3 15 3 1 := ⟨RX3, TX3, 3, rfl, by decide, jin3, Or.inl (jt 219 rfl rfl)⟩
set_option maxRecDepth 100000 in
theorem jFX3_18 : jF RX3 18 3 2 := ⟨RX3, TX3, 3, rfl, by decide, jin3, Or.inl (jt 221 rfl rfl)⟩
set_option maxRecDepth 100000 in
theorem jFX4_9 : jF RX4 9 4 0 := ⟨RX4, TX4, 3, rfl, by decide, jin4, Or.inl (jt 237 rfl rfl)⟩
set_option maxRecDepth 100000 in
theorem jFX4_15 : jF RX4 15 4 1 := ⟨RX4, TX4, 3, rfl, by decide, jin4, Or.inl (jt 239 rfl rfl)⟩
set_option maxRecDepth 100000 in
theorem jFX4_19 : jF RX4 19 4 2 := ⟨RX4, TX4, 3, rfl, by decide, jin4, Or.inl (jt 241 rfl rfl)⟩
set_option maxRecDepth 100000 in
theorem jFX5_9 : jF RX5 9 5 0 := ⟨RX5, TX5, 2, rfl, by decide, jin5, Or.inl (jt 113 rfl rfl)⟩
set_option maxRecDepth 100000 in
theorem jFX5_15 : jF RX5 15 5 1 := ⟨RX5, TX5, 2, rfl, by decide, jin5, Or.inl (jt 114 rfl rfl)⟩
set_option maxRecDepth 100000 in
theorem jFX7_7 : jF RX7 7 7 0 := ⟨RX7, TX7, 42, rfl, by decide, jin7, Or.inl (jt 778 rfl rfl)⟩
set_option maxRecDepth 100000 in
theorem jFX7_13 : jF RX7 13 7 3 := ⟨RX7, TX7, 42, rfl, by decide, jin7, Or.inl (jt 781 rfl rfl)⟩
set_option maxRecDepth 100000 in
theorem jFX7_16 : jF RX7 16 7 5 := ⟨RX7, TX7, 42, rfl, by decide, jin7, Or.inl (jt 783 rfl rfl)⟩
set_option maxRecDepth 100000 in
theorem jFX7_19 : jF RX7 19 7 6 := ⟨RX7, TX7, 42, rfl, by decide, jin7, Or.inl (jt 784 rfl rfl)⟩
set_option maxRecDepth 100000 in
theorem jFX7_22 : jF RX7 22 7 12 := ⟨RX7, TX7, 42, rfl, by decide, jin7, Or.inl (jt 790 rfl rfl)⟩
set_option maxRecDepth 100000 in
theorem jFX7_25 : jF RX7 25 7 21 := ⟨RX7, TX7, 42, rfl, by decide, jin7, Or.inl (jt 799 rfl rfl)⟩
set_option maxRecDepth 100000 in
theorem jFX7_28 : jF RX7 28 7 22 := ⟨RX7, TX7, 42, rfl, by decide, jin7, Or.inl (jt 800 rfl rfl)⟩
set_option maxRecDepth 100000 in
theorem jFX7_31 : jF RX7 31 7 23 := ⟨RX7, TX7, 42, rfl, by decide, jin7, Or.inl (jt 801 rfl rfl)⟩
set_option maxRecDepth 100000 in
theorem jFX7_34 : jF RX7 34 7 24 := ⟨RX7, TX7, 42, rfl, by decide, jin7, Or.inl (jt 802 rfl rfl)⟩
set_option maxRecDepth 100000 in
theorem jFX7_37 : jF RX7 37 7 28 := ⟨RX7, TX7, 42, rfl, by decide, jin7, Or.inl (jt 806 rfl rfl)⟩
set_option maxRecDepth 100000 in
theorem jFX7_41 : jF RX7 41 7 29 := ⟨RX7, TX7, 42, rfl, by decide, jin7, Or.inl (jt 807 rfl rfl)⟩
set_option maxRecDepth 100000 in
theorem jFX7_44 : jF RX7 44 7 30 := ⟨RX7, TX7, 42, rfl, by decide, jin7, Or.inl (jt 808 rfl rfl)⟩
set_option maxRecDepth 100000 in
theorem jFX7_47 : jF RX7 47 7 31 := ⟨RX7, TX7, 42, rfl, by decide, jin7, Or.inl (jt 809 rfl rfl)⟩
set_option maxRecDepth 100000 in
theorem jFX7_50 : jF RX7 50 7 33 := ⟨RX7, TX7, 42, rfl, by decide, jin7, Or.inl (jt 811 rfl rfl)⟩
set_option maxRecDepth 100000 in
theorem jFX7_53 : jF RX7 53 7 34 := ⟨RX7, TX7, 42, rfl, by decide, jin7, Or.inl (jt 812 rfl rfl)⟩
set_option maxRecDepth 100000 in
theorem jFX7_56 : jF RX7 56 7 35 := ⟨RX7, TX7, 42, rfl, by decide, jin7, Or.inl (jt 813 rfl rfl)⟩
set_option maxRecDepth 100000 in
theorem jFX7_59 : jF RX7 59 7 37 := ⟨RX7, TX7, 42, rfl, by decide, jin7, Or.inl (jt 815 rfl rfl)⟩
set_option maxRecDepth 100000 in
theorem jFX7_63 : jF RX7 63 7 38 := ⟨RX7, TX7, 42, rfl, by decide, jin7, Or.inl (jt 816 rfl rfl)⟩
set_option maxRecDepth 100000 in
theorem jFX7_66 : jF RX7 66 7 39 := ⟨RX7, TX7, 42, rfl, by decide, jin7, Or.inl (jt 817 rfl rfl)⟩
set_option maxRecDepth 100000 in
theorem jFX7_69 : jF RX7 69 7 40 := ⟨RX7, TX7, 42, rfl, by decide, jin7, Or.inl (jt 818 rfl rfl)⟩
set_option maxRecDepth 100000 in
theorem jFX7_78 : jF RX7 78 7 13 := ⟨RX7, TX7, 42, rfl, by decide, jin7, Or.inl (jt 791 rfl rfl)⟩
set_option maxRecDepth 100000 in
theorem jFX7_82 : jF RX7 82 7 15 := ⟨RX7, TX7, 42, rfl, by decide, jin7, Or.inl (jt 793 rfl rfl)⟩
set_option maxRecDepth 100000 in
theorem jFX7_85 : jF RX7 85 7 18 := ⟨RX7, TX7, 42, rfl, by decide, jin7, Or.inl (jt 796 rfl rfl)⟩
set_option maxRecDepth 100000 in
theorem jFX7_88 : jF RX7 88 7 16 := ⟨RX7, TX7, 42, rfl, by decide, jin7, Or.inl (jt 794 rfl rfl)⟩
set_option maxRecDepth 100000 in
theorem jFX7_91 : jF RX7 91 7 19 := ⟨RX7, TX7, 42, rfl, by decide, jin7, Or.inl (jt 797 rfl rfl)⟩
set_option maxRecDepth 100000 in
theorem jFX7_94 : jF RX7 94 7 17 := ⟨RX7, TX7, 42, rfl, by decide, jin7, Or.inl (jt 795 rfl rfl)⟩
set_option maxRecDepth 100000 in
theorem jFX7_101 : jF RX7 101 7 20 := ⟨RX7, TX7, 42, rfl, by decide, jin7, Or.inl (jt 798 rfl rfl)⟩
set_option maxRecDepth 100000 in
theorem jFX7_123 : jF RX7 123 7 7 := ⟨RX7, TX7, 42, rfl, by decide, jin7, Or.inl (jt 785 rfl rfl)⟩
set_option maxRecDepth 100000 in
theorem jFX7_130 : jF RX7 130 7 8 := ⟨RX7, TX7, 42, rfl, by decide, jin7, Or.inl (jt 786 rfl rfl)⟩
set_option maxRecDepth 100000 in
theorem jFX7_133 : jF RX7 133 7 9 := ⟨RX7, TX7, 42, rfl, by decide, jin7, Or.inl (jt 787 rfl rfl)⟩
set_option maxRecDepth 100000 in
theorem jFX7_138 : jF RX7 138 7 11 := ⟨RX7, TX7, 42, rfl, by decide, jin7, Or.inl (jt 789 rfl rfl)⟩
set_option maxRecDepth 100000 in
theorem jFX7_147 : jF RX7 147 7 10 := ⟨RX7, TX7, 42, rfl, by decide, jin7, Or.inl (jt 788 rfl rfl)⟩
set_option maxRecDepth 100000 in
theorem jFX7_156 : jF RX7 156 7 14 := ⟨RX7, TX7, 42, rfl, by decide, jin7, Or.inl (jt 792 rfl rfl)⟩
set_option maxRecDepth 100000 in
theorem jFX7_159 : jF RX7 159 7 1 := ⟨RX7, TX7, 42, rfl, by decide, jin7, Or.inl (jt 779 rfl rfl)⟩
set_option maxRecDepth 100000 in
theorem jFX7_162 : jF RX7 162 7 2 := ⟨RX7, TX7, 42, rfl, by decide, jin7, Or.inl (jt 780 rfl rfl)⟩
set_option maxRecDepth 100000 in
theorem jFX7_165 : jF RX7 165 7 4 := ⟨RX7, TX7, 42, rfl, by decide, jin7, Or.inl (jt 782 rfl rfl)⟩
set_option maxRecDepth 100000 in
theorem jFX7_168 : jF RX7 168 7 36 := ⟨RX7, TX7, 42, rfl, by decide, jin7, Or.inl (jt 814 rfl rfl)⟩
set_option maxRecDepth 100000 in
theorem jFX7_180 : jF RX7 180 7 25 := ⟨RX7, TX7, 42, rfl, by decide, jin7, Or.inl (jt 803 rfl rfl)⟩
set_option maxRecDepth 100000 in
theorem jFX7_183 : jF RX7 183 7 26 := ⟨RX7, TX7, 42, rfl, by decide, jin7, Or.inl (jt 804 rfl rfl)⟩
set_option maxRecDepth 100000 in
theorem jFX7_186 : jF RX7 186 7 27 := ⟨RX7, TX7, 42, rfl, by decide, jin7, Or.inl (jt 805 rfl rfl)⟩
set_option maxRecDepth 100000 in
theorem jFX7_248 : jF RX7 248 7 32 := ⟨RX7, TX7, 42, rfl, by decide, jin7, Or.inl (jt 810 rfl rfl)⟩
set_option maxRecDepth 100000 in
theorem jFX7_287 : jF RX7 287 7 41 := ⟨RX7, TX7, 42, rfl, by decide, jin7, Or.inl (jt 819 rfl rfl)⟩
theorem jP0_0 : jP 0 0 true (.array .int) := ⟨RX0, TX0, 12, tyX0, rfl, tyX0_ok, nmX0, rfl, tyX0_ok 0 (by decide), rfl⟩
theorem jP0_1 : jP 0 1 true (.array .int) := ⟨RX0, TX0, 12, tyX0, rfl, tyX0_ok, nmX0, rfl, tyX0_ok 1 (by decide), rfl⟩
theorem jP0_2 : jP 0 2 true (.array .int) := ⟨RX0, TX0, 12, tyX0, rfl, tyX0_ok, nmX0, rfl, tyX0_ok 2 (by decide), rfl⟩
theorem jP0_3 : jP 0 3 false .int := ⟨RX0, TX0, 12, tyX0, rfl, tyX0_ok, nmX0, rfl, tyX0_ok 3 (by decide), rfl⟩
theorem jP0_4 : jP 0 4 false .int := ⟨RX0, TX0, 12, tyX0, rfl, tyX0_ok, nmX0, rfl, tyX0_ok 4 (by decide), rfl⟩
theorem jP0_5 : jP 0 5 true (.array .long) := ⟨RX0, TX0, 12, tyX0, rfl, tyX0_ok, nmX0, rfl, tyX0_ok 5 (by decide), rfl⟩
theorem jP0_6 : jP 0 6 true (.array .long) := ⟨RX0, TX0, 12, tyX0, rfl, tyX0_ok, nmX0, rfl, tyX0_ok 6 (by decide), rfl⟩
theorem jP0_7 : jP 0 7 true (.array .long) := ⟨RX0, TX0, 12, tyX0, rfl, tyX0_ok, nmX0, rfl, tyX0_ok 7 (by decide), rfl⟩
theorem jP0_8 : jP 0 8 true (.array .long) := ⟨RX0, TX0, 12, tyX0, rfl, tyX0_ok, nmX0, rfl, tyX0_ok 8 (by decide), rfl⟩
theorem jP0_9 : jP 0 9 true (.array .long) := ⟨RX0, TX0, 12, tyX0, rfl, tyX0_ok, nmX0, rfl, tyX0_ok 9 (by decide), rfl⟩
theorem jP0_10 : jP 0 10 false .long := ⟨RX0, TX0, 12, tyX0, rfl, tyX0_ok, nmX0, rfl, tyX0_ok 10 (by decide), rfl⟩
theorem jP0_11 : jP 0 11 false .long := ⟨RX0, TX0, 12, tyX0, rfl, tyX0_ok, nmX0, rfl, tyX0_ok 11 (by decide), rfl⟩
theorem jP1_0 : jP 1 0 true (.object "SwordSeat$Tape") := ⟨RX1, TX1, 11, tyX1, rfl, tyX1_ok, nmX1, rfl, tyX1_ok 0 (by decide), rfl⟩
theorem jP1_1 : jP 1 1 true (.object "SwordSeat$Realm") := ⟨RX1, TX1, 11, tyX1, rfl, tyX1_ok, nmX1, rfl, tyX1_ok 1 (by decide), rfl⟩
theorem jP1_2 : jP 1 2 false .int := ⟨RX1, TX1, 11, tyX1, rfl, tyX1_ok, nmX1, rfl, tyX1_ok 2 (by decide), rfl⟩
theorem jP1_3 : jP 1 3 false .int := ⟨RX1, TX1, 11, tyX1, rfl, tyX1_ok, nmX1, rfl, tyX1_ok 3 (by decide), rfl⟩
theorem jP1_4 : jP 1 4 false .int := ⟨RX1, TX1, 11, tyX1, rfl, tyX1_ok, nmX1, rfl, tyX1_ok 4 (by decide), rfl⟩
theorem jP1_5 : jP 1 5 false .int := ⟨RX1, TX1, 11, tyX1, rfl, tyX1_ok, nmX1, rfl, tyX1_ok 5 (by decide), rfl⟩
theorem jP1_6 : jP 1 6 false .int := ⟨RX1, TX1, 11, tyX1, rfl, tyX1_ok, nmX1, rfl, tyX1_ok 6 (by decide), rfl⟩
theorem jP1_7 : jP 1 7 false .boolean := ⟨RX1, TX1, 11, tyX1, rfl, tyX1_ok, nmX1, rfl, tyX1_ok 7 (by decide), rfl⟩
theorem jP1_8 : jP 1 8 false .boolean := ⟨RX1, TX1, 11, tyX1, rfl, tyX1_ok, nmX1, rfl, tyX1_ok 8 (by decide), rfl⟩
theorem jP1_9 : jP 1 9 false .int := ⟨RX1, TX1, 11, tyX1, rfl, tyX1_ok, nmX1, rfl, tyX1_ok 9 (by decide), rfl⟩
theorem jP1_10 : jP 1 10 false .int := ⟨RX1, TX1, 11, tyX1, rfl, tyX1_ok, nmX1, rfl, tyX1_ok 10 (by decide), rfl⟩
theorem jP2_0 : jP 2 0 true (.array .int) := ⟨RX2, TX2, 13, tyX2, rfl, tyX2_ok, nmX2, rfl, tyX2_ok 0 (by decide), rfl⟩
theorem jP2_1 : jP 2 1 true (.array .int) := ⟨RX2, TX2, 13, tyX2, rfl, tyX2_ok, nmX2, rfl, tyX2_ok 1 (by decide), rfl⟩
theorem jP2_2 : jP 2 2 true (.array .int) := ⟨RX2, TX2, 13, tyX2, rfl, tyX2_ok, nmX2, rfl, tyX2_ok 2 (by decide), rfl⟩
theorem jP2_3 : jP 2 3 true (.array .int) := ⟨RX2, TX2, 13, tyX2, rfl, tyX2_ok, nmX2, rfl, tyX2_ok 3 (by decide), rfl⟩
theorem jP2_4 : jP 2 4 true (.array .int) := ⟨RX2, TX2, 13, tyX2, rfl, tyX2_ok, nmX2, rfl, tyX2_ok 4 (by decide), rfl⟩
theorem jP2_5 : jP 2 5 true (.array .int) := ⟨RX2, TX2, 13, tyX2, rfl, tyX2_ok, nmX2, rfl, tyX2_ok 5 (by decide), rfl⟩
theorem jP2_6 : jP 2 6 false .int := ⟨RX2, TX2, 13, tyX2, rfl, tyX2_ok, nmX2, rfl, tyX2_ok 6 (by decide), rfl⟩
theorem jP2_7 : jP 2 7 false .int := ⟨RX2, TX2, 13, tyX2, rfl, tyX2_ok, nmX2, rfl, tyX2_ok 7 (by decide), rfl⟩
theorem jP2_8 : jP 2 8 false .int := ⟨RX2, TX2, 13, tyX2, rfl, tyX2_ok, nmX2, rfl, tyX2_ok 8 (by decide), rfl⟩
theorem jP2_9 : jP 2 9 false .int := ⟨RX2, TX2, 13, tyX2, rfl, tyX2_ok, nmX2, rfl, tyX2_ok 9 (by decide), rfl⟩
theorem jP2_10 : jP 2 10 false .int := ⟨RX2, TX2, 13, tyX2, rfl, tyX2_ok, nmX2, rfl, tyX2_ok 10 (by decide), rfl⟩
theorem jP2_11 : jP 2 11 false .int := ⟨RX2, TX2, 13, tyX2, rfl, tyX2_ok, nmX2, rfl, tyX2_ok 11 (by decide), rfl⟩
theorem jP2_12 : jP 2 12 false .int := ⟨RX2, TX2, 13, tyX2, rfl, tyX2_ok, nmX2, rfl, tyX2_ok 12 (by decide), rfl⟩
theorem jP3_0 : jP 3 0 true (.array .int) := ⟨RX3, TX3, 3, tyX3, rfl, tyX3_ok, nmX3, rfl, tyX3_ok 0 (by decide), rfl⟩
theorem jP3_1 : jP 3 1 true (.array .int) := ⟨RX3, TX3, 3, tyX3, rfl, tyX3_ok, nmX3, rfl, tyX3_ok 1 (by decide), rfl⟩
theorem jP3_2 : jP 3 2 false .int := ⟨RX3, TX3, 3, tyX3, rfl, tyX3_ok, nmX3, rfl, tyX3_ok 2 (by decide), rfl⟩
theorem jP4_0 : jP 4 0 true (.array .int) := ⟨RX4, TX4, 3, tyX4, rfl, tyX4_ok, nmX4, rfl, tyX4_ok 0 (by decide), rfl⟩
theorem jP4_1 : jP 4 1 false .int := ⟨RX4, TX4, 3, tyX4, rfl, tyX4_ok, nmX4, rfl, tyX4_ok 1 (by decide), rfl⟩
theorem jP4_2 : jP 4 2 false .int := ⟨RX4, TX4, 3, tyX4, rfl, tyX4_ok, nmX4, rfl, tyX4_ok 2 (by decide), rfl⟩
theorem jP5_0 : jP 5 0 true (.array .byte) := ⟨RX5, TX5, 2, tyX5, rfl, tyX5_ok, nmX5, rfl, tyX5_ok 0 (by decide), rfl⟩
theorem jP5_1 : jP 5 1 false .int := ⟨RX5, TX5, 2, tyX5, rfl, tyX5_ok, nmX5, rfl, tyX5_ok 1 (by decide), rfl⟩
theorem jP6_0 : jP 6 0 true (.object "SwordSeat$Realm") := ⟨RX6, TX6, 9, tyX6, rfl, tyX6_ok, nmX6, rfl, tyX6_ok 0 (by decide), rfl⟩
theorem jP6_1 : jP 6 1 true (.object "SwordSeat$Realm") := ⟨RX6, TX6, 9, tyX6, rfl, tyX6_ok, nmX6, rfl, tyX6_ok 1 (by decide), rfl⟩
theorem jP6_2 : jP 6 2 true (.array (.object "SwordSeat$Realm")) := ⟨RX6, TX6, 9, tyX6, rfl, tyX6_ok, nmX6, rfl, tyX6_ok 2 (by decide), rfl⟩
theorem jP6_3 : jP 6 3 true (.array .boolean) := ⟨RX6, TX6, 9, tyX6, rfl, tyX6_ok, nmX6, rfl, tyX6_ok 3 (by decide), rfl⟩
theorem jP6_4 : jP 6 4 true (.object "SwordSeat$Reader") := ⟨RX6, TX6, 9, tyX6, rfl, tyX6_ok, nmX6, rfl, tyX6_ok 4 (by decide), rfl⟩
theorem jP6_5 : jP 6 5 true (.object "SwordSeat$Odds") := ⟨RX6, TX6, 9, tyX6, rfl, tyX6_ok, nmX6, rfl, tyX6_ok 5 (by decide), rfl⟩
theorem jP6_6 : jP 6 6 true (.object "SwordSeat$Seen") := ⟨RX6, TX6, 9, tyX6, rfl, tyX6_ok, nmX6, rfl, tyX6_ok 6 (by decide), rfl⟩
theorem jP6_7 : jP 6 7 true (.array (.object "SwordSeat$Sheet")) := ⟨RX6, TX6, 9, tyX6, rfl, tyX6_ok, nmX6, rfl, tyX6_ok 7 (by decide), rfl⟩
theorem jP6_8 : jP 6 8 false .int := ⟨RX6, TX6, 9, tyX6, rfl, tyX6_ok, nmX6, rfl, tyX6_ok 8 (by decide), rfl⟩
theorem jP7_0 : jP 7 0 true (.array .int) := ⟨RX7, TX7, 42, tyX7, rfl, tyX7_ok, nmX7, rfl, tyX7_ok 0 (by decide), rfl⟩
theorem jP7_1 : jP 7 1 false .int := ⟨RX7, TX7, 42, tyX7, rfl, tyX7_ok, nmX7, rfl, tyX7_ok 1 (by decide), rfl⟩
theorem jP7_2 : jP 7 2 false .int := ⟨RX7, TX7, 42, tyX7, rfl, tyX7_ok, nmX7, rfl, tyX7_ok 2 (by decide), rfl⟩
theorem jP7_3 : jP 7 3 true (.array .int) := ⟨RX7, TX7, 42, tyX7, rfl, tyX7_ok, nmX7, rfl, tyX7_ok 3 (by decide), rfl⟩
theorem jP7_4 : jP 7 4 false .int := ⟨RX7, TX7, 42, tyX7, rfl, tyX7_ok, nmX7, rfl, tyX7_ok 4 (by decide), rfl⟩
theorem jP7_5 : jP 7 5 true (.array .int) := ⟨RX7, TX7, 42, tyX7, rfl, tyX7_ok, nmX7, rfl, tyX7_ok 5 (by decide), rfl⟩
theorem jP7_6 : jP 7 6 true (.array .int) := ⟨RX7, TX7, 42, tyX7, rfl, tyX7_ok, nmX7, rfl, tyX7_ok 6 (by decide), rfl⟩
theorem jP7_7 : jP 7 7 false .int := ⟨RX7, TX7, 42, tyX7, rfl, tyX7_ok, nmX7, rfl, tyX7_ok 7 (by decide), rfl⟩
theorem jP7_8 : jP 7 8 false .int := ⟨RX7, TX7, 42, tyX7, rfl, tyX7_ok, nmX7, rfl, tyX7_ok 8 (by decide), rfl⟩
theorem jP7_9 : jP 7 9 false .int := ⟨RX7, TX7, 42, tyX7, rfl, tyX7_ok, nmX7, rfl, tyX7_ok 9 (by decide), rfl⟩
theorem jP7_10 : jP 7 10 false .int := ⟨RX7, TX7, 42, tyX7, rfl, tyX7_ok, nmX7, rfl, tyX7_ok 10 (by decide), rfl⟩
theorem jP7_11 : jP 7 11 false .int := ⟨RX7, TX7, 42, tyX7, rfl, tyX7_ok, nmX7, rfl, tyX7_ok 11 (by decide), rfl⟩
theorem jP7_12 : jP 7 12 true (.array .int) := ⟨RX7, TX7, 42, tyX7, rfl, tyX7_ok, nmX7, rfl, tyX7_ok 12 (by decide), rfl⟩
theorem jP7_13 : jP 7 13 false .int := ⟨RX7, TX7, 42, tyX7, rfl, tyX7_ok, nmX7, rfl, tyX7_ok 13 (by decide), rfl⟩
theorem jP7_14 : jP 7 14 false .int := ⟨RX7, TX7, 42, tyX7, rfl, tyX7_ok, nmX7, rfl, tyX7_ok 14 (by decide), rfl⟩
theorem jP7_15 : jP 7 15 false .int := ⟨RX7, TX7, 42, tyX7, rfl, tyX7_ok, nmX7, rfl, tyX7_ok 15 (by decide), rfl⟩
theorem jP7_16 : jP 7 16 false .int := ⟨RX7, TX7, 42, tyX7, rfl, tyX7_ok, nmX7, rfl, tyX7_ok 16 (by decide), rfl⟩
theorem jP7_17 : jP 7 17 false .int := ⟨RX7, TX7, 42, tyX7, rfl, tyX7_ok, nmX7, rfl, tyX7_ok 17 (by decide), rfl⟩
theorem jP7_18 : jP 7 18 false .int := ⟨RX7, TX7, 42, tyX7, rfl, tyX7_ok, nmX7, rfl, tyX7_ok 18 (by decide), rfl⟩
theorem jP7_19 : jP 7 19 false .int := ⟨RX7, TX7, 42, tyX7, rfl, tyX7_ok, nmX7, rfl, tyX7_ok 19 (by decide), rfl⟩
theorem jP7_20 : jP 7 20 false .int := ⟨RX7, TX7, 42, tyX7, rfl, tyX7_ok, nmX7, rfl, tyX7_ok 20 (by decide), rfl⟩
theorem jP7_21 : jP 7 21 true (.array .int) := ⟨RX7, TX7, 42, tyX7, rfl, tyX7_ok, nmX7, rfl, tyX7_ok 21 (by decide), rfl⟩
theorem jP7_22 : jP 7 22 true (.array .int) := ⟨RX7, TX7, 42, tyX7, rfl, tyX7_ok, nmX7, rfl, tyX7_ok 22 (by decide), rfl⟩
theorem jP7_23 : jP 7 23 true (.array .int) := ⟨RX7, TX7, 42, tyX7, rfl, tyX7_ok, nmX7, rfl, tyX7_ok 23 (by decide), rfl⟩
theorem jP7_24 : jP 7 24 true (.array .int) := ⟨RX7, TX7, 42, tyX7, rfl, tyX7_ok, nmX7, rfl, tyX7_ok 24 (by decide), rfl⟩
theorem jP7_25 : jP 7 25 false .int := ⟨RX7, TX7, 42, tyX7, rfl, tyX7_ok, nmX7, rfl, tyX7_ok 25 (by decide), rfl⟩
theorem jP7_26 : jP 7 26 false .int := ⟨RX7, TX7, 42, tyX7, rfl, tyX7_ok, nmX7, rfl, tyX7_ok 26 (by decide), rfl⟩
theorem jP7_27 : jP 7 27 false .int := ⟨RX7, TX7, 42, tyX7, rfl, tyX7_ok, nmX7, rfl, tyX7_ok 27 (by decide), rfl⟩
theorem jP7_28 : jP 7 28 true (.array .long) := ⟨RX7, TX7, 42, tyX7, rfl, tyX7_ok, nmX7, rfl, tyX7_ok 28 (by decide), rfl⟩
theorem jP7_29 : jP 7 29 true (.array .long) := ⟨RX7, TX7, 42, tyX7, rfl, tyX7_ok, nmX7, rfl, tyX7_ok 29 (by decide), rfl⟩
theorem jP7_30 : jP 7 30 true (.array .long) := ⟨RX7, TX7, 42, tyX7, rfl, tyX7_ok, nmX7, rfl, tyX7_ok 30 (by decide), rfl⟩
theorem jP7_31 : jP 7 31 true (.array .long) := ⟨RX7, TX7, 42, tyX7, rfl, tyX7_ok, nmX7, rfl, tyX7_ok 31 (by decide), rfl⟩
theorem jP7_32 : jP 7 32 false .boolean := ⟨RX7, TX7, 42, tyX7, rfl, tyX7_ok, nmX7, rfl, tyX7_ok 32 (by decide), rfl⟩
theorem jP7_33 : jP 7 33 true (.array .long) := ⟨RX7, TX7, 42, tyX7, rfl, tyX7_ok, nmX7, rfl, tyX7_ok 33 (by decide), rfl⟩
theorem jP7_34 : jP 7 34 true (.array .long) := ⟨RX7, TX7, 42, tyX7, rfl, tyX7_ok, nmX7, rfl, tyX7_ok 34 (by decide), rfl⟩
theorem jP7_35 : jP 7 35 true (.array .int) := ⟨RX7, TX7, 42, tyX7, rfl, tyX7_ok, nmX7, rfl, tyX7_ok 35 (by decide), rfl⟩
theorem jP7_36 : jP 7 36 false .int := ⟨RX7, TX7, 42, tyX7, rfl, tyX7_ok, nmX7, rfl, tyX7_ok 36 (by decide), rfl⟩
theorem jP7_37 : jP 7 37 true (.array .boolean) := ⟨RX7, TX7, 42, tyX7, rfl, tyX7_ok, nmX7, rfl, tyX7_ok 37 (by decide), rfl⟩
theorem jP7_38 : jP 7 38 true (.array .int) := ⟨RX7, TX7, 42, tyX7, rfl, tyX7_ok, nmX7, rfl, tyX7_ok 38 (by decide), rfl⟩
theorem jP7_39 : jP 7 39 true (.array .int) := ⟨RX7, TX7, 42, tyX7, rfl, tyX7_ok, nmX7, rfl, tyX7_ok 39 (by decide), rfl⟩
theorem jP7_40 : jP 7 40 true (.array .int) := ⟨RX7, TX7, 42, tyX7, rfl, tyX7_ok, nmX7, rfl, tyX7_ok 40 (by decide), rfl⟩
theorem jP7_41 : jP 7 41 false .int := ⟨RX7, TX7, 42, tyX7, rfl, tyX7_ok, nmX7, rfl, tyX7_ok 41 (by decide), rfl⟩
set_option maxRecDepth 100000 in
theorem jcX0_49 : jcV RX0 49 KX0_begin 0 1 := ⟨Or.inl (jt 540 rfl rfl), jt 542 rfl rfl, jsel 27 rfl rfl, by decide +kernel, rfl⟩
set_option maxRecDepth 100000 in
theorem jcX0_53 : jcS RX0 53 KX6_within 3 := ⟨Or.inr ⟨"SwordSeat", jn 639 rfl rfl⟩, jt 283 rfl rfl, by decide +kernel⟩
set_option maxRecDepth 100000 in
theorem jcX0_58 : jcV RX0 58 KX0_passHour 0 1 := ⟨Or.inl (jt 548 rfl rfl), jt 550 rfl rfl, jsel 29 rfl rfl, by decide +kernel, rfl⟩
set_option maxRecDepth 100000 in
theorem jcX0_61 : jcV RX0 61 KX0_weigh 0 2 := ⟨Or.inl (jt 552 rfl rfl), jt 554 rfl rfl, jsel 30 rfl rfl, by decide +kernel, rfl⟩
set_option maxRecDepth 100000 in
theorem jcX0_65 : jcV RX0 65 KX0_weight 0 2 := ⟨Or.inl (jt 559 rfl rfl), jt 561 rfl rfl, jsel 31 rfl rfl, by decide +kernel, rfl⟩
set_option maxRecDepth 100000 in
theorem jcX0_69 : jcS RX0 69 KJ6_bitCount_0f7a4 1 := ⟨Or.inl (jt 556 rfl rfl), jt 462 rfl rfl, by decide +kernel⟩
set_option maxRecDepth 100000 in
theorem jcX0_81 : jcS RX0 81 KX6_breaksOf 4 := ⟨Or.inr ⟨"SwordSeat", jn 558 rfl rfl⟩, jt 468 rfl rfl, by decide +kernel⟩
set_option maxRecDepth 100000 in
theorem jcX0_87 : jcV RX0 87 KX0_held 0 0 := ⟨Or.inl (jt 626 rfl rfl), jt 566 rfl rfl, jsel 32 rfl rfl, by decide +kernel, rfl⟩
set_option maxRecDepth 100000 in
theorem jcX0_91 : jcS RX0 91 KX6_thousands 1 := ⟨Or.inr ⟨"SwordSeat", jn 600 rfl rfl⟩, jt 529 rfl rfl, by decide +kernel⟩
set_option maxRecDepth 100000 in
theorem jcX0_95 : jcS RX0 95 KX0_clearGains 1 := ⟨Or.inl (jt 597 rfl rfl), jt 598 rfl rfl, by decide +kernel⟩
set_option maxRecDepth 100000 in
theorem jcX0_108 : jcV RX0 108 KX0_duelHour 0 6 := ⟨Or.inl (jt 648 rfl rfl), jt 650 rfl rfl, jsel 40 rfl rfl, by decide +kernel, rfl⟩
set_option maxRecDepth 100000 in
theorem jcX1_29 : jcV RX1 29 KX2_clear 2 0 := ⟨Or.inr ⟨"SwordSeat", jn 301 rfl rfl⟩, jt 31 rfl rfl, jsel 0 rfl rfl, by decide +kernel, rfl⟩
set_option maxRecDepth 100000 in
theorem jcX1_45 : jcV RX1 45 KX1_nextToken 1 0 := ⟨Or.inl (jt 302 rfl rfl), jt 304 rfl rfl, jsel 3 rfl rfl, by decide +kernel, rfl⟩
set_option maxRecDepth 100000 in
theorem jcX1_52 : jcV RX1 52 KX1_readLine 1 0 := ⟨Or.inl (jt 317 rfl rfl), jt 319 rfl rfl, jsel 6 rfl rfl, by decide +kernel, rfl⟩
set_option maxRecDepth 100000 in
theorem jcX1_61 : jcV RX1 61 KX1_fail 1 2 := ⟨Or.inl (jt 313 rfl rfl), jt 315 rfl rfl, jsel 5 rfl rfl, by decide +kernel, rfl⟩
set_option maxRecDepth 100000 in
theorem jcX1_73 : jcV RX1 73 KX1_spells 1 1 := ⟨Or.inl (jt 322 rfl rfl), jt 324 rfl rfl, jsel 7 rfl rfl, by decide +kernel, rfl⟩
set_option maxRecDepth 100000 in
theorem jcX1_77 : jcV RX1 77 KX1_readHair 1 0 := ⟨Or.inl (jt 374 rfl rfl), jt 376 rfl rfl, jsel 8 rfl rfl, by decide +kernel, rfl⟩
set_option maxRecDepth 100000 in
theorem jcX1_80 : jcV RX1 80 KX1_readStop 1 0 := ⟨Or.inl (jt 396 rfl rfl), jt 398 rfl rfl, jsel 12 rfl rfl, by decide +kernel, rfl⟩
set_option maxRecDepth 100000 in
theorem jcX1_85 : jcV RX1 85 KX1_readKing 1 0 := ⟨Or.inl (jt 401 rfl rfl), jt 403 rfl rfl, jsel 13 rfl rfl, by decide +kernel, rfl⟩
set_option maxRecDepth 100000 in
theorem jcX1_90 : jcV RX1 90 KX1_readLaw 1 0 := ⟨Or.inl (jt 410 rfl rfl), jt 412 rfl rfl, jsel 15 rfl rfl, by decide +kernel, rfl⟩
set_option maxRecDepth 100000 in
theorem jcX1_95 : jcV RX1 95 KX1_readLoad 1 0 := ⟨Or.inl (jt 419 rfl rfl), jt 421 rfl rfl, jsel 17 rfl rfl, by decide +kernel, rfl⟩
set_option maxRecDepth 100000 in
theorem jcX1_100 : jcV RX1 100 KX1_readPrize 1 0 := ⟨Or.inl (jt 424 rfl rfl), jt 426 rfl rfl, jsel 18 rfl rfl, by decide +kernel, rfl⟩
set_option maxRecDepth 100000 in
theorem jcX1_104 : jcV RX1 104 KX1_readBroken 1 0 := ⟨Or.inl (jt 429 rfl rfl), jt 431 rfl rfl, jsel 19 rfl rfl, by decide +kernel, rfl⟩
set_option maxRecDepth 100000 in
theorem jcX1_110 : jcV RX1 110 KX1_spelledKind 1 0 := ⟨Or.inl (jt 378 rfl rfl), jt 380 rfl rfl, jsel 9 rfl rfl, by decide +kernel, rfl⟩
set_option maxRecDepth 100000 in
theorem jcX1_114 : jcV RX1 114 KX1_readNumber 1 2 := ⟨Or.inl (jt 387 rfl rfl), jt 389 rfl rfl, jsel 10 rfl rfl, by decide +kernel, rfl⟩
set_option maxRecDepth 100000 in
theorem jcX1_120 : jcV RX1 120 KX2_addHair 2 2 := ⟨Or.inr ⟨"SwordSeat", jn 392 rfl rfl⟩, jt 394 rfl rfl, jsel 11 rfl rfl, by decide +kernel, rfl⟩
set_option maxRecDepth 100000 in
theorem jcX1_126 : jcV RX1 126 KX2_addKing 2 2 := ⟨Or.inr ⟨"SwordSeat", jn 405 rfl rfl⟩, jt 407 rfl rfl, jsel 14 rfl rfl, by decide +kernel, rfl⟩
set_option maxRecDepth 100000 in
theorem jcX1_132 : jcV RX1 132 KX2_addLaw 2 2 := ⟨Or.inr ⟨"SwordSeat", jn 414 rfl rfl⟩, jt 416 rfl rfl, jsel 16 rfl rfl, by decide +kernel, rfl⟩
set_option maxRecDepth 100000 in
theorem jcX1_139 : jcV RX1 139 KX5_byteAt 5 1 := ⟨Or.inr ⟨"SwordSeat", jn 306 rfl rfl⟩, jt 308 rfl rfl, jsel 4 rfl rfl, by decide +kernel, rfl⟩
set_option maxRecDepth 100000 in
theorem jcX1_143 : jcS RX1 143 KX6_within 3 := ⟨Or.inr ⟨"SwordSeat", jn 391 rfl rfl⟩, jt 283 rfl rfl, by decide +kernel⟩
set_option maxRecDepth 100000 in
theorem jcX1_165 : jcS RX1 165 KX1_sortOf 1 := ⟨Or.inl (jt 310 rfl rfl), jt 311 rfl rfl, by decide +kernel⟩
set_option maxRecDepth 100000 in
theorem jcX2_30 : jcV RX2 30 KX2_clear 2 0 := ⟨Or.inl (jt 29 rfl rfl), jt 31 rfl rfl, jsel 0 rfl rfl, by decide +kernel, rfl⟩
set_option maxRecDepth 100000 in
theorem jcX2_55 : jcS RX2 55 KX2_copyRow 2 := ⟨Or.inl (jt 437 rfl rfl), jt 438 rfl rfl, by decide +kernel⟩
set_option maxRecDepth 100000 in
theorem jcX2_59 : jcV RX2 59 KX2_wholeBit 2 1 := ⟨Or.inl (jt 460 rfl rfl), jt 454 rfl rfl, jsel 21 rfl rfl, by decide +kernel, rfl⟩
set_option maxRecDepth 100000 in
theorem jcX2_63 : jcS RX2 63 KJ6_bitCount_0f7a4 1 := ⟨Or.inl (jt 461 rfl rfl), jt 462 rfl rfl, by decide +kernel⟩
set_option maxRecDepth 100000 in
theorem jcX2_68 : jcS RX2 68 KX6_breaksOf 4 := ⟨Or.inr ⟨"SwordSeat", jn 467 rfl rfl⟩, jt 468 rfl rfl, by decide +kernel⟩
set_option maxRecDepth 100000 in
theorem jcX2_72 : jcV RX2 72 KX2_passHour 2 1 := ⟨Or.inl (jt 515 rfl rfl), jt 517 rfl rfl, jsel 24 rfl rfl, by decide +kernel, rfl⟩
set_option maxRecDepth 100000 in
theorem jcX4_28 : jcS RX4 28 KX6_within 3 := ⟨Or.inr ⟨"SwordSeat", jn 745 rfl rfl⟩, jt 283 rfl rfl, by decide +kernel⟩
set_option maxRecDepth 100000 in
theorem jcX4_32 : jcV RX4 32 KX4_faultAt 4 1 := ⟨Or.inl (jt 758 rfl rfl), jt 743 rfl rfl, jsel 49 rfl rfl, by decide +kernel, rfl⟩
set_option maxRecDepth 100000 in
theorem jcX6_59 : jcS RX6 59 KX6_within 3 := ⟨Or.inl (jt 282 rfl rfl), jt 283 rfl rfl, by decide +kernel⟩
set_option maxRecDepth 100000 in
theorem jcX6_67 : jcV RX6 67 KX5_append 5 1 := ⟨Or.inr ⟨"SwordSeat", jn 285 rfl rfl⟩, jt 287 rfl rfl, jsel 1 rfl rfl, by decide +kernel, rfl⟩
set_option maxRecDepth 100000 in
theorem jcX6_76 : jcV RX6 76 KX1_readAll 1 0 := ⟨Or.inr ⟨"SwordSeat", jn 297 rfl rfl⟩, jt 299 rfl rfl, jsel 2 rfl rfl, by decide +kernel, rfl⟩
set_option maxRecDepth 100000 in
theorem jcX6_86 : jcV RX6 86 KX2_copy 2 1 := ⟨Or.inr ⟨"SwordSeat", jn 433 rfl rfl⟩, jt 435 rfl rfl, jsel 20 rfl rfl, by decide +kernel, rfl⟩
set_option maxRecDepth 100000 in
theorem jcX6_121 : jcV RX6 121 KX2_wholeBit 2 1 := ⟨Or.inr ⟨"SwordSeat", jn 452 rfl rfl⟩, jt 454 rfl rfl, jsel 21 rfl rfl, by decide +kernel, rfl⟩
set_option maxRecDepth 100000 in
theorem jcX6_125 : jcV RX6 125 KX2_breaks 2 1 := ⟨Or.inr ⟨"SwordSeat", jn 456 rfl rfl⟩, jt 458 rfl rfl, jsel 22 rfl rfl, by decide +kernel, rfl⟩
set_option maxRecDepth 100000 in
theorem jcX6_140 : jcV RX6 140 KX2_tryHour 2 1 := ⟨Or.inr ⟨"SwordSeat", jn 511 rfl rfl⟩, jt 513 rfl rfl, jsel 23 rfl rfl, by decide +kernel, rfl⟩
set_option maxRecDepth 100000 in
theorem jcX6_143 : jcS RX6 143 KX6_foreseen 1 := ⟨Or.inl (jt 524 rfl rfl), jt 525 rfl rfl, by decide +kernel⟩
set_option maxRecDepth 100000 in
theorem jcX6_148 : jcS RX6 148 KX6_thousands 1 := ⟨Or.inl (jt 528 rfl rfl), jt 529 rfl rfl, by decide +kernel⟩
set_option maxRecDepth 100000 in
theorem jcX6_152 : jcV RX6 152 KX6_heldFromNow 6 1 := ⟨Or.inl (jt 532 rfl rfl), jt 534 rfl rfl, jsel 25 rfl rfl, by decide +kernel, rfl⟩
set_option maxRecDepth 100000 in
theorem jcX6_155 : jcS RX6 155 KX6_part 3 := ⟨Or.inl (jt 568 rfl rfl), jt 569 rfl rfl, by decide +kernel⟩
set_option maxRecDepth 100000 in
theorem jcX6_159 : jcV RX6 159 KX0_take 0 1 := ⟨Or.inr ⟨"SwordSeat", jn 536 rfl rfl⟩, jt 538 rfl rfl, jsel 26 rfl rfl, by decide +kernel, rfl⟩
set_option maxRecDepth 100000 in
theorem jcX6_162 : jcV RX6 162 KX0_passHours 0 1 := ⟨Or.inr ⟨"SwordSeat", jn 544 rfl rfl⟩, jt 546 rfl rfl, jsel 28 rfl rfl, by decide +kernel, rfl⟩
set_option maxRecDepth 100000 in
theorem jcX6_166 : jcV RX6 166 KX0_justWhole 0 1 := ⟨Or.inr ⟨"SwordSeat", jn 581 rfl rfl⟩, jt 583 rfl rfl, jsel 33 rfl rfl, by decide +kernel, rfl⟩
set_option maxRecDepth 100000 in
theorem jcX6_169 : jcV RX6 169 KX0_sitting 0 4 := ⟨Or.inr ⟨"SwordSeat", jn 593 rfl rfl⟩, jt 595 rfl rfl, jsel 34 rfl rfl, by decide +kernel, rfl⟩
set_option maxRecDepth 100000 in
theorem jcX6_173 : jcV RX6 173 KX6_seeingGain 6 2 := ⟨Or.inl (jt 605 rfl rfl), jt 607 rfl rfl, jsel 35 rfl rfl, by decide +kernel, rfl⟩
set_option maxRecDepth 100000 in
theorem jcX6_178 : jcV RX6 178 KX0_passHour 0 1 := ⟨Or.inr ⟨"SwordSeat", jn 613 rfl rfl⟩, jt 550 rfl rfl, jsel 29 rfl rfl, by decide +kernel, rfl⟩
set_option maxRecDepth 100000 in
theorem jcX6_181 : jcV RX6 181 KX0_held 0 0 := ⟨Or.inr ⟨"SwordSeat", jn 564 rfl rfl⟩, jt 566 rfl rfl, jsel 32 rfl rfl, by decide +kernel, rfl⟩
set_option maxRecDepth 100000 in
theorem jcX6_185 : jcV RX6 185 KX0_takeNew 0 3 := ⟨Or.inr ⟨"SwordSeat", jn 618 rfl rfl⟩, jt 620 rfl rfl, jsel 36 rfl rfl, by decide +kernel, rfl⟩
set_option maxRecDepth 100000 in
theorem jcX6_189 : jcV RX6 189 KX0_holdsBy 0 2 := ⟨Or.inr ⟨"SwordSeat", jn 622 rfl rfl⟩, jt 624 rfl rfl, jsel 37 rfl rfl, by decide +kernel, rfl⟩
set_option maxRecDepth 100000 in
theorem jcX6_193 : jcV RX6 193 KX0_renew 0 1 := ⟨Or.inr ⟨"SwordSeat", jn 635 rfl rfl⟩, jt 637 rfl rfl, jsel 38 rfl rfl, by decide +kernel, rfl⟩
set_option maxRecDepth 100000 in
theorem jcX6_196 : jcV RX6 196 KX0_contest 0 4 := ⟨Or.inr ⟨"SwordSeat", jn 644 rfl rfl⟩, jt 646 rfl rfl, jsel 39 rfl rfl, by decide +kernel, rfl⟩
set_option maxRecDepth 100000 in
theorem jcX6_209 : jcV RX6 209 KX0_foresee 0 0 := ⟨Or.inr ⟨"SwordSeat", jn 665 rfl rfl⟩, jt 667 rfl rfl, jsel 41 rfl rfl, by decide +kernel, rfl⟩
set_option maxRecDepth 100000 in
theorem jcX6_212 : jcV RX6 212 KX6_worthOfLaws 6 1 := ⟨Or.inl (jt 669 rfl rfl), jt 671 rfl rfl, jsel 42 rfl rfl, by decide +kernel, rfl⟩
set_option maxRecDepth 100000 in
theorem jcX6_215 : jcV RX6 215 KX3_append 3 2 := ⟨Or.inr ⟨"SwordSeat", jn 681 rfl rfl⟩, jt 683 rfl rfl, jsel 43 rfl rfl, by decide +kernel, rfl⟩
set_option maxRecDepth 100000 in
theorem jcX6_217 : jcV RX6 217 KX6_likelihood 6 2 := ⟨Or.inl (jt 693 rfl rfl), jt 695 rfl rfl, jsel 44 rfl rfl, by decide +kernel, rfl⟩
set_option maxRecDepth 100000 in
theorem jcX6_220 : jcV RX6 220 KX3_lastHour 3 0 := ⟨Or.inr ⟨"SwordSeat", jn 697 rfl rfl⟩, jt 699 rfl rfl, jsel 45 rfl rfl, by decide +kernel, rfl⟩
set_option maxRecDepth 100000 in
theorem jcX6_224 : jcV RX6 224 KX2_passHour 2 1 := ⟨Or.inr ⟨"SwordSeat", jn 719 rfl rfl⟩, jt 517 rfl rfl, jsel 24 rfl rfl, by decide +kernel, rfl⟩
set_option maxRecDepth 100000 in
theorem jcX6_225 : jcV RX6 225 KX4_renew 4 2 := ⟨Or.inr ⟨"SwordSeat", jn 732 rfl rfl⟩, jt 734 rfl rfl, jsel 48 rfl rfl, by decide +kernel, rfl⟩
set_option maxRecDepth 100000 in
theorem jcX6_228 : jcV RX6 228 KX4_faultAt 4 1 := ⟨Or.inr ⟨"SwordSeat", jn 741 rfl rfl⟩, jt 743 rfl rfl, jsel 49 rfl rfl, by decide +kernel, rfl⟩
set_option maxRecDepth 100000 in
theorem jcX6_231 : jcV RX6 231 KX4_write 4 2 := ⟨Or.inr ⟨"SwordSeat", jn 746 rfl rfl⟩, jt 748 rfl rfl, jsel 50 rfl rfl, by decide +kernel, rfl⟩
set_option maxRecDepth 100000 in
theorem jcX6_234 : jcV RX6 234 KX4_faultAs 4 2 := ⟨Or.inr ⟨"SwordSeat", jn 754 rfl rfl⟩, jt 756 rfl rfl, jsel 51 rfl rfl, by decide +kernel, rfl⟩
set_option maxRecDepth 100000 in
theorem jcX6_245 : jcS RX6 245 KJ6_bitCount_0f7a4 1 := ⟨Or.inl (jt 767 rfl rfl), jt 462 rfl rfl, by decide +kernel⟩
set_option maxRecDepth 100000 in
theorem jcX6_250 : jcV RX6 250 KX2_allAges 2 0 := ⟨Or.inr ⟨"SwordSeat", jn 768 rfl rfl⟩, jt 770 rfl rfl, jsel 52 rfl rfl, by decide +kernel, rfl⟩
set_option maxRecDepth 100000 in
theorem jcX6_261 : jcS RX6 261 KX6_common 2 := ⟨Or.inl (jt 574 rfl rfl), jt 575 rfl rfl, by decide +kernel⟩
set_option maxRecDepth 100000 in
theorem jcX6_265 : jcS RX6 265 KX6_baseOf 2 := ⟨Or.inl (jt 470 rfl rfl), jt 471 rfl rfl, by decide +kernel⟩
set_option maxRecDepth 100000 in
theorem jcX6_283 : jcV RX6 283 KX0_keepOnly 0 1 := ⟨Or.inr ⟨"SwordSeat", jn 702 rfl rfl⟩, jt 704 rfl rfl, jsel 46 rfl rfl, by decide +kernel, rfl⟩
set_option maxRecDepth 100000 in
theorem jcX6_286 : jcV RX6 286 KX0_all 0 0 := ⟨Or.inr ⟨"SwordSeat", jn 706 rfl rfl⟩, jt 708 rfl rfl, jsel 47 rfl rfl, by decide +kernel, rfl⟩
set_option maxRecDepth 100000 in
theorem jcX7_74 : jcS RX7 74 KX7_in 3 := ⟨Or.inl (jt 910 rfl rfl), jt 911 rfl rfl, by decide +kernel⟩
set_option maxRecDepth 100000 in
theorem jcX7_97 : jcV RX7 97 KX7_byteAt 7 1 := ⟨Or.inl (jt 925 rfl rfl), jt 927 rfl rfl, jsel 54 rfl rfl, by decide +kernel, rfl⟩
set_option maxRecDepth 100000 in
theorem jcX7_112 : jcV RX7 112 KX7_fails 7 1 := ⟨Or.inl (jt 933 rfl rfl), jt 935 rfl rfl, jsel 55 rfl rfl, by decide +kernel, rfl⟩
set_option maxRecDepth 100000 in
theorem jcX7_116 : jcV RX7 116 KX7_step 7 0 := ⟨Or.inl (jt 921 rfl rfl), jt 923 rfl rfl, jsel 53 rfl rfl, by decide +kernel, rfl⟩
set_option maxRecDepth 100000 in
theorem jcX7_119 : jcV RX7 119 KX7_nameHere 7 0 := ⟨Or.inl (jt 941 rfl rfl), jt 943 rfl rfl, jsel 57 rfl rfl, by decide +kernel, rfl⟩
set_option maxRecDepth 100000 in
theorem jcX7_126 : jcV RX7 126 KX7_number 7 2 := ⟨Or.inl (jt 952 rfl rfl), jt 954 rfl rfl, jsel 59 rfl rfl, by decide +kernel, rfl⟩
set_option maxRecDepth 100000 in
theorem jcX7_150 : jcV RX7 150 KX7_readMore 7 1 := ⟨Or.inl (jt 948 rfl rfl), jt 950 rfl rfl, jsel 58 rfl rfl, by decide +kernel, rfl⟩
set_option maxRecDepth 100000 in
theorem jcX7_153 : jcV RX7 153 KX7_readLine 7 0 := ⟨Or.inl (jt 937 rfl rfl), jt 939 rfl rfl, jsel 56 rfl rfl, by decide +kernel, rfl⟩
set_option maxRecDepth 100000 in
theorem jcX7_171 : jcV RX7 171 KX7_load 7 0 := ⟨Or.inl (jt 965 rfl rfl), jt 967 rfl rfl, jsel 60 rfl rfl, by decide +kernel, rfl⟩
set_option maxRecDepth 100000 in
theorem jcX7_174 : jcV RX7 174 KX7_prize 7 0 := ⟨Or.inl (jt 969 rfl rfl), jt 971 rfl rfl, jsel 61 rfl rfl, by decide +kernel, rfl⟩
set_option maxRecDepth 100000 in
theorem jcX7_177 : jcV RX7 177 KX7_wholeNow 7 0 := ⟨Or.inl (jt 973 rfl rfl), jt 975 rfl rfl, jsel 62 rfl rfl, by decide +kernel, rfl⟩
set_option maxRecDepth 100000 in
theorem jcX7_189 : jcS RX7 189 KX7_bitsOf 1 := ⟨Or.inl (jt 993 rfl rfl), jt 994 rfl rfl, by decide +kernel⟩
set_option maxRecDepth 100000 in
theorem jcX7_192 : jcV RX7 192 KX7_isHair 7 1 := ⟨Or.inl (jt 981 rfl rfl), jt 983 rfl rfl, jsel 63 rfl rfl, by decide +kernel, rfl⟩
set_option maxRecDepth 100000 in
theorem jcX7_196 : jcV RX7 196 KX7_lays 7 0 := ⟨Or.inl (jt 985 rfl rfl), jt 987 rfl rfl, jsel 64 rfl rfl, by decide +kernel, rfl⟩
set_option maxRecDepth 100000 in
theorem jcX7_199 : jcV RX7 199 KX7_breaksOf 7 3 := ⟨Or.inl (jt 989 rfl rfl), jt 991 rfl rfl, jsel 65 rfl rfl, by decide +kernel, rfl⟩
set_option maxRecDepth 100000 in
theorem jcX7_203 : jcV RX7 203 KX7_isKing 7 1 := ⟨Or.inl (jt 1000 rfl rfl), jt 1002 rfl rfl, jsel 66 rfl rfl, by decide +kernel, rfl⟩
set_option maxRecDepth 100000 in
theorem jcX7_208 : jcV RX7 208 KX7_puts 7 4 := ⟨Or.inl (jt 1013 rfl rfl), jt 1015 rfl rfl, jsel 67 rfl rfl, by decide +kernel, rfl⟩
set_option maxRecDepth 100000 in
theorem jcX7_214 : jcV RX7 214 KX7_hours 7 1 := ⟨Or.inl (jt 1038 rfl rfl), jt 1040 rfl rfl, jsel 68 rfl rfl, by decide +kernel, rfl⟩
set_option maxRecDepth 100000 in
theorem jcX7_219 : jcV RX7 219 KX7_wayOf 7 3 := ⟨Or.inl (jt 1070 rfl rfl), jt 1072 rfl rfl, jsel 73 rfl rfl, by decide +kernel, rfl⟩
set_option maxRecDepth 100000 in
theorem jcX7_223 : jcV RX7 223 KX7_begins 7 0 := ⟨Or.inl (jt 1062 rfl rfl), jt 1064 rfl rfl, jsel 71 rfl rfl, by decide +kernel, rfl⟩
set_option maxRecDepth 100000 in
theorem jcX7_226 : jcV RX7 226 KX7_hourOn 7 1 := ⟨Or.inl (jt 1066 rfl rfl), jt 1068 rfl rfl, jsel 72 rfl rfl, by decide +kernel, rfl⟩
set_option maxRecDepth 100000 in
theorem jcX7_229 : jcV RX7 229 KX7_hoursOn 7 1 := ⟨Or.inl (jt 1058 rfl rfl), jt 1060 rfl rfl, jsel 70 rfl rfl, by decide +kernel, rfl⟩
set_option maxRecDepth 100000 in
theorem jcX7_232 : jcS RX7 232 KX7_tens 1 := ⟨Or.inl (jt 1050 rfl rfl), jt 1051 rfl rfl, by decide +kernel⟩
set_option maxRecDepth 100000 in
theorem jcX7_236 : jcS RX7 236 KX7_isLong 1 := ⟨Or.inl (jt 1046 rfl rfl), jt 1047 rfl rfl, by decide +kernel⟩
set_option maxRecDepth 100000 in
theorem jcX7_241 : jcV RX7 241 KX7_holds 7 1 := ⟨Or.inl (jt 1054 rfl rfl), jt 1056 rfl rfl, jsel 69 rfl rfl, by decide +kernel, rfl⟩
set_option maxRecDepth 100000 in
theorem jcX7_244 : jcS RX7 244 KX7_lowest 3 := ⟨Or.inl (jt 1074 rfl rfl), jt 1075 rfl rfl, by decide +kernel⟩
set_option maxRecDepth 100000 in
theorem jcX7_252 : jcV RX7 252 KX7_bestOf 7 2 := ⟨Or.inl (jt 1093 rfl rfl), jt 1095 rfl rfl, jsel 74 rfl rfl, by decide +kernel, rfl⟩
set_option maxRecDepth 100000 in
theorem jcX7_256 : jcV RX7 256 KX7_laysNew 7 2 := ⟨Or.inl (jt 1105 rfl rfl), jt 1107 rfl rfl, jsel 75 rfl rfl, by decide +kernel, rfl⟩
set_option maxRecDepth 100000 in
theorem jcX7_260 : jcV RX7 260 KX7_holdsBy 7 2 := ⟨Or.inl (jt 1109 rfl rfl), jt 1111 rfl rfl, jsel 76 rfl rfl, by decide +kernel, rfl⟩
set_option maxRecDepth 100000 in
theorem jcX7_264 : jcV RX7 264 KX7_duels 7 3 := ⟨Or.inl (jt 1125 rfl rfl), jt 1127 rfl rfl, jsel 77 rfl rfl, by decide +kernel, rfl⟩
set_option maxRecDepth 100000 in
theorem jcX7_270 : jcV RX7 270 KX7_readOf 7 1 := ⟨Or.inl (jt 1138 rfl rfl), jt 1140 rfl rfl, jsel 78 rfl rfl, by decide +kernel, rfl⟩
set_option maxRecDepth 100000 in
theorem jcX7_273 : jcV RX7 273 KX7_sifts 7 1 := ⟨Or.inl (jt 1162 rfl rfl), jt 1164 rfl rfl, jsel 80 rfl rfl, by decide +kernel, rfl⟩
set_option maxRecDepth 100000 in
theorem jcX7_276 : jcV RX7 276 KX7_likeliness 7 2 := ⟨Or.inl (jt 1158 rfl rfl), jt 1160 rfl rfl, jsel 79 rfl rfl, by decide +kernel, rfl⟩
set_option maxRecDepth 100000 in
theorem jcX7_282 : jcV RX7 282 KX7_copies 7 2 := ⟨Or.inl (jt 1180 rfl rfl), jt 1182 rfl rfl, jsel 81 rfl rfl, by decide +kernel, rfl⟩
set_option maxRecDepth 100000 in
theorem jcJ0_495 : jcS RJ0 495 KJ1_charAt_3b067 2 := ⟨Or.inl (jt 344 rfl rfl), jt 345 rfl rfl, by decide +kernel⟩
set_option maxRecDepth 100000 in
theorem jcJ0_498 : jcS RJ0 498 KJ2_charAt_3b067 2 := ⟨Or.inl (jt 355 rfl rfl), jt 356 rfl rfl, by decide +kernel⟩
set_option maxRecDepth 100000 in
theorem jcJ0_1059 : jcS RJ0 1059 KJ3_checkIndex_8e157 3 := ⟨Or.inl (jt 352 rfl rfl), jt 353 rfl rfl, by decide +kernel⟩
set_option maxRecDepth 100000 in
theorem jcJ1_9 : jcS RJ1 9 KJ0_checkIndex_df160 2 := ⟨Or.inl (jt 347 rfl rfl), jt 348 rfl rfl, by decide +kernel⟩
set_option maxRecDepth 100000 in
theorem jcJ2_48 : jcS RJ2 48 KJ2_length_9d52b 1 := ⟨Or.inl (jt 361 rfl rfl), jt 362 rfl rfl, by decide +kernel⟩
set_option maxRecDepth 100000 in
theorem jcJ2_67 : jcS RJ2 67 KJ2_checkIndex_2214a 2 := ⟨Or.inl (jt 358 rfl rfl), jt 359 rfl rfl, by decide +kernel⟩
set_option maxRecDepth 100000 in
theorem jcJ2_71 : jcS RJ2 71 KJ2_getChar_3b067 2 := ⟨Or.inl (jt 365 rfl rfl), jt 366 rfl rfl, by decide +kernel⟩
set_option maxRecDepth 100000 in
theorem jcJ2_414 : jcS RJ2 414 KJ0_checkIndex_df160 2 := ⟨Or.inl (jt 364 rfl rfl), jt 348 rfl rfl, by decide +kernel⟩
set_option maxRecDepth 100000 in
theorem jcL_13 : jcV RL 13 KX6_feed 6 1 := ⟨Or.inl (jt 278 rfl rfl), jt 279 rfl rfl, jt 280 rfl rfl, by decide +kernel, rfl⟩
set_option maxRecDepth 100000 in
theorem jcL_17 : jcV RL 17 KX7_feed 7 1 := ⟨Or.inl (jt 905 rfl rfl), jt 906 rfl rfl, jt 907 rfl rfl, by decide +kernel, rfl⟩
set_option maxRecDepth 100000 in
theorem jcL_18 : jcV RL 18 KX6_end 6 1 := ⟨Or.inl (jt 289 rfl rfl), jt 290 rfl rfl, jt 291 rfl rfl, by decide +kernel, rfl⟩
set_option maxRecDepth 100000 in
theorem jcL_21 : jcV RL 21 KX7_end 7 1 := ⟨Or.inl (jt 913 rfl rfl), jt 914 rfl rfl, jt 915 rfl rfl, by decide +kernel, rfl⟩
set_option maxRecDepth 100000 in
theorem jcL_22 : jcV RL 22 KX6_text 6 0 := ⟨Or.inl (jt 293 rfl rfl), jt 294 rfl rfl, jt 295 rfl rfl, by decide +kernel, rfl⟩
set_option maxRecDepth 100000 in
theorem jcL_26 : jcV RL 26 KX7_text 7 0 := ⟨Or.inl (jt 917 rfl rfl), jt 918 rfl rfl, jt 919 rfl rfl, by decide +kernel, rfl⟩
set_option maxRecDepth 100000 in
theorem jcL_27 : jcV RL 27 KX6_fault 6 0 := ⟨Or.inl (jt 440 rfl rfl), jt 441 rfl rfl, jt 442 rfl rfl, by decide +kernel, rfl⟩
set_option maxRecDepth 100000 in
theorem jcL_30 : jcV RL 30 KX7_fault 7 0 := ⟨Or.inl (jt 957 rfl rfl), jt 958 rfl rfl, jt 959 rfl rfl, by decide +kernel, rfl⟩
set_option maxRecDepth 100000 in
theorem jcL_31 : jcV RL 31 KX6_rule 6 1 := ⟨Or.inl (jt 444 rfl rfl), jt 445 rfl rfl, jt 446 rfl rfl, by decide +kernel, rfl⟩
set_option maxRecDepth 100000 in
theorem jcL_34 : jcV RL 34 KX7_rule 7 1 := ⟨Or.inl (jt 961 rfl rfl), jt 962 rfl rfl, jt 963 rfl rfl, by decide +kernel, rfl⟩
set_option maxRecDepth 100000 in
theorem jcL_35 : jcV RL 35 KX6_hair 6 2 := ⟨Or.inl (jt 448 rfl rfl), jt 449 rfl rfl, jt 450 rfl rfl, by decide +kernel, rfl⟩
set_option maxRecDepth 100000 in
theorem jcL_39 : jcV RL 39 KX7_hair 7 2 := ⟨Or.inl (jt 977 rfl rfl), jt 978 rfl rfl, jt 979 rfl rfl, by decide +kernel, rfl⟩
set_option maxRecDepth 100000 in
theorem jcL_40 : jcV RL 40 KX6_king 6 2 := ⟨Or.inl (jt 479 rfl rfl), jt 480 rfl rfl, jt 481 rfl rfl, by decide +kernel, rfl⟩
set_option maxRecDepth 100000 in
theorem jcL_43 : jcV RL 43 KX7_king 7 2 := ⟨Or.inl (jt 996 rfl rfl), jt 997 rfl rfl, jt 998 rfl rfl, by decide +kernel, rfl⟩
set_option maxRecDepth 100000 in
theorem jcL_44 : jcV RL 44 KX6_law 6 2 := ⟨Or.inl (jt 483 rfl rfl), jt 484 rfl rfl, jt 485 rfl rfl, by decide +kernel, rfl⟩
set_option maxRecDepth 100000 in
theorem jcL_47 : jcV RL 47 KX7_law 7 2 := ⟨Or.inl (jt 1004 rfl rfl), jt 1005 rfl rfl, jt 1006 rfl rfl, by decide +kernel, rfl⟩
set_option maxRecDepth 100000 in
theorem jcL_48 : jcV RL 48 KX6_set 6 2 := ⟨Or.inl (jt 487 rfl rfl), jt 488 rfl rfl, jt 489 rfl rfl, by decide +kernel, rfl⟩
set_option maxRecDepth 100000 in
theorem jcL_51 : jcV RL 51 KX7_set 7 2 := ⟨Or.inl (jt 1008 rfl rfl), jt 1009 rfl rfl, jt 1010 rfl rfl, by decide +kernel, rfl⟩
set_option maxRecDepth 100000 in
theorem jcL_52 : jcV RL 52 KX6_age 6 2 := ⟨Or.inl (jt 491 rfl rfl), jt 492 rfl rfl, jt 493 rfl rfl, by decide +kernel, rfl⟩
set_option maxRecDepth 100000 in
theorem jcL_55 : jcV RL 55 KX7_age 7 2 := ⟨Or.inl (jt 1018 rfl rfl), jt 1019 rfl rfl, jt 1020 rfl rfl, by decide +kernel, rfl⟩
set_option maxRecDepth 100000 in
theorem jcL_56 : jcV RL 56 KX6_dye 6 2 := ⟨Or.inl (jt 495 rfl rfl), jt 496 rfl rfl, jt 497 rfl rfl, by decide +kernel, rfl⟩
set_option maxRecDepth 100000 in
theorem jcL_59 : jcV RL 59 KX7_dye 7 2 := ⟨Or.inl (jt 1022 rfl rfl), jt 1023 rfl rfl, jt 1024 rfl rfl, by decide +kernel, rfl⟩
set_option maxRecDepth 100000 in
theorem jcL_60 : jcV RL 60 KX6_knot 6 2 := ⟨Or.inl (jt 499 rfl rfl), jt 500 rfl rfl, jt 501 rfl rfl, by decide +kernel, rfl⟩
set_option maxRecDepth 100000 in
theorem jcL_64 : jcV RL 64 KX7_knot 7 2 := ⟨Or.inl (jt 1026 rfl rfl), jt 1027 rfl rfl, jt 1028 rfl rfl, by decide +kernel, rfl⟩
set_option maxRecDepth 100000 in
theorem jcL_65 : jcV RL 65 KX6_pay 6 3 := ⟨Or.inl (jt 503 rfl rfl), jt 504 rfl rfl, jt 505 rfl rfl, by decide +kernel, rfl⟩
set_option maxRecDepth 100000 in
theorem jcL_69 : jcV RL 69 KX7_pay 7 3 := ⟨Or.inl (jt 1030 rfl rfl), jt 1031 rfl rfl, jt 1032 rfl rfl, by decide +kernel, rfl⟩
set_option maxRecDepth 100000 in
theorem jcL_70 : jcV RL 70 KX6_hour 6 1 := ⟨Or.inl (jt 507 rfl rfl), jt 508 rfl rfl, jt 509 rfl rfl, by decide +kernel, rfl⟩
set_option maxRecDepth 100000 in
theorem jcL_73 : jcV RL 73 KX7_hour 7 1 := ⟨Or.inl (jt 1034 rfl rfl), jt 1035 rfl rfl, jt 1036 rfl rfl, by decide +kernel, rfl⟩
set_option maxRecDepth 100000 in
theorem jcL_74 : jcV RL 74 KX6_falls 6 2 := ⟨Or.inl (jt 520 rfl rfl), jt 521 rfl rfl, jt 522 rfl rfl, by decide +kernel, rfl⟩
set_option maxRecDepth 100000 in
theorem jcL_78 : jcV RL 78 KX7_falls 7 2 := ⟨Or.inl (jt 1042 rfl rfl), jt 1043 rfl rfl, jt 1044 rfl rfl, by decide +kernel, rfl⟩
set_option maxRecDepth 100000 in
theorem jcL_79 : jcV RL 79 KX6_left 6 3 := ⟨Or.inl (jt 577 rfl rfl), jt 578 rfl rfl, jt 579 rfl rfl, by decide +kernel, rfl⟩
set_option maxRecDepth 100000 in
theorem jcL_83 : jcV RL 83 KX7_left 7 3 := ⟨Or.inl (jt 1077 rfl rfl), jt 1078 rfl rfl, jt 1079 rfl rfl, by decide +kernel, rfl⟩
set_option maxRecDepth 100000 in
theorem jcL_84 : jcV RL 84 KX6_mean 6 2 := ⟨Or.inl (jt 585 rfl rfl), jt 586 rfl rfl, jt 587 rfl rfl, by decide +kernel, rfl⟩
set_option maxRecDepth 100000 in
theorem jcL_87 : jcV RL 87 KX7_mean 7 2 := ⟨Or.inl (jt 1081 rfl rfl), jt 1082 rfl rfl, jt 1083 rfl rfl, by decide +kernel, rfl⟩
set_option maxRecDepth 100000 in
theorem jcL_88 : jcV RL 88 KX6_sits 6 3 := ⟨Or.inl (jt 589 rfl rfl), jt 590 rfl rfl, jt 591 rfl rfl, by decide +kernel, rfl⟩
set_option maxRecDepth 100000 in
theorem jcL_91 : jcV RL 91 KX7_sits 7 3 := ⟨Or.inl (jt 1085 rfl rfl), jt 1086 rfl rfl, jt 1087 rfl rfl, by decide +kernel, rfl⟩
set_option maxRecDepth 100000 in
theorem jcL_92 : jcV RL 92 KX6_best 6 3 := ⟨Or.inl (jt 601 rfl rfl), jt 602 rfl rfl, jt 603 rfl rfl, by decide +kernel, rfl⟩
set_option maxRecDepth 100000 in
theorem jcL_95 : jcV RL 95 KX7_best 7 3 := ⟨Or.inl (jt 1089 rfl rfl), jt 1090 rfl rfl, jt 1091 rfl rfl, by decide +kernel, rfl⟩
set_option maxRecDepth 100000 in
theorem jcL_96 : jcV RL 96 KX6_test 6 3 := ⟨Or.inl (jt 609 rfl rfl), jt 610 rfl rfl, jt 611 rfl rfl, by decide +kernel, rfl⟩
set_option maxRecDepth 100000 in
theorem jcL_99 : jcV RL 99 KX7_test 7 3 := ⟨Or.inl (jt 1097 rfl rfl), jt 1098 rfl rfl, jt 1099 rfl rfl, by decide +kernel, rfl⟩
set_option maxRecDepth 100000 in
theorem jcL_100 : jcV RL 100 KX6_plait 6 3 := ⟨Or.inl (jt 614 rfl rfl), jt 615 rfl rfl, jt 616 rfl rfl, by decide +kernel, rfl⟩
set_option maxRecDepth 100000 in
theorem jcL_103 : jcV RL 103 KX7_plait 7 3 := ⟨Or.inl (jt 1101 rfl rfl), jt 1102 rfl rfl, jt 1103 rfl rfl, by decide +kernel, rfl⟩
set_option maxRecDepth 100000 in
theorem jcL_104 : jcV RL 104 KX6_bears 6 2 := ⟨Or.inl (jt 627 rfl rfl), jt 628 rfl rfl, jt 629 rfl rfl, by decide +kernel, rfl⟩
set_option maxRecDepth 100000 in
theorem jcL_107 : jcV RL 107 KX7_bears 7 2 := ⟨Or.inl (jt 1113 rfl rfl), jt 1114 rfl rfl, jt 1115 rfl rfl, by decide +kernel, rfl⟩
set_option maxRecDepth 100000 in
theorem jcL_108 : jcV RL 108 KX6_mend 6 2 := ⟨Or.inl (jt 631 rfl rfl), jt 632 rfl rfl, jt 633 rfl rfl, by decide +kernel, rfl⟩
set_option maxRecDepth 100000 in
theorem jcL_111 : jcV RL 111 KX7_mend 7 2 := ⟨Or.inl (jt 1117 rfl rfl), jt 1118 rfl rfl, jt 1119 rfl rfl, by decide +kernel, rfl⟩
set_option maxRecDepth 100000 in
theorem jcL_112 : jcV RL 112 KX6_duel 6 4 := ⟨Or.inl (jt 640 rfl rfl), jt 641 rfl rfl, jt 642 rfl rfl, by decide +kernel, rfl⟩
set_option maxRecDepth 100000 in
theorem jcL_116 : jcV RL 116 KX7_duel 7 4 := ⟨Or.inl (jt 1121 rfl rfl), jt 1122 rfl rfl, jt 1123 rfl rfl, by decide +kernel, rfl⟩
set_option maxRecDepth 100000 in
theorem jcL_117 : jcV RL 117 KX6_crown 6 2 := ⟨Or.inl (jt 656 rfl rfl), jt 657 rfl rfl, jt 658 rfl rfl, by decide +kernel, rfl⟩
set_option maxRecDepth 100000 in
theorem jcL_120 : jcV RL 120 KX7_crown 7 2 := ⟨Or.inl (jt 1129 rfl rfl), jt 1130 rfl rfl, jt 1131 rfl rfl, by decide +kernel, rfl⟩
set_option maxRecDepth 100000 in
theorem jcL_121 : jcV RL 121 KX6_reads 6 2 := ⟨Or.inl (jt 661 rfl rfl), jt 662 rfl rfl, jt 663 rfl rfl, by decide +kernel, rfl⟩
set_option maxRecDepth 100000 in
theorem jcL_124 : jcV RL 124 KX7_reads 7 2 := ⟨Or.inl (jt 1134 rfl rfl), jt 1135 rfl rfl, jt 1136 rfl rfl, by decide +kernel, rfl⟩
set_option maxRecDepth 100000 in
theorem jcL_125 : jcV RL 125 KX6_laws 6 1 := ⟨Or.inl (jt 673 rfl rfl), jt 674 rfl rfl, jt 675 rfl rfl, by decide +kernel, rfl⟩
set_option maxRecDepth 100000 in
theorem jcL_129 : jcV RL 129 KX7_laws 7 1 := ⟨Or.inl (jt 1142 rfl rfl), jt 1143 rfl rfl, jt 1144 rfl rfl, by decide +kernel, rfl⟩
set_option maxRecDepth 100000 in
theorem jcL_130 : jcV RL 130 KX6_see 6 2 := ⟨Or.inl (jt 677 rfl rfl), jt 678 rfl rfl, jt 679 rfl rfl, by decide +kernel, rfl⟩
set_option maxRecDepth 100000 in
theorem jcL_133 : jcV RL 133 KX7_see 7 2 := ⟨Or.inl (jt 1146 rfl rfl), jt 1147 rfl rfl, jt 1148 rfl rfl, by decide +kernel, rfl⟩
set_option maxRecDepth 100000 in
theorem jcL_134 : jcV RL 134 KX6_forget 6 1 := ⟨Or.inl (jt 685 rfl rfl), jt 686 rfl rfl, jt 687 rfl rfl, by decide +kernel, rfl⟩
set_option maxRecDepth 100000 in
theorem jcL_137 : jcV RL 137 KX7_forget 7 1 := ⟨Or.inl (jt 1150 rfl rfl), jt 1151 rfl rfl, jt 1152 rfl rfl, by decide +kernel, rfl⟩
set_option maxRecDepth 100000 in
theorem jcL_138 : jcV RL 138 KX6_likely 6 3 := ⟨Or.inl (jt 689 rfl rfl), jt 690 rfl rfl, jt 691 rfl rfl, by decide +kernel, rfl⟩
set_option maxRecDepth 100000 in
theorem jcL_141 : jcV RL 141 KX7_likely 7 3 := ⟨Or.inl (jt 1154 rfl rfl), jt 1155 rfl rfl, jt 1156 rfl rfl, by decide +kernel, rfl⟩
set_option maxRecDepth 100000 in
theorem jcL_142 : jcV RL 142 KX6_guess 6 1 := ⟨Or.inl (jt 710 rfl rfl), jt 711 rfl rfl, jt 712 rfl rfl, by decide +kernel, rfl⟩
set_option maxRecDepth 100000 in
theorem jcL_145 : jcV RL 145 KX7_guess 7 1 := ⟨Or.inl (jt 1166 rfl rfl), jt 1167 rfl rfl, jt 1168 rfl rfl, by decide +kernel, rfl⟩
set_option maxRecDepth 100000 in
theorem jcL_146 : jcV RL 146 KX6_drift 6 3 := ⟨Or.inl (jt 714 rfl rfl), jt 715 rfl rfl, jt 716 rfl rfl, by decide +kernel, rfl⟩
set_option maxRecDepth 100000 in
theorem jcL_149 : jcV RL 149 KX7_drift 7 3 := ⟨Or.inl (jt 1170 rfl rfl), jt 1171 rfl rfl, jt 1172 rfl rfl, by decide +kernel, rfl⟩
set_option maxRecDepth 100000 in
theorem jcL_150 : jcV RL 150 KX6_keep 6 1 := ⟨Or.inl (jt 720 rfl rfl), jt 721 rfl rfl, jt 722 rfl rfl, by decide +kernel, rfl⟩
set_option maxRecDepth 100000 in
theorem jcL_153 : jcV RL 153 KX7_keep 7 1 := ⟨Or.inl (jt 1176 rfl rfl), jt 1177 rfl rfl, jt 1178 rfl rfl, by decide +kernel, rfl⟩
set_option maxRecDepth 100000 in
theorem jcL_154 : jcV RL 154 KX6_back 6 1 := ⟨Or.inl (jt 724 rfl rfl), jt 725 rfl rfl, jt 726 rfl rfl, by decide +kernel, rfl⟩
set_option maxRecDepth 100000 in
theorem jcL_157 : jcV RL 157 KX7_back 7 1 := ⟨Or.inl (jt 1184 rfl rfl), jt 1185 rfl rfl, jt 1186 rfl rfl, by decide +kernel, rfl⟩
set_option maxRecDepth 100000 in
theorem jcL_158 : jcV RL 158 KX6_sheet 6 3 := ⟨Or.inl (jt 728 rfl rfl), jt 729 rfl rfl, jt 730 rfl rfl, by decide +kernel, rfl⟩
set_option maxRecDepth 100000 in
theorem jcL_161 : jcV RL 161 KX7_sheet 7 3 := ⟨Or.inl (jt 1188 rfl rfl), jt 1189 rfl rfl, jt 1190 rfl rfl, by decide +kernel, rfl⟩
set_option maxRecDepth 100000 in
theorem jcL_162 : jcV RL 162 KX6_lay 6 3 := ⟨Or.inl (jt 737 rfl rfl), jt 738 rfl rfl, jt 739 rfl rfl, by decide +kernel, rfl⟩
set_option maxRecDepth 100000 in
theorem jcL_165 : jcV RL 165 KX7_lay 7 3 := ⟨Or.inl (jt 1192 rfl rfl), jt 1193 rfl rfl, jt 1194 rfl rfl, by decide +kernel, rfl⟩
set_option maxRecDepth 100000 in
theorem jcL_166 : jcV RL 166 KX6_read 6 4 := ⟨Or.inl (jt 750 rfl rfl), jt 751 rfl rfl, jt 752 rfl rfl, by decide +kernel, rfl⟩
set_option maxRecDepth 100000 in
theorem jcL_170 : jcV RL 170 KX7_read 7 4 := ⟨Or.inl (jt 1196 rfl rfl), jt 1197 rfl rfl, jt 1198 rfl rfl, by decide +kernel, rfl⟩
set_option maxRecDepth 100000 in
theorem jcL_171 : jcV RL 171 KX6_torn 6 0 := ⟨Or.inl (jt 759 rfl rfl), jt 760 rfl rfl, jt 761 rfl rfl, by decide +kernel, rfl⟩
set_option maxRecDepth 100000 in
theorem jcL_174 : jcV RL 174 KX7_torn 7 0 := ⟨Or.inl (jt 1201 rfl rfl), jt 1202 rfl rfl, jt 1203 rfl rfl, by decide +kernel, rfl⟩
set_option maxRecDepth 100000 in
theorem jcL_175 : jcV RL 175 KX6_count 6 1 := ⟨Or.inl (jt 763 rfl rfl), jt 764 rfl rfl, jt 765 rfl rfl, by decide +kernel, rfl⟩
set_option maxRecDepth 100000 in
theorem jcL_178 : jcV RL 178 KX7_count 7 1 := ⟨Or.inl (jt 1205 rfl rfl), jt 1206 rfl rfl, jt 1207 rfl rfl, by decide +kernel, rfl⟩
end
section
section JM
variable {K : jM} {n0 : Nat} {Q : Option Value → jW → Prop} {pc : Nat} {L : List (Option Value)} {st : List Value} {A : jW} {cells slots : Nat}
theorem jcatm (ad : Nat → Nat) (st : List Value) : ((st.map (jg ad)).map fun v => v.category).sum = (st.map fun v => v.category).sum := by
  rw [List.map_map]
  have : ((fun v => Value.category v) ∘ jg ad) = fun v => v.category := funext fun v => jg_cat ad v
  rw [this]
def jrm (K : jM) (st : List Value) (cells slots : Nat) : Bool := decide (1 ≤ K.2.2.2.2.2.frames ∧ (st.map fun v => v.category).sum + 15 ≤ K.2.2.2.2.2.locals ∧ cells ≤ K.2.2.2.2.2.cells ∧ slots ≤ K.2.2.2.2.2.slots)
set_option maxRecDepth 100000 in
theorem jmmmax_s : Cond.static Lib.Math.max.name ∈ jTs := jt 477 rfl rfl
set_option maxRecDepth 100000 in
theorem jmmmax_c : Cond.code Lib.Math.max.name Lib.Math.max.code 2 (some .int) ∈ jTs := jt 478 rfl rfl
theorem J.mmax {i : Nat} {x y : Int32} (d : decode K.2.1 pc = .ok (.invokestatic i, 3)) (hl : Cond.methodLink K.1 i Lib.Math.max.name ∈ jTs) (hr : jrm K st cells slots = true)
    (k : J K n0 Q (pc + 3) L (.int (if x < y then y else x) :: st) A cells slots) : J K n0 Q pc L (.int y :: .int x :: st) A cells slots := by
  intro l p e s m args below meth c dC dI cy A0 ad0 ad H locs ls hX
  simp only [jrm, decide_eq_true_eq] at hr
  refine va_mmax hX.1.1 hX.1.2.1 (hX.1.2.2.2.1.trans hX.2.2.2.2.2.2.1.symm) hX.1.2.2.2.2.1 (hX.1.2.2.2.2.2.1 _ hl) (hX.1.2.2.2.2.2.1 _ jmmmax_s) (hX.1.2.2.2.2.2.1 _ (jt 14 rfl rfl)) (hX.1.2.2.2.2.2.1 _ jmmmax_c) hr.1 ?_ hr.2.2.1 hr.2.2.2 d (k l p e s m args below meth c dC dI cy A0 ad0 ad H locs ls hX)
  have := jcatm ad st
  omega
set_option maxRecDepth 100000 in
theorem jmmmin_s : Cond.static Lib.Math.min.name ∈ jTs := jt 474 rfl rfl
set_option maxRecDepth 100000 in
theorem jmmmin_c : Cond.code Lib.Math.min.name Lib.Math.min.code 2 (some .int) ∈ jTs := jt 475 rfl rfl
theorem J.mmin {i : Nat} {x y : Int32} (d : decode K.2.1 pc = .ok (.invokestatic i, 3)) (hl : Cond.methodLink K.1 i Lib.Math.min.name ∈ jTs) (hr : jrm K st cells slots = true)
    (k : J K n0 Q (pc + 3) L (.int (if y < x then y else x) :: st) A cells slots) : J K n0 Q pc L (.int y :: .int x :: st) A cells slots := by
  intro l p e s m args below meth c dC dI cy A0 ad0 ad H locs ls hX
  simp only [jrm, decide_eq_true_eq] at hr
  refine va_mmin hX.1.1 hX.1.2.1 (hX.1.2.2.2.1.trans hX.2.2.2.2.2.2.1.symm) hX.1.2.2.2.2.1 (hX.1.2.2.2.2.2.1 _ hl) (hX.1.2.2.2.2.2.1 _ jmmmin_s) (hX.1.2.2.2.2.2.1 _ (jt 14 rfl rfl)) (hX.1.2.2.2.2.2.1 _ jmmmin_c) hr.1 ?_ hr.2.2.1 hr.2.2.2 d (k l p e s m args below meth c dC dI cy A0 ad0 ad H locs ls hX)
  have := jcatm ad st
  omega
set_option maxRecDepth 100000 in
theorem jmmabsL_s : Cond.static Lib.MathLoose.abs_long.x ∈ jTs := jt 572 rfl rfl
set_option maxRecDepth 100000 in
theorem jmmabsL_c : Cond.code Lib.MathLoose.abs_long.x Lib.MathLoose.abs_long.code 2 (some .long) ∈ jTs := jt 573 rfl rfl
theorem J.mabsL {i : Nat} {x : Int64} (d : decode K.2.1 pc = .ok (.invokestatic i, 3)) (hl : Cond.methodLink K.1 i Lib.MathLoose.abs_long.x ∈ jTs) (hr : jrm K st cells slots = true)
    (k : J K n0 Q (pc + 3) L (.long (if 0 < x then x else -x) :: st) A cells slots) : J K n0 Q pc L (.long x :: st) A cells slots := by
  intro l p e s m args below meth c dC dI cy A0 ad0 ad H locs ls hX
  simp only [jrm, decide_eq_true_eq] at hr
  refine va_mabs_long hX.1.1 hX.1.2.1 (hX.1.2.2.2.1.trans hX.2.2.2.2.2.2.1.symm) hX.1.2.2.2.2.1 (hX.1.2.2.2.2.2.1 _ hl) (hX.1.2.2.2.2.2.1 _ jmmabsL_s) (hX.1.2.2.2.2.2.1 _ (jt 14 rfl rfl)) (hX.1.2.2.2.2.2.1 _ jmmabsL_c) hr.1 ?_ hr.2.2.1 hr.2.2.2 d (k l p e s m args below meth c dC dI cy A0 ad0 ad H locs ls hX)
  have := jcatm ad st
  omega
set_option maxRecDepth 100000 in
theorem jmmmaxL_s : Cond.static Lib.MathLoose.max_long.x ∈ jTs := jt 653 rfl rfl
set_option maxRecDepth 100000 in
theorem jmmmaxL_c : Cond.code Lib.MathLoose.max_long.x Lib.MathLoose.max_long.code 4 (some .long) ∈ jTs := jt 654 rfl rfl
theorem J.mmaxL {i : Nat} {x y : Int64} (d : decode K.2.1 pc = .ok (.invokestatic i, 3)) (hl : Cond.methodLink K.1 i Lib.MathLoose.max_long.x ∈ jTs) (hr : jrm K st cells slots = true)
    (k : J K n0 Q (pc + 3) L (.long (if y < x then x else y) :: st) A cells slots) : J K n0 Q pc L (.long y :: .long x :: st) A cells slots := by
  intro l p e s m args below meth c dC dI cy A0 ad0 ad H locs ls hX
  simp only [jrm, decide_eq_true_eq] at hr
  refine va_mmax_long hX.1.1 hX.1.2.1 (hX.1.2.2.2.1.trans hX.2.2.2.2.2.2.1.symm) hX.1.2.2.2.2.1 (hX.1.2.2.2.2.2.1 _ hl) (hX.1.2.2.2.2.2.1 _ jmmmaxL_s) (hX.1.2.2.2.2.2.1 _ (jt 14 rfl rfl)) (hX.1.2.2.2.2.2.1 _ jmmmaxL_c) hr.1 ?_ hr.2.2.1 hr.2.2.2 d (k l p e s m args below meth c dC dI cy A0 ad0 ad H locs ls hX)
  have := jcatm ad st
  omega
/-! ===== Strings: constant j is cell 1000 + j, its bytes 2000 + j ===== -/
theorem J.ldcS {i j : Nat} (d : decode K.2.1 pc = .ok (.ldc i, 2)) (ho : K.1 = RX1) (hj : j < 11) (hi : jidx.getD j 0 = i)
    (k : J K n0 Q (pc + 2) L (.ref (1000 + j) :: st) A cells slots) : J K n0 Q pc L st A cells slots := by
  intro l p e s m args below meth c dC dI cy A0 ad0 ad H locs ls hX
  subst hi
  exact va_ldcS hX.1.1 hX.1.2.1 (own := RX1) (by rw [← ho]; exact hX.1.2.2.2.2.1) (hX.1.2.2.2.2.2.2.2.2.2.2.1 j hj) d (k l p e s m args below meth c dC dI cy A0 ad0 ad H locs ls hX)
theorem J.getfS {i j : Nat} (d : decode K.2.1 pc = .ok (.getfield i, 3)) (hj : j < 11) (hl : Cond.fieldLink K.1 i "java/lang/String" "value" "[B" ∈ jTs)
    (k : J K n0 Q (pc + 3) L (.ref (2000 + j) :: st) A cells slots) : J K n0 Q pc L (.ref (1000 + j) :: st) A cells slots := by
  intro l p e s m args below meth c dC dI cy A0 ad0 ad H locs ls hX
  exact vk_getf hX.1.1 hX.1.2.1 (hX.1.2.2.2.2.2.2.2.2.2.1.1 j hj).2.2.1 hX.2.2.2.2.2.1 hX.1.2.2.2.2.1 (hX.1.2.2.2.2.2.1 _ hl) (fun _ h => h) d (k l p e s m args below meth c dC dI cy A0 ad0 ad H locs ls hX)
theorem J.getfC {i j : Nat} (d : decode K.2.1 pc = .ok (.getfield i, 3)) (hj : j < 11) (hl : Cond.fieldLink K.1 i "java/lang/String" "coder" "B" ∈ jTs)
    (k : J K n0 Q (pc + 3) L (.int 0 :: st) A cells slots) : J K n0 Q pc L (.ref (1000 + j) :: st) A cells slots := by
  intro l p e s m args below meth c dC dI cy A0 ad0 ad H locs ls hX
  exact vk_getf hX.1.1 hX.1.2.1 (hX.1.2.2.2.2.2.2.2.2.2.1.1 j hj).2.1 hX.2.2.2.2.2.1 hX.1.2.2.2.2.1 (hX.1.2.2.2.2.2.1 _ hl) (fun _ h => h) d (k l p e s m args below meth c dC dI cy A0 ad0 ad H locs ls hX)
theorem J.alenS {j : Nat} (d : decode K.2.1 pc = .ok (.arraylength, 1)) (hj : j < 11)
    (k : J K n0 Q (pc + 1) L (.int (Int32.ofNat (jlen.getD j 0)) :: st) A cells slots) : J K n0 Q pc L (.ref (2000 + j) :: st) A cells slots := by
  intro l p e s m args below meth c dC dI cy A0 ad0 ad H locs ls hX
  exact va_tlen hX.1.1 hX.1.2.1 (hX.1.2.2.2.2.2.2.2.2.2.1.1 j hj).2.2.2 hX.2.2.2.2.2.1 rfl d (k l p e s m args below meth c dC dI cy A0 ad0 ad H locs ls hX)
theorem J.baldS {j : Nat} {i : Int32} (d : decode K.2.1 pc = .ok (.baload, 1)) (hj : j < 11) (hin : vp_in i (jlen.getD j 0))
    (k : J K n0 Q (pc + 1) L (.int ((jbyt.getD j []).getD i.toNatClampNeg 0) :: st) A cells slots) : J K n0 Q pc L (.int i :: .ref (2000 + j) :: st) A cells slots := by
  intro l p e s m args below meth c dC dI cy A0 ad0 ad H locs ls hX
  exact va_tb hX.1.1 hX.1.2.1 (hX.1.2.2.2.2.2.2.2.2.2.1.1 j hj).2.2.2 hX.2.2.2.2.2.1 hin rfl d (k l p e s m args below meth c dC dI cy A0 ad0 ad H locs ls hX)
theorem J.getsC {i : Nat} (d : decode K.2.1 pc = .ok (.getstatic i, 3)) (hl : Cond.fieldLink K.1 i "java/lang/String" "COMPACT_STRINGS" "Z" ∈ jTs)
    (k : J K n0 Q (pc + 3) L (.int 1 :: st) A cells slots) : J K n0 Q pc L st A cells slots := by
  intro l p e s m args below meth c dC dI cy A0 ad0 ad H locs ls hX
  exact va_gets hX.1.1 hX.1.2.1 hX.1.2.2.2.2.2.2.2.2.2.2.2.1 hX.2.2.2.2.2.1 hX.1.2.2.2.2.1 (hX.1.2.2.2.2.2.1 _ hl) (fun _ h => h) d (k l p e s m args below meth c dC dI cy A0 ad0 ad H locs ls hX)
theorem J.getsF {i : Nat} (d : decode K.2.1 pc = .ok (.getstatic i, 3)) (hl : Cond.fieldLink K.1 i "jdk/internal/util/Preconditions" "SIOOBE_FORMATTER" "Ljava/util/function/BiFunction;" ∈ jTs)
    (k1 : J K n0 Q (pc + 3) L (.null :: st) A cells slots) (k2 : J K n0 Q (pc + 3) L (.ref 3000 :: st) A cells slots) : J K n0 Q pc L st A cells slots := by
  intro l p e s m args below meth c dC dI cy A0 ad0 ad H locs ls hX
  rcases hX.1.2.2.2.2.2.2.2.2.2.2.2.2 with h | h
  · exact va_gets hX.1.1 hX.1.2.1 h hX.2.2.2.2.2.1 hX.1.2.2.2.2.1 (hX.1.2.2.2.2.2.1 _ hl) (fun _ h => h) d (k1 l p e s m args below meth c dC dI cy A0 ad0 ad H locs ls hX)
  · exact va_gets hX.1.1 hX.1.2.1 h hX.2.2.2.2.2.1 hX.1.2.2.2.2.1 (hX.1.2.2.2.2.2.1 _ hl) (fun _ h => h) d (k2 l p e s m args below meth c dC dI cy A0 ad0 ad H locs ls hX)
end JM
def jcVS (own : String) (idx : Nat) (K' : jM) (n : Nat) : Prop := Cond.methodLink own idx K'.2.2.2.1 ∈ jTs ∧ Cond.instanceMethod K'.2.2.2.1 ∈ jTs ∧ Cond.selects K'.2.2.2.1.cls K'.2.2.2.1 K'.2.2.2.1 ∈ jTs ∧ (parseMethodDescriptor K'.2.2.2.1.desc).map (fun d => d.parameters.length) = some n ∧ K'.2.2.2.1.cls = "java/lang/String"
section JCS
variable {K K' : jM} {n0 : Nat} {Q Q' : Option Value → jW → Prop} {pc : Nat} {L : List (Option Value)} {st rest as : List Value} {A : jW} {cells slots : Nat}
/-- a method of a String constant is called -/
theorem J.cvS {i j : Nat} {L0 : List (Option Value)} (hm : jmOK K') (hc : jcVS K.1 i K' as.length) (hJ : J K' 0 Q' 0 L0 [] [] 0 0) (d : decode K.2.1 pc = .ok (.invokevirtual i, 3)) (hj : j < 11)
    (hst : st = (as.map (jg (jr []))).reverse ++ .ref (1000 + j) :: rest) (hL : jent K'.2.2.1 (.ref (1000 + j) :: as) = L0) (hl0 : L0.length = K'.2.2.1)
    (hnum : (decide ((rest.map fun v => v.category).sum ≤ 8) && jroom K K' && decide (cells ≤ K.2.2.2.2.2.cells) && decide (slots ≤ K.2.2.2.2.2.slots)) = true)
    (kk : ∀ r B', Q' r B' → B' = [] ∧ J K n0 Q (pc + 3) L ((r.map (jg (jr []))).toList ++ rest) A cells slots) : J K n0 Q pc L st A cells slots := by
  intro l p e s m args below meth c dC dI cy A0 ad0 ad H locs ls hX
  simp only [jroom, Bool.and_eq_true, decide_eq_true_eq] at hnum
  obtain ⟨⟨⟨hcat, hrc, hrs, hrf, hrl⟩, hce⟩, hsl⟩ := hnum
  obtain ⟨hlk, hinst, hsel, hpar, hcls⟩ := hc
  have hts := hX.1.2.2.2.2.2.1
  have hB : ([] : List Nat).map (fun i => A[i]?) = ([] : jW).map (fun b => some (jrE (jr []) b)) := rfl
  have hl : ([] : jW).length < 1000 := by decide
  have hpre := jpre (as := .ref (1000 + j) :: as) hX hB hl rfl
  have hM := J.met (B := []) hm hJ hL hl0 l dC dI cy (fun k => ad (jr [] k)) H.size
  rw [hrc, hrs] at hM
  have hjr : jr [] (1000 + j) = 1000 + j := by simp [jr]
  have hstk : (F0 m pc ls (st.map (jg ad))).stack = (as.map (jg (fun k => ad (jr [] k)))).reverse ++ .ref (ad (jr [] (1000 + j))) :: rest.map (jg ad) := by
    show st.map (jg ad) = _
    rw [hst, List.map_append, List.map_reverse, List.map_map, List.map_cons, hjr]
    congr 2
    apply List.map_congr_left
    intro v _
    exact (jg_comp ad (jr []) v).symm
  have hcat2 : ((rest.map (jg ad)).map fun v => v.category).sum ≤ 8 := by rw [jcatm]; exact hcat
  have hrec := vk_recv hX.1.2.2.2.2.2.2.2.2.2.1 hj hX.2.2.2.2.2.1
  rw [← hcls] at hrec
  refine jback (Q' := Q') (rest := rest) (a := (.ref (ad (jr [] (1000 + j))) :: as.map (jg (fun k => ad (jr [] k)))).toArray) (B := []) hX hB hl rfl ?_ (fun r B' hq => ?_)
  · exact va_runV (own := K.1) (C := K'.2.2.2.1.cls) (bytes := K'.2.1) (maxL := K'.2.2.1) (ret := K'.2.2.2.2.1) (n := as.length) ⟨hX.1.1, hX.1.2.1, hX.1.2.2.2.1, hX.1.2.2.2.2.1, hts⟩ hM ⟨callB_of as.length hts (jgood hm) rfl hrc hrs (hts _ hm.2.2.2.1) (hts _ hlk) ⟨hm.2.2.2.2.1, hm.2.2.2.2.2, hpar⟩ ⟨hrf, hrl⟩, hts _ hinst, hts _ hsel⟩ ⟨hpre.1, by rw [hjr]; exact hrec, hpre.2⟩ rfl (by simp) hX.2.2.2.2.2.2.1 hstk (lv_room hcat2) d ⟨hce, hsl⟩
  · obtain ⟨rfl, h⟩ := kk r B' hq
    exact ⟨rfl, h⟩
end JCS
end
section
/-! ===== new cells ===== -/
/-- no reference to number n stands in the cell -/
def jfrE (n : Nat) (x : jE) : Prop := match x with
  | .inl (_, _, .inr (.inr (.inr (.inr f)))) => ∀ j, f j ≠ some n
  | .inl _ => True
  | .inr (_, fs) => Value.ref n ∉ fs
def jFr (n : Nat) (A : jW) : Prop := ∀ x ∈ A, jfrE n x
def jup (ad : Nat → Nat) (n q : Nat) : Nat → Nat := fun k => if k = n then q else ad k
theorem jup_ne {ad : Nat → Nat} {n q k : Nat} (h : k ≠ n) : jup ad n q k = ad k := if_neg h
theorem jup_at {ad : Nat → Nat} {n q : Nat} : jup ad n q n = q := if_pos rfl
theorem jg_up {ad : Nat → Nat} {n q : Nat} {v : Value} (h : v ≠ .ref n) : jg (jup ad n q) v = jg ad v := by
  cases v <;> first | rfl | skip
  next k => exact congrArg Value.ref (jup_ne (fun e => h (by rw [e])))
theorem jgE_up {cy : Nat → ClassId} {ad : Nat → Nat} {n q : Nat} {x : jE} (h : jfrE n x) : jgE cy (jup ad n q) x = jgE cy ad x := by
  obtain ⟨t, k, f | f | f | f | f⟩ | ⟨c, fs⟩ := x
  · rfl
  · rfl
  · rfl
  · rfl
  · simp only [jgE, jgA]
    congr 6
    refine congrArg Sum.inr (funext fun j => ?_)
    have hj : f j ≠ some n := h j
    cases hf : f j with
    | none => rfl
    | some i =>
      simp only [Option.map_some]
      rw [jup_ne]
      intro e
      rw [hf, e] at hj
      exact hj rfl
  · simp only [jgE]
    congr 2
    apply List.map_congr_left
    intro v hv
    exact jg_up (fun e => h (by rw [← e]; exact hv))
theorem jgW_up {cy : Nat → ClassId} {ad : Nat → Nat} {q : Nat} {A : jW} {x : jE} (hA : jFr A.length A) (hx : jfrE A.length x) : jgW cy (jup ad A.length q) (A ++ [x]) = jgW cy ad A ++ [(q, jgE cy ad x)] := by
  apply List.ext_getElem?
  intro i
  by_cases hi : i < A.length
  · rw [List.getElem?_append_left (by rw [jgW_len]; exact hi), jgW_get (x := A[i]) (by rw [List.getElem?_append_left hi, List.getElem?_eq_getElem hi]), jgW_get (List.getElem?_eq_getElem hi), jup_ne (by omega), jgE_up (hA _ (List.getElem_mem hi))]
  · by_cases he : i = A.length
    · subst he
      rw [jgW_get (x := x) (by simp), List.getElem?_append_right (by rw [jgW_len]; omega), jgW_len, Nat.sub_self, jup_at, jgE_up hx]
      rfl
    · rw [List.getElem?_eq_none (by rw [jgW_len]; simp; omega), List.getElem?_eq_none (by rw [List.length_append, jgW_len]; simp; omega)]
section JN
variable {K : jM} {n0 : Nat} {Q : Option Value → jW → Prop} {pc : Nat} {L : List (Option Value)} {st : List Value} {A : jW} {cells slots : Nat}
theorem jX.new {p : Program} {s : State} {m : MethodId} {args : Array Value} {meth : Method} {c : Code} {dC : Nat → ClassId} {dI : Nat → Nat → Nat} {cy : Nat → ClassId} {A0 : Nat → Prop} {ad0 ad : Nat → Nat} {H H1 : Heap} {locs : List Loc} {ls : Array Slot} {x : jE} {q : Nat} (hX : jX K n0 p s m args meth c dC dI cy A0 ad0 ad H locs ls L A) (hn0 : n0 ≤ A.length) (hlt : A.length < 1000) (hA : jFr A.length A) (hx : jfrE A.length x) (hL : some (Value.ref A.length) ∉ L)
    (hP : va_P (dC, dI) jCl (jgW cy ad A ++ [(q, jgE cy ad x)]) H1) (hD : va_D A0 (jgW cy ad A ++ [(q, jgE cy ad x)])) (hS : va_S A0 s.heap H1 locs) : jX K n0 p s m args meth c dC dI cy A0 ad0 (jup ad A.length q) H1 locs ls L (A ++ [x]) := by
  obtain ⟨⟨h1, h2, h3, h4, h5, h6, h7, h8, h9, h10⟩, g1, g2, g3, g4, g5, g6⟩ := hX
  refine ⟨⟨h1, h2, h3, h4, h5, h6, h7, h8, h9, h10.ad (fun k hk => jup_ne (by omega))⟩, fun k hk => ?_, g2, by rw [jgW_up hA hx]; exact hP, by rw [jgW_up hA hx]; exact hD, hS, g6.1, g6.2.1, fun i v hv => ?_⟩
  · rw [List.length_append] at hk
    simp only [List.length_singleton] at hk
    rw [jup_ne (by omega)]
    exact g1 k (by omega)
  · rw [jg_up (fun e => hL (by rw [← e]; exact List.mem_of_getElem? hv))]
    exact g6.2.2 i v hv
theorem jst_up {ad : Nat → Nat} {n q : Nat} {st : List Value} (h : Value.ref n ∉ st) : st.map (jg (jup ad n q)) = st.map (jg ad) := List.map_congr_left (fun v hv => jg_up (fun e => h (by rw [← e]; exact hv)))
/-- a class whose objects are made -/
def jNw (own : String) (idx ci : Nat) (fs : List Value) : Prop := ∃ (C : String) (T : u_T) (N : Nat) (ty : Nat → FieldType), jCl[ci]? = some (C, T, N) ∧ (∀ k, k < N → parseFieldDescriptor (T k).2.2.1 = some (ty k)) ∧ (∀ w ∈ u_ws C T N, w ∈ jTs) ∧ Cond.classLink own idx C ∈ jTs ∧ Cond.instantiable C N ∈ jTs ∧ Cond.initialized C ∈ jTs ∧ (∀ j, j < N → defaultValue (ty j) = vp_V fs j) ∧ fs.length = N ∧ ∀ k, Value.ref k ∉ fs
/-- a fresh world may take one cell more -/
def jOK (n0 : Nat) (A : jW) (L : List (Option Value)) (st : List Value) : Prop := n0 ≤ A.length ∧ A.length < 1000 ∧ jFr A.length A ∧ some (Value.ref A.length) ∉ L ∧ Value.ref A.length ∉ st
theorem J.new {i ci : Nat} {fs : List Value} (d : decode K.2.1 pc = .ok (.new i, 3)) (hF : jNw K.1 i ci fs) (hO : jOK n0 A L st) (hc : cells + 1 ≤ K.2.2.2.2.2.cells) (hs : slots + fs.length ≤ K.2.2.2.2.2.slots)
    (k : J K n0 Q (pc + 3) L (.ref A.length :: st) (A ++ [.inr (ci, fs)]) (cells + 1) (slots + fs.length)) : J K n0 Q pc L st A cells slots := by
  intro l p e s m args below meth c dC dI cy A0 ad0 ad H locs ls hX
  obtain ⟨C, T, N, ty, h1, h2, h3, h4, h5, h6, h7, h8, h9⟩ := hF
  obtain ⟨o1, o2, o3, o4, o5⟩ := hO
  rw [h8] at k hs
  have hfs : fs.map (jg ad) = fs := by
    have := List.map_congr_left (f := jg ad) (g := id) (l := fs) (fun v hv => by
      cases v <;> first | rfl | skip
      next a => exact absurd hv (h9 a))
    rw [this, List.map_id]
  refine va_new hX.1.1 hX.1.2.1 hX.1.2.2.2.2.2.1 h3 ty h2 hX.1.2.2.2.2.1 (hX.1.2.2.2.2.2.1 _ h4) (hX.1.2.2.2.2.2.1 _ h5) (hX.1.2.2.2.2.2.1 _ h6) hX.1.2.2.2.2.2.2.2.2.1.2.1 hX.2.2.2.1 hX.2.2.2.2.1 hX.2.2.2.2.2.1 hX.2.2.1 h1 h7 hc hs d (fun q H1 a1 a2 a3 => ?_)
  have e9 : (Sum.inr (ci, fs) : va_E) = jgE cy ad (.inr (ci, fs)) := by simp only [jgE, hfs]
  rw [e9] at a1 a2
  have hX' := hX.new (q := q) (x := .inr (ci, fs)) o1 o2 o3 (h9 _) o4 a1 a2 a3
  have := k l p e s m args below meth c dC dI cy A0 ad0 (jup ad A.length q) H1 locs ls hX'
  simp only [List.map_cons, jg, jup_at, jst_up o5] at this
  exact this
theorem J.newI {a : ArrayType} {n : Int32} (d : decode K.2.1 pc = .ok (.newarray a, 2)) (ha : newarray.typeOf a = .int) (N : Nat) (hn : ¬ n < 0) (hN : n.toNatClampNeg = N) (hb : N * componentBytes .int ≤ 536870912) (hO : jOK n0 A L st) (hc : cells + 1 ≤ K.2.2.2.2.2.cells) (hs : slots + N ≤ K.2.2.2.2.2.slots)
    (hw : Cond.arrayClass .int ∈ jTs) (k : J K n0 Q (pc + 2) L (.ref A.length :: st) (A ++ [.inl (0, N, .inl (fun _ => 0))]) (cells + 1) (slots + N)) : J K n0 Q pc L (.int n :: st) A cells slots := by
  intro l p e s m args below meth c dC dI cy A0 ad0 ad H locs ls hX
  obtain ⟨o1, o2, o3, o4, o5⟩ := hO
  refine va_newa (a0 := (N, .inl (fun _ => 0))) hX.1.1 hX.1.2.1 (by rw [ha]; exact hX.1.2.2.2.2.2.1 _ hw) ha hX.1.2.2.2.2.2.2.2.2.1.2.1 hX.2.2.2.1 hX.2.2.2.2.1 hX.2.2.2.2.2.1 hX.2.2.1 (fun cA => rfl) hn hN hb hc hs d (fun q cA H1 a0 a1 a2 a3 => ?_)
  have e1 : cA = cy 0 := by
    have g1 := (a0.2 6 (cA, .int) rfl).2
    have g2 := ((hX.1.2.2.2.2.2.2.2.2.1.2.1).2 0 (cy 0, .int) rfl).2
    exact Option.some.inj (g1.symm.trans g2)
  subst e1
  have hX' := hX.new (q := q) (x := .inl (0, N, .inl (fun _ => 0))) o1 o2 o3 trivial o4 a1 a2 a3
  have := k l p e s m args below meth c dC dI cy A0 ad0 (jup ad A.length q) H1 locs ls hX'
  simp only [List.map_cons, jg, jup_at, jst_up o5] at this
  exact this
theorem J.newL {a : ArrayType} {n : Int32} (d : decode K.2.1 pc = .ok (.newarray a, 2)) (ha : newarray.typeOf a = .long) (N : Nat) (hn : ¬ n < 0) (hN : n.toNatClampNeg = N) (hb : N * componentBytes .long ≤ 536870912) (hO : jOK n0 A L st) (hc : cells + 1 ≤ K.2.2.2.2.2.cells) (hs : slots + N ≤ K.2.2.2.2.2.slots)
    (hw : Cond.arrayClass .long ∈ jTs) (k : J K n0 Q (pc + 2) L (.ref A.length :: st) (A ++ [.inl (1, N, .inr (.inl (fun _ => 0)))]) (cells + 1) (slots + N)) : J K n0 Q pc L (.int n :: st) A cells slots := by
  intro l p e s m args below meth c dC dI cy A0 ad0 ad H locs ls hX
  obtain ⟨o1, o2, o3, o4, o5⟩ := hO
  refine va_newa (a0 := (N, .inr (.inl (fun _ => 0)))) hX.1.1 hX.1.2.1 (by rw [ha]; exact hX.1.2.2.2.2.2.1 _ hw) ha hX.1.2.2.2.2.2.2.2.2.1.2.1 hX.2.2.2.1 hX.2.2.2.2.1 hX.2.2.2.2.2.1 hX.2.2.1 (fun cA => rfl) hn hN hb hc hs d (fun q cA H1 a0 a1 a2 a3 => ?_)
  have e1 : cA = cy 1 := by
    have g1 := (a0.2 6 (cA, .long) rfl).2
    have g2 := ((hX.1.2.2.2.2.2.2.2.2.1.2.1).2 1 (cy 1, .long) rfl).2
    exact Option.some.inj (g1.symm.trans g2)
  subst e1
  have hX' := hX.new (q := q) (x := .inl (1, N, .inr (.inl (fun _ => 0)))) o1 o2 o3 trivial o4 a1 a2 a3
  have := k l p e s m args below meth c dC dI cy A0 ad0 (jup ad A.length q) H1 locs ls hX'
  simp only [List.map_cons, jg, jup_at, jst_up o5] at this
  exact this
theorem J.newB {a : ArrayType} {n : Int32} (d : decode K.2.1 pc = .ok (.newarray a, 2)) (ha : newarray.typeOf a = .byte) (N : Nat) (hn : ¬ n < 0) (hN : n.toNatClampNeg = N) (hb : N * componentBytes .byte ≤ 536870912) (hO : jOK n0 A L st) (hc : cells + 1 ≤ K.2.2.2.2.2.cells) (hs : slots + N ≤ K.2.2.2.2.2.slots)
    (hw : Cond.arrayClass .byte ∈ jTs) (k : J K n0 Q (pc + 2) L (.ref A.length :: st) (A ++ [.inl (2, N, .inl (fun _ => 0))]) (cells + 1) (slots + N)) : J K n0 Q pc L (.int n :: st) A cells slots := by
  intro l p e s m args below meth c dC dI cy A0 ad0 ad H locs ls hX
  obtain ⟨o1, o2, o3, o4, o5⟩ := hO
  refine va_newa (a0 := (N, .inl (fun _ => 0))) hX.1.1 hX.1.2.1 (by rw [ha]; exact hX.1.2.2.2.2.2.1 _ hw) ha hX.1.2.2.2.2.2.2.2.2.1.2.1 hX.2.2.2.1 hX.2.2.2.2.1 hX.2.2.2.2.2.1 hX.2.2.1 (fun cA => rfl) hn hN hb hc hs d (fun q cA H1 a0 a1 a2 a3 => ?_)
  have e1 : cA = cy 2 := by
    have g1 := (a0.2 6 (cA, .byte) rfl).2
    have g2 := ((hX.1.2.2.2.2.2.2.2.2.1.2.1).2 2 (cy 2, .byte) rfl).2
    exact Option.some.inj (g1.symm.trans g2)
  subst e1
  have hX' := hX.new (q := q) (x := .inl (2, N, .inl (fun _ => 0))) o1 o2 o3 trivial o4 a1 a2 a3
  have := k l p e s m args below meth c dC dI cy A0 ad0 (jup ad A.length q) H1 locs ls hX'
  simp only [List.map_cons, jg, jup_at, jst_up o5] at this
  exact this
theorem J.newZ {a : ArrayType} {n : Int32} (d : decode K.2.1 pc = .ok (.newarray a, 2)) (ha : newarray.typeOf a = .boolean) (N : Nat) (hn : ¬ n < 0) (hN : n.toNatClampNeg = N) (hb : N * componentBytes .boolean ≤ 536870912) (hO : jOK n0 A L st) (hc : cells + 1 ≤ K.2.2.2.2.2.cells) (hs : slots + N ≤ K.2.2.2.2.2.slots)
    (hw : Cond.arrayClass .boolean ∈ jTs) (k : J K n0 Q (pc + 2) L (.ref A.length :: st) (A ++ [.inl (3, N, .inl (fun _ => 0))]) (cells + 1) (slots + N)) : J K n0 Q pc L (.int n :: st) A cells slots := by
  intro l p e s m args below meth c dC dI cy A0 ad0 ad H locs ls hX
  obtain ⟨o1, o2, o3, o4, o5⟩ := hO
  refine va_newa (a0 := (N, .inl (fun _ => 0))) hX.1.1 hX.1.2.1 (by rw [ha]; exact hX.1.2.2.2.2.2.1 _ hw) ha hX.1.2.2.2.2.2.2.2.2.1.2.1 hX.2.2.2.1 hX.2.2.2.2.1 hX.2.2.2.2.2.1 hX.2.2.1 (fun cA => rfl) hn hN hb hc hs d (fun q cA H1 a0 a1 a2 a3 => ?_)
  have e1 : cA = cy 3 := by
    have g1 := (a0.2 6 (cA, .boolean) rfl).2
    have g2 := ((hX.1.2.2.2.2.2.2.2.2.1.2.1).2 3 (cy 3, .boolean) rfl).2
    exact Option.some.inj (g1.symm.trans g2)
  subst e1
  have hX' := hX.new (q := q) (x := .inl (3, N, .inl (fun _ => 0))) o1 o2 o3 trivial o4 a1 a2 a3
  have := k l p e s m args below meth c dC dI cy A0 ad0 (jup ad A.length q) H1 locs ls hX'
  simp only [List.map_cons, jg, jup_at, jst_up o5] at this
  exact this
theorem J.newR {i : Nat} {n : Int32} (d : decode K.2.1 pc = .ok (.anewarray i, 3)) (N : Nat) (hn : ¬ n < 0) (hN : n.toNatClampNeg = N) (hb : N * 4 ≤ 536870912) (hO : jOK n0 A L st) (hc : cells + 1 ≤ K.2.2.2.2.2.cells) (hs : slots + N ≤ K.2.2.2.2.2.slots)
    (hw : Cond.classLink K.1 i RX2 ∈ jTs) (k : J K n0 Q (pc + 3) L (.ref A.length :: st) (A ++ [.inl (4, N, .inr (.inr (.inr (.inr (fun _ => none)))))]) (cells + 1) (slots + N)) : J K n0 Q pc L (.int n :: st) A cells slots := by
  intro l p e s m args below meth c dC dI cy A0 ad0 ad H locs ls hX
  obtain ⟨o1, o2, o3, o4, o5⟩ := hO
  refine va_newq hX.1.1 hX.1.2.1 hX.1.2.2.2.2.1 (hX.1.2.2.2.2.2.1 _ hw) hX.1.2.2.2.2.2.2.2.2.1.2.2.1 hX.1.2.2.2.2.2.2.2.2.1.2.1 hX.2.2.2.1 hX.2.2.2.2.1 hX.2.2.2.2.2.1 hX.2.2.1 hn hN hb hc hs d (fun q cA H1 a0 a1 a2 a3 => ?_)
  have e1 : cA = cy 4 := by
    obtain ⟨_, _, -, -, -, g1⟩ := (a0.2 6 (cA, .object RX2) rfl).2
    obtain ⟨_, _, -, -, -, g2⟩ := ((hX.1.2.2.2.2.2.2.2.2.1.2.1).2 4 (cy 4, .object RX2) rfl).2
    exact Option.some.inj (g1.symm.trans g2)
  subst e1
  have hX' := hX.new (q := q) (x := .inl (4, N, .inr (.inr (.inr (.inr (fun _ => none)))))) o1 o2 o3 (fun j h => by cases h) o4 a1 a2 a3
  have := k l p e s m args below meth c dC dI cy A0 ad0 (jup ad A.length q) H1 locs ls hX'
  simp only [List.map_cons, jg, jup_at, jst_up o5] at this
  exact this
theorem J.aastore4 {r n q : Nat} {ci : Nat} {fs : List Value} {f : Nat → Option Nat} {i : Int32} (d : decode K.2.1 pc = .ok (.aastore, 1)) (hA : A[r]? = some (.inl (4, n, .inr (.inr (.inr (.inr f)))))) (hq : A[q]? = some (.inr (ci, fs))) (hci : (jCl[ci]?).map (fun x => x.1) = some RX2) (hin : vp_in i n)
    (k9 : J K n0 Q (pc + 1) L st (A.set r (.inl (4, n, .inr (.inr (.inr (.inr (va_up f i.toNatClampNeg (some q)))))))) cells slots) : J K n0 Q pc L (.ref q :: .int i :: .ref r :: st) A cells slots := by
  intro l p e s m args below meth c dC dI cy A0 ad0 ad H locs ls hX
  obtain ⟨x, hx1, hx2⟩ : ∃ x, jCl[ci]? = some x ∧ x.1 = RX2 := by simpa [Option.map_eq_some_iff] using hci
  have hz : (A.set r (Sum.inl (4, n, .inr (.inr (.inr (.inr (va_up f i.toNatClampNeg (some q)))))) : jE)).length = A.length := by simp
  refine va_astq (r := x) hX.1.1 hX.1.2.1 hX.1.2.2.2.2.2.2.2.2.1.2.1 hX.2.2.2.1 hX.2.2.2.2.1 hX.2.2.2.2.2.1 r 4 q ci (jgW_get hA) (by rw [hx2]; rfl) (jgW_get hq) hx1 hin d (fun H1 locs1 a1 a2 a3 => ?_)
  have e9 : (jgW cy ad A).set r (ad r, .inl (cy 4, n, .inr (.inr (.inr (.inr (va_up (fun j => (f j).map ad) i.toNatClampNeg (some (ad q)))))))) = jgW cy ad (A.set r (.inl (4, n, .inr (.inr (.inr (.inr (va_up f i.toNatClampNeg (some q)))))))) := by
    rw [← jgW_set]
    simp only [jgE, jgA]
    congr 8
    refine congrArg Sum.inr (funext fun j => ?_)
    simp only [va_up]
    split <;> rfl
  rw [e9] at a1 a2
  exact k9 l p e s m args below meth c dC dI cy A0 ad0 ad H1 locs1 ls (hX.wor hz a1 a2 a3)
theorem J.newS {i : Nat} {n : Int32} (d : decode K.2.1 pc = .ok (.anewarray i, 3)) (N : Nat) (hn : ¬ n < 0) (hN : n.toNatClampNeg = N) (hb : N * 4 ≤ 536870912) (hO : jOK n0 A L st) (hc : cells + 1 ≤ K.2.2.2.2.2.cells) (hs : slots + N ≤ K.2.2.2.2.2.slots)
    (hw : Cond.classLink K.1 i RX4 ∈ jTs) (k : J K n0 Q (pc + 3) L (.ref A.length :: st) (A ++ [.inl (5, N, .inr (.inr (.inr (.inr (fun _ => none)))))]) (cells + 1) (slots + N)) : J K n0 Q pc L (.int n :: st) A cells slots := by
  intro l p e s m args below meth c dC dI cy A0 ad0 ad H locs ls hX
  obtain ⟨o1, o2, o3, o4, o5⟩ := hO
  refine va_newq hX.1.1 hX.1.2.1 hX.1.2.2.2.2.1 (hX.1.2.2.2.2.2.1 _ hw) hX.1.2.2.2.2.2.2.2.2.1.2.2.2 hX.1.2.2.2.2.2.2.2.2.1.2.1 hX.2.2.2.1 hX.2.2.2.2.1 hX.2.2.2.2.2.1 hX.2.2.1 hn hN hb hc hs d (fun q cA H1 a0 a1 a2 a3 => ?_)
  have e1 : cA = cy 5 := by
    obtain ⟨_, _, -, -, -, g1⟩ := (a0.2 6 (cA, .object RX4) rfl).2
    obtain ⟨_, _, -, -, -, g2⟩ := ((hX.1.2.2.2.2.2.2.2.2.1.2.1).2 5 (cy 5, .object RX4) rfl).2
    exact Option.some.inj (g1.symm.trans g2)
  subst e1
  have hX' := hX.new (q := q) (x := .inl (5, N, .inr (.inr (.inr (.inr (fun _ => none)))))) o1 o2 o3 (fun j h => by cases h) o4 a1 a2 a3
  have := k l p e s m args below meth c dC dI cy A0 ad0 (jup ad A.length q) H1 locs ls hX'
  simp only [List.map_cons, jg, jup_at, jst_up o5] at this
  exact this
theorem J.aastore5 {r n q : Nat} {ci : Nat} {fs : List Value} {f : Nat → Option Nat} {i : Int32} (d : decode K.2.1 pc = .ok (.aastore, 1)) (hA : A[r]? = some (.inl (5, n, .inr (.inr (.inr (.inr f)))))) (hq : A[q]? = some (.inr (ci, fs))) (hci : (jCl[ci]?).map (fun x => x.1) = some RX4) (hin : vp_in i n)
    (k9 : J K n0 Q (pc + 1) L st (A.set r (.inl (5, n, .inr (.inr (.inr (.inr (va_up f i.toNatClampNeg (some q)))))))) cells slots) : J K n0 Q pc L (.ref q :: .int i :: .ref r :: st) A cells slots := by
  intro l p e s m args below meth c dC dI cy A0 ad0 ad H locs ls hX
  obtain ⟨x, hx1, hx2⟩ : ∃ x, jCl[ci]? = some x ∧ x.1 = RX4 := by simpa [Option.map_eq_some_iff] using hci
  have hz : (A.set r (Sum.inl (5, n, .inr (.inr (.inr (.inr (va_up f i.toNatClampNeg (some q)))))) : jE)).length = A.length := by simp
  refine va_astq (r := x) hX.1.1 hX.1.2.1 hX.1.2.2.2.2.2.2.2.2.1.2.1 hX.2.2.2.1 hX.2.2.2.2.1 hX.2.2.2.2.2.1 r 5 q ci (jgW_get hA) (by rw [hx2]; rfl) (jgW_get hq) hx1 hin d (fun H1 locs1 a1 a2 a3 => ?_)
  have e9 : (jgW cy ad A).set r (ad r, .inl (cy 5, n, .inr (.inr (.inr (.inr (va_up (fun j => (f j).map ad) i.toNatClampNeg (some (ad q)))))))) = jgW cy ad (A.set r (.inl (5, n, .inr (.inr (.inr (.inr (va_up f i.toNatClampNeg (some q)))))))) := by
    rw [← jgW_set]
    simp only [jgE, jgA]
    congr 8
    refine congrArg Sum.inr (funext fun j => ?_)
    simp only [va_up]
    split <;> rfl
  rw [e9] at a1 a2
  exact k9 l p e s m args below meth c dC dI cy A0 ad0 ad H1 locs1 ls (hX.wor hz a1 a2 a3)
/-- Object's constructor -/
theorem J.objInit {i r : Nat} (d : decode K.2.1 pc = .ok (.invokespecial i, 3)) (hl : Cond.methodLink K.1 i objectInit ∈ jTs) (hi : Cond.instanceMethod objectInit ∈ jTs) (hc : Cond.code objectInit ⟨#[0xb1]⟩ 1 none ∈ jTs) (hr : jrm K st cells slots = true)
    (k : J K n0 Q (pc + 3) L st A cells slots) : J K n0 Q pc L (.ref r :: st) A cells slots := by
  intro l p e s m args below meth c dC dI cy A0 ad0 ad H locs ls hX
  simp only [jrm, decide_eq_true_eq] at hr
  refine W.objInit hX.1.1 hX.1.2.1 hX.1.2.2.2.2.1 (hX.1.2.2.2.2.2.1 _ hl) (hX.1.2.2.2.2.2.1 _ hi) (hX.1.2.2.2.2.2.1 _ hc) rfl (by rw [hX.1.2.2.2.1]; exact hX.2.2.2.2.2.2.1) rfl d hr.1 ?_ (k l p e s m args below meth c dC dI cy A0 ad0 ad H locs ls hX)
  show 2 * 0 + _ + 12 ≤ _
  have := jcatm ad st
  omega
end JN
end
section
/-! ===== a call that makes cells ===== -/
/-- all references in the cell are to cells below n, or to constants -/
def jclE (n : Nat) (x : jE) : Prop := match x with
  | .inl (_, _, .inr (.inr (.inr (.inr f)))) => ∀ j k, f j = some k → k < n ∨ 1000 ≤ k
  | .inl _ => True
  | .inr (_, fs) => ∀ k, Value.ref k ∈ fs → k < n ∨ 1000 ≤ k
def jclW (n : Nat) (A : jW) : Prop := ∀ x ∈ A, jclE n x
def jclV (n : Nat) (vs : List Value) : Prop := ∀ k, Value.ref k ∈ vs → k < n ∨ 1000 ≤ k
def jclL (n : Nat) (L : List (Option Value)) : Prop := ∀ k, some (Value.ref k) ∈ L → k < n ∨ 1000 ≤ k
theorem jg_same {ad ad' : Nat → Nat} {n : Nat} (h : ∀ k, k < n ∨ 1000 ≤ k → ad' k = ad k) {v : Value} (hv : ∀ k, v = .ref k → k < n ∨ 1000 ≤ k) : jg ad' v = jg ad v := by
  cases v <;> first | rfl | skip
  next k => exact congrArg Value.ref (h k (hv k rfl))
theorem jgE_same {cy : Nat → ClassId} {ad ad' : Nat → Nat} {n : Nat} (h : ∀ k, k < n ∨ 1000 ≤ k → ad' k = ad k) {x : jE} (hx : jclE n x) : jgE cy ad' x = jgE cy ad x := by
  obtain ⟨t, k, f | f | f | f | f⟩ | ⟨c, fs⟩ := x
  · rfl
  · rfl
  · rfl
  · rfl
  · simp only [jgE, jgA]
    congr 6
    refine congrArg Sum.inr (funext fun j => ?_)
    have hj := hx j
    cases hf : f j with
    | none => rfl
    | some i =>
      simp only [Option.map_some]
      rw [h i (hj i hf)]
  · simp only [jgE]
    congr 2
    apply List.map_congr_left
    intro v hv
    exact jg_same h (fun k e => hx k (by rw [← e]; exact hv))
theorem jgVs_same {ad ad' : Nat → Nat} {n : Nat} (h : ∀ k, k < n ∨ 1000 ≤ k → ad' k = ad k) {vs : List Value} (hx : jclV n vs) : vs.map (jg ad') = vs.map (jg ad) :=
  List.map_congr_left (fun v hv => jg_same h (fun k e => hx k (by rw [← e]; exact hv)))
/-- the callee's numbers in the caller's: old ones at their places, new ones behind -/
def jr2 (is : List Nat) (n k : Nat) : Nat := if 1000 ≤ k then k else if k < is.length then is.getD k 0 else n + (k - is.length)
def jnew (A : jW) (is : List Nat) (B' : jW) : jW := jput A is ((B'.take is.length).map (jrE (jr2 is A.length))) ++ (B'.drop is.length).map (jrE (jr2 is A.length))
section JCN
variable {p : Program} {l : Launch} {e : Env} {s : State} {m : MethodId} {args : Array Value} {below : List Frame} {meth : Method} {c : Code} {dC : Nat → ClassId} {dI : Nat → Nat → Nat} {cy : Nat → ClassId} {A0 : Nat → Prop} {ad0 ad : Nat → Nat} {H : Heap} {locs : List Loc} {ls : Array Slot}
variable {K K' : jM} {n0 : Nat} {Q Q' : Option Value → jW → Prop} {pc : Nat} {L : List (Option Value)} {st rest as : List Value} {A B : jW} {cells slots : Nat} {is : List Nat}
theorem jbackN (hX : jX K n0 p s m args meth c dC dI cy A0 ad0 ad H locs ls L A) (hB : is.map (fun i => A[i]?) = B.map (fun b => some (jrE (jr is) b))) (hl : B.length < 1000) (hnd : va_nd is = true) (hn0 : n0 ≤ A.length) (hcA : jclW A.length A) (hcL : jclL A.length L) (hcr : jclV A.length rest) {a : Array Value} {st0 : List Value} {mc ms : Nat}
    (hr : va_Run p l e K.2.2.2.2.2 s m args below meth c H locs cells slots mc ms (F0 m pc ls st0) (rest.map (jg ad)) (jQ Q' dC dI cy (va_A (jgW cy (fun k => ad (jr is k)) B) H.size) B.length (fun k => ad (jr is k)) a) (va_A (jgW cy (fun k => ad (jr is k)) B) H.size))
    (kk : ∀ r B', Q' r B' → B.length ≤ B'.length ∧ A.length + B'.length < 1000 ∧ jclW B'.length B' ∧ r = none ∧ J K n0 Q (pc + 3) L rest (jnew A is B') (cells + mc) (slots + ms)) :
    W p l e K.2.2.2.2.2 s m args below meth c H locs cells slots (MQ below (jQ Q dC dI cy A0 n0 ad0) args s K.2.2.2.2.2.cells K.2.2.2.2.2.slots A0) (F0 m pc ls st0) := by
  intro T hT X
  obtain ⟨v, st₀, t, T', L', h0, X', hL, e1, e2, ⟨⟨r, B', ad1, hv, hq, hag, hP1, hD1⟩, hz, hk⟩, st9⟩ := hr T hT X
  cases hv
  obtain ⟨hlB, hlt9, hcB, hrn, kJ⟩ := kk r B' hq
  subst hrn
  have hA1 := jfree hX hB hl
  rw [h0] at hz hk
  have hP := hX.2.2.2.1
  have hD := hX.2.2.2.2.1
  have hS := hX.2.2.2.2.2.1
  have hlen : is.length = B.length := by have := congrArg List.length hB; simpa using this
  have hlt : ∀ (j i : Nat), is[j]? = some i → i < A.length ∧ jr is j = i := by
    intro j i hj
    have hj2 : j < B.length := by have := (List.getElem?_eq_some_iff.mp hj).1; omega
    obtain ⟨i', a1, a2, a3⟩ := jcells hB hl (List.getElem?_eq_getElem hj2)
    rw [hj] at a1
    cases a1
    exact ⟨(List.getElem?_eq_some_iff.mp a3).1, a2⟩
  -- the new addresses
  obtain ⟨ad2, had2⟩ : ∃ ad2 : Nat → Nat, ad2 = fun k => if A.length ≤ k ∧ k < A.length + (B'.length - B.length) then ad1 (k - A.length + B.length) else ad k := ⟨_, rfl⟩
  have hold : ∀ k, k < A.length ∨ 1000 ≤ k → ad2 k = ad k := by
    intro k hk
    rw [had2]
    exact if_neg (by omega)
  have hout : ∀ k, A.length + (B'.length - B.length) ≤ k → ad2 k = ad k := by
    intro k hk
    rw [had2]
    exact if_neg (by omega)
  have hnew : ∀ j, B.length ≤ j → j < B'.length → ad2 (A.length + (j - B.length)) = ad1 j := by
    intro j h1 h2
    rw [had2]
    simp only
    rw [if_pos (by omega)]
    congr 1
    omega
  have hcall : ∀ k, k < B'.length ∨ 1000 ≤ k → ad2 (jr2 is A.length k) = ad1 k := by
    intro k hk
    by_cases h1 : 1000 ≤ k
    · simp only [jr2]
      rw [if_pos h1, hold k (Or.inr h1), hag k (Or.inr (by omega))]
      simp only [jr]
      rw [if_pos h1]
    · by_cases h2 : k < is.length
      · have h3 : is[k]? = some is[k] := List.getElem?_eq_getElem h2
        obtain ⟨h4, h5⟩ := hlt k _ h3
        have h6 : jr2 is A.length k = is[k] := by
          simp only [jr2]
          rw [if_neg h1, if_pos h2, List.getD_eq_getElem?_getD, h3]
          rfl
        rw [h6, hold _ (Or.inl h4), hag k (Or.inl (by omega))]
        exact congrArg ad h5.symm
      · simp only [jr2]
        rw [if_neg h1, if_neg h2, hlen]
        exact hnew k (by omega) (by omega)
  have hcell : ∀ x ∈ B', jgE cy ad1 x = jgE cy ad2 (jrE (jr2 is A.length) x) := by
    intro x hx
    rw [← jgE_comp]
    exact (jgE_same (n := B'.length) (ad := fun k => ad1 k) (ad' := fun k => ad2 (jr2 is A.length k)) hcall (hcB x hx)).symm
  have hlz : (jnew A is B').length = A.length + (B'.length - B.length) := by
    simp only [jnew, List.length_append, jput_len, List.length_map, List.length_drop]
    omega
  have hlow : ∀ (j i : Nat), is[j]? = some i → (jnew A is B')[i]? = (B'[j]?).map (jrE (jr2 is A.length)) := by
    intro j i hj
    have hj1 : j < is.length := (List.getElem?_eq_some_iff.mp hj).1
    obtain ⟨h4, -⟩ := hlt j i hj
    simp only [jnew]
    rw [List.getElem?_append_left (by rw [jput_len]; exact h4), jput_at is A _ j i hnd hj h4 (by simp; omega), List.getElem?_map, List.getElem?_take_of_lt hj1]
  have hmid : ∀ k, k < A.length → k ∉ is → (jnew A is B')[k]? = A[k]? := by
    intro k h1 h2
    simp only [jnew]
    rw [List.getElem?_append_left (by rw [jput_len]; exact h1), jput_ne is A _ k h2]
  have hhigh : ∀ k, A.length ≤ k → (jnew A is B')[k]? = (B'[B.length + (k - A.length)]?).map (jrE (jr2 is A.length)) := by
    intro k h1
    simp only [jnew]
    rw [List.getElem?_append_right (by rw [jput_len]; exact h1), jput_len, List.getElem?_map, List.getElem?_drop, hlen]
  -- where each cell of the new world comes from
  have hsrc : ∀ (k : Nat) (q : Nat × va_E), (jgW cy ad2 (jnew A is B'))[k]? = some q → (∃ j, (jgW cy ad1 B')[j]? = some q ∧ ((is[j]? = some k) ∨ (B.length ≤ j ∧ k = A.length + (j - B.length)))) ∨ (k < A.length ∧ k ∉ is ∧ (jgW cy ad A)[k]? = some q) := by
    intro k q hq9
    obtain ⟨x, hx, rfl⟩ := jgW_of hq9
    by_cases h1 : k < A.length
    · by_cases h2 : k ∈ is
      · obtain ⟨j, hj, rfl⟩ := List.getElem_of_mem h2
        have hj2 : is[j]? = some is[j] := List.getElem?_eq_getElem hj
        rw [hlow j _ hj2] at hx
        have hjB : j < B'.length := by omega
        rw [List.getElem?_eq_getElem hjB] at hx
        simp only [Option.map_some, Option.some.injEq] at hx
        refine Or.inl ⟨j, ?_, Or.inl hj2⟩
        rw [jgW_get (List.getElem?_eq_getElem hjB), hcell _ (List.getElem_mem hjB), hx]
        have h6 := hcall j (Or.inl hjB)
        have h7 : jr2 is A.length j = is[j] := by
          simp only [jr2]
          rw [if_neg (by omega), if_pos hj, List.getD_eq_getElem?_getD, hj2]
          rfl
        rw [h7] at h6
        rw [h6]
      · rw [hmid k h1 h2] at hx
        refine Or.inr ⟨h1, h2, ?_⟩
        rw [jgW_get hx, hold k (Or.inl h1), jgE_same hold (hcA x (List.mem_of_getElem? hx))]
    · rw [hhigh k (by omega)] at hx
      obtain ⟨b, hb, rfl⟩ := Option.map_eq_some_iff.mp hx
      refine Or.inl ⟨B.length + (k - A.length), ?_, Or.inr ⟨by omega, by omega⟩⟩
      have hjB := (List.getElem?_eq_some_iff.mp hb).1
      rw [jgW_get hb, hcell b (List.mem_of_getElem? hb), ← hnew _ (by omega) hjB]
      congr 2
      congr 1
      omega
  have hapart : ∀ (k : Nat) (q : Nat × va_E), k ∉ is → (jgW cy ad A)[k]? = some q → q.1 < H.size ∧ ¬ va_A (jgW cy (fun k => ad (jr is k)) B) H.size q.1 := by
    intro k q hki hq9
    have h3 := hP k q hq9
    refine ⟨h3.lt, fun h => ?_⟩
    obtain ⟨x, hx, rfl⟩ := jgW_of hq9
    rcases h with ⟨j, e9, h⟩ | h
    · obtain ⟨b, hb, hb2⟩ := jgW_of h
      obtain ⟨i', a1, a2, a3⟩ := jcells hB hl hb
      have h4 : ad k = ad i' := by
        have := congrArg Prod.fst hb2
        simp only at this
        rw [← a2]
        exact this
      have h5 := hD.1 k i' _ _ (jgW_get hx) (jgW_get a3) h4
      exact hki (by rw [h5]; exact List.mem_of_getElem? a1)
    · have := h3.lt
      simp only at this h
      omega
  have hPn : va_P (dC, dI) jCl (jgW cy ad2 (jnew A is B')) t.heap := by
    intro k q hq9
    rcases hsrc k q hq9 with ⟨j, h1, -⟩ | ⟨h1, h2, h3⟩
    · exact hP1 j q h1
    · obtain ⟨g1, g2⟩ := hapart k q h2 h3
      exact (hP k q h3).kept (hk _ g1 g2)
  have hDn : va_D A0 (jgW cy ad2 (jnew A is B')) := by
    refine ⟨fun i j x y hi hj hxy => ?_, fun k q hk9 => ?_⟩
    · rcases hsrc i x hi with ⟨i', a1, a2⟩ | ⟨a1, a2, a3⟩ <;> rcases hsrc j y hj with ⟨j', b1, b2⟩ | ⟨b1, b2, b3⟩
      · have hij := hD1.1 i' j' x y a1 b1 hxy
        subst hij
        rcases a2 with a2 | a2 <;> rcases b2 with b2 | b2
        · rw [a2] at b2
          exact Option.some.inj b2
        · have := (List.getElem?_eq_some_iff.mp a2).1
          omega
        · have := (List.getElem?_eq_some_iff.mp b2).1
          omega
        · omega
      · exact absurd (hD1.2 i' x a1) (by rw [hxy]; exact (hapart j y b2 b3).2)
      · exact absurd (hD1.2 j' y b1) (by rw [← hxy]; exact (hapart i x a2 a3).2)
      · exact hD.1 i j x y a3 b3 hxy
    · rcases hsrc k q hk9 with ⟨j, h1, -⟩ | ⟨h1, h2, h3⟩
      · exact hA1 _ (hD1.2 j q h1)
      · exact hD.2 k q h3
  have hSn : va_S A0 s.heap T'.heap (locs ++ L') := ⟨Nat.le_trans hS.1 (by rw [e1]; exact hz), fun q h1 h2 => by rw [e1, hk q (Nat.lt_of_lt_of_le h1 hS.1) (fun z => h2 (hA1 q z))]; exact hS.2.1 q h1 h2, fun q hq => by
      rcases List.mem_append.mp hq with h | h
      · exact hS.2.2 q h
      · exact hA1 _ (hL q h)⟩
  rw [← e1] at hPn
  obtain ⟨⟨h1, h2, h3, h4, h5, h6, h7, h8, h9, h10⟩, g1, g2, g3, g4, g5, g6⟩ := hX
  have hX' : jX K n0 p s m args meth c dC dI cy A0 ad0 ad2 T'.heap (locs ++ L') ls L (jnew A is B') := by
    refine ⟨⟨h1, h2, h3, h4, h5, h6, h7, h8, h9, h10.ad (fun k hk => hold k (Or.inr hk))⟩, fun k hk9 => ?_, g2, hPn, hDn, hSn, g6.1, g6.2.1, fun i v hv => ?_⟩
    · rw [hlz] at hk9
      rcases hk9 with hk9 | hk9
      · rw [hold k (Or.inl (by omega))]
        exact g1 k (Or.inl hk9)
      · rw [hout k hk9]
        exact g1 k (Or.inr (by omega))
    · rw [jg_same hold (fun k e9 => hcL k (by rw [← e9]; exact List.mem_of_getElem? hv))]
      exact g6.2.2 i v hv
  obtain ⟨t2, a1, b1⟩ := kJ l p e s m args below meth c dC dI cy A0 ad0 ad2 T'.heap (locs ++ L') ls hX' T' rfl X'
  refine ⟨t2, st9 t2 ?_, b1⟩
  rw [jgVs_same hold hcr] at a1
  exact a1
def jcI (own : String) (idx : Nat) (K' : jM) (n : Nat) : Prop := jLk own idx K'.2.2.2.1 ∧ Cond.instanceMethod K'.2.2.2.1 ∈ jTs ∧ K'.2.2.2.1.name = "<init>" ∧ K'.2.2.2.2.1 = none ∧ (parseMethodDescriptor K'.2.2.2.1.desc).map (fun d => d.parameters.length) = some n
/-- a constructor is called, on cell number o of the callee's world -/
theorem J.ci {i o n1 : Nat} {L0 : List (Option Value)} (hm : jmOK K') (hc : jcI K.1 i K' as.length) (hJ : J K' n1 Q' 0 L0 [] B 0 0) (d : decode K.2.1 pc = .ok (.invokespecial i, 3)) (hn1 : B.length = n1)
    (hst : st = (as.map (jg (jr is))).reverse ++ .ref (jr is o) :: rest) (hB : is.map (fun i => A[i]?) = B.map (fun b => some (jrE (jr is) b))) (hL : jent K'.2.2.1 (.ref o :: as) = L0) (hl0 : L0.length = K'.2.2.1)
    (hnum : (decide (B.length < 1000) && va_nd is && decide ((rest.map fun v => v.category).sum ≤ 8) && decide (K'.2.2.2.2.2.frames + 1 ≤ K.2.2.2.2.2.frames ∧ 8 + (K'.2.2.1 + 11) + K'.2.2.2.2.2.locals ≤ K.2.2.2.2.2.locals) && decide (cells + K'.2.2.2.2.2.cells ≤ K.2.2.2.2.2.cells) && decide (slots + K'.2.2.2.2.2.slots ≤ K.2.2.2.2.2.slots)) = true)
    (hn0 : n0 ≤ A.length) (hcA : jclW A.length A) (hcL : jclL A.length L) (hcr : jclV A.length rest)
    (kk : ∀ r B', Q' r B' → B.length ≤ B'.length ∧ A.length + B'.length < 1000 ∧ jclW B'.length B' ∧ r = none ∧ J K n0 Q (pc + 3) L rest (jnew A is B') (cells + K'.2.2.2.2.2.cells) (slots + K'.2.2.2.2.2.slots)) : J K n0 Q pc L st A cells slots := by
  subst hn1
  intro l p e s m args below meth c dC dI cy A0 ad0 ad H locs ls hX
  simp only [Bool.and_eq_true, decide_eq_true_eq] at hnum
  obtain ⟨⟨⟨⟨⟨hl, hnd⟩, hcat⟩, hrf, hrl⟩, hce⟩, hsl⟩ := hnum
  obtain ⟨hlk, hinst, hname, hret, hpar⟩ := hc
  have hts := hX.1.2.2.2.2.2.1
  have hpre := jpre (as := .ref o :: as) hX hB hl hnd
  have hM := J.met hm hJ hL hl0 l dC dI cy (fun k => ad (jr is k)) H.size
  have hstk : (F0 m pc ls (st.map (jg ad))).stack = (as.map (jg (fun k => ad (jr is k)))).reverse ++ .ref (ad (jr is o)) :: rest.map (jg ad) := by
    show st.map (jg ad) = _
    rw [hst, List.map_append, List.map_reverse, List.map_map, List.map_cons]
    congr 2
    apply List.map_congr_left
    intro v _
    exact (jg_comp ad (jr is) v).symm
  have hcat2 : ((rest.map (jg ad)).map fun v => v.category).sum ≤ 8 := by rw [jcatm]; exact hcat
  have hw9 : (Cond.code K'.2.2.2.1 K'.2.1 K'.2.2.1 K'.2.2.2.2.1 :: jTs) = Cond.code K'.2.2.2.1 K'.2.1 K'.2.2.1 none :: jTs := by rw [hret]
  have hg := jgood hm
  rw [hw9] at hM hg
  refine jbackN (a := (.ref (ad (jr is o)) :: as.map (jg (fun k => ad (jr is k)))).toArray) hX hB hl hnd hn0 hcA hcL hcr ?_ kk
  rcases hlk with hlk | ⟨host, hlk⟩
  · exact va_runI (own := K.1) (bytes := K'.2.1) (maxL := K'.2.2.1) (n := as.length) ⟨hX.1.1, hX.1.2.1, hX.1.2.2.2.1, hX.1.2.2.2.2.1, hts⟩ hM (cwI as.length hts hg rfl rfl rfl (hts _ hm.2.2.2.1) (hts _ hlk) (hts _ hinst) hname ⟨hm.2.2.2.2.1, hm.2.2.2.2.2, hpar⟩ ⟨hrf, hrl⟩) hpre rfl (by simp) hX.2.2.2.2.2.2.1 hstk (lv_room hcat2) d ⟨hce, hsl⟩
  · exact va_runIN (own := K.1) (bytes := K'.2.1) (maxL := K'.2.2.1) (n := as.length) ⟨hX.1.1, hX.1.2.1, hX.1.2.2.2.1, hX.1.2.2.2.2.1, hts⟩ hM ⟨va_cnB as.length hts hg rfl rfl rfl (hX.1.2.2.2.2.2.2.2.2.1.1 _ hlk) (hts _ hm.2.2.2.1) ⟨hm.2.2.2.2.1, hm.2.2.2.2.2, hpar⟩ ⟨hrf, hrl⟩, hname, hts _ hinst⟩ hpre rfl (by simp) hX.2.2.2.2.2.2.1 hstk (lv_room hcat2) d ⟨hce, hsl⟩
end JCN
end
section
section JL
variable {K : jM} {n0 : Nat} {Q : Option Value → jW → Prop} {pc : Nat} {L : List (Option Value)} {st : List Value} {A : jW} {cells slots : Nat}
theorem J.ialoadN {r n i : Nat} {f : Nat → Int32} (d : decode K.2.1 pc = .ok (.iaload, 1)) (hA : A[r]? = some (.inl (0, n, .inl f))) (hi : i < n) (k9 : J K n0 Q (pc + 1) L (.int (f i) :: st) A cells slots) (hn : n < 2147483648 := by decide) : J K n0 Q pc L (.int (nI i) :: .ref r :: st) A cells slots := by
  refine J.iaload d hA (vp_in_nI hi hn) ?_
  rw [nI_clamp (Nat.lt_trans hi hn)]
  exact k9
theorem J.baloadN {r n i : Nat} {f : Nat → Int32} (d : decode K.2.1 pc = .ok (.baload, 1)) (hA : A[r]? = some (.inl (2, n, .inl f))) (hi : i < n) (k9 : J K n0 Q (pc + 1) L (.int (f i) :: st) A cells slots) (hn : n < 2147483648 := by decide) : J K n0 Q pc L (.int (nI i) :: .ref r :: st) A cells slots := by
  refine J.baload d hA (vp_in_nI hi hn) ?_
  rw [nI_clamp (Nat.lt_trans hi hn)]
  exact k9
theorem J.zaloadN {r n i : Nat} {f : Nat → Int32} (d : decode K.2.1 pc = .ok (.baload, 1)) (hA : A[r]? = some (.inl (3, n, .inl f))) (hi : i < n) (k9 : J K n0 Q (pc + 1) L (.int (f i) :: st) A cells slots) (hn : n < 2147483648 := by decide) : J K n0 Q pc L (.int (nI i) :: .ref r :: st) A cells slots := by
  refine J.zaload d hA (vp_in_nI hi hn) ?_
  rw [nI_clamp (Nat.lt_trans hi hn)]
  exact k9
theorem J.laloadN {r n i : Nat} {f : Nat → Int64} (d : decode K.2.1 pc = .ok (.laload, 1)) (hA : A[r]? = some (.inl (1, n, .inr (.inl f)))) (hi : i < n) (k9 : J K n0 Q (pc + 1) L (.long (f i) :: st) A cells slots) (hn : n < 2147483648 := by decide) : J K n0 Q pc L (.int (nI i) :: .ref r :: st) A cells slots := by
  refine J.laload d hA (vp_in_nI hi hn) ?_
  rw [nI_clamp (Nat.lt_trans hi hn)]
  exact k9
theorem J.iastoreN {r n i : Nat} {f : Nat → Int32} {x : Int32} (d : decode K.2.1 pc = .ok (.iastore, 1)) (hA : A[r]? = some (.inl (0, n, .inl f))) (hi : i < n) (k9 : J K n0 Q (pc + 1) L st (A.set r (.inl (0, n, .inl (upd f i x)))) cells slots) (hn : n < 2147483648 := by decide) : J K n0 Q pc L (.int x :: .int (nI i) :: .ref r :: st) A cells slots := by
  refine J.iastore d hA (vp_in_nI hi hn) ?_
  rw [nI_clamp (Nat.lt_trans hi hn)]
  exact k9
theorem J.bastoreN {r n i : Nat} {f : Nat → Int32} {x : Int32} (d : decode K.2.1 pc = .ok (.bastore, 1)) (hA : A[r]? = some (.inl (2, n, .inl f))) (hi : i < n) (k9 : J K n0 Q (pc + 1) L st (A.set r (.inl (2, n, .inl (upd f i (vp_nar .byte x))))) cells slots) (hn : n < 2147483648 := by decide) : J K n0 Q pc L (.int x :: .int (nI i) :: .ref r :: st) A cells slots := by
  refine J.bastore d hA (vp_in_nI hi hn) ?_
  rw [nI_clamp (Nat.lt_trans hi hn)]
  exact k9
theorem J.zastoreN {r n i : Nat} {f : Nat → Int32} {x : Int32} (d : decode K.2.1 pc = .ok (.bastore, 1)) (hA : A[r]? = some (.inl (3, n, .inl f))) (hi : i < n) (k9 : J K n0 Q (pc + 1) L st (A.set r (.inl (3, n, .inl (upd f i (vp_nar .boolean x))))) cells slots) (hn : n < 2147483648 := by decide) : J K n0 Q pc L (.int x :: .int (nI i) :: .ref r :: st) A cells slots := by
  refine J.zastore d hA (vp_in_nI hi hn) ?_
  rw [nI_clamp (Nat.lt_trans hi hn)]
  exact k9
theorem J.lastoreN {r n i : Nat} {f : Nat → Int64} {x : Int64} (d : decode K.2.1 pc = .ok (.lastore, 1)) (hA : A[r]? = some (.inl (1, n, .inr (.inl f)))) (hi : i < n) (k9 : J K n0 Q (pc + 1) L st (A.set r (.inl (1, n, .inr (.inl (vp_updL f i x))))) cells slots) (hn : n < 2147483648 := by decide) : J K n0 Q pc L (.long x :: .int (nI i) :: .ref r :: st) A cells slots := by
  refine J.lastore d hA (vp_in_nI hi hn) ?_
  rw [nI_clamp (Nat.lt_trans hi hn)]
  exact k9
theorem jcellI {cA : ClassId} {n : Nat} {f g : Nat → Int32} (h : ∀ j, j < n → f j = g j) : vp_cell cA (n, .inl f) = vp_cell cA (n, .inl g) := by
  show arrV cA n (fun j => .int (f j)) = arrV cA n (fun j => .int (g j))
  simp only [arrV]
  congr 1
  apply congrArg
  funext j
  rw [h j.val j.isLt]
theorem jcellL {cA : ClassId} {n : Nat} {f g : Nat → Int64} (h : ∀ j, j < n → f j = g j) : vp_cell cA (n, .inr (.inl f)) = vp_cell cA (n, .inr (.inl g)) := by
  show arrV cA n (fun j => .long (f j)) = arrV cA n (fun j => .long (g j))
  simp only [arrV]
  congr 1
  apply congrArg
  funext j
  rw [h j.val j.isLt]
theorem J.setcell {k : Nat} {x x' : jE} (hA : A[k]? = some x) (hx : ∀ cy ad q H dC dI, va_at (dC, dI) jCl (q, jgE cy ad x) H → va_at (dC, dI) jCl (q, jgE cy ad x') H) (h : J K n0 Q pc L st (A.set k x') cells slots) : J K n0 Q pc L st A cells slots := by
  refine h.world (fun cy ad H dC dI hP j q hq => ?_) (by simp)
  obtain ⟨y, hy, rfl⟩ := jgW_of hq
  have hk : k < A.length := (List.getElem?_eq_some_iff.mp hA).1
  by_cases e : k = j
  · subst e
    rw [List.getElem?_set_self hk] at hy
    cases hy
    exact hx cy ad _ H dC dI (hP k _ (jgW_get hA))
  · rw [List.getElem?_set_ne e] at hy
    exact hP j _ (jgW_get hy)
/-- an array by another word for what it holds -/
theorem J.arrI (k t : Nat) {n : Nat} {f : Nat → Int32} (g : Nat → Int32) (hA : A[k]? = some (.inl (t, n, .inl f))) (hf : ∀ j, j < n → f j = g j) (h : J K n0 Q pc L st (A.set k (.inl (t, n, .inl g))) cells slots) : J K n0 Q pc L st A cells slots :=
  J.setcell hA (fun cy ad q H dC dI h => by
    have e : vp_cell (cy t) (n, .inl f) = vp_cell (cy t) (n, .inl g) := jcellI hf
    have h' : H[q]? = some (vp_cell (cy t) (n, .inl f)) := h
    show H[q]? = some (vp_cell (cy t) (n, .inl g))
    rw [← e]
    exact h') h
theorem J.arrL (k t : Nat) {n : Nat} {f : Nat → Int64} (g : Nat → Int64) (hA : A[k]? = some (.inl (t, n, .inr (.inl f)))) (hf : ∀ j, j < n → f j = g j) (h : J K n0 Q pc L st (A.set k (.inl (t, n, .inr (.inl g)))) cells slots) : J K n0 Q pc L st A cells slots :=
  J.setcell hA (fun cy ad q H dC dI h => by
    have e : vp_cell (cy t) (n, .inr (.inl f)) = vp_cell (cy t) (n, .inr (.inl g)) := jcellL hf
    have h' : H[q]? = some (vp_cell (cy t) (n, .inr (.inl f))) := h
    show H[q]? = some (vp_cell (cy t) (n, .inr (.inl g)))
    rw [← e]
    exact h') h
end JL
theorem upd_nI (g : Nat → Nat) (i v : Nat) : upd (fun j => nI (g j)) i (nI v) = fun j => nI (if j = i then v else g j) := by
  funext j
  simp only [upd]
  split <;> rfl
theorem updL_lN (g : Nat → Nat) (i v : Nat) : vp_updL (fun j => lN (g j)) i (lN v) = fun j => lN (if j = i then v else g j) := by
  funext j
  simp only [vp_updL]
  split <;> rfl
theorem jlt_s {α : Type} (a b : Nat → α) (i : Nat) : (fun j => if j = i then a i else if j < i then a j else b j) = fun j => if j < i + 1 then a j else b j := by
  funext j
  by_cases h1 : j = i
  · subst h1; simp
  · by_cases h2 : j < i
    · rw [if_neg h1, if_pos h2, if_pos (by omega)]
    · rw [if_neg h1, if_neg h2, if_neg (by omega)]
theorem jlt_e {α : Type} (a b : Nat → α) (i j : Nat) : (if j < i + 1 then a j else b j) = if j = i then a i else if j < i then a j else b j := (congrFun (jlt_s a b i) j).symm
theorem jlt_0 {α : Type} (a b : Nat → α) : (fun j => if j < 0 then a j else b j) = b := by
  funext j
  simp
theorem nI_lti {a b : Nat} (ha : a < 2147483648) (hb : b < 2147483648) : nI a < nI b ↔ a < b := nI_ltI ha hb
theorem nI_lei {a b : Nat} (ha : a < 2147483648) (hb : b < 2147483648) : nI a ≤ nI b ↔ a ≤ b := nI_leI ha hb
theorem nI_eqi {a b : Nat} (ha : a < 2147483648) (hb : b < 2147483648) : nI a = nI b ↔ a = b := nI_eq ha hb
theorem nI_min {a b : Nat} (ha : a < 2147483648) (hb : b < 2147483648) : (if nI b < nI a then nI b else nI a) = nI (min a b) := by
  by_cases h : b < a
  · rw [if_pos ((nI_lti hb ha).mpr h), Nat.min_eq_right (by omega)]
  · rw [if_neg (fun q => h ((nI_lti hb ha).mp q)), Nat.min_eq_left (by omega)]
theorem nI_max {a b : Nat} (ha : a < 2147483648) (hb : b < 2147483648) : (if nI a < nI b then nI b else nI a) = nI (max a b) := by
  by_cases h : a < b
  · rw [if_pos ((nI_lti ha hb).mpr h), Nat.max_eq_right (by omega)]
  · rw [if_neg (fun q => h ((nI_lti ha hb).mp q)), Nat.max_eq_left (by omega)]
/-- an int within bounds is a number -/
theorem jin_of {x : Int32} {n : Nat} (hn : n < 2147483648) (h1 : 0 ≤ x) (h2 : x ≤ nI n) : ∃ j, j ≤ n ∧ x = nI j := by
  obtain ⟨j, hj, rfl⟩ := nI_of (Int32.not_lt.mpr h1)
  exact ⟨j, (nI_lei hj hn).mp h2, rfl⟩
theorem jin_lt {x : Int32} {n : Nat} (hn : n < 2147483648) (h1 : 0 ≤ x) (h2 : x ≤ nI n - 1) : ∃ j, j < n ∧ x = nI j := by
  cases n with
  | zero =>
    exfalso
    have h3 : x ≤ -1 := h2
    have := Int32.le_trans h1 h3
    exact absurd this (by decide)
  | succ n =>
    rw [nI_pred] at h2
    obtain ⟨j, hj, rfl⟩ := jin_of (by omega) h1 h2
    exact ⟨j, by omega, rfl⟩
theorem jin_ge {j n : Nat} (hn : n < 2147483648) (hj : j < n) : 0 ≤ nI j ∧ nI j ≤ nI n - 1 := by
  cases n with
  | zero => omega
  | succ n =>
    rw [nI_pred]
    exact ⟨nI_pos' (show j < 2 ^ 31 by omega), (nI_lei (by omega) (by omega)).mpr (by omega)⟩
/-! ===== a realm: rows 0 to 5 are kind, age, worth, life, lawHours, lawWorth; row 6 hairs, kings, laws, whole, load, prize, hour ===== -/
abbrev rT : Type := Nat → Nat → Nat
def rset (r : rT) (a i v : Nat) : rT := fun x => if x = a then (fun j => if j = i then v else r a j) else r x
def wR (r : rT) : jW := [.inr (2, [.ref 1, .ref 2, .ref 3, .ref 4, .ref 5, .ref 6, .int (nI (r 6 0)), .int (nI (r 6 1)), .int (nI (r 6 2)), .int (nI (r 6 3)), .int (nI (r 6 4)), .int (nI (r 6 5)), .int (nI (r 6 6))]),
  .inl (0, 3, .inl (fun j => nI (r 0 j))), .inl (0, 3, .inl (fun j => nI (r 1 j))), .inl (0, 4, .inl (fun j => nI (r 2 j))), .inl (0, 4, .inl (fun j => nI (r 3 j))), .inl (0, 3, .inl (fun j => nI (r 4 j))), .inl (0, 3, .inl (fun j => nI (r 5 j)))]
/-- what a realm always keeps to -/
def rOK (r : rT) : Prop := r 6 0 ≤ 3 ∧ r 6 1 ≤ 4 ∧ r 6 2 ≤ 3 ∧ r 6 3 < 2 ^ r 6 0 ∧ 1 ≤ r 6 4 ∧ r 6 4 ≤ 9 ∧ r 6 5 ≤ 99 ∧ r 6 6 ≤ 99 ∧ (∀ i, r 0 i ≤ 4) ∧ (∀ i, r 1 i ≤ 9) ∧ (∀ i, r 2 i ≤ 9) ∧ (∀ i, r 3 i ≤ 99) ∧ (∀ i, r 4 i ≤ 5) ∧ ∀ i, r 5 i ≤ 9
theorem rOK.w {r : rT} (h : rOK r) : r 6 3 < 8 := Nat.lt_of_lt_of_le h.2.2.2.1 (Nat.pow_le_pow_right (by decide) h.1)
/-- how many of three bits are set; a bit -/
def pc3 (w : Nat) : Nat := w % 2 + w / 2 % 2 + w / 4 % 2
def bit (w i : Nat) : Nat := w / 2 ^ i % 2
/-- BREAKS, in tenths, of a HAIR by its KIND, AGE, the LOAD, how many are WHOLE -/
def bas (k a : Nat) : Int := match k with
  | 1 => ((a / 2 : Nat) : Int) + 1
  | 2 => ((a / 2 : Nat) : Int) + 2
  | 3 => ((a / 2 / 2 : Nat) : Int)
  | 4 => ((a / 2 / 2 : Nat) : Int) - 1
  | _ => ((a / 2 : Nat) : Int)
def brk (k a l m : Nat) : Nat := if m = 0 then 0 else (max 0 (min 10 (bas k a + ((l + m - 1) / m : Nat) - 1))).toNat
theorem brk_le (k a l m : Nat) : brk k a l m ≤ 10 := by
  unfold brk
  split
  · omega
  · omega
theorem pc3_le (w : Nat) : pc3 w ≤ 3 := by unfold pc3; omega
theorem bit_le (w i : Nat) : bit w i ≤ 1 := by unfold bit; omega
end
section
theorem dX6_within_0 : decode cX6_within 0 = .ok (.iload_n 0, 1) := by decide +kernel
theorem dX6_within_1 : decode cX6_within 1 = .ok (.iload_n 1, 1) := by decide +kernel
theorem dX6_within_2 : decode cX6_within 2 = .ok (.if_icmp .lt 12, 3) := by decide +kernel
theorem dX6_within_5 : decode cX6_within 5 = .ok (.iload_n 0, 1) := by decide +kernel
theorem dX6_within_6 : decode cX6_within 6 = .ok (.iload_n 2, 1) := by decide +kernel
theorem dX6_within_7 : decode cX6_within 7 = .ok (.if_icmp .gt 7, 3) := by decide +kernel
theorem dX6_within_10 : decode cX6_within 10 = .ok (.iconst 1, 1) := by decide +kernel
theorem dX6_within_11 : decode cX6_within 11 = .ok (.goto 4, 3) := by decide +kernel
theorem dX6_within_14 : decode cX6_within 14 = .ok (.iconst 0, 1) := by decide +kernel
theorem dX6_within_15 : decode cX6_within 15 = .ok (.ireturn, 1) := by decide +kernel
theorem dX6_foreseen_0 : decode cX6_foreseen 0 = .ok (.iload_n 0, 1) := by decide +kernel
theorem dX6_foreseen_1 : decode cX6_foreseen 1 = .ok (.iconst 0, 1) := by decide +kernel
theorem dX6_foreseen_2 : decode cX6_foreseen 2 = .ok (.iconst 5, 1) := by decide +kernel
theorem dX6_foreseen_3 : decode cX6_foreseen 3 = .ok (.invokestatic 59, 3) := by decide +kernel
theorem dX6_foreseen_6 : decode cX6_foreseen 6 = .ok (.ireturn, 1) := by decide +kernel
theorem dX6_thousands_0 : decode cX6_thousands 0 = .ok (.lconst 1, 1) := by decide +kernel
theorem dX6_thousands_1 : decode cX6_thousands 1 = .ok (.lstore_n 1, 1) := by decide +kernel
theorem dX6_thousands_2 : decode cX6_thousands 2 = .ok (.iconst 0, 1) := by decide +kernel
theorem dX6_thousands_3 : decode cX6_thousands 3 = .ok (.istore_n 3, 1) := by decide +kernel
theorem dX6_thousands_4 : decode cX6_thousands 4 = .ok (.iload_n 3, 1) := by decide +kernel
theorem dX6_thousands_5 : decode cX6_thousands 5 = .ok (.iload_n 0, 1) := by decide +kernel
theorem dX6_thousands_6 : decode cX6_thousands 6 = .ok (.if_icmp .ge 15, 3) := by decide +kernel
theorem dX6_thousands_9 : decode cX6_thousands 9 = .ok (.lload_n 1, 1) := by decide +kernel
theorem dX6_thousands_10 : decode cX6_thousands 10 = .ok (.ldc2_w 253, 3) := by decide +kernel
theorem dX6_thousands_13 : decode cX6_thousands 13 = .ok (.lmul, 1) := by decide +kernel
theorem dX6_thousands_14 : decode cX6_thousands 14 = .ok (.lstore_n 1, 1) := by decide +kernel
theorem dX6_thousands_15 : decode cX6_thousands 15 = .ok (.iinc 3 1, 3) := by decide +kernel
theorem dX6_thousands_18 : decode cX6_thousands 18 = .ok (.goto (-14), 3) := by decide +kernel
theorem dX6_thousands_21 : decode cX6_thousands 21 = .ok (.lload_n 1, 1) := by decide +kernel
theorem dX6_thousands_22 : decode cX6_thousands 22 = .ok (.lreturn, 1) := by decide +kernel
theorem dJ6_bitCount_0f7a4_0 : decode cJ6_bitCount_0f7a4 0 = .ok (.iload_n 0, 1) := by decide +kernel
theorem dJ6_bitCount_0f7a4_1 : decode cJ6_bitCount_0f7a4 1 = .ok (.iload_n 0, 1) := by decide +kernel
theorem dJ6_bitCount_0f7a4_2 : decode cJ6_bitCount_0f7a4 2 = .ok (.iconst 1, 1) := by decide +kernel
theorem dJ6_bitCount_0f7a4_3 : decode cJ6_bitCount_0f7a4 3 = .ok (.iushr, 1) := by decide +kernel
theorem dJ6_bitCount_0f7a4_4 : decode cJ6_bitCount_0f7a4 4 = .ok (.ldc_w 265, 3) := by decide +kernel
theorem dJ6_bitCount_0f7a4_7 : decode cJ6_bitCount_0f7a4 7 = .ok (.iand, 1) := by decide +kernel
theorem dJ6_bitCount_0f7a4_8 : decode cJ6_bitCount_0f7a4 8 = .ok (.isub, 1) := by decide +kernel
theorem dJ6_bitCount_0f7a4_9 : decode cJ6_bitCount_0f7a4 9 = .ok (.istore_n 0, 1) := by decide +kernel
theorem dJ6_bitCount_0f7a4_10 : decode cJ6_bitCount_0f7a4 10 = .ok (.iload_n 0, 1) := by decide +kernel
theorem dJ6_bitCount_0f7a4_11 : decode cJ6_bitCount_0f7a4 11 = .ok (.ldc_w 266, 3) := by decide +kernel
theorem dJ6_bitCount_0f7a4_14 : decode cJ6_bitCount_0f7a4 14 = .ok (.iand, 1) := by decide +kernel
theorem dJ6_bitCount_0f7a4_15 : decode cJ6_bitCount_0f7a4 15 = .ok (.iload_n 0, 1) := by decide +kernel
theorem dJ6_bitCount_0f7a4_16 : decode cJ6_bitCount_0f7a4 16 = .ok (.iconst 2, 1) := by decide +kernel
theorem dJ6_bitCount_0f7a4_17 : decode cJ6_bitCount_0f7a4 17 = .ok (.iushr, 1) := by decide +kernel
theorem dJ6_bitCount_0f7a4_18 : decode cJ6_bitCount_0f7a4 18 = .ok (.ldc_w 266, 3) := by decide +kernel
theorem dJ6_bitCount_0f7a4_21 : decode cJ6_bitCount_0f7a4 21 = .ok (.iand, 1) := by decide +kernel
theorem dJ6_bitCount_0f7a4_22 : decode cJ6_bitCount_0f7a4 22 = .ok (.iadd, 1) := by decide +kernel
theorem dJ6_bitCount_0f7a4_23 : decode cJ6_bitCount_0f7a4 23 = .ok (.istore_n 0, 1) := by decide +kernel
theorem dJ6_bitCount_0f7a4_24 : decode cJ6_bitCount_0f7a4 24 = .ok (.iload_n 0, 1) := by decide +kernel
theorem dJ6_bitCount_0f7a4_25 : decode cJ6_bitCount_0f7a4 25 = .ok (.iload_n 0, 1) := by decide +kernel
theorem dJ6_bitCount_0f7a4_26 : decode cJ6_bitCount_0f7a4 26 = .ok (.iconst 4, 1) := by decide +kernel
theorem dJ6_bitCount_0f7a4_27 : decode cJ6_bitCount_0f7a4 27 = .ok (.iushr, 1) := by decide +kernel
theorem dJ6_bitCount_0f7a4_28 : decode cJ6_bitCount_0f7a4 28 = .ok (.iadd, 1) := by decide +kernel
theorem dJ6_bitCount_0f7a4_29 : decode cJ6_bitCount_0f7a4 29 = .ok (.ldc_w 267, 3) := by decide +kernel
theorem dJ6_bitCount_0f7a4_32 : decode cJ6_bitCount_0f7a4 32 = .ok (.iand, 1) := by decide +kernel
theorem dJ6_bitCount_0f7a4_33 : decode cJ6_bitCount_0f7a4 33 = .ok (.istore_n 0, 1) := by decide +kernel
theorem dJ6_bitCount_0f7a4_34 : decode cJ6_bitCount_0f7a4 34 = .ok (.iload_n 0, 1) := by decide +kernel
theorem dJ6_bitCount_0f7a4_35 : decode cJ6_bitCount_0f7a4 35 = .ok (.iload_n 0, 1) := by decide +kernel
theorem dJ6_bitCount_0f7a4_36 : decode cJ6_bitCount_0f7a4 36 = .ok (.bipush 8, 2) := by decide +kernel
theorem dJ6_bitCount_0f7a4_38 : decode cJ6_bitCount_0f7a4 38 = .ok (.iushr, 1) := by decide +kernel
theorem dJ6_bitCount_0f7a4_39 : decode cJ6_bitCount_0f7a4 39 = .ok (.iadd, 1) := by decide +kernel
theorem dJ6_bitCount_0f7a4_40 : decode cJ6_bitCount_0f7a4 40 = .ok (.istore_n 0, 1) := by decide +kernel
theorem dJ6_bitCount_0f7a4_41 : decode cJ6_bitCount_0f7a4 41 = .ok (.iload_n 0, 1) := by decide +kernel
theorem dJ6_bitCount_0f7a4_42 : decode cJ6_bitCount_0f7a4 42 = .ok (.iload_n 0, 1) := by decide +kernel
theorem dJ6_bitCount_0f7a4_43 : decode cJ6_bitCount_0f7a4 43 = .ok (.bipush 16, 2) := by decide +kernel
theorem dJ6_bitCount_0f7a4_45 : decode cJ6_bitCount_0f7a4 45 = .ok (.iushr, 1) := by decide +kernel
theorem dJ6_bitCount_0f7a4_46 : decode cJ6_bitCount_0f7a4 46 = .ok (.iadd, 1) := by decide +kernel
theorem dJ6_bitCount_0f7a4_47 : decode cJ6_bitCount_0f7a4 47 = .ok (.istore_n 0, 1) := by decide +kernel
theorem dJ6_bitCount_0f7a4_48 : decode cJ6_bitCount_0f7a4 48 = .ok (.iload_n 0, 1) := by decide +kernel
theorem dJ6_bitCount_0f7a4_49 : decode cJ6_bitCount_0f7a4 49 = .ok (.bipush 63, 2) := by decide +kernel
theorem dJ6_bitCount_0f7a4_51 : decode cJ6_bitCount_0f7a4 51 = .ok (.iand, 1) := by decide +kernel
theorem dJ6_bitCount_0f7a4_52 : decode cJ6_bitCount_0f7a4 52 = .ok (.ireturn, 1) := by decide +kernel
theorem dX6_baseOf_0 : decode cX6_baseOf 0 = .ok (.iload_n 1, 1) := by decide +kernel
theorem dX6_baseOf_1 : decode cX6_baseOf 1 = .ok (.iconst 2, 1) := by decide +kernel
theorem dX6_baseOf_2 : decode cX6_baseOf 2 = .ok (.idiv, 1) := by decide +kernel
theorem dX6_baseOf_3 : decode cX6_baseOf 3 = .ok (.istore_n 2, 1) := by decide +kernel
theorem dX6_baseOf_4 : decode cX6_baseOf 4 = .ok (.iload_n 0, 1) := by decide +kernel
theorem dX6_baseOf_5 : decode cX6_baseOf 5 = .ok (.tableswitch 49 1 4 #[31, 35, 39, 43], 31) := by decide +kernel
theorem dX6_baseOf_36 : decode cX6_baseOf 36 = .ok (.iload_n 2, 1) := by decide +kernel
theorem dX6_baseOf_37 : decode cX6_baseOf 37 = .ok (.iconst 1, 1) := by decide +kernel
theorem dX6_baseOf_38 : decode cX6_baseOf 38 = .ok (.iadd, 1) := by decide +kernel
theorem dX6_baseOf_39 : decode cX6_baseOf 39 = .ok (.ireturn, 1) := by decide +kernel
theorem dX6_baseOf_40 : decode cX6_baseOf 40 = .ok (.iload_n 2, 1) := by decide +kernel
theorem dX6_baseOf_41 : decode cX6_baseOf 41 = .ok (.iconst 2, 1) := by decide +kernel
theorem dX6_baseOf_42 : decode cX6_baseOf 42 = .ok (.iadd, 1) := by decide +kernel
theorem dX6_baseOf_43 : decode cX6_baseOf 43 = .ok (.ireturn, 1) := by decide +kernel
theorem dX6_baseOf_44 : decode cX6_baseOf 44 = .ok (.iload_n 2, 1) := by decide +kernel
theorem dX6_baseOf_45 : decode cX6_baseOf 45 = .ok (.iconst 2, 1) := by decide +kernel
theorem dX6_baseOf_46 : decode cX6_baseOf 46 = .ok (.idiv, 1) := by decide +kernel
theorem dX6_baseOf_47 : decode cX6_baseOf 47 = .ok (.ireturn, 1) := by decide +kernel
theorem dX6_baseOf_48 : decode cX6_baseOf 48 = .ok (.iload_n 2, 1) := by decide +kernel
theorem dX6_baseOf_49 : decode cX6_baseOf 49 = .ok (.iconst 2, 1) := by decide +kernel
theorem dX6_baseOf_50 : decode cX6_baseOf 50 = .ok (.idiv, 1) := by decide +kernel
theorem dX6_baseOf_51 : decode cX6_baseOf 51 = .ok (.iconst 1, 1) := by decide +kernel
theorem dX6_baseOf_52 : decode cX6_baseOf 52 = .ok (.isub, 1) := by decide +kernel
theorem dX6_baseOf_53 : decode cX6_baseOf 53 = .ok (.ireturn, 1) := by decide +kernel
theorem dX6_baseOf_54 : decode cX6_baseOf 54 = .ok (.iload_n 2, 1) := by decide +kernel
theorem dX6_baseOf_55 : decode cX6_baseOf 55 = .ok (.ireturn, 1) := by decide +kernel
theorem dX6_breaksOf_0 : decode cX6_breaksOf 0 = .ok (.iload_n 3, 1) := by decide +kernel
theorem dX6_breaksOf_1 : decode cX6_breaksOf 1 = .ok (.ifCond .gt 5, 3) := by decide +kernel
theorem dX6_breaksOf_4 : decode cX6_breaksOf 4 = .ok (.iconst 0, 1) := by decide +kernel
theorem dX6_breaksOf_5 : decode cX6_breaksOf 5 = .ok (.ireturn, 1) := by decide +kernel
theorem dX6_breaksOf_6 : decode cX6_breaksOf 6 = .ok (.iload_n 2, 1) := by decide +kernel
theorem dX6_breaksOf_7 : decode cX6_breaksOf 7 = .ok (.iload_n 3, 1) := by decide +kernel
theorem dX6_breaksOf_8 : decode cX6_breaksOf 8 = .ok (.iadd, 1) := by decide +kernel
theorem dX6_breaksOf_9 : decode cX6_breaksOf 9 = .ok (.iconst 1, 1) := by decide +kernel
theorem dX6_breaksOf_10 : decode cX6_breaksOf 10 = .ok (.isub, 1) := by decide +kernel
theorem dX6_breaksOf_11 : decode cX6_breaksOf 11 = .ok (.iload_n 3, 1) := by decide +kernel
theorem dX6_breaksOf_12 : decode cX6_breaksOf 12 = .ok (.idiv, 1) := by decide +kernel
theorem dX6_breaksOf_13 : decode cX6_breaksOf 13 = .ok (.istore 4, 2) := by decide +kernel
theorem dX6_breaksOf_15 : decode cX6_breaksOf 15 = .ok (.iconst 0, 1) := by decide +kernel
theorem dX6_breaksOf_16 : decode cX6_breaksOf 16 = .ok (.bipush 10, 2) := by decide +kernel
theorem dX6_breaksOf_18 : decode cX6_breaksOf 18 = .ok (.iload_n 0, 1) := by decide +kernel
theorem dX6_breaksOf_19 : decode cX6_breaksOf 19 = .ok (.iload_n 1, 1) := by decide +kernel
theorem dX6_breaksOf_20 : decode cX6_breaksOf 20 = .ok (.invokestatic 265, 3) := by decide +kernel
theorem dX6_breaksOf_23 : decode cX6_breaksOf 23 = .ok (.iload 4, 2) := by decide +kernel
theorem dX6_breaksOf_25 : decode cX6_breaksOf 25 = .ok (.iadd, 1) := by decide +kernel
theorem dX6_breaksOf_26 : decode cX6_breaksOf 26 = .ok (.iconst 1, 1) := by decide +kernel
theorem dX6_breaksOf_27 : decode cX6_breaksOf 27 = .ok (.isub, 1) := by decide +kernel
theorem dX6_breaksOf_28 : decode cX6_breaksOf 28 = .ok (.invokestatic 268, 3) := by decide +kernel
theorem dX6_breaksOf_31 : decode cX6_breaksOf 31 = .ok (.invokestatic 271, 3) := by decide +kernel
theorem dX6_breaksOf_34 : decode cX6_breaksOf 34 = .ok (.ireturn, 1) := by decide +kernel
set_option maxRecDepth 100000 in
set_option maxHeartbeats 4000000 in
theorem mX6_within (v lo hi : Int32) : J KX6_within 0 (fun r B => r = some (.int (jB (lo ≤ v ∧ v ≤ hi))) ∧ B = []) 0 [some (.int v), some (.int lo), some (.int hi)] [] [] 0 0 := by
  refine J.iload_n dX6_within_0 rfl rfl ?_
  refine J.iload_n dX6_within_1 rfl rfl ?_
  refine J.icmp_lt (tgt := 14) dX6_within_2 (by decide) (fun c2 => ?_) (fun c2 => ?_)
  · refine J.iconst (0) dX6_within_14 (by decide) ?_
    exact J.iret dX6_within_15 rfl (by decide) (Nat.le_refl _) (Nat.le_refl _) ⟨congrArg (fun x => some (Value.int x)) (by first | exact (jB_f _ (fun h => absurd c2 (Int32.not_lt.mpr h.1))).symm | exact (jB_f _ (fun h => absurd c7 (Int32.not_lt.mpr h.2))).symm | exact (jB_t _ ⟨Int32.not_lt.mp c2, Int32.not_lt.mp c7⟩).symm), rfl⟩
  · refine J.iload_n dX6_within_5 rfl rfl ?_
    refine J.iload_n dX6_within_6 rfl rfl ?_
    refine J.icmp_gt (tgt := 14) dX6_within_7 (by decide) (fun c7 => ?_) (fun c7 => ?_)
    · refine J.iconst (0) dX6_within_14 (by decide) ?_
      exact J.iret dX6_within_15 rfl (by decide) (Nat.le_refl _) (Nat.le_refl _) ⟨congrArg (fun x => some (Value.int x)) (by first | exact (jB_f _ (fun h => absurd c2 (Int32.not_lt.mpr h.1))).symm | exact (jB_f _ (fun h => absurd c7 (Int32.not_lt.mpr h.2))).symm | exact (jB_t _ ⟨Int32.not_lt.mp c2, Int32.not_lt.mp c7⟩).symm), rfl⟩
    · refine J.iconst (1) dX6_within_10 (by decide) ?_
      refine J.goto (tgt := 15) dX6_within_11 (by decide) ?_
      exact J.iret dX6_within_15 rfl (by decide) (Nat.le_refl _) (Nat.le_refl _) ⟨congrArg (fun x => some (Value.int x)) (by first | exact (jB_f _ (fun h => absurd c2 (Int32.not_lt.mpr h.1))).symm | exact (jB_f _ (fun h => absurd c7 (Int32.not_lt.mpr h.2))).symm | exact (jB_t _ ⟨Int32.not_lt.mp c2, Int32.not_lt.mp c7⟩).symm), rfl⟩
set_option maxRecDepth 100000 in
set_option maxHeartbeats 4000000 in
theorem mX6_foreseen (n : Int32) : J KX6_foreseen 0 (fun r B => r = some (.int (jB (0 ≤ n ∧ n ≤ 5))) ∧ B = []) 0 [some (.int n)] [] [] 0 0 := by
  refine J.iload_n dX6_foreseen_0 rfl rfl ?_
  refine J.iconst (0) dX6_foreseen_1 (by decide) ?_
  refine J.iconst (5) dX6_foreseen_2 (by decide) ?_
  refine J.cs (as := [.int _, .int _, .int _]) (is := []) okX6_within jcX6_59 (mX6_within _ _ _) dX6_foreseen_3 rfl rfl rfl rfl rfl rfl (fun r B9 hq => ?_)
  obtain ⟨rfl, rfl⟩ := hq
  refine ⟨rfl, ?_⟩
  dsimp only [Option.map, Option.toList, jput, List.map, jg, List.cons_append, List.nil_append]
  exact J.iret dX6_foreseen_6 rfl (jB_z _) (Nat.le_refl _) (Nat.le_refl _) ⟨rfl, rfl⟩
set_option maxRecDepth 100000 in
set_option maxHeartbeats 4000000 in
theorem mX6_thousands_l (N : Nat) (hN : N < 2 ^ 31) : ∀ (k i : Nat), i + k = N → J KX6_thousands 0 (fun r B => r = some (.long (lN (1000 ^ N))) ∧ B = []) 4 [some (.int (nI N)), some (.long (lN (1000 ^ i))), none, some (.int (nI i))] [] [] 0 0 := by
  intro k
  induction k with
  | zero =>
    intro i hi
    obtain rfl : i = N := by omega
    refine J.iload_n dX6_thousands_4 rfl rfl ?_
    refine J.iload_n dX6_thousands_5 rfl rfl ?_
    refine J.icmp_ge (tgt := 21) dX6_thousands_6 (by decide) (fun c6 => ?_) (fun c6 => absurd c6 (fun h => h (Int32.le_refl _)))
    refine J.lload_n dX6_thousands_21 rfl rfl ?_
    exact J.lret dX6_thousands_22 rfl (Nat.le_refl _) (Nat.le_refl _) ⟨rfl, rfl⟩
  | succ k ih =>
    intro i hi
    refine J.iload_n dX6_thousands_4 rfl rfl ?_
    refine J.iload_n dX6_thousands_5 rfl rfl ?_
    refine J.icmp_ge (tgt := 21) dX6_thousands_6 (by decide) (fun c6 => absurd c6 (nI_ge (by omega) hN)) (fun c6 => ?_)
    refine J.lload_n dX6_thousands_9 rfl rfl ?_
    refine J.ldc2 (v := 1000) dX6_thousands_10 (jt 531 rfl rfl) ?_
    refine J.lmul dX6_thousands_13 ?_
    refine J.lstore_n dX6_thousands_14 rfl (by decide) rfl ?_
    dsimp only [List.set]
    refine J.iinc (1) dX6_thousands_15 (by decide) rfl (by decide) rfl ?_
    dsimp only [List.set]
    refine J.goto (tgt := 4) dX6_thousands_18 (by decide) ?_
    exact J.at (ih (i + 1) (by omega)) (by rw [Nat.pow_succ, ← lN_mul, ← nI_1]; rfl) rfl rfl
set_option maxRecDepth 100000 in
set_option maxHeartbeats 4000000 in
theorem mX6_thousands (N : Nat) (hN : N < 2 ^ 31) : J KX6_thousands 0 (fun r B => r = some (.long (lN (1000 ^ N))) ∧ B = []) 0 [some (.int (nI N)), none, none, none] [] [] 0 0 := by
  refine J.lconst 1 dX6_thousands_0 (by decide) ?_
  refine J.lstore_n dX6_thousands_1 rfl (by decide) rfl ?_
  dsimp only [List.set]
  refine J.iconst (0) dX6_thousands_2 (by decide) ?_
  refine J.istore_n dX6_thousands_3 rfl (by decide) rfl ?_
  dsimp only [List.set]
  exact mX6_thousands_l N hN N 0 (by omega)
set_option maxRecDepth 100000 in
set_option maxHeartbeats 4000000 in
theorem mJ6_bitCount_0f7a4 (w : Nat) (hw : w < 8) : J KJ6_bitCount_0f7a4 0 (fun r B => r = some (.int (nI (pc3 w))) ∧ B = []) 0 [some (.int (nI w))] [] [] 0 0 := by
  refine J.iload_n dJ6_bitCount_0f7a4_0 rfl rfl ?_
  refine J.iload_n dJ6_bitCount_0f7a4_1 rfl rfl ?_
  refine J.iconst (1) dJ6_bitCount_0f7a4_2 (by decide) ?_
  refine J.iushr dJ6_bitCount_0f7a4_3 ?_
  refine J.ldcw (v := 1431655765) dJ6_bitCount_0f7a4_4 (jt 464 rfl rfl) ?_
  refine J.iand dJ6_bitCount_0f7a4_7 ?_
  refine J.isub dJ6_bitCount_0f7a4_8 ?_
  refine J.istore_n dJ6_bitCount_0f7a4_9 rfl (by decide) rfl ?_
  dsimp only [List.set]
  refine J.iload_n dJ6_bitCount_0f7a4_10 rfl rfl ?_
  refine J.ldcw (v := 858993459) dJ6_bitCount_0f7a4_11 (jt 465 rfl rfl) ?_
  refine J.iand dJ6_bitCount_0f7a4_14 ?_
  refine J.iload_n dJ6_bitCount_0f7a4_15 rfl rfl ?_
  refine J.iconst (2) dJ6_bitCount_0f7a4_16 (by decide) ?_
  refine J.iushr dJ6_bitCount_0f7a4_17 ?_
  refine J.ldcw (v := 858993459) dJ6_bitCount_0f7a4_18 (jt 465 rfl rfl) ?_
  refine J.iand dJ6_bitCount_0f7a4_21 ?_
  refine J.iadd dJ6_bitCount_0f7a4_22 ?_
  refine J.istore_n dJ6_bitCount_0f7a4_23 rfl (by decide) rfl ?_
  dsimp only [List.set]
  refine J.iload_n dJ6_bitCount_0f7a4_24 rfl rfl ?_
  refine J.iload_n dJ6_bitCount_0f7a4_25 rfl rfl ?_
  refine J.iconst (4) dJ6_bitCount_0f7a4_26 (by decide) ?_
  refine J.iushr dJ6_bitCount_0f7a4_27 ?_
  refine J.iadd dJ6_bitCount_0f7a4_28 ?_
  refine J.ldcw (v := 252645135) dJ6_bitCount_0f7a4_29 (jt 466 rfl rfl) ?_
  refine J.iand dJ6_bitCount_0f7a4_32 ?_
  refine J.istore_n dJ6_bitCount_0f7a4_33 rfl (by decide) rfl ?_
  dsimp only [List.set]
  refine J.iload_n dJ6_bitCount_0f7a4_34 rfl rfl ?_
  refine J.iload_n dJ6_bitCount_0f7a4_35 rfl rfl ?_
  refine J.bipush (8) dJ6_bitCount_0f7a4_36 (by decide) ?_
  refine J.iushr dJ6_bitCount_0f7a4_38 ?_
  refine J.iadd dJ6_bitCount_0f7a4_39 ?_
  refine J.istore_n dJ6_bitCount_0f7a4_40 rfl (by decide) rfl ?_
  dsimp only [List.set]
  refine J.iload_n dJ6_bitCount_0f7a4_41 rfl rfl ?_
  refine J.iload_n dJ6_bitCount_0f7a4_42 rfl rfl ?_
  refine J.bipush (16) dJ6_bitCount_0f7a4_43 (by decide) ?_
  refine J.iushr dJ6_bitCount_0f7a4_45 ?_
  refine J.iadd dJ6_bitCount_0f7a4_46 ?_
  refine J.istore_n dJ6_bitCount_0f7a4_47 rfl (by decide) rfl ?_
  dsimp only [List.set]
  refine J.iload_n dJ6_bitCount_0f7a4_48 rfl rfl ?_
  refine J.bipush (63) dJ6_bitCount_0f7a4_49 (by decide) ?_
  refine J.iand dJ6_bitCount_0f7a4_51 ?_
  exact J.iret dJ6_bitCount_0f7a4_52 rfl rfl (Nat.le_refl _) (Nat.le_refl _) ⟨congrArg (fun x => some (Value.int x)) (by revert w; decide +kernel), rfl⟩
set_option maxRecDepth 100000 in
set_option maxHeartbeats 4000000 in
theorem mX6_baseOf (k a : Nat) (hk : k < 5) (ha : a < 10) : J KX6_baseOf 0 (fun r B => r = some (.int (Int32.ofInt (bas k a))) ∧ B = []) 0 [some (.int (nI k)), some (.int (nI a)), none] [] [] 0 0 := by
  rcases (show k = 0 ∨ k = 1 ∨ k = 2 ∨ k = 3 ∨ k = 4 by omega) with rfl | rfl | rfl | rfl | rfl
  · refine J.iload_n dX6_baseOf_0 rfl rfl ?_
    refine J.iconst (2) dX6_baseOf_1 (by decide) ?_
    refine J.idiv dX6_baseOf_2 (by decide) ?_
    refine J.istore_n dX6_baseOf_3 rfl (by decide) rfl ?_
    dsimp only [List.set]
    refine J.iload_n dX6_baseOf_4 rfl rfl ?_
    refine J.tableOut (tgt := 54) dX6_baseOf_5 (by decide) (by decide) ?_
    refine J.iload_n dX6_baseOf_54 rfl rfl ?_
    exact J.iret dX6_baseOf_55 rfl rfl (Nat.le_refl _) (Nat.le_refl _) ⟨congrArg (fun x => some (Value.int x)) (by revert a; decide +kernel), rfl⟩
  · refine J.iload_n dX6_baseOf_0 rfl rfl ?_
    refine J.iconst (2) dX6_baseOf_1 (by decide) ?_
    refine J.idiv dX6_baseOf_2 (by decide) ?_
    refine J.istore_n dX6_baseOf_3 rfl (by decide) rfl ?_
    dsimp only [List.set]
    refine J.iload_n dX6_baseOf_4 rfl rfl ?_
    refine J.tableIn (off := 31) (tgt := 36) dX6_baseOf_5 (by decide) (by decide) (by decide) (by decide) ?_
    refine J.iload_n dX6_baseOf_36 rfl rfl ?_
    refine J.iconst (1) dX6_baseOf_37 (by decide) ?_
    refine J.iadd dX6_baseOf_38 ?_
    exact J.iret dX6_baseOf_39 rfl rfl (Nat.le_refl _) (Nat.le_refl _) ⟨congrArg (fun x => some (Value.int x)) (by revert a; decide +kernel), rfl⟩
  · refine J.iload_n dX6_baseOf_0 rfl rfl ?_
    refine J.iconst (2) dX6_baseOf_1 (by decide) ?_
    refine J.idiv dX6_baseOf_2 (by decide) ?_
    refine J.istore_n dX6_baseOf_3 rfl (by decide) rfl ?_
    dsimp only [List.set]
    refine J.iload_n dX6_baseOf_4 rfl rfl ?_
    refine J.tableIn (off := 35) (tgt := 40) dX6_baseOf_5 (by decide) (by decide) (by decide) (by decide) ?_
    refine J.iload_n dX6_baseOf_40 rfl rfl ?_
    refine J.iconst (2) dX6_baseOf_41 (by decide) ?_
    refine J.iadd dX6_baseOf_42 ?_
    exact J.iret dX6_baseOf_43 rfl rfl (Nat.le_refl _) (Nat.le_refl _) ⟨congrArg (fun x => some (Value.int x)) (by revert a; decide +kernel), rfl⟩
  · refine J.iload_n dX6_baseOf_0 rfl rfl ?_
    refine J.iconst (2) dX6_baseOf_1 (by decide) ?_
    refine J.idiv dX6_baseOf_2 (by decide) ?_
    refine J.istore_n dX6_baseOf_3 rfl (by decide) rfl ?_
    dsimp only [List.set]
    refine J.iload_n dX6_baseOf_4 rfl rfl ?_
    refine J.tableIn (off := 39) (tgt := 44) dX6_baseOf_5 (by decide) (by decide) (by decide) (by decide) ?_
    refine J.iload_n dX6_baseOf_44 rfl rfl ?_
    refine J.iconst (2) dX6_baseOf_45 (by decide) ?_
    refine J.idiv dX6_baseOf_46 (by decide) ?_
    exact J.iret dX6_baseOf_47 rfl rfl (Nat.le_refl _) (Nat.le_refl _) ⟨congrArg (fun x => some (Value.int x)) (by revert a; decide +kernel), rfl⟩
  · refine J.iload_n dX6_baseOf_0 rfl rfl ?_
    refine J.iconst (2) dX6_baseOf_1 (by decide) ?_
    refine J.idiv dX6_baseOf_2 (by decide) ?_
    refine J.istore_n dX6_baseOf_3 rfl (by decide) rfl ?_
    dsimp only [List.set]
    refine J.iload_n dX6_baseOf_4 rfl rfl ?_
    refine J.tableIn (off := 43) (tgt := 48) dX6_baseOf_5 (by decide) (by decide) (by decide) (by decide) ?_
    refine J.iload_n dX6_baseOf_48 rfl rfl ?_
    refine J.iconst (2) dX6_baseOf_49 (by decide) ?_
    refine J.idiv dX6_baseOf_50 (by decide) ?_
    refine J.iconst (1) dX6_baseOf_51 (by decide) ?_
    refine J.isub dX6_baseOf_52 ?_
    exact J.iret dX6_baseOf_53 rfl rfl (Nat.le_refl _) (Nat.le_refl _) ⟨congrArg (fun x => some (Value.int x)) (by revert a; decide +kernel), rfl⟩
theorem brk_eval : ∀ k, k < 5 → ∀ a, a < 10 → ∀ l, l < 10 → ∀ m, m < 4 → 0 < m → (if 0 < (if Int32.ofInt (bas k a) + (nI l + nI m - 1) / nI m - 1 < 10 then Int32.ofInt (bas k a) + (nI l + nI m - 1) / nI m - 1 else 10) then (if Int32.ofInt (bas k a) + (nI l + nI m - 1) / nI m - 1 < 10 then Int32.ofInt (bas k a) + (nI l + nI m - 1) / nI m - 1 else 10) else 0) = nI (brk k a l m) := by decide +kernel
set_option maxRecDepth 100000 in
set_option maxHeartbeats 4000000 in
theorem mX6_breaksOf (k a l m : Nat) (hk : k < 5) (ha : a < 10) (hl : l < 10) (hm4 : m < 4) : J KX6_breaksOf 0 (fun r B => r = some (.int (nI (brk k a l m))) ∧ B = []) 0 [some (.int (nI k)), some (.int (nI a)), some (.int (nI l)), some (.int (nI m)), none] [] [] 0 0 := by
  by_cases hm : 0 < m
  · refine J.iload_n dX6_breaksOf_0 rfl rfl ?_
    refine J.if_gt (tgt := 6) dX6_breaksOf_1 (by decide) (fun c1 => ?_) (fun c1 => absurd c1 (fun h => h (by exact (nI_lti (a := 0) (by decide) (by omega)).mpr hm)))
    refine J.iload_n dX6_breaksOf_6 rfl rfl ?_
    refine J.iload_n dX6_breaksOf_7 rfl rfl ?_
    refine J.iadd dX6_breaksOf_8 ?_
    refine J.iconst (1) dX6_breaksOf_9 (by decide) ?_
    refine J.isub dX6_breaksOf_10 ?_
    refine J.iload_n dX6_breaksOf_11 rfl rfl ?_
    refine J.idiv dX6_breaksOf_12 (nI_ne0 hm (by omega)) ?_
    refine J.istore dX6_breaksOf_13 (by decide) rfl ?_
    dsimp only [List.set]
    refine J.iconst (0) dX6_breaksOf_15 (by decide) ?_
    refine J.bipush (10) dX6_breaksOf_16 (by decide) ?_
    refine J.iload_n dX6_breaksOf_18 rfl rfl ?_
    refine J.iload_n dX6_breaksOf_19 rfl rfl ?_
    refine J.cs (as := [.int _, .int _]) (is := []) okX6_baseOf jcX6_265 (mX6_baseOf k a hk ha) dX6_breaksOf_20 rfl rfl rfl rfl rfl rfl (fun r B9 hq => ?_)
    obtain ⟨rfl, rfl⟩ := hq
    refine ⟨rfl, ?_⟩
    dsimp only [Option.map, Option.toList, jput, List.map, jg, List.cons_append, List.nil_append]
    refine J.iload dX6_breaksOf_23 rfl ?_
    refine J.iadd dX6_breaksOf_25 ?_
    refine J.iconst (1) dX6_breaksOf_26 (by decide) ?_
    refine J.isub dX6_breaksOf_27 ?_
    refine J.mmin dX6_breaksOf_28 (jt 473 rfl rfl) rfl ?_
    refine J.mmax dX6_breaksOf_31 (jt 476 rfl rfl) rfl ?_
    exact J.iret dX6_breaksOf_34 rfl rfl (Nat.le_refl _) (Nat.le_refl _) ⟨congrArg (fun x => some (Value.int x)) (brk_eval k hk a ha l hl m hm4 hm), rfl⟩
  · obtain rfl : m = 0 := by omega
    refine J.iload_n dX6_breaksOf_0 rfl rfl ?_
    refine J.if_gt (tgt := 6) dX6_breaksOf_1 (by decide) (fun c1 => absurd c1 (by decide)) (fun c1 => ?_)
    refine J.iconst (0) dX6_breaksOf_4 (by decide) ?_
    exact J.iret dX6_breaksOf_5 rfl rfl (Nat.le_refl _) (Nat.le_refl _) ⟨rfl, rfl⟩
end
section
theorem dX2_clear_0 : decode cX2_clear 0 = .ok (.aload_n 0, 1) := by decide +kernel
theorem dX2_clear_1 : decode cX2_clear 1 = .ok (.iconst 0, 1) := by decide +kernel
theorem dX2_clear_2 : decode cX2_clear 2 = .ok (.putfield 33, 3) := by decide +kernel
theorem dX2_clear_5 : decode cX2_clear 5 = .ok (.aload_n 0, 1) := by decide +kernel
theorem dX2_clear_6 : decode cX2_clear 6 = .ok (.iconst 0, 1) := by decide +kernel
theorem dX2_clear_7 : decode cX2_clear 7 = .ok (.putfield 37, 3) := by decide +kernel
theorem dX2_clear_10 : decode cX2_clear 10 = .ok (.aload_n 0, 1) := by decide +kernel
theorem dX2_clear_11 : decode cX2_clear 11 = .ok (.iconst 0, 1) := by decide +kernel
theorem dX2_clear_12 : decode cX2_clear 12 = .ok (.putfield 40, 3) := by decide +kernel
theorem dX2_clear_15 : decode cX2_clear 15 = .ok (.aload_n 0, 1) := by decide +kernel
theorem dX2_clear_16 : decode cX2_clear 16 = .ok (.iconst 0, 1) := by decide +kernel
theorem dX2_clear_17 : decode cX2_clear 17 = .ok (.putfield 43, 3) := by decide +kernel
theorem dX2_clear_20 : decode cX2_clear 20 = .ok (.aload_n 0, 1) := by decide +kernel
theorem dX2_clear_21 : decode cX2_clear 21 = .ok (.iconst 3, 1) := by decide +kernel
theorem dX2_clear_22 : decode cX2_clear 22 = .ok (.putfield 46, 3) := by decide +kernel
theorem dX2_clear_25 : decode cX2_clear 25 = .ok (.aload_n 0, 1) := by decide +kernel
theorem dX2_clear_26 : decode cX2_clear 26 = .ok (.bipush 9, 2) := by decide +kernel
theorem dX2_clear_28 : decode cX2_clear 28 = .ok (.putfield 49, 3) := by decide +kernel
theorem dX2_clear_31 : decode cX2_clear 31 = .ok (.aload_n 0, 1) := by decide +kernel
theorem dX2_clear_32 : decode cX2_clear 32 = .ok (.iconst 0, 1) := by decide +kernel
theorem dX2_clear_33 : decode cX2_clear 33 = .ok (.putfield 52, 3) := by decide +kernel
theorem dX2_clear_36 : decode cX2_clear 36 = .ok (.return_, 1) := by decide +kernel
theorem dX2_copyRow_0 : decode cX2_copyRow 0 = .ok (.iconst 0, 1) := by decide +kernel
theorem dX2_copyRow_1 : decode cX2_copyRow 1 = .ok (.istore_n 2, 1) := by decide +kernel
theorem dX2_copyRow_2 : decode cX2_copyRow 2 = .ok (.iload_n 2, 1) := by decide +kernel
theorem dX2_copyRow_3 : decode cX2_copyRow 3 = .ok (.aload_n 0, 1) := by decide +kernel
theorem dX2_copyRow_4 : decode cX2_copyRow 4 = .ok (.arraylength, 1) := by decide +kernel
theorem dX2_copyRow_5 : decode cX2_copyRow 5 = .ok (.if_icmp .ge 21, 3) := by decide +kernel
theorem dX2_copyRow_8 : decode cX2_copyRow 8 = .ok (.iload_n 2, 1) := by decide +kernel
theorem dX2_copyRow_9 : decode cX2_copyRow 9 = .ok (.aload_n 1, 1) := by decide +kernel
theorem dX2_copyRow_10 : decode cX2_copyRow 10 = .ok (.arraylength, 1) := by decide +kernel
theorem dX2_copyRow_11 : decode cX2_copyRow 11 = .ok (.if_icmp .ge 15, 3) := by decide +kernel
theorem dX2_copyRow_14 : decode cX2_copyRow 14 = .ok (.aload_n 1, 1) := by decide +kernel
theorem dX2_copyRow_15 : decode cX2_copyRow 15 = .ok (.iload_n 2, 1) := by decide +kernel
theorem dX2_copyRow_16 : decode cX2_copyRow 16 = .ok (.aload_n 0, 1) := by decide +kernel
theorem dX2_copyRow_17 : decode cX2_copyRow 17 = .ok (.iload_n 2, 1) := by decide +kernel
theorem dX2_copyRow_18 : decode cX2_copyRow 18 = .ok (.iaload, 1) := by decide +kernel
theorem dX2_copyRow_19 : decode cX2_copyRow 19 = .ok (.iastore, 1) := by decide +kernel
theorem dX2_copyRow_20 : decode cX2_copyRow 20 = .ok (.iinc 2 1, 3) := by decide +kernel
theorem dX2_copyRow_23 : decode cX2_copyRow 23 = .ok (.goto (-21), 3) := by decide +kernel
theorem dX2_copyRow_26 : decode cX2_copyRow 26 = .ok (.return_, 1) := by decide +kernel
theorem dX2_copy_0 : decode cX2_copy 0 = .ok (.aload_n 1, 1) := by decide +kernel
theorem dX2_copy_1 : decode cX2_copy 1 = .ok (.getfield 9, 3) := by decide +kernel
theorem dX2_copy_4 : decode cX2_copy 4 = .ok (.aload_n 0, 1) := by decide +kernel
theorem dX2_copy_5 : decode cX2_copy 5 = .ok (.getfield 9, 3) := by decide +kernel
theorem dX2_copy_8 : decode cX2_copy 8 = .ok (.invokestatic 55, 3) := by decide +kernel
theorem dX2_copy_11 : decode cX2_copy 11 = .ok (.aload_n 1, 1) := by decide +kernel
theorem dX2_copy_12 : decode cX2_copy 12 = .ok (.getfield 15, 3) := by decide +kernel
theorem dX2_copy_15 : decode cX2_copy 15 = .ok (.aload_n 0, 1) := by decide +kernel
theorem dX2_copy_16 : decode cX2_copy 16 = .ok (.getfield 15, 3) := by decide +kernel
theorem dX2_copy_19 : decode cX2_copy 19 = .ok (.invokestatic 55, 3) := by decide +kernel
theorem dX2_copy_22 : decode cX2_copy 22 = .ok (.aload_n 1, 1) := by decide +kernel
theorem dX2_copy_23 : decode cX2_copy 23 = .ok (.getfield 18, 3) := by decide +kernel
theorem dX2_copy_26 : decode cX2_copy 26 = .ok (.aload_n 0, 1) := by decide +kernel
theorem dX2_copy_27 : decode cX2_copy 27 = .ok (.getfield 18, 3) := by decide +kernel
theorem dX2_copy_30 : decode cX2_copy 30 = .ok (.invokestatic 55, 3) := by decide +kernel
theorem dX2_copy_33 : decode cX2_copy 33 = .ok (.aload_n 1, 1) := by decide +kernel
theorem dX2_copy_34 : decode cX2_copy 34 = .ok (.getfield 21, 3) := by decide +kernel
theorem dX2_copy_37 : decode cX2_copy 37 = .ok (.aload_n 0, 1) := by decide +kernel
theorem dX2_copy_38 : decode cX2_copy 38 = .ok (.getfield 21, 3) := by decide +kernel
theorem dX2_copy_41 : decode cX2_copy 41 = .ok (.invokestatic 55, 3) := by decide +kernel
theorem dX2_copy_44 : decode cX2_copy 44 = .ok (.aload_n 1, 1) := by decide +kernel
theorem dX2_copy_45 : decode cX2_copy 45 = .ok (.getfield 24, 3) := by decide +kernel
theorem dX2_copy_48 : decode cX2_copy 48 = .ok (.aload_n 0, 1) := by decide +kernel
theorem dX2_copy_49 : decode cX2_copy 49 = .ok (.getfield 24, 3) := by decide +kernel
theorem dX2_copy_52 : decode cX2_copy 52 = .ok (.invokestatic 55, 3) := by decide +kernel
theorem dX2_copy_55 : decode cX2_copy 55 = .ok (.aload_n 1, 1) := by decide +kernel
theorem dX2_copy_56 : decode cX2_copy 56 = .ok (.getfield 27, 3) := by decide +kernel
theorem dX2_copy_59 : decode cX2_copy 59 = .ok (.aload_n 0, 1) := by decide +kernel
theorem dX2_copy_60 : decode cX2_copy 60 = .ok (.getfield 27, 3) := by decide +kernel
theorem dX2_copy_63 : decode cX2_copy 63 = .ok (.invokestatic 55, 3) := by decide +kernel
theorem dX2_copy_66 : decode cX2_copy 66 = .ok (.aload_n 0, 1) := by decide +kernel
theorem dX2_copy_67 : decode cX2_copy 67 = .ok (.aload_n 1, 1) := by decide +kernel
theorem dX2_copy_68 : decode cX2_copy 68 = .ok (.getfield 33, 3) := by decide +kernel
theorem dX2_copy_71 : decode cX2_copy 71 = .ok (.putfield 33, 3) := by decide +kernel
theorem dX2_copy_74 : decode cX2_copy 74 = .ok (.aload_n 0, 1) := by decide +kernel
theorem dX2_copy_75 : decode cX2_copy 75 = .ok (.aload_n 1, 1) := by decide +kernel
theorem dX2_copy_76 : decode cX2_copy 76 = .ok (.getfield 37, 3) := by decide +kernel
theorem dX2_copy_79 : decode cX2_copy 79 = .ok (.putfield 37, 3) := by decide +kernel
theorem dX2_copy_82 : decode cX2_copy 82 = .ok (.aload_n 0, 1) := by decide +kernel
theorem dX2_copy_83 : decode cX2_copy 83 = .ok (.aload_n 1, 1) := by decide +kernel
theorem dX2_copy_84 : decode cX2_copy 84 = .ok (.getfield 40, 3) := by decide +kernel
theorem dX2_copy_87 : decode cX2_copy 87 = .ok (.putfield 40, 3) := by decide +kernel
theorem dX2_copy_90 : decode cX2_copy 90 = .ok (.aload_n 0, 1) := by decide +kernel
theorem dX2_copy_91 : decode cX2_copy 91 = .ok (.aload_n 1, 1) := by decide +kernel
theorem dX2_copy_92 : decode cX2_copy 92 = .ok (.getfield 43, 3) := by decide +kernel
theorem dX2_copy_95 : decode cX2_copy 95 = .ok (.putfield 43, 3) := by decide +kernel
theorem dX2_copy_98 : decode cX2_copy 98 = .ok (.aload_n 0, 1) := by decide +kernel
theorem dX2_copy_99 : decode cX2_copy 99 = .ok (.aload_n 1, 1) := by decide +kernel
theorem dX2_copy_100 : decode cX2_copy 100 = .ok (.getfield 46, 3) := by decide +kernel
theorem dX2_copy_103 : decode cX2_copy 103 = .ok (.putfield 46, 3) := by decide +kernel
theorem dX2_copy_106 : decode cX2_copy 106 = .ok (.aload_n 0, 1) := by decide +kernel
theorem dX2_copy_107 : decode cX2_copy 107 = .ok (.aload_n 1, 1) := by decide +kernel
theorem dX2_copy_108 : decode cX2_copy 108 = .ok (.getfield 49, 3) := by decide +kernel
theorem dX2_copy_111 : decode cX2_copy 111 = .ok (.putfield 49, 3) := by decide +kernel
theorem dX2_copy_114 : decode cX2_copy 114 = .ok (.aload_n 0, 1) := by decide +kernel
theorem dX2_copy_115 : decode cX2_copy 115 = .ok (.aload_n 1, 1) := by decide +kernel
theorem dX2_copy_116 : decode cX2_copy 116 = .ok (.getfield 52, 3) := by decide +kernel
theorem dX2_copy_119 : decode cX2_copy 119 = .ok (.putfield 52, 3) := by decide +kernel
theorem dX2_copy_122 : decode cX2_copy 122 = .ok (.return_, 1) := by decide +kernel
theorem dX2_addHair_0 : decode cX2_addHair 0 = .ok (.aload_n 0, 1) := by decide +kernel
theorem dX2_addHair_1 : decode cX2_addHair 1 = .ok (.getfield 33, 3) := by decide +kernel
theorem dX2_addHair_4 : decode cX2_addHair 4 = .ok (.iconst 3, 1) := by decide +kernel
theorem dX2_addHair_5 : decode cX2_addHair 5 = .ok (.if_icmp .lt 5, 3) := by decide +kernel
theorem dX2_addHair_8 : decode cX2_addHair 8 = .ok (.iconst 0, 1) := by decide +kernel
theorem dX2_addHair_9 : decode cX2_addHair 9 = .ok (.ireturn, 1) := by decide +kernel
theorem dX2_addHair_10 : decode cX2_addHair 10 = .ok (.aload_n 0, 1) := by decide +kernel
theorem dX2_addHair_11 : decode cX2_addHair 11 = .ok (.getfield 9, 3) := by decide +kernel
theorem dX2_addHair_14 : decode cX2_addHair 14 = .ok (.aload_n 0, 1) := by decide +kernel
theorem dX2_addHair_15 : decode cX2_addHair 15 = .ok (.getfield 33, 3) := by decide +kernel
theorem dX2_addHair_18 : decode cX2_addHair 18 = .ok (.iload_n 1, 1) := by decide +kernel
theorem dX2_addHair_19 : decode cX2_addHair 19 = .ok (.iastore, 1) := by decide +kernel
theorem dX2_addHair_20 : decode cX2_addHair 20 = .ok (.aload_n 0, 1) := by decide +kernel
theorem dX2_addHair_21 : decode cX2_addHair 21 = .ok (.getfield 15, 3) := by decide +kernel
theorem dX2_addHair_24 : decode cX2_addHair 24 = .ok (.aload_n 0, 1) := by decide +kernel
theorem dX2_addHair_25 : decode cX2_addHair 25 = .ok (.getfield 33, 3) := by decide +kernel
theorem dX2_addHair_28 : decode cX2_addHair 28 = .ok (.iload_n 2, 1) := by decide +kernel
theorem dX2_addHair_29 : decode cX2_addHair 29 = .ok (.iastore, 1) := by decide +kernel
theorem dX2_addHair_30 : decode cX2_addHair 30 = .ok (.aload_n 0, 1) := by decide +kernel
theorem dX2_addHair_31 : decode cX2_addHair 31 = .ok (.dup, 1) := by decide +kernel
theorem dX2_addHair_32 : decode cX2_addHair 32 = .ok (.getfield 43, 3) := by decide +kernel
theorem dX2_addHair_35 : decode cX2_addHair 35 = .ok (.iconst 1, 1) := by decide +kernel
theorem dX2_addHair_36 : decode cX2_addHair 36 = .ok (.aload_n 0, 1) := by decide +kernel
theorem dX2_addHair_37 : decode cX2_addHair 37 = .ok (.getfield 33, 3) := by decide +kernel
theorem dX2_addHair_40 : decode cX2_addHair 40 = .ok (.ishl, 1) := by decide +kernel
theorem dX2_addHair_41 : decode cX2_addHair 41 = .ok (.ior, 1) := by decide +kernel
theorem dX2_addHair_42 : decode cX2_addHair 42 = .ok (.putfield 43, 3) := by decide +kernel
theorem dX2_addHair_45 : decode cX2_addHair 45 = .ok (.aload_n 0, 1) := by decide +kernel
theorem dX2_addHair_46 : decode cX2_addHair 46 = .ok (.dup, 1) := by decide +kernel
theorem dX2_addHair_47 : decode cX2_addHair 47 = .ok (.getfield 33, 3) := by decide +kernel
theorem dX2_addHair_50 : decode cX2_addHair 50 = .ok (.iconst 1, 1) := by decide +kernel
theorem dX2_addHair_51 : decode cX2_addHair 51 = .ok (.iadd, 1) := by decide +kernel
theorem dX2_addHair_52 : decode cX2_addHair 52 = .ok (.putfield 33, 3) := by decide +kernel
theorem dX2_addHair_55 : decode cX2_addHair 55 = .ok (.iconst 1, 1) := by decide +kernel
theorem dX2_addHair_56 : decode cX2_addHair 56 = .ok (.ireturn, 1) := by decide +kernel
theorem dX2_addKing_0 : decode cX2_addKing 0 = .ok (.aload_n 0, 1) := by decide +kernel
theorem dX2_addKing_1 : decode cX2_addKing 1 = .ok (.getfield 37, 3) := by decide +kernel
theorem dX2_addKing_4 : decode cX2_addKing 4 = .ok (.iconst 4, 1) := by decide +kernel
theorem dX2_addKing_5 : decode cX2_addKing 5 = .ok (.if_icmp .lt 5, 3) := by decide +kernel
theorem dX2_addKing_8 : decode cX2_addKing 8 = .ok (.iconst 0, 1) := by decide +kernel
theorem dX2_addKing_9 : decode cX2_addKing 9 = .ok (.ireturn, 1) := by decide +kernel
theorem dX2_addKing_10 : decode cX2_addKing 10 = .ok (.aload_n 0, 1) := by decide +kernel
theorem dX2_addKing_11 : decode cX2_addKing 11 = .ok (.getfield 18, 3) := by decide +kernel
theorem dX2_addKing_14 : decode cX2_addKing 14 = .ok (.aload_n 0, 1) := by decide +kernel
theorem dX2_addKing_15 : decode cX2_addKing 15 = .ok (.getfield 37, 3) := by decide +kernel
theorem dX2_addKing_18 : decode cX2_addKing 18 = .ok (.iload_n 1, 1) := by decide +kernel
theorem dX2_addKing_19 : decode cX2_addKing 19 = .ok (.iastore, 1) := by decide +kernel
theorem dX2_addKing_20 : decode cX2_addKing 20 = .ok (.aload_n 0, 1) := by decide +kernel
theorem dX2_addKing_21 : decode cX2_addKing 21 = .ok (.getfield 21, 3) := by decide +kernel
theorem dX2_addKing_24 : decode cX2_addKing 24 = .ok (.aload_n 0, 1) := by decide +kernel
theorem dX2_addKing_25 : decode cX2_addKing 25 = .ok (.getfield 37, 3) := by decide +kernel
theorem dX2_addKing_28 : decode cX2_addKing 28 = .ok (.iload_n 2, 1) := by decide +kernel
theorem dX2_addKing_29 : decode cX2_addKing 29 = .ok (.iastore, 1) := by decide +kernel
theorem dX2_addKing_30 : decode cX2_addKing 30 = .ok (.aload_n 0, 1) := by decide +kernel
theorem dX2_addKing_31 : decode cX2_addKing 31 = .ok (.dup, 1) := by decide +kernel
theorem dX2_addKing_32 : decode cX2_addKing 32 = .ok (.getfield 37, 3) := by decide +kernel
theorem dX2_addKing_35 : decode cX2_addKing 35 = .ok (.iconst 1, 1) := by decide +kernel
theorem dX2_addKing_36 : decode cX2_addKing 36 = .ok (.iadd, 1) := by decide +kernel
theorem dX2_addKing_37 : decode cX2_addKing 37 = .ok (.putfield 37, 3) := by decide +kernel
theorem dX2_addKing_40 : decode cX2_addKing 40 = .ok (.iconst 1, 1) := by decide +kernel
theorem dX2_addKing_41 : decode cX2_addKing 41 = .ok (.ireturn, 1) := by decide +kernel
theorem dX2_addLaw_0 : decode cX2_addLaw 0 = .ok (.aload_n 0, 1) := by decide +kernel
theorem dX2_addLaw_1 : decode cX2_addLaw 1 = .ok (.getfield 40, 3) := by decide +kernel
theorem dX2_addLaw_4 : decode cX2_addLaw 4 = .ok (.iconst 3, 1) := by decide +kernel
theorem dX2_addLaw_5 : decode cX2_addLaw 5 = .ok (.if_icmp .lt 5, 3) := by decide +kernel
theorem dX2_addLaw_8 : decode cX2_addLaw 8 = .ok (.iconst 0, 1) := by decide +kernel
theorem dX2_addLaw_9 : decode cX2_addLaw 9 = .ok (.ireturn, 1) := by decide +kernel
theorem dX2_addLaw_10 : decode cX2_addLaw 10 = .ok (.aload_n 0, 1) := by decide +kernel
theorem dX2_addLaw_11 : decode cX2_addLaw 11 = .ok (.getfield 24, 3) := by decide +kernel
theorem dX2_addLaw_14 : decode cX2_addLaw 14 = .ok (.aload_n 0, 1) := by decide +kernel
theorem dX2_addLaw_15 : decode cX2_addLaw 15 = .ok (.getfield 40, 3) := by decide +kernel
theorem dX2_addLaw_18 : decode cX2_addLaw 18 = .ok (.iload_n 1, 1) := by decide +kernel
theorem dX2_addLaw_19 : decode cX2_addLaw 19 = .ok (.iastore, 1) := by decide +kernel
theorem dX2_addLaw_20 : decode cX2_addLaw 20 = .ok (.aload_n 0, 1) := by decide +kernel
theorem dX2_addLaw_21 : decode cX2_addLaw 21 = .ok (.getfield 27, 3) := by decide +kernel
theorem dX2_addLaw_24 : decode cX2_addLaw 24 = .ok (.aload_n 0, 1) := by decide +kernel
theorem dX2_addLaw_25 : decode cX2_addLaw 25 = .ok (.getfield 40, 3) := by decide +kernel
theorem dX2_addLaw_28 : decode cX2_addLaw 28 = .ok (.iload_n 2, 1) := by decide +kernel
theorem dX2_addLaw_29 : decode cX2_addLaw 29 = .ok (.iastore, 1) := by decide +kernel
theorem dX2_addLaw_30 : decode cX2_addLaw 30 = .ok (.aload_n 0, 1) := by decide +kernel
theorem dX2_addLaw_31 : decode cX2_addLaw 31 = .ok (.dup, 1) := by decide +kernel
theorem dX2_addLaw_32 : decode cX2_addLaw 32 = .ok (.getfield 40, 3) := by decide +kernel
theorem dX2_addLaw_35 : decode cX2_addLaw 35 = .ok (.iconst 1, 1) := by decide +kernel
theorem dX2_addLaw_36 : decode cX2_addLaw 36 = .ok (.iadd, 1) := by decide +kernel
theorem dX2_addLaw_37 : decode cX2_addLaw 37 = .ok (.putfield 40, 3) := by decide +kernel
theorem dX2_addLaw_40 : decode cX2_addLaw 40 = .ok (.iconst 1, 1) := by decide +kernel
theorem dX2_addLaw_41 : decode cX2_addLaw 41 = .ok (.ireturn, 1) := by decide +kernel
theorem dX2_wholeBit_0 : decode cX2_wholeBit 0 = .ok (.aload_n 0, 1) := by decide +kernel
theorem dX2_wholeBit_1 : decode cX2_wholeBit 1 = .ok (.getfield 43, 3) := by decide +kernel
theorem dX2_wholeBit_4 : decode cX2_wholeBit 4 = .ok (.iload_n 1, 1) := by decide +kernel
theorem dX2_wholeBit_5 : decode cX2_wholeBit 5 = .ok (.ishr, 1) := by decide +kernel
theorem dX2_wholeBit_6 : decode cX2_wholeBit 6 = .ok (.iconst 1, 1) := by decide +kernel
theorem dX2_wholeBit_7 : decode cX2_wholeBit 7 = .ok (.iand, 1) := by decide +kernel
theorem dX2_wholeBit_8 : decode cX2_wholeBit 8 = .ok (.ireturn, 1) := by decide +kernel
theorem dX2_breaks_0 : decode cX2_breaks 0 = .ok (.aload_n 0, 1) := by decide +kernel
theorem dX2_breaks_1 : decode cX2_breaks 1 = .ok (.iload_n 1, 1) := by decide +kernel
theorem dX2_breaks_2 : decode cX2_breaks 2 = .ok (.invokevirtual 59, 3) := by decide +kernel
theorem dX2_breaks_5 : decode cX2_breaks 5 = .ok (.ifCond .ne 5, 3) := by decide +kernel
theorem dX2_breaks_8 : decode cX2_breaks 8 = .ok (.iconst 0, 1) := by decide +kernel
theorem dX2_breaks_9 : decode cX2_breaks 9 = .ok (.ireturn, 1) := by decide +kernel
theorem dX2_breaks_10 : decode cX2_breaks 10 = .ok (.aload_n 0, 1) := by decide +kernel
theorem dX2_breaks_11 : decode cX2_breaks 11 = .ok (.getfield 9, 3) := by decide +kernel
theorem dX2_breaks_14 : decode cX2_breaks 14 = .ok (.iload_n 1, 1) := by decide +kernel
theorem dX2_breaks_15 : decode cX2_breaks 15 = .ok (.iaload, 1) := by decide +kernel
theorem dX2_breaks_16 : decode cX2_breaks 16 = .ok (.aload_n 0, 1) := by decide +kernel
theorem dX2_breaks_17 : decode cX2_breaks 17 = .ok (.getfield 15, 3) := by decide +kernel
theorem dX2_breaks_20 : decode cX2_breaks 20 = .ok (.iload_n 1, 1) := by decide +kernel
theorem dX2_breaks_21 : decode cX2_breaks 21 = .ok (.iaload, 1) := by decide +kernel
theorem dX2_breaks_22 : decode cX2_breaks 22 = .ok (.aload_n 0, 1) := by decide +kernel
theorem dX2_breaks_23 : decode cX2_breaks 23 = .ok (.getfield 46, 3) := by decide +kernel
theorem dX2_breaks_26 : decode cX2_breaks 26 = .ok (.aload_n 0, 1) := by decide +kernel
theorem dX2_breaks_27 : decode cX2_breaks 27 = .ok (.getfield 43, 3) := by decide +kernel
theorem dX2_breaks_30 : decode cX2_breaks 30 = .ok (.invokestatic 63, 3) := by decide +kernel
theorem dX2_breaks_33 : decode cX2_breaks 33 = .ok (.invokestatic 68, 3) := by decide +kernel
theorem dX2_breaks_36 : decode cX2_breaks 36 = .ok (.ireturn, 1) := by decide +kernel
theorem dX2_tryHour_0 : decode cX2_tryHour 0 = .ok (.iload_n 1, 1) := by decide +kernel
theorem dX2_tryHour_1 : decode cX2_tryHour 1 = .ok (.ifCond .lt 14, 3) := by decide +kernel
theorem dX2_tryHour_4 : decode cX2_tryHour 4 = .ok (.iload_n 1, 1) := by decide +kernel
theorem dX2_tryHour_5 : decode cX2_tryHour 5 = .ok (.aload_n 0, 1) := by decide +kernel
theorem dX2_tryHour_6 : decode cX2_tryHour 6 = .ok (.getfield 43, 3) := by decide +kernel
theorem dX2_tryHour_9 : decode cX2_tryHour 9 = .ok (.iconst (-1), 1) := by decide +kernel
theorem dX2_tryHour_10 : decode cX2_tryHour 10 = .ok (.ixor, 1) := by decide +kernel
theorem dX2_tryHour_11 : decode cX2_tryHour 11 = .ok (.iand, 1) := by decide +kernel
theorem dX2_tryHour_12 : decode cX2_tryHour 12 = .ok (.ifCond .eq 5, 3) := by decide +kernel
theorem dX2_tryHour_15 : decode cX2_tryHour 15 = .ok (.iconst (-1), 1) := by decide +kernel
theorem dX2_tryHour_16 : decode cX2_tryHour 16 = .ok (.ireturn, 1) := by decide +kernel
theorem dX2_tryHour_17 : decode cX2_tryHour 17 = .ok (.aload_n 0, 1) := by decide +kernel
theorem dX2_tryHour_18 : decode cX2_tryHour 18 = .ok (.getfield 43, 3) := by decide +kernel
theorem dX2_tryHour_21 : decode cX2_tryHour 21 = .ok (.ifCond .ne 6, 3) := by decide +kernel
theorem dX2_tryHour_24 : decode cX2_tryHour 24 = .ok (.bipush (-2), 2) := by decide +kernel
theorem dX2_tryHour_26 : decode cX2_tryHour 26 = .ok (.ireturn, 1) := by decide +kernel
theorem dX2_tryHour_27 : decode cX2_tryHour 27 = .ok (.aload_n 0, 1) := by decide +kernel
theorem dX2_tryHour_28 : decode cX2_tryHour 28 = .ok (.getfield 52, 3) := by decide +kernel
theorem dX2_tryHour_31 : decode cX2_tryHour 31 = .ok (.bipush 99, 2) := by decide +kernel
theorem dX2_tryHour_33 : decode cX2_tryHour 33 = .ok (.if_icmp .lt 6, 3) := by decide +kernel
theorem dX2_tryHour_36 : decode cX2_tryHour 36 = .ok (.bipush (-3), 2) := by decide +kernel
theorem dX2_tryHour_38 : decode cX2_tryHour 38 = .ok (.ireturn, 1) := by decide +kernel
theorem dX2_tryHour_39 : decode cX2_tryHour 39 = .ok (.aload_n 0, 1) := by decide +kernel
theorem dX2_tryHour_40 : decode cX2_tryHour 40 = .ok (.iload_n 1, 1) := by decide +kernel
theorem dX2_tryHour_41 : decode cX2_tryHour 41 = .ok (.invokevirtual 72, 3) := by decide +kernel
theorem dX2_tryHour_44 : decode cX2_tryHour 44 = .ok (.aload_n 0, 1) := by decide +kernel
theorem dX2_tryHour_45 : decode cX2_tryHour 45 = .ok (.getfield 43, 3) := by decide +kernel
theorem dX2_tryHour_48 : decode cX2_tryHour 48 = .ok (.invokestatic 63, 3) := by decide +kernel
theorem dX2_tryHour_51 : decode cX2_tryHour 51 = .ok (.ireturn, 1) := by decide +kernel
theorem dX2_passHour_0 : decode cX2_passHour 0 = .ok (.aload_n 0, 1) := by decide +kernel
theorem dX2_passHour_1 : decode cX2_passHour 1 = .ok (.dup, 1) := by decide +kernel
theorem dX2_passHour_2 : decode cX2_passHour 2 = .ok (.getfield 43, 3) := by decide +kernel
theorem dX2_passHour_5 : decode cX2_passHour 5 = .ok (.iload_n 1, 1) := by decide +kernel
theorem dX2_passHour_6 : decode cX2_passHour 6 = .ok (.iconst (-1), 1) := by decide +kernel
theorem dX2_passHour_7 : decode cX2_passHour 7 = .ok (.ixor, 1) := by decide +kernel
theorem dX2_passHour_8 : decode cX2_passHour 8 = .ok (.iand, 1) := by decide +kernel
theorem dX2_passHour_9 : decode cX2_passHour 9 = .ok (.putfield 43, 3) := by decide +kernel
theorem dX2_passHour_12 : decode cX2_passHour 12 = .ok (.iconst 0, 1) := by decide +kernel
theorem dX2_passHour_13 : decode cX2_passHour 13 = .ok (.istore_n 2, 1) := by decide +kernel
theorem dX2_passHour_14 : decode cX2_passHour 14 = .ok (.iload_n 2, 1) := by decide +kernel
theorem dX2_passHour_15 : decode cX2_passHour 15 = .ok (.aload_n 0, 1) := by decide +kernel
theorem dX2_passHour_16 : decode cX2_passHour 16 = .ok (.getfield 33, 3) := by decide +kernel
theorem dX2_passHour_19 : decode cX2_passHour 19 = .ok (.if_icmp .ge 28, 3) := by decide +kernel
theorem dX2_passHour_22 : decode cX2_passHour 22 = .ok (.aload_n 0, 1) := by decide +kernel
theorem dX2_passHour_23 : decode cX2_passHour 23 = .ok (.getfield 15, 3) := by decide +kernel
theorem dX2_passHour_26 : decode cX2_passHour 26 = .ok (.iload_n 2, 1) := by decide +kernel
theorem dX2_passHour_27 : decode cX2_passHour 27 = .ok (.bipush 9, 2) := by decide +kernel
theorem dX2_passHour_29 : decode cX2_passHour 29 = .ok (.aload_n 0, 1) := by decide +kernel
theorem dX2_passHour_30 : decode cX2_passHour 30 = .ok (.getfield 15, 3) := by decide +kernel
theorem dX2_passHour_33 : decode cX2_passHour 33 = .ok (.iload_n 2, 1) := by decide +kernel
theorem dX2_passHour_34 : decode cX2_passHour 34 = .ok (.iaload, 1) := by decide +kernel
theorem dX2_passHour_35 : decode cX2_passHour 35 = .ok (.iconst 1, 1) := by decide +kernel
theorem dX2_passHour_36 : decode cX2_passHour 36 = .ok (.iadd, 1) := by decide +kernel
theorem dX2_passHour_37 : decode cX2_passHour 37 = .ok (.invokestatic 76, 3) := by decide +kernel
theorem dX2_passHour_40 : decode cX2_passHour 40 = .ok (.iastore, 1) := by decide +kernel
theorem dX2_passHour_41 : decode cX2_passHour 41 = .ok (.iinc 2 1, 3) := by decide +kernel
theorem dX2_passHour_44 : decode cX2_passHour 44 = .ok (.goto (-30), 3) := by decide +kernel
theorem dX2_passHour_47 : decode cX2_passHour 47 = .ok (.aload_n 0, 1) := by decide +kernel
theorem dX2_passHour_48 : decode cX2_passHour 48 = .ok (.dup, 1) := by decide +kernel
theorem dX2_passHour_49 : decode cX2_passHour 49 = .ok (.getfield 52, 3) := by decide +kernel
theorem dX2_passHour_52 : decode cX2_passHour 52 = .ok (.iconst 1, 1) := by decide +kernel
theorem dX2_passHour_53 : decode cX2_passHour 53 = .ok (.iadd, 1) := by decide +kernel
theorem dX2_passHour_54 : decode cX2_passHour 54 = .ok (.putfield 52, 3) := by decide +kernel
theorem dX2_passHour_57 : decode cX2_passHour 57 = .ok (.return_, 1) := by decide +kernel
theorem dX2_allAges_0 : decode cX2_allAges 0 = .ok (.iconst 0, 1) := by decide +kernel
theorem dX2_allAges_1 : decode cX2_allAges 1 = .ok (.istore_n 1, 1) := by decide +kernel
theorem dX2_allAges_2 : decode cX2_allAges 2 = .ok (.iconst 0, 1) := by decide +kernel
theorem dX2_allAges_3 : decode cX2_allAges 3 = .ok (.istore_n 2, 1) := by decide +kernel
theorem dX2_allAges_4 : decode cX2_allAges 4 = .ok (.iload_n 2, 1) := by decide +kernel
theorem dX2_allAges_5 : decode cX2_allAges 5 = .ok (.aload_n 0, 1) := by decide +kernel
theorem dX2_allAges_6 : decode cX2_allAges 6 = .ok (.getfield 33, 3) := by decide +kernel
theorem dX2_allAges_9 : decode cX2_allAges 9 = .ok (.if_icmp .ge 18, 3) := by decide +kernel
theorem dX2_allAges_12 : decode cX2_allAges 12 = .ok (.iload_n 1, 1) := by decide +kernel
theorem dX2_allAges_13 : decode cX2_allAges 13 = .ok (.aload_n 0, 1) := by decide +kernel
theorem dX2_allAges_14 : decode cX2_allAges 14 = .ok (.getfield 15, 3) := by decide +kernel
theorem dX2_allAges_17 : decode cX2_allAges 17 = .ok (.iload_n 2, 1) := by decide +kernel
theorem dX2_allAges_18 : decode cX2_allAges 18 = .ok (.iaload, 1) := by decide +kernel
theorem dX2_allAges_19 : decode cX2_allAges 19 = .ok (.iadd, 1) := by decide +kernel
theorem dX2_allAges_20 : decode cX2_allAges 20 = .ok (.istore_n 1, 1) := by decide +kernel
theorem dX2_allAges_21 : decode cX2_allAges 21 = .ok (.iinc 2 1, 3) := by decide +kernel
theorem dX2_allAges_24 : decode cX2_allAges 24 = .ok (.goto (-20), 3) := by decide +kernel
theorem dX2_allAges_27 : decode cX2_allAges 27 = .ok (.iload_n 1, 1) := by decide +kernel
theorem dX2_allAges_28 : decode cX2_allAges 28 = .ok (.ireturn, 1) := by decide +kernel
def rclear (r : rT) : rT := fun x => if x = 6 then (fun j => match j with
  | 4 => 3
  | 5 => 9
  | _ => 0) else r x
set_option maxRecDepth 100000 in
set_option maxHeartbeats 4000000 in
theorem mX2_clear (r : rT) : J KX2_clear 7 (fun o B => o = none ∧ B = wR (rclear r)) 0 [some (.ref 0)] [] (wR r) 0 0 := by
  unfold wR
  refine J.aload_n dX2_clear_0 rfl rfl ?_
  refine J.iconst (0) dX2_clear_1 (by decide) ?_
  refine J.putfield dX2_clear_2 jFX2_33 jP2_6 rfl rfl rfl (Nat.le_of_ble_eq_true rfl) ?_
  dsimp only [List.set]
  refine J.aload_n dX2_clear_5 rfl rfl ?_
  refine J.iconst (0) dX2_clear_6 (by decide) ?_
  refine J.putfield dX2_clear_7 jFX2_37 jP2_7 rfl rfl rfl (Nat.le_of_ble_eq_true rfl) ?_
  dsimp only [List.set]
  refine J.aload_n dX2_clear_10 rfl rfl ?_
  refine J.iconst (0) dX2_clear_11 (by decide) ?_
  refine J.putfield dX2_clear_12 jFX2_40 jP2_8 rfl rfl rfl (Nat.le_of_ble_eq_true rfl) ?_
  dsimp only [List.set]
  refine J.aload_n dX2_clear_15 rfl rfl ?_
  refine J.iconst (0) dX2_clear_16 (by decide) ?_
  refine J.putfield dX2_clear_17 jFX2_43 jP2_9 rfl rfl rfl (Nat.le_of_ble_eq_true rfl) ?_
  dsimp only [List.set]
  refine J.aload_n dX2_clear_20 rfl rfl ?_
  refine J.iconst (3) dX2_clear_21 (by decide) ?_
  refine J.putfield dX2_clear_22 jFX2_46 jP2_10 rfl rfl rfl (Nat.le_of_ble_eq_true rfl) ?_
  dsimp only [List.set]
  refine J.aload_n dX2_clear_25 rfl rfl ?_
  refine J.bipush (9) dX2_clear_26 (by decide) ?_
  refine J.putfield dX2_clear_28 jFX2_49 jP2_11 rfl rfl rfl (Nat.le_of_ble_eq_true rfl) ?_
  dsimp only [List.set]
  refine J.aload_n dX2_clear_31 rfl rfl ?_
  refine J.iconst (0) dX2_clear_32 (by decide) ?_
  refine J.putfield dX2_clear_33 jFX2_52 jP2_12 rfl rfl rfl (Nat.le_of_ble_eq_true rfl) ?_
  dsimp only [List.set]
  exact J.vret dX2_clear_36 rfl (Nat.le_refl _) (Nat.le_refl _) ⟨rfl, rfl⟩
theorem bit_eval : ∀ w, w < 8 → ∀ i, i < 3 → nI w >>> (nI i &&& 31) &&& 1 = nI (bit w i) := by decide +kernel
set_option maxRecDepth 100000 in
set_option maxHeartbeats 4000000 in
theorem mX2_wholeBit (r : rT) (i : Nat) (hw : r 6 3 < 8) (hi : i < 3) : J KX2_wholeBit 7 (fun o B => o = some (.int (nI (bit (r 6 3) i))) ∧ B = wR r) 0 [some (.ref 0), some (.int (nI i))] [] (wR r) 0 0 := by
  unfold wR
  refine J.aload_n dX2_wholeBit_0 rfl rfl ?_
  refine J.getfield dX2_wholeBit_1 jFX2_43 rfl rfl ?_
  refine J.iload_n dX2_wholeBit_4 rfl rfl ?_
  refine J.ishr dX2_wholeBit_5 ?_
  refine J.iconst (1) dX2_wholeBit_6 (by decide) ?_
  refine J.iand dX2_wholeBit_7 ?_
  exact J.iret dX2_wholeBit_8 rfl rfl (Nat.le_refl _) (Nat.le_refl _) ⟨congrArg (fun x => some (Value.int x)) (bit_eval _ hw i hi), rfl⟩
set_option maxRecDepth 100000 in
set_option maxHeartbeats 4000000 in
theorem mX2_copyRow_l (n : Nat) (f g : Nat → Int32) (hn : n < 2147483648) : ∀ (k i : Nat), i + k = n → J KX2_copyRow 2 (fun o B => o = none ∧ B = [.inl (0, n, .inl f), .inl (0, n, .inl f)]) 2 [some (.ref 0), some (.ref 1), some (.int (nI i))] [] [.inl (0, n, .inl f), .inl (0, n, .inl (fun j => if j < i then f j else g j))] 0 0 := by
  intro k
  induction k with
  | zero =>
    intro i hi
    obtain rfl : i = n := by omega
    refine J.iload_n dX2_copyRow_2 rfl rfl ?_
    refine J.aload_n dX2_copyRow_3 rfl rfl ?_
    refine J.arraylength dX2_copyRow_4 rfl (by decide) ?_
    refine J.icmp_ge (tgt := 26) dX2_copyRow_5 (by decide) (fun c5 => ?_) (fun c5 => absurd c5 (fun h => h (Int32.le_refl _)))
    refine J.arrI 1 0 f rfl (fun j hj => if_pos hj) ?_
    exact J.vret dX2_copyRow_26 rfl (Nat.le_refl _) (Nat.le_refl _) ⟨rfl, rfl⟩
  | succ k ih =>
    intro i hi
    refine J.iload_n dX2_copyRow_2 rfl rfl ?_
    refine J.aload_n dX2_copyRow_3 rfl rfl ?_
    refine J.arraylength dX2_copyRow_4 rfl (by decide) ?_
    refine J.icmp_ge (tgt := 26) dX2_copyRow_5 (by decide) (fun c5 => absurd c5 (nI_ge (by omega) hn)) (fun c5 => ?_)
    refine J.iload_n dX2_copyRow_8 rfl rfl ?_
    refine J.aload_n dX2_copyRow_9 rfl rfl ?_
    refine J.arraylength dX2_copyRow_10 rfl (by decide) ?_
    refine J.icmp_ge (tgt := 26) dX2_copyRow_11 (by decide) (fun c11 => absurd c11 (nI_ge (by omega) hn)) (fun c11 => ?_)
    refine J.aload_n dX2_copyRow_14 rfl rfl ?_
    refine J.iload_n dX2_copyRow_15 rfl rfl ?_
    refine J.aload_n dX2_copyRow_16 rfl rfl ?_
    refine J.iload_n dX2_copyRow_17 rfl rfl ?_
    refine J.ialoadN dX2_copyRow_18 rfl (show i < n by omega) ?_ hn
    refine J.iastoreN dX2_copyRow_19 rfl (show i < n by omega) ?_ hn
    dsimp only [List.set]
    refine J.iinc (1) dX2_copyRow_20 (by decide) rfl (by decide) rfl ?_
    dsimp only [List.set]
    refine J.goto (tgt := 2) dX2_copyRow_23 (by decide) ?_
    exact J.at (ih (i + 1) (by omega)) (by rw [← nI_1]) rfl (by rw [← jlt_s]; rfl)
set_option maxRecDepth 100000 in
set_option maxHeartbeats 4000000 in
theorem mX2_copyRow (n : Nat) (f g : Nat → Int32) (hn : n < 2147483648) : J KX2_copyRow 2 (fun o B => o = none ∧ B = [.inl (0, n, .inl f), .inl (0, n, .inl f)]) 0 [some (.ref 0), some (.ref 1), none] [] [.inl (0, n, .inl f), .inl (0, n, .inl g)] 0 0 := by
  refine J.iconst (0) dX2_copyRow_0 (by decide) ?_
  refine J.istore_n dX2_copyRow_1 rfl (by decide) rfl ?_
  dsimp only [List.set]
  exact J.at (mX2_copyRow_l n f g hn n 0 (by omega)) rfl rfl (by rw [jlt_0])
/-- a realm whose cells are numbered from b on -/
def wRb (b : Nat) (r : rT) : jW := [.inr (2, [.ref (b + 1), .ref (b + 2), .ref (b + 3), .ref (b + 4), .ref (b + 5), .ref (b + 6), .int (nI (r 6 0)), .int (nI (r 6 1)), .int (nI (r 6 2)), .int (nI (r 6 3)), .int (nI (r 6 4)), .int (nI (r 6 5)), .int (nI (r 6 6))]),
  .inl (0, 3, .inl (fun j => nI (r 0 j))), .inl (0, 3, .inl (fun j => nI (r 1 j))), .inl (0, 4, .inl (fun j => nI (r 2 j))), .inl (0, 4, .inl (fun j => nI (r 3 j))), .inl (0, 3, .inl (fun j => nI (r 4 j))), .inl (0, 3, .inl (fun j => nI (r 5 j)))]
set_option maxRecDepth 100000 in
set_option maxHeartbeats 4000000 in
theorem mX2_copy (r o : rT) : J KX2_copy 14 (fun v B => v = none ∧ B = wR o ++ wRb 7 o) 0 [some (.ref 0), some (.ref 7)] [] (wR r ++ wRb 7 o) 0 0 := by
  unfold wR wRb
  dsimp only [List.cons_append, List.nil_append]
  refine J.aload_n dX2_copy_0 rfl rfl ?_
  refine J.getfield dX2_copy_1 jFX2_9 rfl rfl ?_
  refine J.aload_n dX2_copy_4 rfl rfl ?_
  refine J.getfield dX2_copy_5 jFX2_9 rfl rfl ?_
  refine J.cs (as := [.ref 0, .ref 1]) (is := [8, 1]) okX2_copyRow jcX2_55 (mX2_copyRow 3 (fun j => nI (o 0 j)) (fun j => nI (r 0 j)) (by decide)) dX2_copy_8 rfl rfl rfl rfl rfl rfl (fun r9 B9 hq => ?_)
  obtain ⟨rfl, rfl⟩ := hq
  refine ⟨rfl, ?_⟩
  dsimp only [Option.map, Option.toList, jput, List.map, jrE, jgA, jg, jr, List.set, List.cons_append, List.nil_append]
  refine J.aload_n dX2_copy_11 rfl rfl ?_
  refine J.getfield dX2_copy_12 jFX2_15 rfl rfl ?_
  refine J.aload_n dX2_copy_15 rfl rfl ?_
  refine J.getfield dX2_copy_16 jFX2_15 rfl rfl ?_
  refine J.cs (as := [.ref 0, .ref 1]) (is := [9, 2]) okX2_copyRow jcX2_55 (mX2_copyRow 3 (fun j => nI (o 1 j)) (fun j => nI (r 1 j)) (by decide)) dX2_copy_19 rfl rfl rfl rfl rfl rfl (fun r9 B9 hq => ?_)
  obtain ⟨rfl, rfl⟩ := hq
  refine ⟨rfl, ?_⟩
  dsimp only [Option.map, Option.toList, jput, List.map, jrE, jgA, jg, jr, List.set, List.cons_append, List.nil_append]
  refine J.aload_n dX2_copy_22 rfl rfl ?_
  refine J.getfield dX2_copy_23 jFX2_18 rfl rfl ?_
  refine J.aload_n dX2_copy_26 rfl rfl ?_
  refine J.getfield dX2_copy_27 jFX2_18 rfl rfl ?_
  refine J.cs (as := [.ref 0, .ref 1]) (is := [10, 3]) okX2_copyRow jcX2_55 (mX2_copyRow 4 (fun j => nI (o 2 j)) (fun j => nI (r 2 j)) (by decide)) dX2_copy_30 rfl rfl rfl rfl rfl rfl (fun r9 B9 hq => ?_)
  obtain ⟨rfl, rfl⟩ := hq
  refine ⟨rfl, ?_⟩
  dsimp only [Option.map, Option.toList, jput, List.map, jrE, jgA, jg, jr, List.set, List.cons_append, List.nil_append]
  refine J.aload_n dX2_copy_33 rfl rfl ?_
  refine J.getfield dX2_copy_34 jFX2_21 rfl rfl ?_
  refine J.aload_n dX2_copy_37 rfl rfl ?_
  refine J.getfield dX2_copy_38 jFX2_21 rfl rfl ?_
  refine J.cs (as := [.ref 0, .ref 1]) (is := [11, 4]) okX2_copyRow jcX2_55 (mX2_copyRow 4 (fun j => nI (o 3 j)) (fun j => nI (r 3 j)) (by decide)) dX2_copy_41 rfl rfl rfl rfl rfl rfl (fun r9 B9 hq => ?_)
  obtain ⟨rfl, rfl⟩ := hq
  refine ⟨rfl, ?_⟩
  dsimp only [Option.map, Option.toList, jput, List.map, jrE, jgA, jg, jr, List.set, List.cons_append, List.nil_append]
  refine J.aload_n dX2_copy_44 rfl rfl ?_
  refine J.getfield dX2_copy_45 jFX2_24 rfl rfl ?_
  refine J.aload_n dX2_copy_48 rfl rfl ?_
  refine J.getfield dX2_copy_49 jFX2_24 rfl rfl ?_
  refine J.cs (as := [.ref 0, .ref 1]) (is := [12, 5]) okX2_copyRow jcX2_55 (mX2_copyRow 3 (fun j => nI (o 4 j)) (fun j => nI (r 4 j)) (by decide)) dX2_copy_52 rfl rfl rfl rfl rfl rfl (fun r9 B9 hq => ?_)
  obtain ⟨rfl, rfl⟩ := hq
  refine ⟨rfl, ?_⟩
  dsimp only [Option.map, Option.toList, jput, List.map, jrE, jgA, jg, jr, List.set, List.cons_append, List.nil_append]
  refine J.aload_n dX2_copy_55 rfl rfl ?_
  refine J.getfield dX2_copy_56 jFX2_27 rfl rfl ?_
  refine J.aload_n dX2_copy_59 rfl rfl ?_
  refine J.getfield dX2_copy_60 jFX2_27 rfl rfl ?_
  refine J.cs (as := [.ref 0, .ref 1]) (is := [13, 6]) okX2_copyRow jcX2_55 (mX2_copyRow 3 (fun j => nI (o 5 j)) (fun j => nI (r 5 j)) (by decide)) dX2_copy_63 rfl rfl rfl rfl rfl rfl (fun r9 B9 hq => ?_)
  obtain ⟨rfl, rfl⟩ := hq
  refine ⟨rfl, ?_⟩
  dsimp only [Option.map, Option.toList, jput, List.map, jrE, jgA, jg, jr, List.set, List.cons_append, List.nil_append]
  refine J.aload_n dX2_copy_66 rfl rfl ?_
  refine J.aload_n dX2_copy_67 rfl rfl ?_
  refine J.getfield dX2_copy_68 jFX2_33 rfl rfl ?_
  refine J.putfield dX2_copy_71 jFX2_33 jP2_6 rfl rfl rfl (Nat.le_of_ble_eq_true rfl) ?_
  dsimp only [List.set]
  refine J.aload_n dX2_copy_74 rfl rfl ?_
  refine J.aload_n dX2_copy_75 rfl rfl ?_
  refine J.getfield dX2_copy_76 jFX2_37 rfl rfl ?_
  refine J.putfield dX2_copy_79 jFX2_37 jP2_7 rfl rfl rfl (Nat.le_of_ble_eq_true rfl) ?_
  dsimp only [List.set]
  refine J.aload_n dX2_copy_82 rfl rfl ?_
  refine J.aload_n dX2_copy_83 rfl rfl ?_
  refine J.getfield dX2_copy_84 jFX2_40 rfl rfl ?_
  refine J.putfield dX2_copy_87 jFX2_40 jP2_8 rfl rfl rfl (Nat.le_of_ble_eq_true rfl) ?_
  dsimp only [List.set]
  refine J.aload_n dX2_copy_90 rfl rfl ?_
  refine J.aload_n dX2_copy_91 rfl rfl ?_
  refine J.getfield dX2_copy_92 jFX2_43 rfl rfl ?_
  refine J.putfield dX2_copy_95 jFX2_43 jP2_9 rfl rfl rfl (Nat.le_of_ble_eq_true rfl) ?_
  dsimp only [List.set]
  refine J.aload_n dX2_copy_98 rfl rfl ?_
  refine J.aload_n dX2_copy_99 rfl rfl ?_
  refine J.getfield dX2_copy_100 jFX2_46 rfl rfl ?_
  refine J.putfield dX2_copy_103 jFX2_46 jP2_10 rfl rfl rfl (Nat.le_of_ble_eq_true rfl) ?_
  dsimp only [List.set]
  refine J.aload_n dX2_copy_106 rfl rfl ?_
  refine J.aload_n dX2_copy_107 rfl rfl ?_
  refine J.getfield dX2_copy_108 jFX2_49 rfl rfl ?_
  refine J.putfield dX2_copy_111 jFX2_49 jP2_11 rfl rfl rfl (Nat.le_of_ble_eq_true rfl) ?_
  dsimp only [List.set]
  refine J.aload_n dX2_copy_114 rfl rfl ?_
  refine J.aload_n dX2_copy_115 rfl rfl ?_
  refine J.getfield dX2_copy_116 jFX2_52 rfl rfl ?_
  refine J.putfield dX2_copy_119 jFX2_52 jP2_12 rfl rfl rfl (Nat.le_of_ble_eq_true rfl) ?_
  dsimp only [List.set]
  exact J.vret dX2_copy_122 rfl (Nat.le_refl _) (Nat.le_refl _) ⟨rfl, rfl⟩
end
section
theorem wo_eval : ∀ w, w < 8 → ∀ b, b < 8 → nI w &&& (nI b ^^^ -1) = nI (w &&& (7 - b)) := by decide +kernel
theorem wo_le {w b : Nat} : w &&& (7 - b) ≤ w := Nat.and_le_left
theorem wo_7 {w b : Nat} : w &&& (7 - b) < 8 := by
  have : w &&& (7 - b) ≤ 7 - b := Nat.and_le_right
  omega
/-- what of a realm an HOUR leaves in which b breaks -/
def rpass (r : rT) (b : Nat) : rT := fun x => if x = 6 then (fun j => match j with
  | 3 => r 6 3 &&& (7 - b)
  | 6 => r 6 6 + 1
  | j => r 6 j) else if x = 1 then (fun j => if j < r 6 0 then min 9 (r 1 j + 1) else r 1 j) else r x
def rages (r : rT) : Nat → Nat
  | 0 => 0
  | n + 1 => rages r n + r 1 n
theorem rages_le {r : rT} (h : ∀ i, r 1 i ≤ 9) : ∀ n, rages r n ≤ 9 * n
  | 0 => Nat.le_refl _
  | n + 1 => by have := rages_le h n; have := h n; simp only [rages]; omega
/-- BREAKS of a HAIR that there is -/
def rbrk (r : rT) (i : Nat) : Nat := if bit (r 6 3) i = 0 then 0 else brk (r 0 i) (r 1 i) (r 6 4) (pc3 (r 6 3))
set_option maxRecDepth 100000 in
set_option maxHeartbeats 4000000 in
theorem mX2_breaks (r : rT) (i : Nat) (hr : rOK r) (hi : i < 3) : J KX2_breaks 7 (fun o B => o = some (.int (nI (rbrk r i))) ∧ B = wR r) 0 [some (.ref 0), some (.int (nI i))] [] (wR r) 0 0 := by
  refine J.aload_n dX2_breaks_0 rfl rfl ?_
  refine J.iload_n dX2_breaks_1 rfl rfl ?_
  refine J.cv (as := [.int _]) (is := [0, 1, 2, 3, 4, 5, 6]) (o := 0) okX2_wholeBit jcX2_59 (mX2_wholeBit r i hr.w hi) dX2_breaks_2 rfl rfl rfl rfl rfl rfl rfl (fun r9 B9 hq => ?_)
  obtain ⟨rfl, rfl⟩ := hq
  refine ⟨rfl, ?_⟩
  show J _ _ _ _ _ (.int _ :: _) (wR r) _ _
  refine J.if_ne (tgt := 10) dX2_breaks_5 (by decide) (fun c5 => ?_) (fun c5 => ?_)
  · refine J.aload_n dX2_breaks_10 rfl rfl ?_
    refine J.getfield dX2_breaks_11 jFX2_9 rfl rfl ?_
    refine J.iload_n dX2_breaks_14 rfl rfl ?_
    refine J.ialoadN dX2_breaks_15 rfl hi ?_
    refine J.aload_n dX2_breaks_16 rfl rfl ?_
    refine J.getfield dX2_breaks_17 jFX2_15 rfl rfl ?_
    refine J.iload_n dX2_breaks_20 rfl rfl ?_
    refine J.ialoadN dX2_breaks_21 rfl hi ?_
    refine J.aload_n dX2_breaks_22 rfl rfl ?_
    refine J.getfield dX2_breaks_23 jFX2_46 rfl rfl ?_
    refine J.aload_n dX2_breaks_26 rfl rfl ?_
    refine J.getfield dX2_breaks_27 jFX2_43 rfl rfl ?_
    refine J.cs (as := [.int _]) (is := []) okJ6_bitCount_0f7a4 jcX2_63 (mJ6_bitCount_0f7a4 _ hr.w) dX2_breaks_30 rfl rfl rfl rfl rfl rfl (fun r9 B9 hq => ?_)
    obtain ⟨rfl, rfl⟩ := hq
    refine ⟨rfl, ?_⟩
    show J _ _ _ _ _ (.int _ :: _) (wR r) _ _
    refine J.cs (as := [.int _, .int _, .int _, .int _]) (is := []) okX6_breaksOf jcX2_68 (mX6_breaksOf (r 0 i) (r 1 i) (r 6 4) (pc3 (r 6 3)) (by have := hr.2.2.2.2.2.2.2.2.1 i; omega) (by have := hr.2.2.2.2.2.2.2.2.2.1 i; omega) (by have := hr.2.2.2.2.2.1; omega) (by have := pc3_le (r 6 3); omega)) dX2_breaks_33 rfl rfl rfl rfl rfl rfl (fun r9 B9 hq => ?_)
    obtain ⟨rfl, rfl⟩ := hq
    refine ⟨rfl, ?_⟩
    show J _ _ _ _ _ (.int _ :: _) (wR r) _ _
    exact J.iret dX2_breaks_36 rfl rfl (Nat.le_refl _) (Nat.le_refl _) ⟨congrArg (fun x => some (Value.int x)) (by rw [rbrk, if_neg (fun h => c5 (by rw [h]; rfl))]), rfl⟩
  · refine J.iconst (0) dX2_breaks_8 (by decide) ?_
    exact J.iret dX2_breaks_9 rfl rfl (Nat.le_refl _) (Nat.le_refl _) ⟨congrArg (fun x => some (Value.int x)) (by rw [rbrk, if_pos ((nI_eqi (b := 0) (by have := bit_le (r 6 3) i; omega) (by decide)).mp c5)]; rfl), rfl⟩
set_option maxRecDepth 100000 in
set_option maxHeartbeats 4000000 in
theorem mX2_passHour_l (r : rT) (b : Nat) (h3 : r 6 0 ≤ 3) (h9 : ∀ i, r 1 i ≤ 9) : ∀ (k9 i : Nat), i + k9 = r 6 0 → J KX2_passHour 7 (fun o B => o = none ∧ B = wR (rpass r b)) 14 [some (.ref 0), some (.int (nI b)), some (.int (nI i))] [] [.inr (2, [.ref 1, .ref 2, .ref 3, .ref 4, .ref 5, .ref 6, .int (nI (r 6 0)), .int (nI (r 6 1)), .int (nI (r 6 2)), .int (nI (r 6 3 &&& (7 - b))), .int (nI (r 6 4)), .int (nI (r 6 5)), .int (nI (r 6 6))]), .inl (0, 3, .inl (fun j => nI (r 0 j))), .inl (0, 3, .inl (fun j => nI (if j < i then min 9 (r 1 j + 1) else r 1 j))), .inl (0, 4, .inl (fun j => nI (r 2 j))), .inl (0, 4, .inl (fun j => nI (r 3 j))), .inl (0, 3, .inl (fun j => nI (r 4 j))), .inl (0, 3, .inl (fun j => nI (r 5 j)))] 0 0 := by
  intro k9
  induction k9 with
  | zero =>
    intro i hi
    obtain hiN : i = r 6 0 := by omega
    subst hiN
    refine J.iload_n dX2_passHour_14 rfl rfl ?_
    refine J.aload_n dX2_passHour_15 rfl rfl ?_
    refine J.getfield dX2_passHour_16 jFX2_33 rfl rfl ?_
    refine J.icmp_ge (tgt := 47) dX2_passHour_19 (by decide) (fun c19 => ?_) (fun c19 => absurd c19 (fun h => h (Int32.le_refl _)))
    refine J.aload_n dX2_passHour_47 rfl rfl ?_
    refine J.dup dX2_passHour_48 rfl ?_
    refine J.getfield dX2_passHour_49 jFX2_52 rfl rfl ?_
    refine J.iconst (1) dX2_passHour_52 (by decide) ?_
    refine J.iadd dX2_passHour_53 ?_
    rw [nI_1]
    refine J.putfield dX2_passHour_54 jFX2_52 jP2_12 rfl rfl rfl (Nat.le_of_ble_eq_true rfl) ?_
    dsimp only [List.set]
    exact J.vret dX2_passHour_57 rfl (Nat.le_refl _) (Nat.le_refl _) ⟨rfl, rfl⟩
  | succ k9 ih =>
    intro i hi
    have hiN : i < r 6 0 := by omega
    refine J.iload_n dX2_passHour_14 rfl rfl ?_
    refine J.aload_n dX2_passHour_15 rfl rfl ?_
    refine J.getfield dX2_passHour_16 jFX2_33 rfl rfl ?_
    refine J.icmp_ge (tgt := 47) dX2_passHour_19 (by decide) (fun c19 => absurd c19 (nI_ge hiN (by omega))) (fun c19 => ?_)
    refine J.aload_n dX2_passHour_22 rfl rfl ?_
    refine J.getfield dX2_passHour_23 jFX2_15 rfl rfl ?_
    refine J.iload_n dX2_passHour_26 rfl rfl ?_
    refine J.bipush (9) dX2_passHour_27 (by decide) ?_
    refine J.aload_n dX2_passHour_29 rfl rfl ?_
    refine J.getfield dX2_passHour_30 jFX2_15 rfl rfl ?_
    refine J.iload_n dX2_passHour_33 rfl rfl ?_
    refine J.ialoadN dX2_passHour_34 rfl (show i < 3 by omega) ?_
    rw [if_neg (Nat.lt_irrefl i)]
    refine J.iconst (1) dX2_passHour_35 (by decide) ?_
    refine J.iadd dX2_passHour_36 ?_
    refine J.mmin dX2_passHour_37 (jt 519 rfl rfl) rfl ?_
    rw [nI_1, show (9 : Int32) = nI 9 from rfl, nI_min (by decide) (by have := h9 i; omega)]
    refine J.iastoreN dX2_passHour_40 rfl (show i < 3 by omega) ?_
    rw [upd_nI]
    dsimp only [List.set]
    refine J.iinc (1) dX2_passHour_41 (by decide) rfl (by decide) rfl ?_
    dsimp only [List.set]
    refine J.goto (tgt := 14) dX2_passHour_44 (by decide) ?_
    refine J.at (ih (i + 1) (by omega)) (by rw [← nI_1]) rfl ?_
    simp only [jlt_e (fun j => min 9 (r 1 j + 1)) (fun j => r 1 j)]
set_option maxRecDepth 100000 in
set_option maxHeartbeats 4000000 in
theorem mX2_passHour (r : rT) (b : Nat) (h3 : r 6 0 ≤ 3) (h9 : ∀ i, r 1 i ≤ 9) (hw : r 6 3 < 8) (hb : b < 8) : J KX2_passHour 7 (fun o B => o = none ∧ B = wR (rpass r b)) 0 [some (.ref 0), some (.int (nI b)), none] [] (wR r) 0 0 := by
  unfold wR
  refine J.aload_n dX2_passHour_0 rfl rfl ?_
  refine J.dup dX2_passHour_1 rfl ?_
  refine J.getfield dX2_passHour_2 jFX2_43 rfl rfl ?_
  refine J.iload_n dX2_passHour_5 rfl rfl ?_
  refine J.iconst (-1) dX2_passHour_6 (by decide) ?_
  refine J.ixor dX2_passHour_7 ?_
  refine J.iand dX2_passHour_8 ?_
  rw [wo_eval _ hw _ hb]
  refine J.putfield dX2_passHour_9 jFX2_43 jP2_9 rfl rfl rfl (Nat.le_of_ble_eq_true rfl) ?_
  dsimp only [List.set]
  refine J.iconst (0) dX2_passHour_12 (by decide) ?_
  refine J.istore_n dX2_passHour_13 rfl (by decide) rfl ?_
  dsimp only [List.set]
  exact J.at (mX2_passHour_l r b h3 h9 (r 6 0) 0 (by omega)) rfl rfl (by simp only [Nat.not_lt_zero, if_false])
set_option maxRecDepth 100000 in
set_option maxHeartbeats 4000000 in
theorem mX2_allAges_l (r : rT) (h3 : r 6 0 ≤ 3) : ∀ (k9 i : Nat), i + k9 = r 6 0 → J KX2_allAges 7 (fun o B => o = some (.int (nI (rages r (r 6 0)))) ∧ B = wR r) 4 [some (.ref 0), some (.int (nI (rages r i))), some (.int (nI i))] [] (wR r) 0 0 := by
  intro k9
  induction k9 with
  | zero =>
    intro i hi
    obtain hiN : i = r 6 0 := by omega
    subst hiN
    refine J.iload_n dX2_allAges_4 rfl rfl ?_
    refine J.aload_n dX2_allAges_5 rfl rfl ?_
    refine J.getfield dX2_allAges_6 jFX2_33 rfl rfl ?_
    refine J.icmp_ge (tgt := 27) dX2_allAges_9 (by decide) (fun c9 => ?_) (fun c9 => absurd c9 (fun h => h (Int32.le_refl _)))
    refine J.iload_n dX2_allAges_27 rfl rfl ?_
    exact J.iret dX2_allAges_28 rfl rfl (Nat.le_refl _) (Nat.le_refl _) ⟨rfl, rfl⟩
  | succ k9 ih =>
    intro i hi
    have hiN : i < r 6 0 := by omega
    refine J.iload_n dX2_allAges_4 rfl rfl ?_
    refine J.aload_n dX2_allAges_5 rfl rfl ?_
    refine J.getfield dX2_allAges_6 jFX2_33 rfl rfl ?_
    refine J.icmp_ge (tgt := 27) dX2_allAges_9 (by decide) (fun c9 => absurd c9 (nI_ge hiN (by omega))) (fun c9 => ?_)
    refine J.iload_n dX2_allAges_12 rfl rfl ?_
    refine J.aload_n dX2_allAges_13 rfl rfl ?_
    refine J.getfield dX2_allAges_14 jFX2_15 rfl rfl ?_
    refine J.iload_n dX2_allAges_17 rfl rfl ?_
    refine J.ialoadN dX2_allAges_18 rfl (show i < 3 by omega) ?_
    refine J.iadd dX2_allAges_19 ?_
    refine J.istore_n dX2_allAges_20 rfl (by decide) rfl ?_
    dsimp only [List.set]
    refine J.iinc (1) dX2_allAges_21 (by decide) rfl (by decide) rfl ?_
    dsimp only [List.set]
    refine J.goto (tgt := 4) dX2_allAges_24 (by decide) ?_
    exact J.at (ih (i + 1) (by omega)) (by rw [← nI_1, rages, nI_add]) rfl rfl
set_option maxRecDepth 100000 in
set_option maxHeartbeats 4000000 in
theorem mX2_allAges (r : rT) (h3 : r 6 0 ≤ 3) : J KX2_allAges 7 (fun o B => o = some (.int (nI (rages r (r 6 0)))) ∧ B = wR r) 0 [some (.ref 0), none, none] [] (wR r) 0 0 := by
  refine J.iconst (0) dX2_allAges_0 (by decide) ?_
  refine J.istore_n dX2_allAges_1 rfl (by decide) rfl ?_
  dsimp only [List.set]
  refine J.iconst (0) dX2_allAges_2 (by decide) ?_
  refine J.istore_n dX2_allAges_3 rfl (by decide) rfl ?_
  dsimp only [List.set]
  exact mX2_allAges_l r h3 (r 6 0) 0 (by omega)
theorem ws_eval : ∀ w, w < 8 → ∀ i, i < 3 → nI w ||| 1 <<< (nI i &&& 31) = nI (w ||| 2 ^ i) := by decide +kernel
def raddH (r : rT) (k a : Nat) : rT := fun x => if x = 6 then (fun j => match j with
  | 0 => r 6 0 + 1
  | 3 => r 6 3 ||| 2 ^ r 6 0
  | j => r 6 j) else if x = 0 then (fun j => if j = r 6 0 then k else r 0 j) else if x = 1 then (fun j => if j = r 6 0 then a else r 1 j) else r x
def raddK (r : rT) (k a : Nat) : rT := fun x => if x = 6 then (fun j => match j with
  | 1 => r 6 1 + 1
  | j => r 6 j) else if x = 2 then (fun j => if j = r 6 1 then k else r 2 j) else if x = 3 then (fun j => if j = r 6 1 then a else r 3 j) else r x
def raddL (r : rT) (k a : Nat) : rT := fun x => if x = 6 then (fun j => match j with
  | 2 => r 6 2 + 1
  | j => r 6 j) else if x = 4 then (fun j => if j = r 6 2 then k else r 4 j) else if x = 5 then (fun j => if j = r 6 2 then a else r 5 j) else r x
set_option maxRecDepth 100000 in
set_option maxHeartbeats 4000000 in
theorem mX2_addHair (r : rT) (k a : Nat) (hc : r 6 0 < 3) (hw : r 6 3 < 8) : J KX2_addHair 7 (fun o B => o = some (.int 1) ∧ B = wR (raddH r k a)) 0 [some (.ref 0), some (.int (nI k)), some (.int (nI a))] [] (wR r) 0 0 := by
  unfold wR
  refine J.aload_n dX2_addHair_0 rfl rfl ?_
  refine J.getfield dX2_addHair_1 jFX2_33 rfl rfl ?_
  refine J.iconst (3) dX2_addHair_4 (by decide) ?_
  refine J.icmp_lt (tgt := 10) dX2_addHair_5 (by decide) (fun c5 => ?_) (fun c5 => absurd c5 (fun h => h ((nI_lti (b := 3) (by omega) (by decide)).mpr hc)))
  refine J.aload_n dX2_addHair_10 rfl rfl ?_
  refine J.getfield dX2_addHair_11 jFX2_9 rfl rfl ?_
  refine J.aload_n dX2_addHair_14 rfl rfl ?_
  refine J.getfield dX2_addHair_15 jFX2_33 rfl rfl ?_
  refine J.iload_n dX2_addHair_18 rfl rfl ?_
  refine J.iastoreN dX2_addHair_19 rfl hc ?_
  rw [upd_nI]
  dsimp only [List.set]
  refine J.aload_n dX2_addHair_20 rfl rfl ?_
  refine J.getfield dX2_addHair_21 jFX2_15 rfl rfl ?_
  refine J.aload_n dX2_addHair_24 rfl rfl ?_
  refine J.getfield dX2_addHair_25 jFX2_33 rfl rfl ?_
  refine J.iload_n dX2_addHair_28 rfl rfl ?_
  refine J.iastoreN dX2_addHair_29 rfl hc ?_
  rw [upd_nI]
  dsimp only [List.set]
  refine J.aload_n dX2_addHair_30 rfl rfl ?_
  refine J.dup dX2_addHair_31 rfl ?_
  refine J.getfield dX2_addHair_32 jFX2_43 rfl rfl ?_
  refine J.iconst (1) dX2_addHair_35 (by decide) ?_
  refine J.aload_n dX2_addHair_36 rfl rfl ?_
  refine J.getfield dX2_addHair_37 jFX2_33 rfl rfl ?_
  refine J.ishl dX2_addHair_40 ?_
  refine J.ior dX2_addHair_41 ?_
  rw [ws_eval _ hw _ hc]
  refine J.putfield dX2_addHair_42 jFX2_43 jP2_9 rfl rfl rfl (Nat.le_of_ble_eq_true rfl) ?_
  dsimp only [List.set]
  refine J.aload_n dX2_addHair_45 rfl rfl ?_
  refine J.dup dX2_addHair_46 rfl ?_
  refine J.getfield dX2_addHair_47 jFX2_33 rfl rfl ?_
  refine J.iconst (1) dX2_addHair_50 (by decide) ?_
  refine J.iadd dX2_addHair_51 ?_
  rw [nI_1]
  refine J.putfield dX2_addHair_52 jFX2_33 jP2_6 rfl rfl rfl (Nat.le_of_ble_eq_true rfl) ?_
  dsimp only [List.set]
  refine J.iconst (1) dX2_addHair_55 (by decide) ?_
  exact J.iret dX2_addHair_56 rfl (by decide) (Nat.le_refl _) (Nat.le_refl _) ⟨rfl, rfl⟩
set_option maxRecDepth 100000 in
set_option maxHeartbeats 4000000 in
theorem mX2_addKing (r : rT) (k a : Nat) (hc : r 6 1 < 4) : J KX2_addKing 7 (fun o B => o = some (.int 1) ∧ B = wR (raddK r k a)) 0 [some (.ref 0), some (.int (nI k)), some (.int (nI a))] [] (wR r) 0 0 := by
  unfold wR
  refine J.aload_n dX2_addKing_0 rfl rfl ?_
  refine J.getfield dX2_addKing_1 jFX2_37 rfl rfl ?_
  refine J.iconst (4) dX2_addKing_4 (by decide) ?_
  refine J.icmp_lt (tgt := 10) dX2_addKing_5 (by decide) (fun c5 => ?_) (fun c5 => absurd c5 (fun h => h ((nI_lti (b := 4) (by omega) (by decide)).mpr hc)))
  refine J.aload_n dX2_addKing_10 rfl rfl ?_
  refine J.getfield dX2_addKing_11 jFX2_18 rfl rfl ?_
  refine J.aload_n dX2_addKing_14 rfl rfl ?_
  refine J.getfield dX2_addKing_15 jFX2_37 rfl rfl ?_
  refine J.iload_n dX2_addKing_18 rfl rfl ?_
  refine J.iastoreN dX2_addKing_19 rfl hc ?_
  rw [upd_nI]
  dsimp only [List.set]
  refine J.aload_n dX2_addKing_20 rfl rfl ?_
  refine J.getfield dX2_addKing_21 jFX2_21 rfl rfl ?_
  refine J.aload_n dX2_addKing_24 rfl rfl ?_
  refine J.getfield dX2_addKing_25 jFX2_37 rfl rfl ?_
  refine J.iload_n dX2_addKing_28 rfl rfl ?_
  refine J.iastoreN dX2_addKing_29 rfl hc ?_
  rw [upd_nI]
  dsimp only [List.set]
  refine J.aload_n dX2_addKing_30 rfl rfl ?_
  refine J.dup dX2_addKing_31 rfl ?_
  refine J.getfield dX2_addKing_32 jFX2_37 rfl rfl ?_
  refine J.iconst (1) dX2_addKing_35 (by decide) ?_
  refine J.iadd dX2_addKing_36 ?_
  rw [nI_1]
  refine J.putfield dX2_addKing_37 jFX2_37 jP2_7 rfl rfl rfl (Nat.le_of_ble_eq_true rfl) ?_
  dsimp only [List.set]
  refine J.iconst (1) dX2_addKing_40 (by decide) ?_
  exact J.iret dX2_addKing_41 rfl (by decide) (Nat.le_refl _) (Nat.le_refl _) ⟨rfl, rfl⟩
set_option maxRecDepth 100000 in
set_option maxHeartbeats 4000000 in
theorem mX2_addLaw (r : rT) (k a : Nat) (hc : r 6 2 < 3) : J KX2_addLaw 7 (fun o B => o = some (.int 1) ∧ B = wR (raddL r k a)) 0 [some (.ref 0), some (.int (nI k)), some (.int (nI a))] [] (wR r) 0 0 := by
  unfold wR
  refine J.aload_n dX2_addLaw_0 rfl rfl ?_
  refine J.getfield dX2_addLaw_1 jFX2_40 rfl rfl ?_
  refine J.iconst (3) dX2_addLaw_4 (by decide) ?_
  refine J.icmp_lt (tgt := 10) dX2_addLaw_5 (by decide) (fun c5 => ?_) (fun c5 => absurd c5 (fun h => h ((nI_lti (b := 3) (by omega) (by decide)).mpr hc)))
  refine J.aload_n dX2_addLaw_10 rfl rfl ?_
  refine J.getfield dX2_addLaw_11 jFX2_24 rfl rfl ?_
  refine J.aload_n dX2_addLaw_14 rfl rfl ?_
  refine J.getfield dX2_addLaw_15 jFX2_40 rfl rfl ?_
  refine J.iload_n dX2_addLaw_18 rfl rfl ?_
  refine J.iastoreN dX2_addLaw_19 rfl hc ?_
  rw [upd_nI]
  dsimp only [List.set]
  refine J.aload_n dX2_addLaw_20 rfl rfl ?_
  refine J.getfield dX2_addLaw_21 jFX2_27 rfl rfl ?_
  refine J.aload_n dX2_addLaw_24 rfl rfl ?_
  refine J.getfield dX2_addLaw_25 jFX2_40 rfl rfl ?_
  refine J.iload_n dX2_addLaw_28 rfl rfl ?_
  refine J.iastoreN dX2_addLaw_29 rfl hc ?_
  rw [upd_nI]
  dsimp only [List.set]
  refine J.aload_n dX2_addLaw_30 rfl rfl ?_
  refine J.dup dX2_addLaw_31 rfl ?_
  refine J.getfield dX2_addLaw_32 jFX2_40 rfl rfl ?_
  refine J.iconst (1) dX2_addLaw_35 (by decide) ?_
  refine J.iadd dX2_addLaw_36 ?_
  rw [nI_1]
  refine J.putfield dX2_addLaw_37 jFX2_40 jP2_8 rfl rfl rfl (Nat.le_of_ble_eq_true rfl) ?_
  dsimp only [List.set]
  refine J.iconst (1) dX2_addLaw_40 (by decide) ?_
  exact J.iret dX2_addLaw_41 rfl (by decide) (Nat.le_refl _) (Nat.le_refl _) ⟨rfl, rfl⟩
end
section
theorem dX0_take_0 : decode cX0_take 0 = .ok (.iconst 0, 1) := by decide +kernel
theorem dX0_take_1 : decode cX0_take 1 = .ok (.istore_n 2, 1) := by decide +kernel
theorem dX0_take_2 : decode cX0_take 2 = .ok (.iload_n 2, 1) := by decide +kernel
theorem dX0_take_3 : decode cX0_take 3 = .ok (.iconst 3, 1) := by decide +kernel
theorem dX0_take_4 : decode cX0_take 4 = .ok (.if_icmp .ge 33, 3) := by decide +kernel
theorem dX0_take_7 : decode cX0_take 7 = .ok (.aload_n 0, 1) := by decide +kernel
theorem dX0_take_8 : decode cX0_take 8 = .ok (.getfield 9, 3) := by decide +kernel
theorem dX0_take_11 : decode cX0_take 11 = .ok (.iload_n 2, 1) := by decide +kernel
theorem dX0_take_12 : decode cX0_take 12 = .ok (.aload_n 1, 1) := by decide +kernel
theorem dX0_take_13 : decode cX0_take 13 = .ok (.getfield 37, 3) := by decide +kernel
theorem dX0_take_16 : decode cX0_take 16 = .ok (.iload_n 2, 1) := by decide +kernel
theorem dX0_take_17 : decode cX0_take 17 = .ok (.iaload, 1) := by decide +kernel
theorem dX0_take_18 : decode cX0_take 18 = .ok (.iastore, 1) := by decide +kernel
theorem dX0_take_19 : decode cX0_take 19 = .ok (.aload_n 0, 1) := by decide +kernel
theorem dX0_take_20 : decode cX0_take 20 = .ok (.getfield 15, 3) := by decide +kernel
theorem dX0_take_23 : decode cX0_take 23 = .ok (.iload_n 2, 1) := by decide +kernel
theorem dX0_take_24 : decode cX0_take 24 = .ok (.aload_n 1, 1) := by decide +kernel
theorem dX0_take_25 : decode cX0_take 25 = .ok (.getfield 40, 3) := by decide +kernel
theorem dX0_take_28 : decode cX0_take 28 = .ok (.iload_n 2, 1) := by decide +kernel
theorem dX0_take_29 : decode cX0_take 29 = .ok (.iaload, 1) := by decide +kernel
theorem dX0_take_30 : decode cX0_take 30 = .ok (.iastore, 1) := by decide +kernel
theorem dX0_take_31 : decode cX0_take 31 = .ok (.iinc 2 1, 3) := by decide +kernel
theorem dX0_take_34 : decode cX0_take 34 = .ok (.goto (-32), 3) := by decide +kernel
theorem dX0_take_37 : decode cX0_take 37 = .ok (.aload_n 0, 1) := by decide +kernel
theorem dX0_take_38 : decode cX0_take 38 = .ok (.aload_n 1, 1) := by decide +kernel
theorem dX0_take_39 : decode cX0_take 39 = .ok (.getfield 41, 3) := by decide +kernel
theorem dX0_take_42 : decode cX0_take 42 = .ok (.putfield 45, 3) := by decide +kernel
theorem dX0_take_45 : decode cX0_take 45 = .ok (.aload_n 0, 1) := by decide +kernel
theorem dX0_take_46 : decode cX0_take 46 = .ok (.aload_n 1, 1) := by decide +kernel
theorem dX0_take_47 : decode cX0_take 47 = .ok (.getfield 46, 3) := by decide +kernel
theorem dX0_take_50 : decode cX0_take 50 = .ok (.invokevirtual 49, 3) := by decide +kernel
theorem dX0_take_53 : decode cX0_take 53 = .ok (.return_, 1) := by decide +kernel
theorem dX0_takeNew_0 : decode cX0_takeNew 0 = .ok (.iconst 0, 1) := by decide +kernel
theorem dX0_takeNew_1 : decode cX0_takeNew 1 = .ok (.istore 4, 2) := by decide +kernel
theorem dX0_takeNew_3 : decode cX0_takeNew 3 = .ok (.iload 4, 2) := by decide +kernel
theorem dX0_takeNew_5 : decode cX0_takeNew 5 = .ok (.iconst 3, 1) := by decide +kernel
theorem dX0_takeNew_6 : decode cX0_takeNew 6 = .ok (.if_icmp .ge 25, 3) := by decide +kernel
theorem dX0_takeNew_9 : decode cX0_takeNew 9 = .ok (.aload_n 0, 1) := by decide +kernel
theorem dX0_takeNew_10 : decode cX0_takeNew 10 = .ok (.getfield 9, 3) := by decide +kernel
theorem dX0_takeNew_13 : decode cX0_takeNew 13 = .ok (.iload 4, 2) := by decide +kernel
theorem dX0_takeNew_15 : decode cX0_takeNew 15 = .ok (.iload_n 1, 1) := by decide +kernel
theorem dX0_takeNew_16 : decode cX0_takeNew 16 = .ok (.iastore, 1) := by decide +kernel
theorem dX0_takeNew_17 : decode cX0_takeNew 17 = .ok (.aload_n 0, 1) := by decide +kernel
theorem dX0_takeNew_18 : decode cX0_takeNew 18 = .ok (.getfield 15, 3) := by decide +kernel
theorem dX0_takeNew_21 : decode cX0_takeNew 21 = .ok (.iload 4, 2) := by decide +kernel
theorem dX0_takeNew_23 : decode cX0_takeNew 23 = .ok (.iconst 0, 1) := by decide +kernel
theorem dX0_takeNew_24 : decode cX0_takeNew 24 = .ok (.iastore, 1) := by decide +kernel
theorem dX0_takeNew_25 : decode cX0_takeNew 25 = .ok (.iinc 4 1, 3) := by decide +kernel
theorem dX0_takeNew_28 : decode cX0_takeNew 28 = .ok (.goto (-25), 3) := by decide +kernel
theorem dX0_takeNew_31 : decode cX0_takeNew 31 = .ok (.aload_n 0, 1) := by decide +kernel
theorem dX0_takeNew_32 : decode cX0_takeNew 32 = .ok (.iload_n 3, 1) := by decide +kernel
theorem dX0_takeNew_33 : decode cX0_takeNew 33 = .ok (.putfield 45, 3) := by decide +kernel
theorem dX0_takeNew_36 : decode cX0_takeNew 36 = .ok (.aload_n 0, 1) := by decide +kernel
theorem dX0_takeNew_37 : decode cX0_takeNew 37 = .ok (.iconst 1, 1) := by decide +kernel
theorem dX0_takeNew_38 : decode cX0_takeNew 38 = .ok (.iload_n 2, 1) := by decide +kernel
theorem dX0_takeNew_39 : decode cX0_takeNew 39 = .ok (.ishl, 1) := by decide +kernel
theorem dX0_takeNew_40 : decode cX0_takeNew 40 = .ok (.iconst 1, 1) := by decide +kernel
theorem dX0_takeNew_41 : decode cX0_takeNew 41 = .ok (.isub, 1) := by decide +kernel
theorem dX0_takeNew_42 : decode cX0_takeNew 42 = .ok (.invokevirtual 49, 3) := by decide +kernel
theorem dX0_takeNew_45 : decode cX0_takeNew 45 = .ok (.return_, 1) := by decide +kernel
theorem dX0_renew_0 : decode cX0_renew 0 = .ok (.iload_n 1, 1) := by decide +kernel
theorem dX0_renew_1 : decode cX0_renew 1 = .ok (.iconst 0, 1) := by decide +kernel
theorem dX0_renew_2 : decode cX0_renew 2 = .ok (.iconst 2, 1) := by decide +kernel
theorem dX0_renew_3 : decode cX0_renew 3 = .ok (.invokestatic 53, 3) := by decide +kernel
theorem dX0_renew_6 : decode cX0_renew 6 = .ok (.ifCond .eq 22, 3) := by decide +kernel
theorem dX0_renew_9 : decode cX0_renew 9 = .ok (.aload_n 0, 1) := by decide +kernel
theorem dX0_renew_10 : decode cX0_renew 10 = .ok (.getfield 15, 3) := by decide +kernel
theorem dX0_renew_13 : decode cX0_renew 13 = .ok (.iload_n 1, 1) := by decide +kernel
theorem dX0_renew_14 : decode cX0_renew 14 = .ok (.iconst 0, 1) := by decide +kernel
theorem dX0_renew_15 : decode cX0_renew 15 = .ok (.iastore, 1) := by decide +kernel
theorem dX0_renew_16 : decode cX0_renew 16 = .ok (.aload_n 0, 1) := by decide +kernel
theorem dX0_renew_17 : decode cX0_renew 17 = .ok (.aload_n 0, 1) := by decide +kernel
theorem dX0_renew_18 : decode cX0_renew 18 = .ok (.getfield 57, 3) := by decide +kernel
theorem dX0_renew_21 : decode cX0_renew 21 = .ok (.iconst 1, 1) := by decide +kernel
theorem dX0_renew_22 : decode cX0_renew 22 = .ok (.iload_n 1, 1) := by decide +kernel
theorem dX0_renew_23 : decode cX0_renew 23 = .ok (.ishl, 1) := by decide +kernel
theorem dX0_renew_24 : decode cX0_renew 24 = .ok (.ior, 1) := by decide +kernel
theorem dX0_renew_25 : decode cX0_renew 25 = .ok (.invokevirtual 49, 3) := by decide +kernel
theorem dX0_renew_28 : decode cX0_renew 28 = .ok (.return_, 1) := by decide +kernel
theorem dX0_begin_0 : decode cX0_begin 0 = .ok (.aload_n 0, 1) := by decide +kernel
theorem dX0_begin_1 : decode cX0_begin 1 = .ok (.iload_n 1, 1) := by decide +kernel
theorem dX0_begin_2 : decode cX0_begin 2 = .ok (.bipush 7, 2) := by decide +kernel
theorem dX0_begin_4 : decode cX0_begin 4 = .ok (.iand, 1) := by decide +kernel
theorem dX0_begin_5 : decode cX0_begin 5 = .ok (.putfield 57, 3) := by decide +kernel
theorem dX0_begin_8 : decode cX0_begin 8 = .ok (.iconst 0, 1) := by decide +kernel
theorem dX0_begin_9 : decode cX0_begin 9 = .ok (.istore_n 2, 1) := by decide +kernel
theorem dX0_begin_10 : decode cX0_begin 10 = .ok (.iload_n 2, 1) := by decide +kernel
theorem dX0_begin_11 : decode cX0_begin 11 = .ok (.bipush 8, 2) := by decide +kernel
theorem dX0_begin_13 : decode cX0_begin 13 = .ok (.if_icmp .ge 28, 3) := by decide +kernel
theorem dX0_begin_16 : decode cX0_begin 16 = .ok (.aload_n 0, 1) := by decide +kernel
theorem dX0_begin_17 : decode cX0_begin 17 = .ok (.getfield 21, 3) := by decide +kernel
theorem dX0_begin_20 : decode cX0_begin 20 = .ok (.iload_n 2, 1) := by decide +kernel
theorem dX0_begin_21 : decode cX0_begin 21 = .ok (.iload_n 2, 1) := by decide +kernel
theorem dX0_begin_22 : decode cX0_begin 22 = .ok (.aload_n 0, 1) := by decide +kernel
theorem dX0_begin_23 : decode cX0_begin 23 = .ok (.getfield 57, 3) := by decide +kernel
theorem dX0_begin_26 : decode cX0_begin 26 = .ok (.if_icmp .ne 7, 3) := by decide +kernel
theorem dX0_begin_29 : decode cX0_begin 29 = .ok (.lconst 1, 1) := by decide +kernel
theorem dX0_begin_30 : decode cX0_begin 30 = .ok (.goto 4, 3) := by decide +kernel
theorem dX0_begin_33 : decode cX0_begin 33 = .ok (.lconst 0, 1) := by decide +kernel
theorem dX0_begin_34 : decode cX0_begin 34 = .ok (.lastore, 1) := by decide +kernel
theorem dX0_begin_35 : decode cX0_begin 35 = .ok (.iinc 2 1, 3) := by decide +kernel
theorem dX0_begin_38 : decode cX0_begin 38 = .ok (.goto (-28), 3) := by decide +kernel
theorem dX0_begin_41 : decode cX0_begin 41 = .ok (.return_, 1) := by decide +kernel
theorem dX0_weigh_0 : decode cX0_weigh 0 = .ok (.iload_n 1, 1) := by decide +kernel
theorem dX0_weigh_1 : decode cX0_weigh 1 = .ok (.invokestatic 69, 3) := by decide +kernel
theorem dX0_weigh_4 : decode cX0_weigh 4 = .ok (.istore_n 3, 1) := by decide +kernel
theorem dX0_weigh_5 : decode cX0_weigh 5 = .ok (.iconst 0, 1) := by decide +kernel
theorem dX0_weigh_6 : decode cX0_weigh 6 = .ok (.istore 4, 2) := by decide +kernel
theorem dX0_weigh_8 : decode cX0_weigh 8 = .ok (.iload 4, 2) := by decide +kernel
theorem dX0_weigh_10 : decode cX0_weigh 10 = .ok (.iconst 3, 1) := by decide +kernel
theorem dX0_weigh_11 : decode cX0_weigh 11 = .ok (.if_icmp .ge 45, 3) := by decide +kernel
theorem dX0_weigh_14 : decode cX0_weigh 14 = .ok (.aload_n 0, 1) := by decide +kernel
theorem dX0_weigh_15 : decode cX0_weigh 15 = .ok (.getfield 18, 3) := by decide +kernel
theorem dX0_weigh_18 : decode cX0_weigh 18 = .ok (.iload 4, 2) := by decide +kernel
theorem dX0_weigh_20 : decode cX0_weigh 20 = .ok (.aload_n 0, 1) := by decide +kernel
theorem dX0_weigh_21 : decode cX0_weigh 21 = .ok (.getfield 9, 3) := by decide +kernel
theorem dX0_weigh_24 : decode cX0_weigh 24 = .ok (.iload 4, 2) := by decide +kernel
theorem dX0_weigh_26 : decode cX0_weigh 26 = .ok (.iaload, 1) := by decide +kernel
theorem dX0_weigh_27 : decode cX0_weigh 27 = .ok (.bipush 9, 2) := by decide +kernel
theorem dX0_weigh_29 : decode cX0_weigh 29 = .ok (.aload_n 0, 1) := by decide +kernel
theorem dX0_weigh_30 : decode cX0_weigh 30 = .ok (.getfield 15, 3) := by decide +kernel
theorem dX0_weigh_33 : decode cX0_weigh 33 = .ok (.iload 4, 2) := by decide +kernel
theorem dX0_weigh_35 : decode cX0_weigh 35 = .ok (.iaload, 1) := by decide +kernel
theorem dX0_weigh_36 : decode cX0_weigh 36 = .ok (.iload_n 2, 1) := by decide +kernel
theorem dX0_weigh_37 : decode cX0_weigh 37 = .ok (.iadd, 1) := by decide +kernel
theorem dX0_weigh_38 : decode cX0_weigh 38 = .ok (.invokestatic 75, 3) := by decide +kernel
theorem dX0_weigh_41 : decode cX0_weigh 41 = .ok (.aload_n 0, 1) := by decide +kernel
theorem dX0_weigh_42 : decode cX0_weigh 42 = .ok (.getfield 45, 3) := by decide +kernel
theorem dX0_weigh_45 : decode cX0_weigh 45 = .ok (.iload_n 3, 1) := by decide +kernel
theorem dX0_weigh_46 : decode cX0_weigh 46 = .ok (.invokestatic 81, 3) := by decide +kernel
theorem dX0_weigh_49 : decode cX0_weigh 49 = .ok (.iastore, 1) := by decide +kernel
theorem dX0_weigh_50 : decode cX0_weigh 50 = .ok (.iinc 4 1, 3) := by decide +kernel
theorem dX0_weigh_53 : decode cX0_weigh 53 = .ok (.goto (-45), 3) := by decide +kernel
theorem dX0_weigh_56 : decode cX0_weigh 56 = .ok (.return_, 1) := by decide +kernel
theorem dX0_weight_0 : decode cX0_weight 0 = .ok (.iload_n 2, 1) := by decide +kernel
theorem dX0_weight_1 : decode cX0_weight 1 = .ok (.iload_n 1, 1) := by decide +kernel
theorem dX0_weight_2 : decode cX0_weight 2 = .ok (.iconst (-1), 1) := by decide +kernel
theorem dX0_weight_3 : decode cX0_weight 3 = .ok (.ixor, 1) := by decide +kernel
theorem dX0_weight_4 : decode cX0_weight 4 = .ok (.iand, 1) := by decide +kernel
theorem dX0_weight_5 : decode cX0_weight 5 = .ok (.ifCond .eq 5, 3) := by decide +kernel
theorem dX0_weight_8 : decode cX0_weight 8 = .ok (.lconst 0, 1) := by decide +kernel
theorem dX0_weight_9 : decode cX0_weight 9 = .ok (.lreturn, 1) := by decide +kernel
theorem dX0_weight_10 : decode cX0_weight 10 = .ok (.lconst 1, 1) := by decide +kernel
theorem dX0_weight_11 : decode cX0_weight 11 = .ok (.lstore_n 3, 1) := by decide +kernel
theorem dX0_weight_12 : decode cX0_weight 12 = .ok (.iconst 0, 1) := by decide +kernel
theorem dX0_weight_13 : decode cX0_weight 13 = .ok (.istore 5, 2) := by decide +kernel
theorem dX0_weight_15 : decode cX0_weight 15 = .ok (.iload 5, 2) := by decide +kernel
theorem dX0_weight_17 : decode cX0_weight 17 = .ok (.iconst 3, 1) := by decide +kernel
theorem dX0_weight_18 : decode cX0_weight 18 = .ok (.if_icmp .ge 61, 3) := by decide +kernel
theorem dX0_weight_21 : decode cX0_weight 21 = .ok (.iload_n 1, 1) := by decide +kernel
theorem dX0_weight_22 : decode cX0_weight 22 = .ok (.iload 5, 2) := by decide +kernel
theorem dX0_weight_24 : decode cX0_weight 24 = .ok (.ishr, 1) := by decide +kernel
theorem dX0_weight_25 : decode cX0_weight 25 = .ok (.iconst 1, 1) := by decide +kernel
theorem dX0_weight_26 : decode cX0_weight 26 = .ok (.iand, 1) := by decide +kernel
theorem dX0_weight_27 : decode cX0_weight 27 = .ok (.ifCond .ne 12, 3) := by decide +kernel
theorem dX0_weight_30 : decode cX0_weight 30 = .ok (.lload_n 3, 1) := by decide +kernel
theorem dX0_weight_31 : decode cX0_weight 31 = .ok (.ldc2_w 85, 3) := by decide +kernel
theorem dX0_weight_34 : decode cX0_weight 34 = .ok (.lmul, 1) := by decide +kernel
theorem dX0_weight_35 : decode cX0_weight 35 = .ok (.lstore_n 3, 1) := by decide +kernel
theorem dX0_weight_36 : decode cX0_weight 36 = .ok (.goto 37, 3) := by decide +kernel
theorem dX0_weight_39 : decode cX0_weight 39 = .ok (.lload_n 3, 1) := by decide +kernel
theorem dX0_weight_40 : decode cX0_weight 40 = .ok (.iload_n 2, 1) := by decide +kernel
theorem dX0_weight_41 : decode cX0_weight 41 = .ok (.iload 5, 2) := by decide +kernel
theorem dX0_weight_43 : decode cX0_weight 43 = .ok (.ishr, 1) := by decide +kernel
theorem dX0_weight_44 : decode cX0_weight 44 = .ok (.iconst 1, 1) := by decide +kernel
theorem dX0_weight_45 : decode cX0_weight 45 = .ok (.iand, 1) := by decide +kernel
theorem dX0_weight_46 : decode cX0_weight 46 = .ok (.ifCond .ne 14, 3) := by decide +kernel
theorem dX0_weight_49 : decode cX0_weight 49 = .ok (.aload_n 0, 1) := by decide +kernel
theorem dX0_weight_50 : decode cX0_weight 50 = .ok (.getfield 18, 3) := by decide +kernel
theorem dX0_weight_53 : decode cX0_weight 53 = .ok (.iload 5, 2) := by decide +kernel
theorem dX0_weight_55 : decode cX0_weight 55 = .ok (.iaload, 1) := by decide +kernel
theorem dX0_weight_56 : decode cX0_weight 56 = .ok (.i2l, 1) := by decide +kernel
theorem dX0_weight_57 : decode cX0_weight 57 = .ok (.goto 14, 3) := by decide +kernel
theorem dX0_weight_60 : decode cX0_weight 60 = .ok (.bipush 10, 2) := by decide +kernel
theorem dX0_weight_62 : decode cX0_weight 62 = .ok (.aload_n 0, 1) := by decide +kernel
theorem dX0_weight_63 : decode cX0_weight 63 = .ok (.getfield 18, 3) := by decide +kernel
theorem dX0_weight_66 : decode cX0_weight 66 = .ok (.iload 5, 2) := by decide +kernel
theorem dX0_weight_68 : decode cX0_weight 68 = .ok (.iaload, 1) := by decide +kernel
theorem dX0_weight_69 : decode cX0_weight 69 = .ok (.isub, 1) := by decide +kernel
theorem dX0_weight_70 : decode cX0_weight 70 = .ok (.i2l, 1) := by decide +kernel
theorem dX0_weight_71 : decode cX0_weight 71 = .ok (.lmul, 1) := by decide +kernel
theorem dX0_weight_72 : decode cX0_weight 72 = .ok (.lstore_n 3, 1) := by decide +kernel
theorem dX0_weight_73 : decode cX0_weight 73 = .ok (.iinc 5 1, 3) := by decide +kernel
theorem dX0_weight_76 : decode cX0_weight 76 = .ok (.goto (-61), 3) := by decide +kernel
theorem dX0_weight_79 : decode cX0_weight 79 = .ok (.lload_n 3, 1) := by decide +kernel
theorem dX0_weight_80 : decode cX0_weight 80 = .ok (.lreturn, 1) := by decide +kernel
theorem dX0_held_0 : decode cX0_held 0 = .ok (.lconst 0, 1) := by decide +kernel
theorem dX0_held_1 : decode cX0_held 1 = .ok (.lstore_n 1, 1) := by decide +kernel
theorem dX0_held_2 : decode cX0_held 2 = .ok (.iconst 1, 1) := by decide +kernel
theorem dX0_held_3 : decode cX0_held 3 = .ok (.istore_n 3, 1) := by decide +kernel
theorem dX0_held_4 : decode cX0_held 4 = .ok (.iload_n 3, 1) := by decide +kernel
theorem dX0_held_5 : decode cX0_held 5 = .ok (.bipush 8, 2) := by decide +kernel
theorem dX0_held_7 : decode cX0_held 7 = .ok (.if_icmp .ge 18, 3) := by decide +kernel
theorem dX0_held_10 : decode cX0_held 10 = .ok (.lload_n 1, 1) := by decide +kernel
theorem dX0_held_11 : decode cX0_held 11 = .ok (.aload_n 0, 1) := by decide +kernel
theorem dX0_held_12 : decode cX0_held 12 = .ok (.getfield 21, 3) := by decide +kernel
theorem dX0_held_15 : decode cX0_held 15 = .ok (.iload_n 3, 1) := by decide +kernel
theorem dX0_held_16 : decode cX0_held 16 = .ok (.laload, 1) := by decide +kernel
theorem dX0_held_17 : decode cX0_held 17 = .ok (.ladd, 1) := by decide +kernel
theorem dX0_held_18 : decode cX0_held 18 = .ok (.lstore_n 1, 1) := by decide +kernel
theorem dX0_held_19 : decode cX0_held 19 = .ok (.iinc 3 1, 3) := by decide +kernel
theorem dX0_held_22 : decode cX0_held 22 = .ok (.goto (-18), 3) := by decide +kernel
theorem dX0_held_25 : decode cX0_held 25 = .ok (.lload_n 1, 1) := by decide +kernel
theorem dX0_held_26 : decode cX0_held 26 = .ok (.lreturn, 1) := by decide +kernel
theorem dX0_all_0 : decode cX0_all 0 = .ok (.aload_n 0, 1) := by decide +kernel
theorem dX0_all_1 : decode cX0_all 1 = .ok (.getfield 21, 3) := by decide +kernel
theorem dX0_all_4 : decode cX0_all 4 = .ok (.iconst 0, 1) := by decide +kernel
theorem dX0_all_5 : decode cX0_all 5 = .ok (.laload, 1) := by decide +kernel
theorem dX0_all_6 : decode cX0_all 6 = .ok (.aload_n 0, 1) := by decide +kernel
theorem dX0_all_7 : decode cX0_all 7 = .ok (.invokevirtual 87, 3) := by decide +kernel
theorem dX0_all_10 : decode cX0_all 10 = .ok (.ladd, 1) := by decide +kernel
theorem dX0_all_11 : decode cX0_all 11 = .ok (.lreturn, 1) := by decide +kernel
theorem dX0_justWhole_0 : decode cX0_justWhole 0 = .ok (.lconst 0, 1) := by decide +kernel
theorem dX0_justWhole_1 : decode cX0_justWhole 1 = .ok (.lstore_n 2, 1) := by decide +kernel
theorem dX0_justWhole_2 : decode cX0_justWhole 2 = .ok (.iconst 0, 1) := by decide +kernel
theorem dX0_justWhole_3 : decode cX0_justWhole 3 = .ok (.istore 4, 2) := by decide +kernel
theorem dX0_justWhole_5 : decode cX0_justWhole 5 = .ok (.iload 4, 2) := by decide +kernel
theorem dX0_justWhole_7 : decode cX0_justWhole 7 = .ok (.bipush 8, 2) := by decide +kernel
theorem dX0_justWhole_9 : decode cX0_justWhole 9 = .ok (.if_icmp .ge 32, 3) := by decide +kernel
theorem dX0_justWhole_12 : decode cX0_justWhole 12 = .ok (.lload_n 2, 1) := by decide +kernel
theorem dX0_justWhole_13 : decode cX0_justWhole 13 = .ok (.iload 4, 2) := by decide +kernel
theorem dX0_justWhole_15 : decode cX0_justWhole 15 = .ok (.invokestatic 69, 3) := by decide +kernel
theorem dX0_justWhole_18 : decode cX0_justWhole 18 = .ok (.iload_n 1, 1) := by decide +kernel
theorem dX0_justWhole_19 : decode cX0_justWhole 19 = .ok (.if_icmp .ne 13, 3) := by decide +kernel
theorem dX0_justWhole_22 : decode cX0_justWhole 22 = .ok (.aload_n 0, 1) := by decide +kernel
theorem dX0_justWhole_23 : decode cX0_justWhole 23 = .ok (.getfield 21, 3) := by decide +kernel
theorem dX0_justWhole_26 : decode cX0_justWhole 26 = .ok (.iload 4, 2) := by decide +kernel
theorem dX0_justWhole_28 : decode cX0_justWhole 28 = .ok (.laload, 1) := by decide +kernel
theorem dX0_justWhole_29 : decode cX0_justWhole 29 = .ok (.goto 4, 3) := by decide +kernel
theorem dX0_justWhole_32 : decode cX0_justWhole 32 = .ok (.lconst 0, 1) := by decide +kernel
theorem dX0_justWhole_33 : decode cX0_justWhole 33 = .ok (.ladd, 1) := by decide +kernel
theorem dX0_justWhole_34 : decode cX0_justWhole 34 = .ok (.lstore_n 2, 1) := by decide +kernel
theorem dX0_justWhole_35 : decode cX0_justWhole 35 = .ok (.iinc 4 1, 3) := by decide +kernel
theorem dX0_justWhole_38 : decode cX0_justWhole 38 = .ok (.goto (-33), 3) := by decide +kernel
theorem dX0_justWhole_41 : decode cX0_justWhole 41 = .ok (.lload_n 2, 1) := by decide +kernel
theorem dX0_justWhole_42 : decode cX0_justWhole 42 = .ok (.lreturn, 1) := by decide +kernel
theorem dX0_keepOnly_0 : decode cX0_keepOnly 0 = .ok (.iconst 0, 1) := by decide +kernel
theorem dX0_keepOnly_1 : decode cX0_keepOnly 1 = .ok (.istore_n 2, 1) := by decide +kernel
theorem dX0_keepOnly_2 : decode cX0_keepOnly 2 = .ok (.iload_n 2, 1) := by decide +kernel
theorem dX0_keepOnly_3 : decode cX0_keepOnly 3 = .ok (.bipush 8, 2) := by decide +kernel
theorem dX0_keepOnly_5 : decode cX0_keepOnly 5 = .ok (.if_icmp .ge 24, 3) := by decide +kernel
theorem dX0_keepOnly_8 : decode cX0_keepOnly 8 = .ok (.iload_n 2, 1) := by decide +kernel
theorem dX0_keepOnly_9 : decode cX0_keepOnly 9 = .ok (.invokestatic 69, 3) := by decide +kernel
theorem dX0_keepOnly_12 : decode cX0_keepOnly 12 = .ok (.iload_n 1, 1) := by decide +kernel
theorem dX0_keepOnly_13 : decode cX0_keepOnly 13 = .ok (.if_icmp .eq 10, 3) := by decide +kernel
theorem dX0_keepOnly_16 : decode cX0_keepOnly 16 = .ok (.aload_n 0, 1) := by decide +kernel
theorem dX0_keepOnly_17 : decode cX0_keepOnly 17 = .ok (.getfield 21, 3) := by decide +kernel
theorem dX0_keepOnly_20 : decode cX0_keepOnly 20 = .ok (.iload_n 2, 1) := by decide +kernel
theorem dX0_keepOnly_21 : decode cX0_keepOnly 21 = .ok (.lconst 0, 1) := by decide +kernel
theorem dX0_keepOnly_22 : decode cX0_keepOnly 22 = .ok (.lastore, 1) := by decide +kernel
theorem dX0_keepOnly_23 : decode cX0_keepOnly 23 = .ok (.iinc 2 1, 3) := by decide +kernel
theorem dX0_keepOnly_26 : decode cX0_keepOnly 26 = .ok (.goto (-24), 3) := by decide +kernel
theorem dX0_keepOnly_29 : decode cX0_keepOnly 29 = .ok (.return_, 1) := by decide +kernel
/-! ===== Odds: q's rows 0, 1, 2 are kind, age, tenths, row 6 whole, load; x the shares, n next, u's rows firstGains, secondGains, heldBehind, (firstGain, secondGain) ===== -/
abbrev uT : Type := Nat → Nat → Int64
def wO (q : rT) (x : Nat → Nat) (n : Nat → Int64) (u : uT) : jW := [.inr (0, [.ref 1, .ref 2, .ref 3, .int (nI (q 6 0)), .int (nI (q 6 1)), .ref 4, .ref 5, .ref 6, .ref 7, .ref 8, .long (u 3 0), .long (u 3 1)]),
  .inl (0, 3, .inl (fun j => nI (q 0 j))), .inl (0, 3, .inl (fun j => nI (q 1 j))), .inl (0, 3, .inl (fun j => nI (q 2 j))), .inl (1, 8, .inr (.inl (fun j => lN (x j)))), .inl (1, 8, .inr (.inl n)), .inl (1, 8, .inr (.inl (u 0))), .inl (1, 8, .inr (.inl (u 1))), .inl (1, 6, .inr (.inl (u 2)))]
def rrow (r : rT) (a : Nat) (f : Nat → Nat) : rT := fun x => if x = a then f else r x
/-- all of the weight on one set -/
def one (w : Nat) : Nat → Nat := fun s => if s = w then 1 else 0
theorem and7_eval : ∀ w, w < 8 → nI w &&& 7 = nI w := by decide +kernel
theorem lN_0 : lN 0 = 0 := rfl
theorem lN_one : lN 1 = 1 := rfl
set_option maxRecDepth 100000 in
set_option maxHeartbeats 4000000 in
theorem mX0_begin_l (q : rT) (x : Nat → Nat) (n : Nat → Int64) (u : uT) (w : Nat) (hw : w < 8) : ∀ (k9 i : Nat), i + k9 = 8 → J KX0_begin 9 (fun o B => o = none ∧ B = wO (rset q 6 0 w) (one w) n u) 10 [some (.ref 0), some (.int (nI w)), some (.int (nI i))] [] [.inr (0, [.ref 1, .ref 2, .ref 3, .int (nI (w)), .int (nI (q 6 1)), .ref 4, .ref 5, .ref 6, .ref 7, .ref 8, .long (u 3 0), .long (u 3 1)]), .inl (0, 3, .inl (fun j => nI (q 0 j))), .inl (0, 3, .inl (fun j => nI (q 1 j))), .inl (0, 3, .inl (fun j => nI (q 2 j))), .inl (1, 8, .inr (.inl (fun j => lN (if j < i then one w j else x j)))), .inl (1, 8, .inr (.inl (n))), .inl (1, 8, .inr (.inl (u 0))), .inl (1, 8, .inr (.inl (u 1))), .inl (1, 6, .inr (.inl (u 2)))] 0 0 := by
  intro k9
  induction k9 with
  | zero =>
    intro i hi
    obtain hiN : i = 8 := by omega
    subst hiN
    refine J.iload_n dX0_begin_10 rfl rfl ?_
    refine J.bipush (8) dX0_begin_11 (by decide) ?_
    refine J.icmp_ge (tgt := 41) dX0_begin_13 (by decide) (fun c13 => ?_) (fun c13 => absurd c13 (fun h => h (by decide)))
    refine J.arrL 4 1 (fun j => lN (one w j)) rfl (fun j hj => by rw [if_pos hj]) ?_
    exact J.vret dX0_begin_41 rfl (Nat.le_refl _) (Nat.le_refl _) ⟨rfl, rfl⟩
  | succ k9 ih =>
    intro i hi
    have hiN : i < 8 := by omega
    refine J.iload_n dX0_begin_10 rfl rfl ?_
    refine J.bipush (8) dX0_begin_11 (by decide) ?_
    refine J.icmp_ge (tgt := 41) dX0_begin_13 (by decide) (fun c13 => absurd c13 (nI_ge (b := 8) hiN (by decide))) (fun c13 => ?_)
    refine J.aload_n dX0_begin_16 rfl rfl ?_
    refine J.getfield dX0_begin_17 jFX0_21 rfl rfl ?_
    refine J.iload_n dX0_begin_20 rfl rfl ?_
    refine J.iload_n dX0_begin_21 rfl rfl ?_
    refine J.aload_n dX0_begin_22 rfl rfl ?_
    refine J.getfield dX0_begin_23 jFX0_57 rfl rfl ?_
    refine J.icmp_ne (tgt := 33) dX0_begin_26 (by decide) (fun c26 => ?_) (fun c26 => ?_)
    · refine J.lconst 0 dX0_begin_33 (by decide) ?_
      refine J.lastoreN dX0_begin_34 rfl hiN ?_
      dsimp only [List.set]
      rw [show (0 : Int64) = lN (one w i) from by rw [one, if_neg (fun h => c26 (by rw [h]))]; rfl, updL_lN]
      refine J.iinc (1) dX0_begin_35 (by decide) rfl (by decide) rfl ?_
      dsimp only [List.set]
      refine J.goto (tgt := 10) dX0_begin_38 (by decide) ?_
      refine J.at (ih (i + 1) (by omega)) (by rw [← nI_1]) rfl ?_
      simp only [jlt_e (fun j => one w j) (fun j => x j)]
    · refine J.lconst 1 dX0_begin_29 (by decide) ?_
      refine J.goto (tgt := 34) dX0_begin_30 (by decide) ?_
      refine J.lastoreN dX0_begin_34 rfl hiN ?_
      dsimp only [List.set]
      rw [show (1 : Int64) = lN (one w i) from by rw [one, if_pos ((nI_eqi (by omega) (by omega)).mp c26)]; rfl, updL_lN]
      refine J.iinc (1) dX0_begin_35 (by decide) rfl (by decide) rfl ?_
      dsimp only [List.set]
      refine J.goto (tgt := 10) dX0_begin_38 (by decide) ?_
      refine J.at (ih (i + 1) (by omega)) (by rw [← nI_1]) rfl ?_
      simp only [jlt_e (fun j => one w j) (fun j => x j)]
set_option maxRecDepth 100000 in
set_option maxHeartbeats 4000000 in
theorem mX0_begin (q : rT) (x : Nat → Nat) (n : Nat → Int64) (u : uT) (w : Nat) (hw : w < 8) : J KX0_begin 9 (fun o B => o = none ∧ B = wO (rset q 6 0 w) (one w) n u) 0 [some (.ref 0), some (.int (nI w)), none] [] (wO q x n u) 0 0 := by
  unfold wO
  refine J.aload_n dX0_begin_0 rfl rfl ?_
  refine J.iload_n dX0_begin_1 rfl rfl ?_
  refine J.bipush (7) dX0_begin_2 (by decide) ?_
  refine J.iand dX0_begin_4 ?_
  rw [and7_eval _ hw]
  refine J.putfield dX0_begin_5 jFX0_57 jP0_3 rfl rfl rfl (Nat.le_of_ble_eq_true rfl) ?_
  dsimp only [List.set]
  refine J.iconst (0) dX0_begin_8 (by decide) ?_
  refine J.istore_n dX0_begin_9 rfl (by decide) rfl ?_
  dsimp only [List.set]
  exact J.at (mX0_begin_l q x n u w hw 8 0 (by omega)) rfl rfl (by simp only [Nat.not_lt_zero, if_false])
def otake (q r : rT) : rT := fun y => if y = 6 then (fun j => if j = 0 then r 6 3 else if j = 1 then r 6 4 else q 6 j) else if y = 0 then r 0 else if y = 1 then r 1 else q y
set_option maxRecDepth 100000 in
set_option maxHeartbeats 4000000 in
theorem mX0_take_l (q : rT) (x : Nat → Nat) (n : Nat → Int64) (u : uT) (r : rT) (hw : r 6 3 < 8) : ∀ (k9 i : Nat), i + k9 = 3 → J KX0_take 16 (fun o B => o = none ∧ B = wO (otake q r) (one (r 6 3)) n u ++ wRb 9 r) 2 [some (.ref 0), some (.ref 9), some (.int (nI i))] [] [.inr (0, [.ref 1, .ref 2, .ref 3, .int (nI (q 6 0)), .int (nI (q 6 1)), .ref 4, .ref 5, .ref 6, .ref 7, .ref 8, .long (u 3 0), .long (u 3 1)]), .inl (0, 3, .inl (fun j => nI (if j < i then r 0 j else q 0 j))), .inl (0, 3, .inl (fun j => nI (if j < i then r 1 j else q 1 j))), .inl (0, 3, .inl (fun j => nI (q 2 j))), .inl (1, 8, .inr (.inl (fun j => lN (x j)))), .inl (1, 8, .inr (.inl (n))), .inl (1, 8, .inr (.inl (u 0))), .inl (1, 8, .inr (.inl (u 1))), .inl (1, 6, .inr (.inl (u 2))), .inr (2, [.ref 10, .ref 11, .ref 12, .ref 13, .ref 14, .ref 15, .int (nI (r 6 0)), .int (nI (r 6 1)), .int (nI (r 6 2)), .int (nI (r 6 3)), .int (nI (r 6 4)), .int (nI (r 6 5)), .int (nI (r 6 6))]), .inl (0, 3, .inl (fun j => nI (r 0 j))), .inl (0, 3, .inl (fun j => nI (r 1 j))), .inl (0, 4, .inl (fun j => nI (r 2 j))), .inl (0, 4, .inl (fun j => nI (r 3 j))), .inl (0, 3, .inl (fun j => nI (r 4 j))), .inl (0, 3, .inl (fun j => nI (r 5 j)))] 0 0 := by
  intro k9
  induction k9 with
  | zero =>
    intro i hi
    obtain hiN : i = 3 := by omega
    subst hiN
    refine J.iload_n dX0_take_2 rfl rfl ?_
    refine J.iconst (3) dX0_take_3 (by decide) ?_
    refine J.icmp_ge (tgt := 37) dX0_take_4 (by decide) (fun c4 => ?_) (fun c4 => absurd c4 (fun h => h (by decide)))
    refine J.arrI 1 0 (fun j => nI (r 0 j)) rfl (fun j hj => by rw [if_pos hj]) ?_
    refine J.arrI 2 0 (fun j => nI (r 1 j)) rfl (fun j hj => by rw [if_pos hj]) ?_
    dsimp only [List.set]
    refine J.aload_n dX0_take_37 rfl rfl ?_
    refine J.aload_n dX0_take_38 rfl rfl ?_
    refine J.getfield dX0_take_39 jFX0_41 rfl rfl ?_
    refine J.putfield dX0_take_42 jFX0_45 jP0_4 rfl rfl rfl (Nat.le_of_ble_eq_true rfl) ?_
    dsimp only [List.set]
    refine J.aload_n dX0_take_45 rfl rfl ?_
    refine J.aload_n dX0_take_46 rfl rfl ?_
    refine J.getfield dX0_take_47 jFX0_46 rfl rfl ?_
    refine J.cv (as := [.int _]) (is := [0, 1, 2, 3, 4, 5, 6, 7, 8]) (o := 0) okX0_begin jcX0_49 (mX0_begin (rset (rrow (rrow q 0 (r 0)) 1 (r 1)) 6 1 (r 6 4)) x n u (r 6 3) hw) dX0_take_50 rfl rfl rfl rfl rfl rfl rfl (fun r9 B9 hq => ?_)
    obtain ⟨rfl, rfl⟩ := hq
    refine ⟨rfl, ?_⟩
    show J _ _ _ _ _ _ (wO (otake q r) (one (r 6 3)) n u ++ wRb 9 r) _ _
    exact J.vret dX0_take_53 rfl (Nat.le_refl _) (Nat.le_refl _) ⟨rfl, rfl⟩
  | succ k9 ih =>
    intro i hi
    have hiN : i < 3 := by omega
    refine J.iload_n dX0_take_2 rfl rfl ?_
    refine J.iconst (3) dX0_take_3 (by decide) ?_
    refine J.icmp_ge (tgt := 37) dX0_take_4 (by decide) (fun c4 => absurd c4 (nI_ge (b := 3) hiN (by decide))) (fun c4 => ?_)
    refine J.aload_n dX0_take_7 rfl rfl ?_
    refine J.getfield dX0_take_8 jFX0_9 rfl rfl ?_
    refine J.iload_n dX0_take_11 rfl rfl ?_
    refine J.aload_n dX0_take_12 rfl rfl ?_
    refine J.getfield dX0_take_13 jFX0_37 rfl rfl ?_
    refine J.iload_n dX0_take_16 rfl rfl ?_
    refine J.ialoadN dX0_take_17 rfl hiN ?_
    refine J.iastoreN dX0_take_18 rfl hiN ?_
    rw [upd_nI]
    dsimp only [List.set]
    refine J.aload_n dX0_take_19 rfl rfl ?_
    refine J.getfield dX0_take_20 jFX0_15 rfl rfl ?_
    refine J.iload_n dX0_take_23 rfl rfl ?_
    refine J.aload_n dX0_take_24 rfl rfl ?_
    refine J.getfield dX0_take_25 jFX0_40 rfl rfl ?_
    refine J.iload_n dX0_take_28 rfl rfl ?_
    refine J.ialoadN dX0_take_29 rfl hiN ?_
    refine J.iastoreN dX0_take_30 rfl hiN ?_
    rw [upd_nI]
    dsimp only [List.set]
    refine J.iinc (1) dX0_take_31 (by decide) rfl (by decide) rfl ?_
    dsimp only [List.set]
    refine J.goto (tgt := 2) dX0_take_34 (by decide) ?_
    refine J.at (ih (i + 1) (by omega)) (by rw [← nI_1]) rfl ?_
    simp only [jlt_e (fun j => r 0 j) (fun j => q 0 j), jlt_e (fun j => r 1 j) (fun j => q 1 j)]
set_option maxRecDepth 100000 in
set_option maxHeartbeats 4000000 in
theorem mX0_take (q : rT) (x : Nat → Nat) (n : Nat → Int64) (u : uT) (r : rT) (hw : r 6 3 < 8) : J KX0_take 16 (fun o B => o = none ∧ B = wO (otake q r) (one (r 6 3)) n u ++ wRb 9 r) 0 [some (.ref 0), some (.ref 9), none] [] (wO q x n u ++ wRb 9 r) 0 0 := by
  unfold wO wRb
  dsimp only [List.cons_append, List.nil_append]
  refine J.iconst (0) dX0_take_0 (by decide) ?_
  refine J.istore_n dX0_take_1 rfl (by decide) rfl ?_
  dsimp only [List.set]
  exact J.at (mX0_take_l q x n u r hw 3 0 (by omega)) rfl rfl (by simp only [Nat.not_lt_zero, if_false])
end
section
def onew (q : rT) (k m l : Nat) : rT := fun y => if y = 6 then (fun j => if j = 0 then 2 ^ m - 1 else if j = 1 then l else q 6 j) else if y = 0 then (fun _ => k) else if y = 1 then (fun _ => 0) else q y
theorem full_eval : ∀ m, m < 4 → 1 <<< (nI m &&& 31) - 1 = nI (2 ^ m - 1) := by decide +kernel
theorem full_lt {m : Nat} (h : m < 4) : 2 ^ m - 1 < 8 := by
  rcases (show m = 0 ∨ m = 1 ∨ m = 2 ∨ m = 3 by omega) with rfl | rfl | rfl | rfl <;> decide
set_option maxRecDepth 100000 in
set_option maxHeartbeats 4000000 in
theorem mX0_takeNew_l (q : rT) (x : Nat → Nat) (n : Nat → Int64) (u : uT) (k m l : Nat) (hm : m < 4) : ∀ (k9 i : Nat), i + k9 = 3 → J KX0_takeNew 9 (fun o B => o = none ∧ B = wO (onew q k m l) (one (2 ^ m - 1)) n u) 3 [some (.ref 0), some (.int (nI k)), some (.int (nI m)), some (.int (nI l)), some (.int (nI i))] [] [.inr (0, [.ref 1, .ref 2, .ref 3, .int (nI (q 6 0)), .int (nI (q 6 1)), .ref 4, .ref 5, .ref 6, .ref 7, .ref 8, .long (u 3 0), .long (u 3 1)]), .inl (0, 3, .inl (fun j => nI (if j < i then k else q 0 j))), .inl (0, 3, .inl (fun j => nI (if j < i then 0 else q 1 j))), .inl (0, 3, .inl (fun j => nI (q 2 j))), .inl (1, 8, .inr (.inl (fun j => lN (x j)))), .inl (1, 8, .inr (.inl (n))), .inl (1, 8, .inr (.inl (u 0))), .inl (1, 8, .inr (.inl (u 1))), .inl (1, 6, .inr (.inl (u 2)))] 0 0 := by
  intro k9
  induction k9 with
  | zero =>
    intro i hi
    obtain hiN : i = 3 := by omega
    subst hiN
    refine J.iload dX0_takeNew_3 rfl ?_
    refine J.iconst (3) dX0_takeNew_5 (by decide) ?_
    refine J.icmp_ge (tgt := 31) dX0_takeNew_6 (by decide) (fun c6 => ?_) (fun c6 => absurd c6 (fun h => h (by decide)))
    refine J.arrI 1 0 (fun j => nI k) rfl (fun j hj => by rw [if_pos hj]) ?_
    refine J.arrI 2 0 (fun j => nI 0) rfl (fun j hj => by rw [if_pos hj]) ?_
    dsimp only [List.set]
    refine J.aload_n dX0_takeNew_31 rfl rfl ?_
    refine J.iload_n dX0_takeNew_32 rfl rfl ?_
    refine J.putfield dX0_takeNew_33 jFX0_45 jP0_4 rfl rfl rfl (Nat.le_of_ble_eq_true rfl) ?_
    dsimp only [List.set]
    refine J.aload_n dX0_takeNew_36 rfl rfl ?_
    refine J.iconst (1) dX0_takeNew_37 (by decide) ?_
    refine J.iload_n dX0_takeNew_38 rfl rfl ?_
    refine J.ishl dX0_takeNew_39 ?_
    refine J.iconst (1) dX0_takeNew_40 (by decide) ?_
    refine J.isub dX0_takeNew_41 ?_
    rw [full_eval _ hm]
    refine J.cv (as := [.int _]) (is := [0, 1, 2, 3, 4, 5, 6, 7, 8]) (o := 0) okX0_begin jcX0_49 (mX0_begin (rset (rrow (rrow q 0 (fun _ => k)) 1 (fun _ => 0)) 6 1 l) x n u (2 ^ m - 1) (full_lt hm)) dX0_takeNew_42 rfl rfl rfl rfl rfl rfl rfl (fun r9 B9 hq => ?_)
    obtain ⟨rfl, rfl⟩ := hq
    refine ⟨rfl, ?_⟩
    show J _ _ _ _ _ _ (wO (onew q k m l) (one (2 ^ m - 1)) n u) _ _
    exact J.vret dX0_takeNew_45 rfl (Nat.le_refl _) (Nat.le_refl _) ⟨rfl, rfl⟩
  | succ k9 ih =>
    intro i hi
    have hiN : i < 3 := by omega
    refine J.iload dX0_takeNew_3 rfl ?_
    refine J.iconst (3) dX0_takeNew_5 (by decide) ?_
    refine J.icmp_ge (tgt := 31) dX0_takeNew_6 (by decide) (fun c6 => absurd c6 (nI_ge (b := 3) hiN (by decide))) (fun c6 => ?_)
    refine J.aload_n dX0_takeNew_9 rfl rfl ?_
    refine J.getfield dX0_takeNew_10 jFX0_9 rfl rfl ?_
    refine J.iload dX0_takeNew_13 rfl ?_
    refine J.iload_n dX0_takeNew_15 rfl rfl ?_
    refine J.iastoreN dX0_takeNew_16 rfl hiN ?_
    rw [upd_nI]
    dsimp only [List.set]
    refine J.aload_n dX0_takeNew_17 rfl rfl ?_
    refine J.getfield dX0_takeNew_18 jFX0_15 rfl rfl ?_
    refine J.iload dX0_takeNew_21 rfl ?_
    refine J.iconst (0) dX0_takeNew_23 (by decide) ?_
    refine J.iastoreN dX0_takeNew_24 rfl hiN ?_
    rw [show (0 : Int32) = nI 0 from rfl, upd_nI]
    dsimp only [List.set]
    refine J.iinc (1) dX0_takeNew_25 (by decide) rfl (by decide) rfl ?_
    dsimp only [List.set]
    refine J.goto (tgt := 3) dX0_takeNew_28 (by decide) ?_
    refine J.at (ih (i + 1) (by omega)) (by rw [← nI_1]) rfl ?_
    simp only [jlt_e (fun j => k) (fun j => q 0 j), jlt_e (fun j => 0) (fun j => q 1 j)]
set_option maxRecDepth 100000 in
set_option maxHeartbeats 4000000 in
theorem mX0_takeNew (q : rT) (x : Nat → Nat) (n : Nat → Int64) (u : uT) (k m l : Nat) (hm : m < 4) : J KX0_takeNew 9 (fun o B => o = none ∧ B = wO (onew q k m l) (one (2 ^ m - 1)) n u) 0 [some (.ref 0), some (.int (nI k)), some (.int (nI m)), some (.int (nI l)), none] [] (wO q x n u) 0 0 := by
  unfold wO
  refine J.iconst (0) dX0_takeNew_0 (by decide) ?_
  refine J.istore dX0_takeNew_1 (by decide) rfl ?_
  dsimp only [List.set]
  exact J.at (mX0_takeNew_l q x n u k m l hm 3 0 (by omega)) rfl rfl (by simp only [Nat.not_lt_zero, if_false])
def orenew (q : rT) (i : Nat) : rT := rset (rset q 1 i 0) 6 0 (q 6 0 ||| 2 ^ i)
theorem ws_lt : ∀ w, w < 8 → ∀ i, i < 3 → w ||| 2 ^ i < 8 := by decide +kernel
set_option maxRecDepth 100000 in
set_option maxHeartbeats 4000000 in
theorem mX0_renew (q : rT) (x : Nat → Nat) (n : Nat → Int64) (u : uT) (i : Nat) (hi : i < 3) (hw : q 6 0 < 8) : J KX0_renew 9 (fun o B => o = none ∧ B = wO (orenew q i) (one (q 6 0 ||| 2 ^ i)) n u) 0 [some (.ref 0), some (.int (nI i))] [] (wO q x n u) 0 0 := by
  refine J.iload_n dX0_renew_0 rfl rfl ?_
  refine J.iconst (0) dX0_renew_1 (by decide) ?_
  refine J.iconst (2) dX0_renew_2 (by decide) ?_
  refine J.cs (as := [.int _, .int _, .int _]) (is := []) okX6_within jcX0_53 (mX6_within _ _ _) dX0_renew_3 rfl rfl rfl rfl rfl rfl (fun r9 B9 hq => ?_)
  obtain ⟨rfl, rfl⟩ := hq
  refine ⟨rfl, ?_⟩
  show J _ _ _ _ _ (.int _ :: _) (wO q x n u) _ _
  refine J.if_eq (tgt := 28) dX0_renew_6 (by decide) (fun c6 => absurd c6 (fun h => (jB_0 _).mp h ⟨nI_pos' (show i < 2 ^ 31 by omega), (nI_lei (b := 2) (by omega) (by decide)).mpr (by omega)⟩)) (fun c6 => ?_)
  refine J.aload_n dX0_renew_9 rfl rfl ?_
  refine J.getfield dX0_renew_10 jFX0_15 rfl rfl ?_
  refine J.iload_n dX0_renew_13 rfl rfl ?_
  refine J.iconst (0) dX0_renew_14 (by decide) ?_
  unfold wO
  refine J.iastoreN dX0_renew_15 rfl hi ?_
  rw [show (0 : Int32) = nI 0 from rfl, upd_nI]
  dsimp only [List.set]
  refine J.aload_n dX0_renew_16 rfl rfl ?_
  refine J.aload_n dX0_renew_17 rfl rfl ?_
  refine J.getfield dX0_renew_18 jFX0_57 rfl rfl ?_
  refine J.iconst (1) dX0_renew_21 (by decide) ?_
  refine J.iload_n dX0_renew_22 rfl rfl ?_
  refine J.ishl dX0_renew_23 ?_
  refine J.ior dX0_renew_24 ?_
  rw [ws_eval _ hw _ hi]
  refine J.cv (as := [.int _]) (is := [0, 1, 2, 3, 4, 5, 6, 7, 8]) (o := 0) okX0_begin jcX0_49 (mX0_begin (rset q 1 i 0) x n u (q 6 0 ||| 2 ^ i) (ws_lt _ hw _ hi)) dX0_renew_25 rfl rfl rfl rfl rfl rfl rfl (fun r9 B9 hq => ?_)
  obtain ⟨rfl, rfl⟩ := hq
  refine ⟨rfl, ?_⟩
  show J _ _ _ _ _ _ (wO (orenew q i) (one (q 6 0 ||| 2 ^ i)) n u) _ _
  exact J.vret dX0_renew_28 rfl (Nat.le_refl _) (Nat.le_refl _) ⟨rfl, rfl⟩
def oOK (q : rT) : Prop := (∀ i, q 0 i ≤ 4) ∧ (∀ i, q 1 i ≤ 9) ∧ q 6 1 ≤ 9 ∧ q 6 0 < 8
/-- what each HAIR breaks by, behind t HOURS, s being WHOLE -/
def ten (q : rT) (s t : Nat) (i : Nat) : Nat := brk (q 0 i) (min 9 (q 1 i + t)) (q 6 1) (pc3 s)
theorem ten_le (q : rT) (s t i : Nat) : ten q s t i ≤ 10 := brk_le _ _ _ _
set_option maxRecDepth 100000 in
set_option maxHeartbeats 4000000 in
theorem mX0_weigh_l (q : rT) (x : Nat → Nat) (n : Nat → Int64) (u : uT) (s t : Nat) (hq : oOK q) (hs : s < 8) (ht : t < 100) : ∀ (k9 i : Nat), i + k9 = 3 → J KX0_weigh 9 (fun o B => o = none ∧ B = wO (rrow q 2 (ten q s t)) x n u) 8 [some (.ref 0), some (.int (nI s)), some (.int (nI t)), some (.int (nI (pc3 s))), some (.int (nI i))] [] [.inr (0, [.ref 1, .ref 2, .ref 3, .int (nI (q 6 0)), .int (nI (q 6 1)), .ref 4, .ref 5, .ref 6, .ref 7, .ref 8, .long (u 3 0), .long (u 3 1)]), .inl (0, 3, .inl (fun j => nI (q 0 j))), .inl (0, 3, .inl (fun j => nI (q 1 j))), .inl (0, 3, .inl (fun j => nI (if j < i then ten q s t j else q 2 j))), .inl (1, 8, .inr (.inl (fun j => lN (x j)))), .inl (1, 8, .inr (.inl (n))), .inl (1, 8, .inr (.inl (u 0))), .inl (1, 8, .inr (.inl (u 1))), .inl (1, 6, .inr (.inl (u 2)))] 0 0 := by
  intro k9
  induction k9 with
  | zero =>
    intro i hi
    obtain hiN : i = 3 := by omega
    subst hiN
    refine J.iload dX0_weigh_8 rfl ?_
    refine J.iconst (3) dX0_weigh_10 (by decide) ?_
    refine J.icmp_ge (tgt := 56) dX0_weigh_11 (by decide) (fun c11 => ?_) (fun c11 => absurd c11 (fun h => h (by decide)))
    refine J.arrI 3 0 (fun j => nI (ten q s t j)) rfl (fun j hj => by rw [if_pos hj]) ?_
    exact J.vret dX0_weigh_56 rfl (Nat.le_refl _) (Nat.le_refl _) ⟨rfl, rfl⟩
  | succ k9 ih =>
    intro i hi
    have hiN : i < 3 := by omega
    refine J.iload dX0_weigh_8 rfl ?_
    refine J.iconst (3) dX0_weigh_10 (by decide) ?_
    refine J.icmp_ge (tgt := 56) dX0_weigh_11 (by decide) (fun c11 => absurd c11 (nI_ge (b := 3) hiN (by decide))) (fun c11 => ?_)
    refine J.aload_n dX0_weigh_14 rfl rfl ?_
    refine J.getfield dX0_weigh_15 jFX0_18 rfl rfl ?_
    refine J.iload dX0_weigh_18 rfl ?_
    refine J.aload_n dX0_weigh_20 rfl rfl ?_
    refine J.getfield dX0_weigh_21 jFX0_9 rfl rfl ?_
    refine J.iload dX0_weigh_24 rfl ?_
    refine J.ialoadN dX0_weigh_26 rfl hiN ?_
    refine J.bipush (9) dX0_weigh_27 (by decide) ?_
    refine J.aload_n dX0_weigh_29 rfl rfl ?_
    refine J.getfield dX0_weigh_30 jFX0_15 rfl rfl ?_
    refine J.iload dX0_weigh_33 rfl ?_
    refine J.ialoadN dX0_weigh_35 rfl hiN ?_
    refine J.iload_n dX0_weigh_36 rfl rfl ?_
    refine J.iadd dX0_weigh_37 ?_
    refine J.mmin dX0_weigh_38 (jt 557 rfl rfl) rfl ?_
    rw [nI_add, show (9 : Int32) = nI 9 from rfl, nI_min (by decide) (by have := hq.2.1 i; omega)]
    refine J.aload_n dX0_weigh_41 rfl rfl ?_
    refine J.getfield dX0_weigh_42 jFX0_45 rfl rfl ?_
    refine J.iload_n dX0_weigh_45 rfl rfl ?_
    refine J.cs (as := [.int _, .int _, .int _, .int _]) (is := []) okX6_breaksOf jcX0_81 (mX6_breaksOf (q 0 i) (min 9 (q 1 i + t)) (q 6 1) (pc3 s) (by have := hq.1 i; omega) (by omega) (by have := hq.2.2.1; omega) (by have := pc3_le s; omega)) dX0_weigh_46 rfl rfl rfl rfl rfl rfl (fun r9 B9 hq => ?_)
    obtain ⟨rfl, rfl⟩ := hq
    refine ⟨rfl, ?_⟩
    show J _ _ _ _ _ (.int _ :: _) [.inr (0, [.ref 1, .ref 2, .ref 3, .int (nI (q 6 0)), .int (nI (q 6 1)), .ref 4, .ref 5, .ref 6, .ref 7, .ref 8, .long (u 3 0), .long (u 3 1)]), .inl (0, 3, .inl (fun j => nI (q 0 j))), .inl (0, 3, .inl (fun j => nI (q 1 j))), .inl (0, 3, .inl (fun j => nI (if j < i then ten q s t j else q 2 j))), .inl (1, 8, .inr (.inl (fun j => lN (x j)))), .inl (1, 8, .inr (.inl (n))), .inl (1, 8, .inr (.inl (u 0))), .inl (1, 8, .inr (.inl (u 1))), .inl (1, 6, .inr (.inl (u 2)))] _ _
    refine J.iastoreN dX0_weigh_49 rfl hiN ?_
    rw [show nI (brk (q 0 i) (min 9 (q 1 i + t)) (q 6 1) (pc3 s)) = nI (ten q s t i) from rfl, upd_nI]
    dsimp only [List.set]
    refine J.iinc (1) dX0_weigh_50 (by decide) rfl (by decide) rfl ?_
    dsimp only [List.set]
    refine J.goto (tgt := 8) dX0_weigh_53 (by decide) ?_
    refine J.at (ih (i + 1) (by omega)) (by rw [← nI_1]) rfl ?_
    simp only [jlt_e (fun j => ten q s t j) (fun j => q 2 j)]
set_option maxRecDepth 100000 in
set_option maxHeartbeats 4000000 in
theorem mX0_weigh (q : rT) (x : Nat → Nat) (n : Nat → Int64) (u : uT) (s t : Nat) (hq : oOK q) (hs : s < 8) (ht : t < 100) : J KX0_weigh 9 (fun o B => o = none ∧ B = wO (rrow q 2 (ten q s t)) x n u) 0 [some (.ref 0), some (.int (nI s)), some (.int (nI t)), none, none] [] (wO q x n u) 0 0 := by
  refine J.iload_n dX0_weigh_0 rfl rfl ?_
  refine J.cs (as := [.int _]) (is := []) okJ6_bitCount_0f7a4 jcX0_69 (mJ6_bitCount_0f7a4 _ hs) dX0_weigh_1 rfl rfl rfl rfl rfl rfl (fun r9 B9 hq => ?_)
  obtain ⟨rfl, rfl⟩ := hq
  refine ⟨rfl, ?_⟩
  show J _ _ _ _ _ (.int _ :: _) (wO q x n u) _ _
  refine J.istore_n dX0_weigh_4 rfl (by decide) rfl ?_
  dsimp only [List.set]
  refine J.iconst (0) dX0_weigh_5 (by decide) ?_
  refine J.istore dX0_weigh_6 (by decide) rfl ?_
  dsimp only [List.set]
  exact J.at (mX0_weigh_l q x n u s t hq hs ht 3 0 (by omega)) rfl rfl (by simp only [Nat.not_lt_zero, if_false]; rfl)
/-- the part of a thousand by which of s just r are left, each HAIR breaking by t tenths -/
def fac (t : Nat → Nat) (s r i : Nat) : Nat := if bit s i = 0 then 10 else if bit r i = 0 then t i else 10 - t i
def pw (t : Nat → Nat) (s r : Nat) : Nat → Nat
  | 0 => 1
  | i + 1 => pw t s r i * fac t s r i
def wtn (t : Nat → Nat) (s r : Nat) : Nat := if r &&& (7 - s) = 0 then pw t s r 3 else 0
theorem sub_eval : ∀ s, s < 8 → ∀ r, r < 8 → nI r &&& (nI s ^^^ -1) = nI (r &&& (7 - s)) := by decide +kernel
theorem pw_a {t : Nat → Nat} {s r i : Nat} (h : nI (bit s i) = 0) : lN (pw t s r i) * 10 = lN (pw t s r (i + 1)) := by
  have h1 : bit s i = 0 := (nI_eqi (b := 0) (by have := bit_le s i; omega) (by decide)).mp h
  rw [pw, fac, if_pos h1, ← lN_mul]
  rfl
theorem pw_b {t : Nat → Nat} {s r i : Nat} (ht : t i ≤ 10) (h : ¬ nI (bit s i) = 0) (h2 : nI (bit r i) = 0) : lN (pw t s r i) * (nI (t i)).toInt64 = lN (pw t s r (i + 1)) := by
  have h1 : ¬ bit s i = 0 := fun e => h (by rw [e]; rfl)
  have h3 : bit r i = 0 := (nI_eqi (b := 0) (by have := bit_le r i; omega) (by decide)).mp h2
  rw [pw, fac, if_neg h1, if_pos h3, ← lN_mul, nI_l (by omega)]
theorem pw_c {t : Nat → Nat} {s r i : Nat} (ht : t i ≤ 10) (h : ¬ nI (bit s i) = 0) (h2 : ¬ nI (bit r i) = 0) : lN (pw t s r i) * (10 - nI (t i)).toInt64 = lN (pw t s r (i + 1)) := by
  have h1 : ¬ bit s i = 0 := fun e => h (by rw [e]; rfl)
  have h3 : ¬ bit r i = 0 := fun e => h2 (by rw [e]; rfl)
  rw [pw, fac, if_neg h1, if_neg h3, ← lN_mul, show (10 : Int32) = nI 10 from rfl, pk_sub ht, nI_l (by omega)]
set_option maxRecDepth 100000 in
set_option maxHeartbeats 4000000 in
theorem mX0_weight_l (q : rT) (x : Nat → Nat) (n : Nat → Int64) (u : uT) (s r : Nat) (hs : s < 8) (hr : r < 8) (ht : ∀ i, q 2 i ≤ 10) (h0 : r &&& (7 - s) = 0) : ∀ (k9 i : Nat), i + k9 = 3 → J KX0_weight 9 (fun o B => o = some (.long (lN (wtn (q 2) s r))) ∧ B = wO q x n u) 15 [some (.ref 0), some (.int (nI s)), some (.int (nI r)), some (.long (lN (pw (q 2) s r i))), none, some (.int (nI i))] [] (wO q x n u) 0 0 := by
  intro k9
  induction k9 with
  | zero =>
    intro i hi
    obtain hiN : i = 3 := by omega
    subst hiN
    refine J.iload dX0_weight_15 rfl ?_
    refine J.iconst (3) dX0_weight_17 (by decide) ?_
    refine J.icmp_ge (tgt := 79) dX0_weight_18 (by decide) (fun c18 => ?_) (fun c18 => absurd c18 (fun h => h (by decide)))
    refine J.lload_n dX0_weight_79 rfl rfl ?_
    exact J.lret dX0_weight_80 rfl (Nat.le_refl _) (Nat.le_refl _) ⟨by rw [wtn, if_pos h0], rfl⟩
  | succ k9 ih =>
    intro i hi
    have hiN : i < 3 := by omega
    refine J.iload dX0_weight_15 rfl ?_
    refine J.iconst (3) dX0_weight_17 (by decide) ?_
    refine J.icmp_ge (tgt := 79) dX0_weight_18 (by decide) (fun c18 => absurd c18 (nI_ge (b := 3) hiN (by decide))) (fun c18 => ?_)
    refine J.iload_n dX0_weight_21 rfl rfl ?_
    refine J.iload dX0_weight_22 rfl ?_
    refine J.ishr dX0_weight_24 ?_
    refine J.iconst (1) dX0_weight_25 (by decide) ?_
    refine J.iand dX0_weight_26 ?_
    rw [bit_eval _ hs _ hiN]
    refine J.if_ne (tgt := 39) dX0_weight_27 (by decide) (fun c27 => ?_) (fun c27 => ?_)
    · refine J.lload_n dX0_weight_39 rfl rfl ?_
      refine J.iload_n dX0_weight_40 rfl rfl ?_
      refine J.iload dX0_weight_41 rfl ?_
      refine J.ishr dX0_weight_43 ?_
      refine J.iconst (1) dX0_weight_44 (by decide) ?_
      refine J.iand dX0_weight_45 ?_
      rw [bit_eval _ hr _ hiN]
      refine J.if_ne (tgt := 60) dX0_weight_46 (by decide) (fun c46 => ?_) (fun c46 => ?_)
      · refine J.bipush (10) dX0_weight_60 (by decide) ?_
        refine J.aload_n dX0_weight_62 rfl rfl ?_
        refine J.getfield dX0_weight_63 jFX0_18 rfl rfl ?_
        refine J.iload dX0_weight_66 rfl ?_
        refine J.ialoadN dX0_weight_68 rfl hiN ?_
        refine J.isub dX0_weight_69 ?_
        refine J.i2l dX0_weight_70 ?_
        refine J.lmul dX0_weight_71 ?_
        refine J.lstore_n dX0_weight_72 rfl (by decide) rfl ?_
        dsimp only [List.set]
        refine J.iinc (1) dX0_weight_73 (by decide) rfl (by decide) rfl ?_
        dsimp only [List.set]
        refine J.goto (tgt := 15) dX0_weight_76 (by decide) ?_
        refine J.at (ih (i + 1) (by omega)) ?_ rfl rfl
        rw [← nI_1]
        first | rw [pw_a c27] | rw [pw_b (ht i) c27 c46] | rw [pw_c (ht i) c27 c46]
      · refine J.aload_n dX0_weight_49 rfl rfl ?_
        refine J.getfield dX0_weight_50 jFX0_18 rfl rfl ?_
        refine J.iload dX0_weight_53 rfl ?_
        refine J.ialoadN dX0_weight_55 rfl hiN ?_
        refine J.i2l dX0_weight_56 ?_
        refine J.goto (tgt := 71) dX0_weight_57 (by decide) ?_
        refine J.lmul dX0_weight_71 ?_
        refine J.lstore_n dX0_weight_72 rfl (by decide) rfl ?_
        dsimp only [List.set]
        refine J.iinc (1) dX0_weight_73 (by decide) rfl (by decide) rfl ?_
        dsimp only [List.set]
        refine J.goto (tgt := 15) dX0_weight_76 (by decide) ?_
        refine J.at (ih (i + 1) (by omega)) ?_ rfl rfl
        rw [← nI_1]
        first | rw [pw_a c27] | rw [pw_b (ht i) c27 c46] | rw [pw_c (ht i) c27 c46]
    · refine J.lload_n dX0_weight_30 rfl rfl ?_
      refine J.ldc2 (v := 10) dX0_weight_31 (jt 563 rfl rfl) ?_
      refine J.lmul dX0_weight_34 ?_
      refine J.lstore_n dX0_weight_35 rfl (by decide) rfl ?_
      dsimp only [List.set]
      refine J.goto (tgt := 73) dX0_weight_36 (by decide) ?_
      refine J.iinc (1) dX0_weight_73 (by decide) rfl (by decide) rfl ?_
      dsimp only [List.set]
      refine J.goto (tgt := 15) dX0_weight_76 (by decide) ?_
      refine J.at (ih (i + 1) (by omega)) ?_ rfl rfl
      rw [← nI_1]
      first | rw [pw_a c27] | rw [pw_b (ht i) c27 c46] | rw [pw_c (ht i) c27 c46]
set_option maxRecDepth 100000 in
set_option maxHeartbeats 4000000 in
theorem mX0_weight (q : rT) (x : Nat → Nat) (n : Nat → Int64) (u : uT) (s r : Nat) (hs : s < 8) (hr : r < 8) (ht : ∀ i, q 2 i ≤ 10) : J KX0_weight 9 (fun o B => o = some (.long (lN (wtn (q 2) s r))) ∧ B = wO q x n u) 0 [some (.ref 0), some (.int (nI s)), some (.int (nI r)), none, none, none] [] (wO q x n u) 0 0 := by
  refine J.iload_n dX0_weight_0 rfl rfl ?_
  refine J.iload_n dX0_weight_1 rfl rfl ?_
  refine J.iconst (-1) dX0_weight_2 (by decide) ?_
  refine J.ixor dX0_weight_3 ?_
  refine J.iand dX0_weight_4 ?_
  rw [sub_eval _ hs _ hr]
  refine J.if_eq (tgt := 10) dX0_weight_5 (by decide) (fun c5 => ?_) (fun c5 => ?_)
  · refine J.lconst 1 dX0_weight_10 (by decide) ?_
    refine J.lstore_n dX0_weight_11 rfl (by decide) rfl ?_
    dsimp only [List.set]
    refine J.iconst (0) dX0_weight_12 (by decide) ?_
    refine J.istore dX0_weight_13 (by decide) rfl ?_
    dsimp only [List.set]
    exact mX0_weight_l q x n u s r hs hr ht ((nI_eqi (b := 0) (by have : r &&& (7 - s) ≤ r := Nat.and_le_left; omega) (by decide)).mp c5) 3 0 (by omega)
  · refine J.lconst 0 dX0_weight_8 (by decide) ?_
    exact J.lret dX0_weight_9 rfl (Nat.le_refl _) (Nat.le_refl _) ⟨by rw [wtn, if_neg (fun h => c5 (by rw [h]; rfl))]; rfl, rfl⟩
end
section
theorem dX0_passHour_0 : decode cX0_passHour 0 = .ok (.iconst 0, 1) := by decide +kernel
theorem dX0_passHour_1 : decode cX0_passHour 1 = .ok (.istore_n 2, 1) := by decide +kernel
theorem dX0_passHour_2 : decode cX0_passHour 2 = .ok (.iload_n 2, 1) := by decide +kernel
theorem dX0_passHour_3 : decode cX0_passHour 3 = .ok (.bipush 8, 2) := by decide +kernel
theorem dX0_passHour_5 : decode cX0_passHour 5 = .ok (.if_icmp .ge 16, 3) := by decide +kernel
theorem dX0_passHour_8 : decode cX0_passHour 8 = .ok (.aload_n 0, 1) := by decide +kernel
theorem dX0_passHour_9 : decode cX0_passHour 9 = .ok (.getfield 25, 3) := by decide +kernel
theorem dX0_passHour_12 : decode cX0_passHour 12 = .ok (.iload_n 2, 1) := by decide +kernel
theorem dX0_passHour_13 : decode cX0_passHour 13 = .ok (.lconst 0, 1) := by decide +kernel
theorem dX0_passHour_14 : decode cX0_passHour 14 = .ok (.lastore, 1) := by decide +kernel
theorem dX0_passHour_15 : decode cX0_passHour 15 = .ok (.iinc 2 1, 3) := by decide +kernel
theorem dX0_passHour_18 : decode cX0_passHour 18 = .ok (.goto (-16), 3) := by decide +kernel
theorem dX0_passHour_21 : decode cX0_passHour 21 = .ok (.iconst 0, 1) := by decide +kernel
theorem dX0_passHour_22 : decode cX0_passHour 22 = .ok (.istore_n 2, 1) := by decide +kernel
theorem dX0_passHour_23 : decode cX0_passHour 23 = .ok (.iload_n 2, 1) := by decide +kernel
theorem dX0_passHour_24 : decode cX0_passHour 24 = .ok (.bipush 8, 2) := by decide +kernel
theorem dX0_passHour_26 : decode cX0_passHour 26 = .ok (.if_icmp .ge 61, 3) := by decide +kernel
theorem dX0_passHour_29 : decode cX0_passHour 29 = .ok (.aload_n 0, 1) := by decide +kernel
theorem dX0_passHour_30 : decode cX0_passHour 30 = .ok (.getfield 21, 3) := by decide +kernel
theorem dX0_passHour_33 : decode cX0_passHour 33 = .ok (.iload_n 2, 1) := by decide +kernel
theorem dX0_passHour_34 : decode cX0_passHour 34 = .ok (.laload, 1) := by decide +kernel
theorem dX0_passHour_35 : decode cX0_passHour 35 = .ok (.lconst 0, 1) := by decide +kernel
theorem dX0_passHour_36 : decode cX0_passHour 36 = .ok (.lcmp, 1) := by decide +kernel
theorem dX0_passHour_37 : decode cX0_passHour 37 = .ok (.ifCond .eq 44, 3) := by decide +kernel
theorem dX0_passHour_40 : decode cX0_passHour 40 = .ok (.aload_n 0, 1) := by decide +kernel
theorem dX0_passHour_41 : decode cX0_passHour 41 = .ok (.iload_n 2, 1) := by decide +kernel
theorem dX0_passHour_42 : decode cX0_passHour 42 = .ok (.iload_n 1, 1) := by decide +kernel
theorem dX0_passHour_43 : decode cX0_passHour 43 = .ok (.invokevirtual 61, 3) := by decide +kernel
theorem dX0_passHour_46 : decode cX0_passHour 46 = .ok (.iconst 0, 1) := by decide +kernel
theorem dX0_passHour_47 : decode cX0_passHour 47 = .ok (.istore_n 3, 1) := by decide +kernel
theorem dX0_passHour_48 : decode cX0_passHour 48 = .ok (.iload_n 3, 1) := by decide +kernel
theorem dX0_passHour_49 : decode cX0_passHour 49 = .ok (.iload_n 2, 1) := by decide +kernel
theorem dX0_passHour_50 : decode cX0_passHour 50 = .ok (.if_icmp .gt 31, 3) := by decide +kernel
theorem dX0_passHour_53 : decode cX0_passHour 53 = .ok (.aload_n 0, 1) := by decide +kernel
theorem dX0_passHour_54 : decode cX0_passHour 54 = .ok (.getfield 25, 3) := by decide +kernel
theorem dX0_passHour_57 : decode cX0_passHour 57 = .ok (.iload_n 3, 1) := by decide +kernel
theorem dX0_passHour_58 : decode cX0_passHour 58 = .ok (.dup2, 1) := by decide +kernel
theorem dX0_passHour_59 : decode cX0_passHour 59 = .ok (.laload, 1) := by decide +kernel
theorem dX0_passHour_60 : decode cX0_passHour 60 = .ok (.aload_n 0, 1) := by decide +kernel
theorem dX0_passHour_61 : decode cX0_passHour 61 = .ok (.getfield 21, 3) := by decide +kernel
theorem dX0_passHour_64 : decode cX0_passHour 64 = .ok (.iload_n 2, 1) := by decide +kernel
theorem dX0_passHour_65 : decode cX0_passHour 65 = .ok (.laload, 1) := by decide +kernel
theorem dX0_passHour_66 : decode cX0_passHour 66 = .ok (.aload_n 0, 1) := by decide +kernel
theorem dX0_passHour_67 : decode cX0_passHour 67 = .ok (.iload_n 2, 1) := by decide +kernel
theorem dX0_passHour_68 : decode cX0_passHour 68 = .ok (.iload_n 3, 1) := by decide +kernel
theorem dX0_passHour_69 : decode cX0_passHour 69 = .ok (.invokevirtual 65, 3) := by decide +kernel
theorem dX0_passHour_72 : decode cX0_passHour 72 = .ok (.lmul, 1) := by decide +kernel
theorem dX0_passHour_73 : decode cX0_passHour 73 = .ok (.ladd, 1) := by decide +kernel
theorem dX0_passHour_74 : decode cX0_passHour 74 = .ok (.lastore, 1) := by decide +kernel
theorem dX0_passHour_75 : decode cX0_passHour 75 = .ok (.iinc 3 1, 3) := by decide +kernel
theorem dX0_passHour_78 : decode cX0_passHour 78 = .ok (.goto (-30), 3) := by decide +kernel
theorem dX0_passHour_81 : decode cX0_passHour 81 = .ok (.iinc 2 1, 3) := by decide +kernel
theorem dX0_passHour_84 : decode cX0_passHour 84 = .ok (.goto (-61), 3) := by decide +kernel
theorem dX0_passHour_87 : decode cX0_passHour 87 = .ok (.iconst 0, 1) := by decide +kernel
theorem dX0_passHour_88 : decode cX0_passHour 88 = .ok (.istore_n 2, 1) := by decide +kernel
theorem dX0_passHour_89 : decode cX0_passHour 89 = .ok (.iload_n 2, 1) := by decide +kernel
theorem dX0_passHour_90 : decode cX0_passHour 90 = .ok (.bipush 8, 2) := by decide +kernel
theorem dX0_passHour_92 : decode cX0_passHour 92 = .ok (.if_icmp .ge 21, 3) := by decide +kernel
theorem dX0_passHour_95 : decode cX0_passHour 95 = .ok (.aload_n 0, 1) := by decide +kernel
theorem dX0_passHour_96 : decode cX0_passHour 96 = .ok (.getfield 21, 3) := by decide +kernel
theorem dX0_passHour_99 : decode cX0_passHour 99 = .ok (.iload_n 2, 1) := by decide +kernel
theorem dX0_passHour_100 : decode cX0_passHour 100 = .ok (.aload_n 0, 1) := by decide +kernel
theorem dX0_passHour_101 : decode cX0_passHour 101 = .ok (.getfield 25, 3) := by decide +kernel
theorem dX0_passHour_104 : decode cX0_passHour 104 = .ok (.iload_n 2, 1) := by decide +kernel
theorem dX0_passHour_105 : decode cX0_passHour 105 = .ok (.laload, 1) := by decide +kernel
theorem dX0_passHour_106 : decode cX0_passHour 106 = .ok (.lastore, 1) := by decide +kernel
theorem dX0_passHour_107 : decode cX0_passHour 107 = .ok (.iinc 2 1, 3) := by decide +kernel
theorem dX0_passHour_110 : decode cX0_passHour 110 = .ok (.goto (-21), 3) := by decide +kernel
theorem dX0_passHour_113 : decode cX0_passHour 113 = .ok (.return_, 1) := by decide +kernel
theorem dX0_passHours_0 : decode cX0_passHours 0 = .ok (.iconst 0, 1) := by decide +kernel
theorem dX0_passHours_1 : decode cX0_passHours 1 = .ok (.istore_n 2, 1) := by decide +kernel
theorem dX0_passHours_2 : decode cX0_passHours 2 = .ok (.iload_n 2, 1) := by decide +kernel
theorem dX0_passHours_3 : decode cX0_passHours 3 = .ok (.iload_n 1, 1) := by decide +kernel
theorem dX0_passHours_4 : decode cX0_passHours 4 = .ok (.if_icmp .ge 14, 3) := by decide +kernel
theorem dX0_passHours_7 : decode cX0_passHours 7 = .ok (.aload_n 0, 1) := by decide +kernel
theorem dX0_passHours_8 : decode cX0_passHours 8 = .ok (.iload_n 2, 1) := by decide +kernel
theorem dX0_passHours_9 : decode cX0_passHours 9 = .ok (.invokevirtual 58, 3) := by decide +kernel
theorem dX0_passHours_12 : decode cX0_passHours 12 = .ok (.iinc 2 1, 3) := by decide +kernel
theorem dX0_passHours_15 : decode cX0_passHours 15 = .ok (.goto (-13), 3) := by decide +kernel
theorem dX0_passHours_18 : decode cX0_passHours 18 = .ok (.return_, 1) := by decide +kernel
theorem dX0_holdsBy_0 : decode cX0_holdsBy 0 = .ok (.aload_n 0, 1) := by decide +kernel
theorem dX0_holdsBy_1 : decode cX0_holdsBy 1 = .ok (.invokevirtual 87, 3) := by decide +kernel
theorem dX0_holdsBy_4 : decode cX0_holdsBy 4 = .ok (.ldc2_w 85, 3) := by decide +kernel
theorem dX0_holdsBy_7 : decode cX0_holdsBy 7 = .ok (.lmul, 1) := by decide +kernel
theorem dX0_holdsBy_8 : decode cX0_holdsBy 8 = .ok (.iload_n 1, 1) := by decide +kernel
theorem dX0_holdsBy_9 : decode cX0_holdsBy 9 = .ok (.i2l, 1) := by decide +kernel
theorem dX0_holdsBy_10 : decode cX0_holdsBy 10 = .ok (.iload_n 2, 1) := by decide +kernel
theorem dX0_holdsBy_11 : decode cX0_holdsBy 11 = .ok (.invokestatic 91, 3) := by decide +kernel
theorem dX0_holdsBy_14 : decode cX0_holdsBy 14 = .ok (.lmul, 1) := by decide +kernel
theorem dX0_holdsBy_15 : decode cX0_holdsBy 15 = .ok (.lcmp, 1) := by decide +kernel
theorem dX0_holdsBy_16 : decode cX0_holdsBy 16 = .ok (.ifCond .lt 7, 3) := by decide +kernel
theorem dX0_holdsBy_19 : decode cX0_holdsBy 19 = .ok (.iconst 1, 1) := by decide +kernel
theorem dX0_holdsBy_20 : decode cX0_holdsBy 20 = .ok (.goto 4, 3) := by decide +kernel
theorem dX0_holdsBy_23 : decode cX0_holdsBy 23 = .ok (.iconst 0, 1) := by decide +kernel
theorem dX0_holdsBy_24 : decode cX0_holdsBy 24 = .ok (.ireturn, 1) := by decide +kernel
theorem dX0_foresee_0 : decode cX0_foresee 0 = .ok (.iconst 0, 1) := by decide +kernel
theorem dX0_foresee_1 : decode cX0_foresee 1 = .ok (.istore_n 1, 1) := by decide +kernel
theorem dX0_foresee_2 : decode cX0_foresee 2 = .ok (.iload_n 1, 1) := by decide +kernel
theorem dX0_foresee_3 : decode cX0_foresee 3 = .ok (.iconst 5, 1) := by decide +kernel
theorem dX0_foresee_4 : decode cX0_foresee 4 = .ok (.if_icmp .gt 36, 3) := by decide +kernel
theorem dX0_foresee_7 : decode cX0_foresee 7 = .ok (.aload_n 0, 1) := by decide +kernel
theorem dX0_foresee_8 : decode cX0_foresee 8 = .ok (.getfield 34, 3) := by decide +kernel
theorem dX0_foresee_11 : decode cX0_foresee 11 = .ok (.iload_n 1, 1) := by decide +kernel
theorem dX0_foresee_12 : decode cX0_foresee 12 = .ok (.aload_n 0, 1) := by decide +kernel
theorem dX0_foresee_13 : decode cX0_foresee 13 = .ok (.invokevirtual 87, 3) := by decide +kernel
theorem dX0_foresee_16 : decode cX0_foresee 16 = .ok (.iconst 5, 1) := by decide +kernel
theorem dX0_foresee_17 : decode cX0_foresee 17 = .ok (.iload_n 1, 1) := by decide +kernel
theorem dX0_foresee_18 : decode cX0_foresee 18 = .ok (.isub, 1) := by decide +kernel
theorem dX0_foresee_19 : decode cX0_foresee 19 = .ok (.invokestatic 91, 3) := by decide +kernel
theorem dX0_foresee_22 : decode cX0_foresee 22 = .ok (.lmul, 1) := by decide +kernel
theorem dX0_foresee_23 : decode cX0_foresee 23 = .ok (.lastore, 1) := by decide +kernel
theorem dX0_foresee_24 : decode cX0_foresee 24 = .ok (.iload_n 1, 1) := by decide +kernel
theorem dX0_foresee_25 : decode cX0_foresee 25 = .ok (.iconst 5, 1) := by decide +kernel
theorem dX0_foresee_26 : decode cX0_foresee 26 = .ok (.if_icmp .ge 8, 3) := by decide +kernel
theorem dX0_foresee_29 : decode cX0_foresee 29 = .ok (.aload_n 0, 1) := by decide +kernel
theorem dX0_foresee_30 : decode cX0_foresee 30 = .ok (.iload_n 1, 1) := by decide +kernel
theorem dX0_foresee_31 : decode cX0_foresee 31 = .ok (.invokevirtual 58, 3) := by decide +kernel
theorem dX0_foresee_34 : decode cX0_foresee 34 = .ok (.iinc 1 1, 3) := by decide +kernel
theorem dX0_foresee_37 : decode cX0_foresee 37 = .ok (.goto (-35), 3) := by decide +kernel
theorem dX0_foresee_40 : decode cX0_foresee 40 = .ok (.return_, 1) := by decide +kernel
theorem dX0_clearGains_0 : decode cX0_clearGains 0 = .ok (.iconst 0, 1) := by decide +kernel
theorem dX0_clearGains_1 : decode cX0_clearGains 1 = .ok (.istore_n 1, 1) := by decide +kernel
theorem dX0_clearGains_2 : decode cX0_clearGains 2 = .ok (.iload_n 1, 1) := by decide +kernel
theorem dX0_clearGains_3 : decode cX0_clearGains 3 = .ok (.aload_n 0, 1) := by decide +kernel
theorem dX0_clearGains_4 : decode cX0_clearGains 4 = .ok (.arraylength, 1) := by decide +kernel
theorem dX0_clearGains_5 : decode cX0_clearGains 5 = .ok (.if_icmp .ge 13, 3) := by decide +kernel
theorem dX0_clearGains_8 : decode cX0_clearGains 8 = .ok (.aload_n 0, 1) := by decide +kernel
theorem dX0_clearGains_9 : decode cX0_clearGains 9 = .ok (.iload_n 1, 1) := by decide +kernel
theorem dX0_clearGains_10 : decode cX0_clearGains 10 = .ok (.lconst 0, 1) := by decide +kernel
theorem dX0_clearGains_11 : decode cX0_clearGains 11 = .ok (.lastore, 1) := by decide +kernel
theorem dX0_clearGains_12 : decode cX0_clearGains 12 = .ok (.iinc 1 1, 3) := by decide +kernel
theorem dX0_clearGains_15 : decode cX0_clearGains 15 = .ok (.goto (-13), 3) := by decide +kernel
theorem dX0_clearGains_18 : decode cX0_clearGains 18 = .ok (.return_, 1) := by decide +kernel
def sm (f : Nat → Nat) : Nat → Nat
  | 0 => 0
  | n + 1 => sm f n + f n
def not0 (x : Nat → Nat) : Nat → Nat := fun j => if j = 0 then 0 else x j
def only (k : Nat) (x : Nat → Nat) : Nat → Nat := fun j => if pc3 j = k then x j else 0
set_option maxRecDepth 100000 in
set_option maxHeartbeats 4000000 in
theorem mX0_held_l (q : rT) (x : Nat → Nat) (n : Nat → Int64) (u : uT) : ∀ (k9 i : Nat), i + k9 = 8 → 1 ≤ i → J KX0_held 9 (fun o B => o = some (.long (lN (sm (not0 x) 8))) ∧ B = wO q x n u) 4 [some (.ref 0), some (.long (lN (sm (not0 x) i))), none, some (.int (nI i))] [] (wO q x n u) 0 0 := by
  intro k9
  induction k9 with
  | zero =>
    intro i hi
    obtain hiN : i = 8 := by omega
    intro hst
    subst hiN
    refine J.iload_n dX0_held_4 rfl rfl ?_
    refine J.bipush (8) dX0_held_5 (by decide) ?_
    refine J.icmp_ge (tgt := 25) dX0_held_7 (by decide) (fun c7 => ?_) (fun c7 => absurd c7 (fun h => h (by decide)))
    refine J.lload_n dX0_held_25 rfl rfl ?_
    exact J.lret dX0_held_26 rfl (Nat.le_refl _) (Nat.le_refl _) ⟨rfl, rfl⟩
  | succ k9 ih =>
    intro i hi
    have hiN : i < 8 := by omega
    intro hst
    refine J.iload_n dX0_held_4 rfl rfl ?_
    refine J.bipush (8) dX0_held_5 (by decide) ?_
    refine J.icmp_ge (tgt := 25) dX0_held_7 (by decide) (fun c7 => absurd c7 (nI_ge (b := 8) hiN (by decide))) (fun c7 => ?_)
    refine J.lload_n dX0_held_10 rfl rfl ?_
    refine J.aload_n dX0_held_11 rfl rfl ?_
    refine J.getfield dX0_held_12 jFX0_21 rfl rfl ?_
    refine J.iload_n dX0_held_15 rfl rfl ?_
    refine J.laloadN dX0_held_16 rfl hiN ?_
    refine J.ladd dX0_held_17 ?_
    refine J.lstore_n dX0_held_18 rfl (by decide) rfl ?_
    try dsimp only [List.set, wO, wR]
    refine J.iinc (1) dX0_held_19 (by decide) rfl (by decide) rfl ?_
    try dsimp only [List.set, wO, wR]
    refine J.goto (tgt := 4) dX0_held_22 (by decide) ?_
    refine J.at (ih (i + 1) (by omega) (by omega)) ?_ rfl rfl
    rw [← nI_1, sm, not0, if_neg (show ¬ i = 0 by omega), ← lN_add]
set_option maxRecDepth 100000 in
set_option maxHeartbeats 4000000 in
theorem mX0_held (q : rT) (x : Nat → Nat) (n : Nat → Int64) (u : uT) : J KX0_held 9 (fun o B => o = some (.long (lN (sm (not0 x) 8))) ∧ B = wO q x n u) 0 [some (.ref 0), none, none, none] [] (wO q x n u) 0 0 := by
  refine J.lconst 0 dX0_held_0 (by decide) ?_
  refine J.lstore_n dX0_held_1 rfl (by decide) rfl ?_
  try dsimp only [List.set, wO, wR]
  refine J.iconst (1) dX0_held_2 (by decide) ?_
  refine J.istore_n dX0_held_3 rfl (by decide) rfl ?_
  try dsimp only [List.set, wO, wR]
  exact mX0_held_l q x n u 7 1 (by omega) (by omega)
set_option maxRecDepth 100000 in
set_option maxHeartbeats 4000000 in
theorem mX0_all (q : rT) (x : Nat → Nat) (n : Nat → Int64) (u : uT) : J KX0_all 9 (fun o B => o = some (.long (lN (x 0 + sm (not0 x) 8))) ∧ B = wO q x n u) 0 [some (.ref 0)] [] (wO q x n u) 0 0 := by
  refine J.aload_n dX0_all_0 rfl rfl ?_
  refine J.getfield dX0_all_1 jFX0_21 rfl rfl ?_
  refine J.iconst (0) dX0_all_4 (by decide) ?_
  refine J.laloadN (i := 0) dX0_all_5 rfl (by decide) ?_
  refine J.aload_n dX0_all_6 rfl rfl ?_
  refine J.cv (as := []) (is := [0, 1, 2, 3, 4, 5, 6, 7, 8]) (o := 0) okX0_held jcX0_87 (mX0_held q x n u) dX0_all_7 rfl rfl rfl rfl rfl rfl rfl (fun r9 B9 hq => ?_)
  obtain ⟨rfl, rfl⟩ := hq
  refine ⟨rfl, ?_⟩
  show J _ _ _ _ _ (.long _ :: _) (wO q x n u) _ _
  refine J.ladd dX0_all_10 ?_
  exact J.lret dX0_all_11 rfl (Nat.le_refl _) (Nat.le_refl _) ⟨by rw [lN_add], rfl⟩
set_option maxRecDepth 100000 in
set_option maxHeartbeats 4000000 in
theorem mX0_justWhole_l (q : rT) (x : Nat → Nat) (n : Nat → Int64) (u : uT) (k : Nat) (hk : k < 100) : ∀ (k9 i : Nat), i + k9 = 8 → J KX0_justWhole 9 (fun o B => o = some (.long (lN (sm (only k x) 8))) ∧ B = wO q x n u) 5 [some (.ref 0), some (.int (nI k)), some (.long (lN (sm (only k x) i))), none, some (.int (nI i))] [] (wO q x n u) 0 0 := by
  intro k9
  induction k9 with
  | zero =>
    intro i hi
    obtain hiN : i = 8 := by omega
    subst hiN
    refine J.iload dX0_justWhole_5 rfl ?_
    refine J.bipush (8) dX0_justWhole_7 (by decide) ?_
    refine J.icmp_ge (tgt := 41) dX0_justWhole_9 (by decide) (fun c9 => ?_) (fun c9 => absurd c9 (fun h => h (by decide)))
    refine J.lload_n dX0_justWhole_41 rfl rfl ?_
    exact J.lret dX0_justWhole_42 rfl (Nat.le_refl _) (Nat.le_refl _) ⟨rfl, rfl⟩
  | succ k9 ih =>
    intro i hi
    have hiN : i < 8 := by omega
    refine J.iload dX0_justWhole_5 rfl ?_
    refine J.bipush (8) dX0_justWhole_7 (by decide) ?_
    refine J.icmp_ge (tgt := 41) dX0_justWhole_9 (by decide) (fun c9 => absurd c9 (nI_ge (b := 8) hiN (by decide))) (fun c9 => ?_)
    refine J.lload_n dX0_justWhole_12 rfl rfl ?_
    refine J.iload dX0_justWhole_13 rfl ?_
    refine J.cs (as := [.int _]) (is := []) okJ6_bitCount_0f7a4 jcX0_69 (mJ6_bitCount_0f7a4 _ hiN) dX0_justWhole_15 rfl rfl rfl rfl rfl rfl (fun r9 B9 hq => ?_)
    obtain ⟨rfl, rfl⟩ := hq
    refine ⟨rfl, ?_⟩
    show J _ _ _ _ _ (.int _ :: .long _ :: _) (wO q x n u) _ _
    refine J.iload_n dX0_justWhole_18 rfl rfl ?_
    refine J.icmp_ne (tgt := 32) dX0_justWhole_19 (by decide) (fun c19 => ?_) (fun c19 => ?_)
    · refine J.lconst 0 dX0_justWhole_32 (by decide) ?_
      refine J.ladd dX0_justWhole_33 ?_
      refine J.lstore_n dX0_justWhole_34 rfl (by decide) rfl ?_
      try dsimp only [List.set, wO, wR]
      refine J.iinc (1) dX0_justWhole_35 (by decide) rfl (by decide) rfl ?_
      try dsimp only [List.set, wO, wR]
      refine J.goto (tgt := 5) dX0_justWhole_38 (by decide) ?_
      refine J.at (ih (i + 1) (by omega)) ?_ rfl rfl
      first | rw [← nI_1, sm, only, if_pos ((nI_eqi (by have := pc3_le i; omega) (by omega)).mp c19), ← lN_add] | rw [← nI_1, sm, only, if_neg (fun h => c19 (by rw [h])), ← lN_add, lN_0]
    · refine J.aload_n dX0_justWhole_22 rfl rfl ?_
      refine J.getfield dX0_justWhole_23 jFX0_21 rfl rfl ?_
      refine J.iload dX0_justWhole_26 rfl ?_
      refine J.laloadN dX0_justWhole_28 rfl hiN ?_
      refine J.goto (tgt := 33) dX0_justWhole_29 (by decide) ?_
      refine J.ladd dX0_justWhole_33 ?_
      refine J.lstore_n dX0_justWhole_34 rfl (by decide) rfl ?_
      try dsimp only [List.set, wO, wR]
      refine J.iinc (1) dX0_justWhole_35 (by decide) rfl (by decide) rfl ?_
      try dsimp only [List.set, wO, wR]
      refine J.goto (tgt := 5) dX0_justWhole_38 (by decide) ?_
      refine J.at (ih (i + 1) (by omega)) ?_ rfl rfl
      first | rw [← nI_1, sm, only, if_pos ((nI_eqi (by have := pc3_le i; omega) (by omega)).mp c19), ← lN_add] | rw [← nI_1, sm, only, if_neg (fun h => c19 (by rw [h])), ← lN_add, lN_0]
set_option maxRecDepth 100000 in
set_option maxHeartbeats 4000000 in
theorem mX0_justWhole (q : rT) (x : Nat → Nat) (n : Nat → Int64) (u : uT) (k : Nat) (hk : k < 100) : J KX0_justWhole 9 (fun o B => o = some (.long (lN (sm (only k x) 8))) ∧ B = wO q x n u) 0 [some (.ref 0), some (.int (nI k)), none, none, none] [] (wO q x n u) 0 0 := by
  refine J.lconst 0 dX0_justWhole_0 (by decide) ?_
  refine J.lstore_n dX0_justWhole_1 rfl (by decide) rfl ?_
  try dsimp only [List.set, wO, wR]
  refine J.iconst (0) dX0_justWhole_2 (by decide) ?_
  refine J.istore dX0_justWhole_3 (by decide) rfl ?_
  try dsimp only [List.set, wO, wR]
  exact mX0_justWhole_l q x n u k hk 8 0 (by omega)
set_option maxRecDepth 100000 in
set_option maxHeartbeats 4000000 in
theorem mX0_keepOnly_l (q : rT) (x : Nat → Nat) (n : Nat → Int64) (u : uT) (k : Nat) (hk : k < 100) : ∀ (k9 i : Nat), i + k9 = 8 → J KX0_keepOnly 9 (fun o B => o = none ∧ B = wO q (only k x) n u) 2 [some (.ref 0), some (.int (nI k)), some (.int (nI i))] [] [.inr (0, [.ref 1, .ref 2, .ref 3, .int (nI (q 6 0)), .int (nI (q 6 1)), .ref 4, .ref 5, .ref 6, .ref 7, .ref 8, .long (u 3 0), .long (u 3 1)]), .inl (0, 3, .inl (fun j => nI (q 0 j))), .inl (0, 3, .inl (fun j => nI (q 1 j))), .inl (0, 3, .inl (fun j => nI (q 2 j))), .inl (1, 8, .inr (.inl (fun j => lN (if j < i then only k x j else x j)))), .inl (1, 8, .inr (.inl (n))), .inl (1, 8, .inr (.inl (u 0))), .inl (1, 8, .inr (.inl (u 1))), .inl (1, 6, .inr (.inl (u 2)))] 0 0 := by
  intro k9
  induction k9 with
  | zero =>
    intro i hi
    obtain hiN : i = 8 := by omega
    subst hiN
    refine J.iload_n dX0_keepOnly_2 rfl rfl ?_
    refine J.bipush (8) dX0_keepOnly_3 (by decide) ?_
    refine J.icmp_ge (tgt := 29) dX0_keepOnly_5 (by decide) (fun c5 => ?_) (fun c5 => absurd c5 (fun h => h (by decide)))
    refine J.arrL 4 1 (fun j => lN (only k x j)) rfl (fun j hj => by rw [if_pos hj]) ?_
    exact J.vret dX0_keepOnly_29 rfl (Nat.le_refl _) (Nat.le_refl _) ⟨rfl, rfl⟩
  | succ k9 ih =>
    intro i hi
    have hiN : i < 8 := by omega
    refine J.iload_n dX0_keepOnly_2 rfl rfl ?_
    refine J.bipush (8) dX0_keepOnly_3 (by decide) ?_
    refine J.icmp_ge (tgt := 29) dX0_keepOnly_5 (by decide) (fun c5 => absurd c5 (nI_ge (b := 8) hiN (by decide))) (fun c5 => ?_)
    refine J.iload_n dX0_keepOnly_8 rfl rfl ?_
    refine J.cs (as := [.int _]) (is := []) okJ6_bitCount_0f7a4 jcX0_69 (mJ6_bitCount_0f7a4 _ hiN) dX0_keepOnly_9 rfl rfl rfl rfl rfl rfl (fun r9 B9 hq => ?_)
    obtain ⟨rfl, rfl⟩ := hq
    refine ⟨rfl, ?_⟩
    show J _ _ _ _ _ (.int _ :: _) [.inr (0, [.ref 1, .ref 2, .ref 3, .int (nI (q 6 0)), .int (nI (q 6 1)), .ref 4, .ref 5, .ref 6, .ref 7, .ref 8, .long (u 3 0), .long (u 3 1)]), .inl (0, 3, .inl (fun j => nI (q 0 j))), .inl (0, 3, .inl (fun j => nI (q 1 j))), .inl (0, 3, .inl (fun j => nI (q 2 j))), .inl (1, 8, .inr (.inl (fun j => lN (if j < i then only k x j else x j)))), .inl (1, 8, .inr (.inl (n))), .inl (1, 8, .inr (.inl (u 0))), .inl (1, 8, .inr (.inl (u 1))), .inl (1, 6, .inr (.inl (u 2)))] _ _
    refine J.iload_n dX0_keepOnly_12 rfl rfl ?_
    refine J.icmp_eq (tgt := 23) dX0_keepOnly_13 (by decide) (fun c13 => ?_) (fun c13 => ?_)
    · refine J.iinc (1) dX0_keepOnly_23 (by decide) rfl (by decide) rfl ?_
      try dsimp only [List.set, wO, wR]
      refine J.goto (tgt := 2) dX0_keepOnly_26 (by decide) ?_
      refine J.at (ih (i + 1) (by omega)) (by rw [← nI_1]) rfl ?_
      simp only [jlt_e (fun j => only k x j) (fun j => x j)]
      first | done | (have e9 : (fun j => lN (if j = i then only k x i else if j < i then only k x j else x j)) = fun j => lN (if j < i then only k x j else x j) := by (funext j; by_cases hj : j = i; (subst hj; rw [if_pos rfl, if_neg (Nat.lt_irrefl j), only, if_pos ((nI_eqi (by have := pc3_le j; omega) (by omega)).mp c13)]); rw [if_neg hj])); rw [e9]
    · refine J.aload_n dX0_keepOnly_16 rfl rfl ?_
      refine J.getfield dX0_keepOnly_17 jFX0_21 rfl rfl ?_
      refine J.iload_n dX0_keepOnly_20 rfl rfl ?_
      refine J.lconst 0 dX0_keepOnly_21 (by decide) ?_
      refine J.lastoreN dX0_keepOnly_22 rfl hiN ?_
      rw [show (0 : Int64) = lN (only k x i) from by rw [only, if_neg (fun h => c13 (by rw [h]))]; rfl, updL_lN]
      try dsimp only [List.set, wO, wR]
      refine J.iinc (1) dX0_keepOnly_23 (by decide) rfl (by decide) rfl ?_
      try dsimp only [List.set, wO, wR]
      refine J.goto (tgt := 2) dX0_keepOnly_26 (by decide) ?_
      refine J.at (ih (i + 1) (by omega)) (by rw [← nI_1]) rfl ?_
      simp only [jlt_e (fun j => only k x j) (fun j => x j)]
      first | done | (have e9 : (fun j => lN (if j = i then only k x i else if j < i then only k x j else x j)) = fun j => lN (if j < i then only k x j else x j) := by (funext j; by_cases hj : j = i; (subst hj; rw [if_pos rfl, if_neg (Nat.lt_irrefl j), only, if_pos ((nI_eqi (by have := pc3_le j; omega) (by omega)).mp c13)]); rw [if_neg hj])); rw [e9]
set_option maxRecDepth 100000 in
set_option maxHeartbeats 4000000 in
theorem mX0_keepOnly (q : rT) (x : Nat → Nat) (n : Nat → Int64) (u : uT) (k : Nat) (hk : k < 100) : J KX0_keepOnly 9 (fun o B => o = none ∧ B = wO q (only k x) n u) 0 [some (.ref 0), some (.int (nI k)), none] [] (wO q x n u) 0 0 := by
  refine J.iconst (0) dX0_keepOnly_0 (by decide) ?_
  refine J.istore_n dX0_keepOnly_1 rfl (by decide) rfl ?_
  try dsimp only [List.set, wO, wR]
  exact J.at (mX0_keepOnly_l q x n u k hk 8 0 (by omega)) rfl rfl (by simp only [Nat.not_lt_zero, if_false] <;> rfl)
theorem sub_le : ∀ s, s < 8 → ∀ r, r < 8 → r &&& (7 - s) = 0 → r ≤ s := by decide +kernel
/-- what comes of the shares x in the HOUR behind t: of the first s sets' shares, to the set r -/
def acc (q : rT) (x : Nat → Nat) (t : Nat) : Nat → Nat → Nat
  | 0, _ => 0
  | s + 1, r => acc q x t s r + x s * wtn (ten q s t) s r
def sh (q : rT) (x : Nat → Nat) : Nat → Nat → Nat
  | 0 => x
  | t + 1 => acc q (sh q x t) t 8
theorem acc_row (q : rT) (g : Nat → Nat) (x : Nat → Nat) (t : Nat) : ∀ s r, acc (rrow q 2 g) x t s r = acc q x t s r
  | 0, _ => rfl
  | s + 1, r => by rw [acc, acc, acc_row q g x t s r]; rfl
set_option maxRecDepth 100000 in
set_option maxHeartbeats 4000000 in
theorem mX0_passHour_l3 (q : rT) (x : Nat → Nat) (u : uT) (t : Nat) (g : Nat → Nat) (z : Option Value) : ∀ (k9 i : Nat), i + k9 = 8 → J KX0_passHour 9 (fun o B => o = none ∧ ∃ g n9, B = wO (rrow q 2 g) (acc q x t 8) n9 u) 89 [some (.ref 0), some (.int (nI t)), some (.int (nI i)), z] [] (wO (rrow q 2 g) (fun j => if j < i then acc q x t 8 j else x j) (fun r => lN (acc q x t 8 r)) u) 0 0 := by
  intro k9
  induction k9 with
  | zero =>
    intro i hi
    obtain hiN : i = 8 := by omega
    subst hiN
    refine J.iload_n dX0_passHour_89 rfl rfl ?_
    refine J.bipush (8) dX0_passHour_90 (by decide) ?_
    refine J.icmp_ge (tgt := 113) dX0_passHour_92 (by decide) (fun c92 => ?_) (fun c92 => absurd c92 (fun h => h (by decide)))
    refine J.arrL 4 1 (fun j => lN (acc q x t 8 j)) rfl (fun j hj => by simp only [if_pos hj]) ?_
    exact J.vret dX0_passHour_113 rfl (Nat.le_refl _) (Nat.le_refl _) ⟨rfl, g, _, rfl⟩
  | succ k9 ih =>
    intro i hi
    have hiN : i < 8 := by omega
    refine J.iload_n dX0_passHour_89 rfl rfl ?_
    refine J.bipush (8) dX0_passHour_90 (by decide) ?_
    refine J.icmp_ge (tgt := 113) dX0_passHour_92 (by decide) (fun c92 => absurd c92 (nI_ge (b := 8) hiN (by decide))) (fun c92 => ?_)
    refine J.aload_n dX0_passHour_95 rfl rfl ?_
    refine J.getfield dX0_passHour_96 jFX0_21 rfl rfl ?_
    refine J.iload_n dX0_passHour_99 rfl rfl ?_
    refine J.aload_n dX0_passHour_100 rfl rfl ?_
    refine J.getfield dX0_passHour_101 jFX0_25 rfl rfl ?_
    refine J.iload_n dX0_passHour_104 rfl rfl ?_
    refine J.laloadN dX0_passHour_105 rfl hiN ?_
    refine J.lastoreN dX0_passHour_106 rfl hiN ?_
    rw [updL_lN]
    try dsimp only [List.set, wO, wR]
    refine J.iinc (1) dX0_passHour_107 (by decide) rfl (by decide) rfl ?_
    try dsimp only [List.set, wO, wR]
    refine J.goto (tgt := 89) dX0_passHour_110 (by decide) ?_
    refine J.at (ih (i + 1) (by omega)) (by rw [← nI_1]) rfl ?_
    simp only [jlt_e (fun j => acc q x t 8 j) (fun j => x j)]
    rfl
set_option maxRecDepth 100000 in
set_option maxHeartbeats 4000000 in
theorem mX0_passHour_l2 (q : rT) (x : Nat → Nat) (u : uT) (t : Nat) (s : Nat) (hs : s < 8) (hk : J KX0_passHour 9 (fun o B => o = none ∧ ∃ g n9, B = wO (rrow q 2 g) (acc q x t 8) n9 u) 81 [some (.ref 0), some (.int (nI t)), some (.int (nI s)), some (.int (nI (s + 1)))] [] (wO (rrow q 2 (ten q s t)) x (fun j => lN (acc q x t (s + 1) j)) u) 0 0) : ∀ (k9 i : Nat), i + k9 = s + 1 → J KX0_passHour 9 (fun o B => o = none ∧ ∃ g n9, B = wO (rrow q 2 g) (acc q x t 8) n9 u) 48 [some (.ref 0), some (.int (nI t)), some (.int (nI s)), some (.int (nI i))] [] (wO (rrow q 2 (ten q s t)) x (fun j => lN (if j < i then acc q x t s j + x s * wtn (ten q s t) s j else acc q x t s j)) u) 0 0 := by
  intro k9
  induction k9 with
  | zero =>
    intro i hi
    obtain hiN : i = s + 1 := by omega
    subst hiN
    refine J.iload_n dX0_passHour_48 rfl rfl ?_
    refine J.iload_n dX0_passHour_49 rfl rfl ?_
    refine J.icmp_gt (tgt := 81) dX0_passHour_50 (by decide) (fun c50 => ?_) (fun c50 => absurd c50 (fun h => h ((nI_lti (by omega) (by omega)).mpr (Nat.lt_succ_self s))))
    refine J.arrL 5 1 (fun j => lN (acc q x t (s + 1) j)) rfl (fun j hj => ?_) (J.at hk rfl rfl rfl)
    by_cases h : j < s + 1
    · rw [if_pos h]; rfl
    · rw [if_neg h, acc, wtn, if_neg (fun h9 => h (Nat.lt_succ_of_le (sub_le s hs j hj h9))), Nat.mul_zero, Nat.add_zero]
  | succ k9 ih =>
    intro i hi
    have hiN : i < s + 1 := by omega
    refine J.iload_n dX0_passHour_48 rfl rfl ?_
    refine J.iload_n dX0_passHour_49 rfl rfl ?_
    refine J.icmp_gt (tgt := 81) dX0_passHour_50 (by decide) (fun c50 => absurd c50 (fun h => absurd ((nI_lti (by omega) (by omega)).mp h) (by omega))) (fun c50 => ?_)
    refine J.aload_n dX0_passHour_53 rfl rfl ?_
    refine J.getfield dX0_passHour_54 jFX0_25 rfl rfl ?_
    refine J.iload_n dX0_passHour_57 rfl rfl ?_
    refine J.dup2 dX0_passHour_58 rfl rfl ?_
    refine J.laloadN dX0_passHour_59 rfl (show i < 8 by omega) ?_
    rw [if_neg (Nat.lt_irrefl i)]
    refine J.aload_n dX0_passHour_60 rfl rfl ?_
    refine J.getfield dX0_passHour_61 jFX0_21 rfl rfl ?_
    refine J.iload_n dX0_passHour_64 rfl rfl ?_
    refine J.laloadN dX0_passHour_65 rfl hs ?_
    refine J.aload_n dX0_passHour_66 rfl rfl ?_
    refine J.iload_n dX0_passHour_67 rfl rfl ?_
    refine J.iload_n dX0_passHour_68 rfl rfl ?_
    refine J.cv (as := [.int _, .int _]) (is := [0, 1, 2, 3, 4, 5, 6, 7, 8]) (o := 0) okX0_weight jcX0_65 (mX0_weight (rrow q 2 (ten q s t)) x (fun j => lN (if j < i then acc q x t s j + x s * wtn (ten q s t) s j else acc q x t s j)) u s i hs (by omega) (fun i => ten_le q s t i)) dX0_passHour_69 rfl rfl rfl rfl rfl rfl rfl (fun r9 B9 hq => ?_)
    obtain ⟨rfl, rfl⟩ := hq
    refine ⟨rfl, ?_⟩
    show J _ _ _ _ _ (.long _ :: .long _ :: .long _ :: .int _ :: .ref _ :: _) (wO (rrow q 2 (ten q s t)) x (fun j => lN (if j < i then acc q x t s j + x s * wtn (ten q s t) s j else acc q x t s j)) u) _ _
    refine J.lmul dX0_passHour_72 ?_
    refine J.ladd dX0_passHour_73 ?_
    rw [lN_mul, lN_add]
    refine J.lastoreN dX0_passHour_74 rfl (show i < 8 by omega) ?_
    rw [updL_lN]
    try dsimp only [List.set, wO, wR]
    refine J.iinc (1) dX0_passHour_75 (by decide) rfl (by decide) rfl ?_
    try dsimp only [List.set, wO, wR]
    refine J.goto (tgt := 48) dX0_passHour_78 (by decide) ?_
    refine J.at (ih (i + 1) (by omega)) (by rw [← nI_1]) rfl ?_
    simp only [jlt_e (fun j => acc q x t s j + x s * wtn (ten q s t) s j) (fun j => acc q x t s j)]
    rfl
theorem lg_eq0 {a : Int64} (h : lg_cmp a 0 = 0) : a = 0 := by
  unfold lg_cmp at h
  split at h
  · exact absurd h (by decide)
  · split at h
    · next h2 => simpa using h2
    · exact absurd h (by decide)
set_option maxRecDepth 100000 in
set_option maxHeartbeats 4000000 in
theorem mX0_passHour_l1 (q : rT) (x : Nat → Nat) (u : uT) (t : Nat) (hq : oOK q) (ht : t < 100) : ∀ (k9 i : Nat), i + k9 = 8 → ∀ (g : Nat → Nat) (z : Option Value), J KX0_passHour 9 (fun o B => o = none ∧ ∃ g n9, B = wO (rrow q 2 g) (acc q x t 8) n9 u) 23 [some (.ref 0), some (.int (nI t)), some (.int (nI i)), z] [] (wO (rrow q 2 g) x (fun r => lN (acc q x t i r)) u) 0 0 := by
  intro k9
  induction k9 with
  | zero =>
    intro i hi
    obtain hiN : i = 8 := by omega
    intro g z
    subst hiN
    refine J.iload_n dX0_passHour_23 rfl rfl ?_
    refine J.bipush (8) dX0_passHour_24 (by decide) ?_
    refine J.icmp_ge (tgt := 87) dX0_passHour_26 (by decide) (fun c26 => ?_) (fun c26 => absurd c26 (fun h => h (by decide)))
    refine J.iconst (0) dX0_passHour_87 (by decide) ?_
    refine J.istore_n dX0_passHour_88 rfl (by decide) rfl ?_
    try dsimp only [List.set, wO, wR]
    exact J.at (mX0_passHour_l3 q x u t g z 8 0 (by omega)) rfl rfl (by simp only [Nat.not_lt_zero, if_false] <;> rfl)
  | succ k9 ih =>
    intro i hi
    have hiN : i < 8 := by omega
    intro g z
    refine J.iload_n dX0_passHour_23 rfl rfl ?_
    refine J.bipush (8) dX0_passHour_24 (by decide) ?_
    refine J.icmp_ge (tgt := 87) dX0_passHour_26 (by decide) (fun c26 => absurd c26 (nI_ge (b := 8) hiN (by decide))) (fun c26 => ?_)
    refine J.aload_n dX0_passHour_29 rfl rfl ?_
    refine J.getfield dX0_passHour_30 jFX0_21 rfl rfl ?_
    refine J.iload_n dX0_passHour_33 rfl rfl ?_
    refine J.laloadN dX0_passHour_34 rfl hiN ?_
    refine J.lconst 0 dX0_passHour_35 (by decide) ?_
    refine J.lcmp dX0_passHour_36 ?_
    refine J.if_eq (tgt := 81) dX0_passHour_37 (by decide) (fun c37 => ?_) (fun c37 => ?_)
    · refine J.iinc (1) dX0_passHour_81 (by decide) rfl (by decide) rfl ?_
      try dsimp only [List.set, wO, wR]
      refine J.goto (tgt := 23) dX0_passHour_84 (by decide) ?_
      refine J.arrL 5 1 (fun r => lN (acc q x t (i + 1) r)) rfl (fun j hj => ?_) (J.at (ih (i + 1) (by omega) g _) (by rw [← nI_1]) rfl rfl)
      rw [acc, ← lN_add, ← lN_mul, show lN (x i) = 0 from lg_eq0 c37, Int64.zero_mul, Int64.add_zero]
    · refine J.aload_n dX0_passHour_40 rfl rfl ?_
      refine J.iload_n dX0_passHour_41 rfl rfl ?_
      refine J.iload_n dX0_passHour_42 rfl rfl ?_
      refine J.cv (as := [.int _, .int _]) (is := [0, 1, 2, 3, 4, 5, 6, 7, 8]) (o := 0) okX0_weigh jcX0_61 (mX0_weigh (rrow q 2 g) x (fun r => lN (acc q x t i r)) u i t hq hiN ht) dX0_passHour_43 rfl rfl rfl rfl rfl rfl rfl (fun r9 B9 hq => ?_)
      obtain ⟨rfl, rfl⟩ := hq
      refine ⟨rfl, ?_⟩
      show J _ _ _ _ _ [] (wO (rrow q 2 (ten q i t)) x (fun r => lN (acc q x t i r)) u) _ _
      refine J.iconst (0) dX0_passHour_46 (by decide) ?_
      refine J.istore_n dX0_passHour_47 rfl (by decide) rfl ?_
      try dsimp only [List.set, wO, wR]
      refine J.at (mX0_passHour_l2 q x u t i hiN ?_ (i + 1) 0 (by omega)) rfl rfl (by simp only [Nat.not_lt_zero, if_false] <;> rfl)
      refine J.iinc (1) dX0_passHour_81 (by decide) rfl (by decide) rfl ?_
      dsimp only [List.set]
      refine J.goto (tgt := 23) dX0_passHour_84 (by decide) ?_
      exact J.at (ih (i + 1) (by omega) (ten q i t) _) (by rw [← nI_1]) rfl rfl
set_option maxRecDepth 100000 in
set_option maxHeartbeats 4000000 in
theorem mX0_passHour_l0 (q : rT) (x : Nat → Nat) (n : Nat → Int64) (u : uT) (t : Nat) (hq : oOK q) (ht : t < 100) : ∀ (k9 i : Nat), i + k9 = 8 → J KX0_passHour 9 (fun o B => o = none ∧ ∃ g n9, B = wO (rrow q 2 g) (acc q x t 8) n9 u) 2 [some (.ref 0), some (.int (nI t)), some (.int (nI i)), none] [] (wO q x (fun j => if j < i then 0 else n j) u) 0 0 := by
  intro k9
  induction k9 with
  | zero =>
    intro i hi
    obtain hiN : i = 8 := by omega
    subst hiN
    refine J.iload_n dX0_passHour_2 rfl rfl ?_
    refine J.bipush (8) dX0_passHour_3 (by decide) ?_
    refine J.icmp_ge (tgt := 21) dX0_passHour_5 (by decide) (fun c5 => ?_) (fun c5 => absurd c5 (fun h => h (by decide)))
    refine J.iconst (0) dX0_passHour_21 (by decide) ?_
    refine J.istore_n dX0_passHour_22 rfl (by decide) rfl ?_
    try dsimp only [List.set, wO, wR]
    refine J.arrL 5 1 (fun r => lN (acc q x t 0 r)) rfl (fun j hj => by rw [if_pos hj]; rfl) ?_
    exact J.at (mX0_passHour_l1 q x u t hq ht 8 0 (by omega) (q 2) none) rfl rfl rfl
  | succ k9 ih =>
    intro i hi
    have hiN : i < 8 := by omega
    refine J.iload_n dX0_passHour_2 rfl rfl ?_
    refine J.bipush (8) dX0_passHour_3 (by decide) ?_
    refine J.icmp_ge (tgt := 21) dX0_passHour_5 (by decide) (fun c5 => absurd c5 (nI_ge (b := 8) hiN (by decide))) (fun c5 => ?_)
    refine J.aload_n dX0_passHour_8 rfl rfl ?_
    refine J.getfield dX0_passHour_9 jFX0_25 rfl rfl ?_
    refine J.iload_n dX0_passHour_12 rfl rfl ?_
    refine J.lconst 0 dX0_passHour_13 (by decide) ?_
    refine J.lastoreN dX0_passHour_14 rfl hiN ?_
    try dsimp only [List.set, wO, wR]
    refine J.iinc (1) dX0_passHour_15 (by decide) rfl (by decide) rfl ?_
    try dsimp only [List.set, wO, wR]
    refine J.goto (tgt := 2) dX0_passHour_18 (by decide) ?_
    refine J.at (ih (i + 1) (by omega)) (by rw [← nI_1]) rfl ?_
    have e9 : vp_updL (fun j => if j < i then 0 else n j) i 0 = fun j => if j < i + 1 then 0 else n j := (jlt_s (fun _ => (0 : Int64)) n i)
    rw [e9]
    rfl
set_option maxRecDepth 100000 in
set_option maxHeartbeats 4000000 in
theorem mX0_passHour (q : rT) (x : Nat → Nat) (n : Nat → Int64) (u : uT) (t : Nat) (hq : oOK q) (ht : t < 100) : J KX0_passHour 9 (fun o B => o = none ∧ ∃ g n9, B = wO (rrow q 2 g) (acc q x t 8) n9 u) 0 [some (.ref 0), some (.int (nI t)), none, none] [] (wO q x n u) 0 0 := by
  refine J.iconst (0) dX0_passHour_0 (by decide) ?_
  refine J.istore_n dX0_passHour_1 rfl (by decide) rfl ?_
  try dsimp only [List.set, wO, wR]
  exact J.at (mX0_passHour_l0 q x n u t hq ht 8 0 (by omega)) rfl rfl (by simp only [Nat.not_lt_zero, if_false] <;> rfl)
end
section
def urow (u : uT) (a : Nat) (f : Nat → Int64) : uT := fun y => if y = a then f else u y
theorem lN_ti63 {n : Nat} (h : n < 2 ^ 63) : (lN n).toInt = (n : Int) := lg_ofNat_toInt h
theorem lN_lt63 {a b : Nat} (ha : a < 2 ^ 63) (hb : b < 2 ^ 63) : lN a < lN b ↔ a < b := by
  rw [Int64.lt_iff_toInt_lt, lN_ti63 ha, lN_ti63 hb]
  omega
theorem lN_le63 {a b : Nat} (ha : a < 2 ^ 63) (hb : b < 2 ^ 63) : lN a ≤ lN b ↔ a ≤ b := by
  rw [Int64.le_iff_toInt_le, lN_ti63 ha, lN_ti63 hb]
  omega
/-- passHour, whatever the tenths were -/
theorem mX0_passHour9 (q : rT) (g : Nat → Nat) (x : Nat → Nat) (n : Nat → Int64) (u : uT) (t : Nat) (hq : oOK q) (ht : t < 100) : J KX0_passHour 9 (fun o B => o = none ∧ ∃ g9 n9, B = wO (rrow q 2 g9) (acc q x t 8) n9 u) 0 [some (.ref 0), some (.int (nI t)), none, none] [] (wO (rrow q 2 g) x n u) 0 0 := by
  refine (mX0_passHour (rrow q 2 g) x n u t hq ht).weaken (fun o B h => ?_)
  obtain ⟨h1, g9, n9, h2⟩ := h
  refine ⟨h1, g9, n9, ?_⟩
  rw [h2, show acc (rrow q 2 g) x t 8 = acc q x t 8 from funext (acc_row q g x t 8)]
  rfl
set_option maxRecDepth 100000 in
set_option maxHeartbeats 4000000 in
theorem mX0_passHours_l (q : rT) (x : Nat → Nat) (u : uT) (N : Nat) (hq : oOK q) (hN : N < 100) : ∀ (k9 i : Nat), i + k9 = N → ∀ (g : Nat → Nat) (n : Nat → Int64), J KX0_passHours 9 (fun o B => o = none ∧ ∃ g9 n9, B = wO (rrow q 2 g9) (sh q x N) n9 u) 2 [some (.ref 0), some (.int (nI N)), some (.int (nI i))] [] (wO (rrow q 2 g) (sh q x i) n u) 0 0 := by
  intro k9
  induction k9 with
  | zero =>
    intro i hi
    obtain hiN : i = N := by omega
    intro g n
    subst hiN
    refine J.iload_n dX0_passHours_2 rfl rfl ?_
    refine J.iload_n dX0_passHours_3 rfl rfl ?_
    refine J.icmp_ge (tgt := 18) dX0_passHours_4 (by decide) (fun c4 => ?_) (fun c4 => absurd c4 (fun h => h (Int32.le_refl _)))
    exact J.vret dX0_passHours_18 rfl (Nat.le_refl _) (Nat.le_refl _) ⟨rfl, g, n, rfl⟩
  | succ k9 ih =>
    intro i hi
    have hiN : i < N := by omega
    intro g n
    refine J.iload_n dX0_passHours_2 rfl rfl ?_
    refine J.iload_n dX0_passHours_3 rfl rfl ?_
    refine J.icmp_ge (tgt := 18) dX0_passHours_4 (by decide) (fun c4 => absurd c4 (nI_ge hiN (by omega))) (fun c4 => ?_)
    refine J.aload_n dX0_passHours_7 rfl rfl ?_
    refine J.iload_n dX0_passHours_8 rfl rfl ?_
    refine J.cv (as := [.int _]) (is := [0, 1, 2, 3, 4, 5, 6, 7, 8]) (o := 0) okX0_passHour jcX0_58 (mX0_passHour9 q g (sh q x i) n u i hq (by omega)) dX0_passHours_9 rfl rfl rfl rfl rfl rfl rfl (fun r9 B9 hq9 => ?_)
    obtain ⟨rfl, g9, n9, rfl⟩ := hq9
    refine ⟨rfl, ?_⟩
    show J _ _ _ _ _ [] (wO (rrow q 2 g9) (sh q x (i + 1)) n9 u) _ _
    refine J.iinc (1) dX0_passHours_12 (by decide) rfl (by decide) rfl ?_
    try dsimp only [List.set, wO, wR]
    refine J.goto (tgt := 2) dX0_passHours_15 (by decide) ?_
    exact J.at (ih (i + 1) (by omega) g9 n9) (by rw [← nI_1]) rfl rfl
set_option maxRecDepth 100000 in
set_option maxHeartbeats 4000000 in
theorem mX0_passHours (q : rT) (x : Nat → Nat) (n : Nat → Int64) (u : uT) (N : Nat) (hq : oOK q) (hN : N < 100) : J KX0_passHours 9 (fun o B => o = none ∧ ∃ g9 n9, B = wO (rrow q 2 g9) (sh q x N) n9 u) 0 [some (.ref 0), some (.int (nI N)), none] [] (wO q x n u) 0 0 := by
  refine J.iconst (0) dX0_passHours_0 (by decide) ?_
  refine J.istore_n dX0_passHours_1 rfl (by decide) rfl ?_
  try dsimp only [List.set, wO, wR]
  exact J.at (mX0_passHours_l q x u N hq hN N 0 (by omega) (q 2) n) rfl rfl rfl
set_option maxRecDepth 100000 in
set_option maxHeartbeats 4000000 in
theorem mX0_holdsBy (q : rT) (x : Nat → Nat) (n : Nat → Int64) (u : uT) (k N : Nat) (hN : N < 100) (hk : k < 100) (h1 : sm (not0 x) 8 * 10 < 2 ^ 63) (h2 : k * 1000 ^ N < 2 ^ 63) : J KX0_holdsBy 9 (fun o B => o = some (.int (jB (k * 1000 ^ N ≤ sm (not0 x) 8 * 10))) ∧ B = wO q x n u) 0 [some (.ref 0), some (.int (nI k)), some (.int (nI N))] [] (wO q x n u) 0 0 := by
  refine J.aload_n dX0_holdsBy_0 rfl rfl ?_
  refine J.cv (as := []) (is := [0, 1, 2, 3, 4, 5, 6, 7, 8]) (o := 0) okX0_held jcX0_87 (mX0_held q x n u) dX0_holdsBy_1 rfl rfl rfl rfl rfl rfl rfl (fun r9 B9 hq => ?_)
  obtain ⟨rfl, rfl⟩ := hq
  refine ⟨rfl, ?_⟩
  show J _ _ _ _ _ (.long _ :: _) (wO q x n u) _ _
  refine J.ldc2 (v := 10) dX0_holdsBy_4 (jt 563 rfl rfl) ?_
  refine J.lmul dX0_holdsBy_7 ?_
  refine J.iload_n dX0_holdsBy_8 rfl rfl ?_
  refine J.i2l dX0_holdsBy_9 ?_
  refine J.iload_n dX0_holdsBy_10 rfl rfl ?_
  refine J.cs (as := [.int _]) (is := []) okX6_thousands jcX0_91 (mX6_thousands N (by omega)) dX0_holdsBy_11 rfl rfl rfl rfl rfl rfl (fun r9 B9 hq => ?_)
  obtain ⟨rfl, rfl⟩ := hq
  refine ⟨rfl, ?_⟩
  show J _ _ _ _ _ (.long _ :: .long _ :: .long _ :: _) (wO q x n u) _ _
  refine J.lmul dX0_holdsBy_14 ?_
  refine J.lcmp dX0_holdsBy_15 ?_
  refine J.if_lt (tgt := 23) dX0_holdsBy_16 (by decide) (fun c16 => ?_) (fun c16 => ?_)
  · refine J.iconst (0) dX0_holdsBy_23 (by decide) ?_
    refine J.iret dX0_holdsBy_24 rfl (by decide) (Nat.le_refl _) (Nat.le_refl _) ⟨congrArg (fun x => some (Value.int x)) ?_, rfl⟩
    rw [nI_l (by omega), lg_cmp_lt, show (10 : Int64) = lN 10 from rfl, lN_mul, lN_mul, lN_lt63 h1 h2] at c16
    first | exact (jB_f _ (by omega)).symm | exact (jB_t _ (by omega)).symm
  · refine J.iconst (1) dX0_holdsBy_19 (by decide) ?_
    refine J.goto (tgt := 24) dX0_holdsBy_20 (by decide) ?_
    refine J.iret dX0_holdsBy_24 rfl (by decide) (Nat.le_refl _) (Nat.le_refl _) ⟨congrArg (fun x => some (Value.int x)) ?_, rfl⟩
    rw [nI_l (by omega), lg_cmp_lt, show (10 : Int64) = lN 10 from rfl, lN_mul, lN_mul, lN_lt63 h1 h2] at c16
    first | exact (jB_f _ (by omega)).symm | exact (jB_t _ (by omega)).symm
set_option maxRecDepth 100000 in
set_option maxHeartbeats 4000000 in
theorem mX0_clearGains_l (n : Nat) (f : Nat → Int64) (hn : n < 2147483648) : ∀ (k9 i : Nat), i + k9 = n → J KX0_clearGains 1 (fun o B => o = none ∧ B = [.inl (1, n, .inr (.inl (fun _ => 0)))]) 2 [some (.ref 0), some (.int (nI i))] [] [.inl (1, n, .inr (.inl (fun j => if j < i then 0 else f j)))] 0 0 := by
  intro k9
  induction k9 with
  | zero =>
    intro i hi
    obtain hiN : i = n := by omega
    subst hiN
    refine J.iload_n dX0_clearGains_2 rfl rfl ?_
    refine J.aload_n dX0_clearGains_3 rfl rfl ?_
    refine J.arraylength dX0_clearGains_4 rfl (by decide) ?_
    refine J.icmp_ge (tgt := 18) dX0_clearGains_5 (by decide) (fun c5 => ?_) (fun c5 => absurd c5 (fun h => h (Int32.le_refl _)))
    refine J.arrL 0 1 (fun _ => 0) rfl (fun j hj => if_pos hj) ?_
    exact J.vret dX0_clearGains_18 rfl (Nat.le_refl _) (Nat.le_refl _) ⟨rfl, rfl⟩
  | succ k9 ih =>
    intro i hi
    have hiN : i < n := by omega
    refine J.iload_n dX0_clearGains_2 rfl rfl ?_
    refine J.aload_n dX0_clearGains_3 rfl rfl ?_
    refine J.arraylength dX0_clearGains_4 rfl (by decide) ?_
    refine J.icmp_ge (tgt := 18) dX0_clearGains_5 (by decide) (fun c5 => absurd c5 (nI_ge hiN hn)) (fun c5 => ?_)
    refine J.aload_n dX0_clearGains_8 rfl rfl ?_
    refine J.iload_n dX0_clearGains_9 rfl rfl ?_
    refine J.lconst 0 dX0_clearGains_10 (by decide) ?_
    refine J.lastoreN dX0_clearGains_11 rfl hiN ?_ hn
    try dsimp only [List.set, wO, wR]
    refine J.iinc (1) dX0_clearGains_12 (by decide) rfl (by decide) rfl ?_
    try dsimp only [List.set, wO, wR]
    refine J.goto (tgt := 2) dX0_clearGains_15 (by decide) ?_
    refine J.at (ih (i + 1) (by omega)) (by rw [← nI_1]) rfl ?_
    have e9 : vp_updL (fun j => if j < i then 0 else f j) i 0 = fun j => if j < i + 1 then 0 else f j := (jlt_s (fun _ => (0 : Int64)) f i)
    rw [e9]
set_option maxRecDepth 100000 in
set_option maxHeartbeats 4000000 in
theorem mX0_clearGains (n : Nat) (f : Nat → Int64) (hn : n < 2147483648) : J KX0_clearGains 1 (fun o B => o = none ∧ B = [.inl (1, n, .inr (.inl (fun _ => 0)))]) 0 [some (.ref 0), none] [] [.inl (1, n, .inr (.inl f))] 0 0 := by
  refine J.iconst (0) dX0_clearGains_0 (by decide) ?_
  refine J.istore_n dX0_clearGains_1 rfl (by decide) rfl ?_
  try dsimp only [List.set, wO, wR]
  exact J.at (mX0_clearGains_l n f hn n 0 (by omega)) rfl rfl (by simp only [Nat.not_lt_zero, if_false] <;> rfl)
/-- how much holds behind t HOURS, of 1000 ^ 5 -/
def hbe (q : rT) (x : Nat → Nat) (t : Nat) : Nat := sm (not0 (sh q x t)) 8 * 1000 ^ (5 - t)
set_option maxRecDepth 100000 in
set_option maxHeartbeats 4000000 in
theorem mX0_foresee_l (q : rT) (x : Nat → Nat) (u : uT) (hq : oOK q) : ∀ (k9 i : Nat), i + k9 = 5 → ∀ (g : Nat → Nat) (n : Nat → Int64), J KX0_foresee 9 (fun o B => o = none ∧ ∃ g9 n9 x9, B = wO (rrow q 2 g9) x9 n9 (urow u 2 (fun t => lN (hbe q x t)))) 2 [some (.ref 0), some (.int (nI i))] [] (wO (rrow q 2 g) (sh q x i) n (urow u 2 (fun j => if j < i then lN (hbe q x j) else u 2 j))) 0 0 := by
  intro k9
  induction k9 with
  | zero =>
    intro i hi g n
    have h5 : i = 5 := by omega
    refine J.iload_n dX0_foresee_2 rfl rfl ?_
    refine J.iconst (5) dX0_foresee_3 (by decide) ?_
    refine J.icmp_gt (tgt := 40) dX0_foresee_4 (by decide) (fun c4 => absurd c4 (fun h => absurd ((nI_lti (a := 5) (by decide) (by omega)).mp h) (by omega))) (fun c4 => ?_)
    refine J.aload_n dX0_foresee_7 rfl rfl ?_
    refine J.getfield dX0_foresee_8 jFX0_34 rfl rfl ?_
    refine J.iload_n dX0_foresee_11 rfl rfl ?_
    refine J.aload_n dX0_foresee_12 rfl rfl ?_
    refine J.cv (as := []) (is := [0, 1, 2, 3, 4, 5, 6, 7, 8]) (o := 0) okX0_held jcX0_87 (mX0_held (rrow q 2 g) (sh q x i) n (urow u 2 (fun j => if j < i then lN (hbe q x j) else u 2 j))) dX0_foresee_13 rfl rfl rfl rfl rfl rfl rfl (fun r9 B9 hq => ?_)
    obtain ⟨rfl, rfl⟩ := hq
    refine ⟨rfl, ?_⟩
    show J _ _ _ _ _ (.long _ :: .int _ :: .ref 8 :: _) (wO (rrow q 2 g) (sh q x i) n (urow u 2 (fun j => if j < i then lN (hbe q x j) else u 2 j))) _ _
    refine J.iconst (5) dX0_foresee_16 (by decide) ?_
    refine J.iload_n dX0_foresee_17 rfl rfl ?_
    refine J.isub dX0_foresee_18 ?_
    rw [show (5 : Int32) = nI 5 from rfl, pk_sub (by omega)]
    refine J.cs (as := [.int _]) (is := []) okX6_thousands jcX0_91 (mX6_thousands (5 - i) (by omega)) dX0_foresee_19 rfl rfl rfl rfl rfl rfl (fun r9 B9 hq => ?_)
    obtain ⟨rfl, rfl⟩ := hq
    refine ⟨rfl, ?_⟩
    show J _ _ _ _ _ (.long _ :: .long _ :: .int _ :: .ref 8 :: _) (wO (rrow q 2 g) (sh q x i) n (urow u 2 (fun j => if j < i then lN (hbe q x j) else u 2 j))) _ _
    refine J.lmul dX0_foresee_22 ?_
    rw [lN_mul]
    refine J.lastoreN dX0_foresee_23 rfl (show i < 6 by omega) ?_
    have e9 : vp_updL (fun j => if j < i then lN (hbe q x j) else u 2 j) i (lN (sm (not0 (sh q x i)) 8 * 1000 ^ (5 - i))) = fun j => if j < i + 1 then lN (hbe q x j) else u 2 j := jlt_s (fun j => lN (hbe q x j)) (u 2) i
    rw [show urow u 2 (fun j => if j < i then lN (hbe q x j) else u 2 j) 2 = (fun j => if j < i then lN (hbe q x j) else u 2 j) from rfl] at *
    first | rw [e9] | skip
    refine J.at (A := (wO (rrow q 2 g) (sh q x i) n (urow u 2 (fun j => if j < i + 1 then lN (hbe q x j) else u 2 j)))) ?_ rfl rfl (by first | rfl | (rw [← e9]; rfl))
    try dsimp only [List.set, wO, wR]
    refine J.iload_n dX0_foresee_24 rfl rfl ?_
    refine J.iconst (5) dX0_foresee_25 (by decide) ?_
    refine J.icmp_ge (tgt := 34) dX0_foresee_26 (by decide) (fun c26 => ?_) (fun c26 => absurd c26 (fun h => h (by rw [h5]; decide)))
    refine J.iinc (1) dX0_foresee_34 (by decide) rfl (by decide) rfl ?_
    try dsimp only [List.set, wO, wR]
    refine J.goto (tgt := 2) dX0_foresee_37 (by decide) ?_
    rw [nI_1]
    refine J.iload_n dX0_foresee_2 rfl rfl ?_
    refine J.iconst (5) dX0_foresee_3 (by decide) ?_
    refine J.icmp_gt (tgt := 40) dX0_foresee_4 (by decide) (fun c9 => ?_) (fun c9 => absurd ((nI_lti (a := 5) (by decide) (by omega)).mpr (by omega)) c9)
    refine J.arrL 8 1 (fun t => lN (hbe q x t)) rfl (fun j hj => if_pos (by omega)) ?_
    exact J.vret dX0_foresee_40 rfl (Nat.le_refl _) (Nat.le_refl _) ⟨rfl, g, n, sh q x i, rfl⟩
  | succ k9 ih =>
    intro i hi g n
    refine J.iload_n dX0_foresee_2 rfl rfl ?_
    refine J.iconst (5) dX0_foresee_3 (by decide) ?_
    refine J.icmp_gt (tgt := 40) dX0_foresee_4 (by decide) (fun c4 => absurd c4 (fun h => absurd ((nI_lti (a := 5) (by decide) (by omega)).mp h) (by omega))) (fun c4 => ?_)
    refine J.aload_n dX0_foresee_7 rfl rfl ?_
    refine J.getfield dX0_foresee_8 jFX0_34 rfl rfl ?_
    refine J.iload_n dX0_foresee_11 rfl rfl ?_
    refine J.aload_n dX0_foresee_12 rfl rfl ?_
    refine J.cv (as := []) (is := [0, 1, 2, 3, 4, 5, 6, 7, 8]) (o := 0) okX0_held jcX0_87 (mX0_held (rrow q 2 g) (sh q x i) n (urow u 2 (fun j => if j < i then lN (hbe q x j) else u 2 j))) dX0_foresee_13 rfl rfl rfl rfl rfl rfl rfl (fun r9 B9 hq => ?_)
    obtain ⟨rfl, rfl⟩ := hq
    refine ⟨rfl, ?_⟩
    show J _ _ _ _ _ (.long _ :: .int _ :: .ref 8 :: _) (wO (rrow q 2 g) (sh q x i) n (urow u 2 (fun j => if j < i then lN (hbe q x j) else u 2 j))) _ _
    refine J.iconst (5) dX0_foresee_16 (by decide) ?_
    refine J.iload_n dX0_foresee_17 rfl rfl ?_
    refine J.isub dX0_foresee_18 ?_
    rw [show (5 : Int32) = nI 5 from rfl, pk_sub (by omega)]
    refine J.cs (as := [.int _]) (is := []) okX6_thousands jcX0_91 (mX6_thousands (5 - i) (by omega)) dX0_foresee_19 rfl rfl rfl rfl rfl rfl (fun r9 B9 hq => ?_)
    obtain ⟨rfl, rfl⟩ := hq
    refine ⟨rfl, ?_⟩
    show J _ _ _ _ _ (.long _ :: .long _ :: .int _ :: .ref 8 :: _) (wO (rrow q 2 g) (sh q x i) n (urow u 2 (fun j => if j < i then lN (hbe q x j) else u 2 j))) _ _
    refine J.lmul dX0_foresee_22 ?_
    rw [lN_mul]
    refine J.lastoreN dX0_foresee_23 rfl (show i < 6 by omega) ?_
    have e9 : vp_updL (fun j => if j < i then lN (hbe q x j) else u 2 j) i (lN (sm (not0 (sh q x i)) 8 * 1000 ^ (5 - i))) = fun j => if j < i + 1 then lN (hbe q x j) else u 2 j := jlt_s (fun j => lN (hbe q x j)) (u 2) i
    rw [show urow u 2 (fun j => if j < i then lN (hbe q x j) else u 2 j) 2 = (fun j => if j < i then lN (hbe q x j) else u 2 j) from rfl] at *
    first | rw [e9] | skip
    refine J.at (A := (wO (rrow q 2 g) (sh q x i) n (urow u 2 (fun j => if j < i + 1 then lN (hbe q x j) else u 2 j)))) ?_ rfl rfl (by first | rfl | (rw [← e9]; rfl))
    try dsimp only [List.set, wO, wR]
    refine J.iload_n dX0_foresee_24 rfl rfl ?_
    refine J.iconst (5) dX0_foresee_25 (by decide) ?_
    refine J.icmp_ge (tgt := 34) dX0_foresee_26 (by decide) (fun c26 => absurd c26 (nI_ge (b := 5) (by omega) (by decide))) (fun c26 => ?_)
    refine J.aload_n dX0_foresee_29 rfl rfl ?_
    refine J.iload_n dX0_foresee_30 rfl rfl ?_
    refine J.cv (as := [.int _]) (is := [0, 1, 2, 3, 4, 5, 6, 7, 8]) (o := 0) okX0_passHour jcX0_58 (mX0_passHour9 q g (sh q x i) n (urow u 2 (fun j => if j < i + 1 then lN (hbe q x j) else u 2 j)) i hq (by omega)) dX0_foresee_31 rfl rfl rfl rfl rfl rfl rfl (fun r9 B9 hq9 => ?_)
    obtain ⟨rfl, g9, n9, rfl⟩ := hq9
    refine ⟨rfl, ?_⟩
    show J _ _ _ _ _ [] (wO (rrow q 2 g9) (sh q x (i + 1)) n9 (urow u 2 (fun j => if j < i + 1 then lN (hbe q x j) else u 2 j))) _ _
    refine J.iinc (1) dX0_foresee_34 (by decide) rfl (by decide) rfl ?_
    try dsimp only [List.set, wO, wR]
    refine J.goto (tgt := 2) dX0_foresee_37 (by decide) ?_
    first | exact J.at (ih (i + 1) (by omega) g9 n9) (by rw [← nI_1]) rfl rfl | exact absurd c26 (nI_ge (b := 5) (by omega) (by decide))
set_option maxRecDepth 100000 in
set_option maxHeartbeats 4000000 in
theorem mX0_foresee (q : rT) (x : Nat → Nat) (n : Nat → Int64) (u : uT) (hq : oOK q) : J KX0_foresee 9 (fun o B => o = none ∧ ∃ g9 n9 x9, B = wO (rrow q 2 g9) x9 n9 (urow u 2 (fun t => lN (hbe q x t)))) 0 [some (.ref 0), none] [] (wO q x n u) 0 0 := by
  refine J.iconst (0) dX0_foresee_0 (by decide) ?_
  refine J.istore_n dX0_foresee_1 rfl (by decide) rfl ?_
  try dsimp only [List.set, wO, wR]
  exact J.at (mX0_foresee_l q x u hq 5 0 (by omega) (q 2) n) rfl rfl (by simp only [Nat.not_lt_zero, if_false] <;> rfl)
end
section
theorem dX0_sitting_0 : decode cX0_sitting 0 = .ok (.aload_n 0, 1) := by decide +kernel
theorem dX0_sitting_1 : decode cX0_sitting 1 = .ok (.getfield 28, 3) := by decide +kernel
theorem dX0_sitting_4 : decode cX0_sitting 4 = .ok (.astore 5, 2) := by decide +kernel
theorem dX0_sitting_6 : decode cX0_sitting 6 = .ok (.aload 5, 2) := by decide +kernel
theorem dX0_sitting_8 : decode cX0_sitting 8 = .ok (.invokestatic 95, 3) := by decide +kernel
theorem dX0_sitting_11 : decode cX0_sitting 11 = .ok (.iload_n 3, 1) := by decide +kernel
theorem dX0_sitting_12 : decode cX0_sitting 12 = .ok (.iconst 1, 1) := by decide +kernel
theorem dX0_sitting_13 : decode cX0_sitting 13 = .ok (.isub, 1) := by decide +kernel
theorem dX0_sitting_14 : decode cX0_sitting 14 = .ok (.istore 6, 2) := by decide +kernel
theorem dX0_sitting_16 : decode cX0_sitting 16 = .ok (.iload 6, 2) := by decide +kernel
theorem dX0_sitting_18 : decode cX0_sitting 18 = .ok (.ifCond .lt 125, 3) := by decide +kernel
theorem dX0_sitting_21 : decode cX0_sitting 21 = .ok (.iload_n 3, 1) := by decide +kernel
theorem dX0_sitting_22 : decode cX0_sitting 22 = .ok (.iconst 1, 1) := by decide +kernel
theorem dX0_sitting_23 : decode cX0_sitting 23 = .ok (.isub, 1) := by decide +kernel
theorem dX0_sitting_24 : decode cX0_sitting 24 = .ok (.iload 6, 2) := by decide +kernel
theorem dX0_sitting_26 : decode cX0_sitting 26 = .ok (.isub, 1) := by decide +kernel
theorem dX0_sitting_27 : decode cX0_sitting 27 = .ok (.invokestatic 91, 3) := by decide +kernel
theorem dX0_sitting_30 : decode cX0_sitting 30 = .ok (.lstore 7, 2) := by decide +kernel
theorem dX0_sitting_32 : decode cX0_sitting 32 = .ok (.aload_n 0, 1) := by decide +kernel
theorem dX0_sitting_33 : decode cX0_sitting 33 = .ok (.getfield 57, 3) := by decide +kernel
theorem dX0_sitting_36 : decode cX0_sitting 36 = .ok (.istore 9, 2) := by decide +kernel
theorem dX0_sitting_38 : decode cX0_sitting 38 = .ok (.iload 9, 2) := by decide +kernel
theorem dX0_sitting_40 : decode cX0_sitting 40 = .ok (.ifCond .le 97, 3) := by decide +kernel
theorem dX0_sitting_43 : decode cX0_sitting 43 = .ok (.aload_n 0, 1) := by decide +kernel
theorem dX0_sitting_44 : decode cX0_sitting 44 = .ok (.iload 9, 2) := by decide +kernel
theorem dX0_sitting_46 : decode cX0_sitting 46 = .ok (.iload 6, 2) := by decide +kernel
theorem dX0_sitting_48 : decode cX0_sitting 48 = .ok (.invokevirtual 61, 3) := by decide +kernel
theorem dX0_sitting_51 : decode cX0_sitting 51 = .ok (.aload_n 0, 1) := by decide +kernel
theorem dX0_sitting_52 : decode cX0_sitting 52 = .ok (.iload 9, 2) := by decide +kernel
theorem dX0_sitting_54 : decode cX0_sitting 54 = .ok (.iconst 0, 1) := by decide +kernel
theorem dX0_sitting_55 : decode cX0_sitting 55 = .ok (.invokevirtual 65, 3) := by decide +kernel
theorem dX0_sitting_58 : decode cX0_sitting 58 = .ok (.iload_n 2, 1) := by decide +kernel
theorem dX0_sitting_59 : decode cX0_sitting 59 = .ok (.ineg, 1) := by decide +kernel
theorem dX0_sitting_60 : decode cX0_sitting 60 = .ok (.i2l, 1) := by decide +kernel
theorem dX0_sitting_61 : decode cX0_sitting 61 = .ok (.lmul, 1) := by decide +kernel
theorem dX0_sitting_62 : decode cX0_sitting 62 = .ok (.lload 7, 2) := by decide +kernel
theorem dX0_sitting_64 : decode cX0_sitting 64 = .ok (.lmul, 1) := by decide +kernel
theorem dX0_sitting_65 : decode cX0_sitting 65 = .ok (.lstore 10, 2) := by decide +kernel
theorem dX0_sitting_67 : decode cX0_sitting 67 = .ok (.iconst 1, 1) := by decide +kernel
theorem dX0_sitting_68 : decode cX0_sitting 68 = .ok (.istore 12, 2) := by decide +kernel
theorem dX0_sitting_70 : decode cX0_sitting 70 = .ok (.iload 12, 2) := by decide +kernel
theorem dX0_sitting_72 : decode cX0_sitting 72 = .ok (.iload 9, 2) := by decide +kernel
theorem dX0_sitting_74 : decode cX0_sitting 74 = .ok (.if_icmp .gt 34, 3) := by decide +kernel
theorem dX0_sitting_77 : decode cX0_sitting 77 = .ok (.lload 10, 2) := by decide +kernel
theorem dX0_sitting_79 : decode cX0_sitting 79 = .ok (.aload_n 0, 1) := by decide +kernel
theorem dX0_sitting_80 : decode cX0_sitting 80 = .ok (.iload 9, 2) := by decide +kernel
theorem dX0_sitting_82 : decode cX0_sitting 82 = .ok (.iload 12, 2) := by decide +kernel
theorem dX0_sitting_84 : decode cX0_sitting 84 = .ok (.invokevirtual 65, 3) := by decide +kernel
theorem dX0_sitting_87 : decode cX0_sitting 87 = .ok (.iload_n 1, 1) := by decide +kernel
theorem dX0_sitting_88 : decode cX0_sitting 88 = .ok (.i2l, 1) := by decide +kernel
theorem dX0_sitting_89 : decode cX0_sitting 89 = .ok (.lload 7, 2) := by decide +kernel
theorem dX0_sitting_91 : decode cX0_sitting 91 = .ok (.lmul, 1) := by decide +kernel
theorem dX0_sitting_92 : decode cX0_sitting 92 = .ok (.aload 5, 2) := by decide +kernel
theorem dX0_sitting_94 : decode cX0_sitting 94 = .ok (.iload 12, 2) := by decide +kernel
theorem dX0_sitting_96 : decode cX0_sitting 96 = .ok (.laload, 1) := by decide +kernel
theorem dX0_sitting_97 : decode cX0_sitting 97 = .ok (.ladd, 1) := by decide +kernel
theorem dX0_sitting_98 : decode cX0_sitting 98 = .ok (.lmul, 1) := by decide +kernel
theorem dX0_sitting_99 : decode cX0_sitting 99 = .ok (.ladd, 1) := by decide +kernel
theorem dX0_sitting_100 : decode cX0_sitting 100 = .ok (.lstore 10, 2) := by decide +kernel
theorem dX0_sitting_102 : decode cX0_sitting 102 = .ok (.iinc 12 1, 3) := by decide +kernel
theorem dX0_sitting_105 : decode cX0_sitting 105 = .ok (.goto (-35), 3) := by decide +kernel
theorem dX0_sitting_108 : decode cX0_sitting 108 = .ok (.aload 5, 2) := by decide +kernel
theorem dX0_sitting_110 : decode cX0_sitting 110 = .ok (.iload 9, 2) := by decide +kernel
theorem dX0_sitting_112 : decode cX0_sitting 112 = .ok (.iload 4, 2) := by decide +kernel
theorem dX0_sitting_114 : decode cX0_sitting 114 = .ok (.ifCond .eq 14, 3) := by decide +kernel
theorem dX0_sitting_117 : decode cX0_sitting 117 = .ok (.lload 10, 2) := by decide +kernel
theorem dX0_sitting_119 : decode cX0_sitting 119 = .ok (.lconst 0, 1) := by decide +kernel
theorem dX0_sitting_120 : decode cX0_sitting 120 = .ok (.lcmp, 1) := by decide +kernel
theorem dX0_sitting_121 : decode cX0_sitting 121 = .ok (.ifCond .gt 7, 3) := by decide +kernel
theorem dX0_sitting_124 : decode cX0_sitting 124 = .ok (.lconst 0, 1) := by decide +kernel
theorem dX0_sitting_125 : decode cX0_sitting 125 = .ok (.goto 5, 3) := by decide +kernel
theorem dX0_sitting_128 : decode cX0_sitting 128 = .ok (.lload 10, 2) := by decide +kernel
theorem dX0_sitting_130 : decode cX0_sitting 130 = .ok (.lastore, 1) := by decide +kernel
theorem dX0_sitting_131 : decode cX0_sitting 131 = .ok (.iinc 9 (-1), 3) := by decide +kernel
theorem dX0_sitting_134 : decode cX0_sitting 134 = .ok (.goto (-96), 3) := by decide +kernel
theorem dX0_sitting_137 : decode cX0_sitting 137 = .ok (.iinc 6 (-1), 3) := by decide +kernel
theorem dX0_sitting_140 : decode cX0_sitting 140 = .ok (.goto (-124), 3) := by decide +kernel
theorem dX0_sitting_143 : decode cX0_sitting 143 = .ok (.aload 5, 2) := by decide +kernel
theorem dX0_sitting_145 : decode cX0_sitting 145 = .ok (.aload_n 0, 1) := by decide +kernel
theorem dX0_sitting_146 : decode cX0_sitting 146 = .ok (.getfield 57, 3) := by decide +kernel
theorem dX0_sitting_149 : decode cX0_sitting 149 = .ok (.laload, 1) := by decide +kernel
theorem dX0_sitting_150 : decode cX0_sitting 150 = .ok (.lreturn, 1) := by decide +kernel
theorem dX0_duelHour_0 : decode cX0_duelHour 0 = .ok (.lload 4, 2) := by decide +kernel
theorem dX0_duelHour_2 : decode cX0_duelHour 2 = .ok (.lneg, 1) := by decide +kernel
theorem dX0_duelHour_3 : decode cX0_duelHour 3 = .ok (.aload_n 0, 1) := by decide +kernel
theorem dX0_duelHour_4 : decode cX0_duelHour 4 = .ok (.iload_n 1, 1) := by decide +kernel
theorem dX0_duelHour_5 : decode cX0_duelHour 5 = .ok (.iconst 0, 1) := by decide +kernel
theorem dX0_duelHour_6 : decode cX0_duelHour 6 = .ok (.invokevirtual 65, 3) := by decide +kernel
theorem dX0_duelHour_9 : decode cX0_duelHour 9 = .ok (.lmul, 1) := by decide +kernel
theorem dX0_duelHour_10 : decode cX0_duelHour 10 = .ok (.lstore 10, 2) := by decide +kernel
theorem dX0_duelHour_12 : decode cX0_duelHour 12 = .ok (.lload 6, 2) := by decide +kernel
theorem dX0_duelHour_14 : decode cX0_duelHour 14 = .ok (.aload_n 0, 1) := by decide +kernel
theorem dX0_duelHour_15 : decode cX0_duelHour 15 = .ok (.iload_n 1, 1) := by decide +kernel
theorem dX0_duelHour_16 : decode cX0_duelHour 16 = .ok (.iconst 0, 1) := by decide +kernel
theorem dX0_duelHour_17 : decode cX0_duelHour 17 = .ok (.invokevirtual 65, 3) := by decide +kernel
theorem dX0_duelHour_20 : decode cX0_duelHour 20 = .ok (.lmul, 1) := by decide +kernel
theorem dX0_duelHour_21 : decode cX0_duelHour 21 = .ok (.lstore 12, 2) := by decide +kernel
theorem dX0_duelHour_23 : decode cX0_duelHour 23 = .ok (.iconst 1, 1) := by decide +kernel
theorem dX0_duelHour_24 : decode cX0_duelHour 24 = .ok (.istore 14, 2) := by decide +kernel
theorem dX0_duelHour_26 : decode cX0_duelHour 26 = .ok (.iload 14, 2) := by decide +kernel
theorem dX0_duelHour_28 : decode cX0_duelHour 28 = .ok (.iload_n 1, 1) := by decide +kernel
theorem dX0_duelHour_29 : decode cX0_duelHour 29 = .ok (.if_icmp .gt 46, 3) := by decide +kernel
theorem dX0_duelHour_32 : decode cX0_duelHour 32 = .ok (.aload_n 0, 1) := by decide +kernel
theorem dX0_duelHour_33 : decode cX0_duelHour 33 = .ok (.iload_n 1, 1) := by decide +kernel
theorem dX0_duelHour_34 : decode cX0_duelHour 34 = .ok (.iload 14, 2) := by decide +kernel
theorem dX0_duelHour_36 : decode cX0_duelHour 36 = .ok (.invokevirtual 65, 3) := by decide +kernel
theorem dX0_duelHour_39 : decode cX0_duelHour 39 = .ok (.lstore 15, 2) := by decide +kernel
theorem dX0_duelHour_41 : decode cX0_duelHour 41 = .ok (.lload 10, 2) := by decide +kernel
theorem dX0_duelHour_43 : decode cX0_duelHour 43 = .ok (.lload 15, 2) := by decide +kernel
theorem dX0_duelHour_45 : decode cX0_duelHour 45 = .ok (.lload_n 2, 1) := by decide +kernel
theorem dX0_duelHour_46 : decode cX0_duelHour 46 = .ok (.aload 8, 2) := by decide +kernel
theorem dX0_duelHour_48 : decode cX0_duelHour 48 = .ok (.iload 14, 2) := by decide +kernel
theorem dX0_duelHour_50 : decode cX0_duelHour 50 = .ok (.laload, 1) := by decide +kernel
theorem dX0_duelHour_51 : decode cX0_duelHour 51 = .ok (.ladd, 1) := by decide +kernel
theorem dX0_duelHour_52 : decode cX0_duelHour 52 = .ok (.lmul, 1) := by decide +kernel
theorem dX0_duelHour_53 : decode cX0_duelHour 53 = .ok (.ladd, 1) := by decide +kernel
theorem dX0_duelHour_54 : decode cX0_duelHour 54 = .ok (.lstore 10, 2) := by decide +kernel
theorem dX0_duelHour_56 : decode cX0_duelHour 56 = .ok (.lload 12, 2) := by decide +kernel
theorem dX0_duelHour_58 : decode cX0_duelHour 58 = .ok (.lload 15, 2) := by decide +kernel
theorem dX0_duelHour_60 : decode cX0_duelHour 60 = .ok (.aload 9, 2) := by decide +kernel
theorem dX0_duelHour_62 : decode cX0_duelHour 62 = .ok (.iload 14, 2) := by decide +kernel
theorem dX0_duelHour_64 : decode cX0_duelHour 64 = .ok (.laload, 1) := by decide +kernel
theorem dX0_duelHour_65 : decode cX0_duelHour 65 = .ok (.lmul, 1) := by decide +kernel
theorem dX0_duelHour_66 : decode cX0_duelHour 66 = .ok (.ladd, 1) := by decide +kernel
theorem dX0_duelHour_67 : decode cX0_duelHour 67 = .ok (.lstore 12, 2) := by decide +kernel
theorem dX0_duelHour_69 : decode cX0_duelHour 69 = .ok (.iinc 14 1, 3) := by decide +kernel
theorem dX0_duelHour_72 : decode cX0_duelHour 72 = .ok (.goto (-46), 3) := by decide +kernel
theorem dX0_duelHour_75 : decode cX0_duelHour 75 = .ok (.aload 8, 2) := by decide +kernel
theorem dX0_duelHour_77 : decode cX0_duelHour 77 = .ok (.iload_n 1, 1) := by decide +kernel
theorem dX0_duelHour_78 : decode cX0_duelHour 78 = .ok (.lconst 0, 1) := by decide +kernel
theorem dX0_duelHour_79 : decode cX0_duelHour 79 = .ok (.lload 10, 2) := by decide +kernel
theorem dX0_duelHour_81 : decode cX0_duelHour 81 = .ok (.invokestatic 119, 3) := by decide +kernel
theorem dX0_duelHour_84 : decode cX0_duelHour 84 = .ok (.lastore, 1) := by decide +kernel
theorem dX0_duelHour_85 : decode cX0_duelHour 85 = .ok (.aload 9, 2) := by decide +kernel
theorem dX0_duelHour_87 : decode cX0_duelHour 87 = .ok (.iload_n 1, 1) := by decide +kernel
theorem dX0_duelHour_88 : decode cX0_duelHour 88 = .ok (.lload 10, 2) := by decide +kernel
theorem dX0_duelHour_90 : decode cX0_duelHour 90 = .ok (.lconst 0, 1) := by decide +kernel
theorem dX0_duelHour_91 : decode cX0_duelHour 91 = .ok (.lcmp, 1) := by decide +kernel
theorem dX0_duelHour_92 : decode cX0_duelHour 92 = .ok (.ifCond .le 8, 3) := by decide +kernel
theorem dX0_duelHour_95 : decode cX0_duelHour 95 = .ok (.lload 12, 2) := by decide +kernel
theorem dX0_duelHour_97 : decode cX0_duelHour 97 = .ok (.goto 9, 3) := by decide +kernel
theorem dX0_duelHour_100 : decode cX0_duelHour 100 = .ok (.ldc2_w 123, 3) := by decide +kernel
theorem dX0_duelHour_103 : decode cX0_duelHour 103 = .ok (.lload 6, 2) := by decide +kernel
theorem dX0_duelHour_105 : decode cX0_duelHour 105 = .ok (.lmul, 1) := by decide +kernel
theorem dX0_duelHour_106 : decode cX0_duelHour 106 = .ok (.lastore, 1) := by decide +kernel
theorem dX0_duelHour_107 : decode cX0_duelHour 107 = .ok (.return_, 1) := by decide +kernel
theorem dX0_contest_0 : decode cX0_contest 0 = .ok (.aload_n 0, 1) := by decide +kernel
theorem dX0_contest_1 : decode cX0_contest 1 = .ok (.getfield 28, 3) := by decide +kernel
theorem dX0_contest_4 : decode cX0_contest 4 = .ok (.invokestatic 95, 3) := by decide +kernel
theorem dX0_contest_7 : decode cX0_contest 7 = .ok (.aload_n 0, 1) := by decide +kernel
theorem dX0_contest_8 : decode cX0_contest 8 = .ok (.getfield 31, 3) := by decide +kernel
theorem dX0_contest_11 : decode cX0_contest 11 = .ok (.invokestatic 95, 3) := by decide +kernel
theorem dX0_contest_14 : decode cX0_contest 14 = .ok (.iload 4, 2) := by decide +kernel
theorem dX0_contest_16 : decode cX0_contest 16 = .ok (.iconst 1, 1) := by decide +kernel
theorem dX0_contest_17 : decode cX0_contest 17 = .ok (.isub, 1) := by decide +kernel
theorem dX0_contest_18 : decode cX0_contest 18 = .ok (.istore 5, 2) := by decide +kernel
theorem dX0_contest_20 : decode cX0_contest 20 = .ok (.iload 5, 2) := by decide +kernel
theorem dX0_contest_22 : decode cX0_contest 22 = .ok (.ifCond .lt 148, 3) := by decide +kernel
theorem dX0_contest_25 : decode cX0_contest 25 = .ok (.iload 5, 2) := by decide +kernel
theorem dX0_contest_27 : decode cX0_contest 27 = .ok (.iconst 1, 1) := by decide +kernel
theorem dX0_contest_28 : decode cX0_contest 28 = .ok (.iand, 1) := by decide +kernel
theorem dX0_contest_29 : decode cX0_contest 29 = .ok (.ifCond .ne 7, 3) := by decide +kernel
theorem dX0_contest_32 : decode cX0_contest 32 = .ok (.iconst 1, 1) := by decide +kernel
theorem dX0_contest_33 : decode cX0_contest 33 = .ok (.goto 4, 3) := by decide +kernel
theorem dX0_contest_36 : decode cX0_contest 36 = .ok (.iconst 0, 1) := by decide +kernel
theorem dX0_contest_37 : decode cX0_contest 37 = .ok (.istore 6, 2) := by decide +kernel
theorem dX0_contest_39 : decode cX0_contest 39 = .ok (.iload 6, 2) := by decide +kernel
theorem dX0_contest_41 : decode cX0_contest 41 = .ok (.ifCond .eq 7, 3) := by decide +kernel
theorem dX0_contest_44 : decode cX0_contest 44 = .ok (.iload_n 2, 1) := by decide +kernel
theorem dX0_contest_45 : decode cX0_contest 45 = .ok (.goto 4, 3) := by decide +kernel
theorem dX0_contest_48 : decode cX0_contest 48 = .ok (.iload_n 3, 1) := by decide +kernel
theorem dX0_contest_49 : decode cX0_contest 49 = .ok (.istore 7, 2) := by decide +kernel
theorem dX0_contest_51 : decode cX0_contest 51 = .ok (.iload 6, 2) := by decide +kernel
theorem dX0_contest_53 : decode cX0_contest 53 = .ok (.ifCond .eq 10, 3) := by decide +kernel
theorem dX0_contest_56 : decode cX0_contest 56 = .ok (.aload_n 0, 1) := by decide +kernel
theorem dX0_contest_57 : decode cX0_contest 57 = .ok (.getfield 28, 3) := by decide +kernel
theorem dX0_contest_60 : decode cX0_contest 60 = .ok (.goto 7, 3) := by decide +kernel
theorem dX0_contest_63 : decode cX0_contest 63 = .ok (.aload_n 0, 1) := by decide +kernel
theorem dX0_contest_64 : decode cX0_contest 64 = .ok (.getfield 31, 3) := by decide +kernel
theorem dX0_contest_67 : decode cX0_contest 67 = .ok (.astore 8, 2) := by decide +kernel
theorem dX0_contest_69 : decode cX0_contest 69 = .ok (.iload 6, 2) := by decide +kernel
theorem dX0_contest_71 : decode cX0_contest 71 = .ok (.ifCond .eq 10, 3) := by decide +kernel
theorem dX0_contest_74 : decode cX0_contest 74 = .ok (.aload_n 0, 1) := by decide +kernel
theorem dX0_contest_75 : decode cX0_contest 75 = .ok (.getfield 31, 3) := by decide +kernel
theorem dX0_contest_78 : decode cX0_contest 78 = .ok (.goto 7, 3) := by decide +kernel
theorem dX0_contest_81 : decode cX0_contest 81 = .ok (.aload_n 0, 1) := by decide +kernel
theorem dX0_contest_82 : decode cX0_contest 82 = .ok (.getfield 28, 3) := by decide +kernel
theorem dX0_contest_85 : decode cX0_contest 85 = .ok (.astore 9, 2) := by decide +kernel
theorem dX0_contest_87 : decode cX0_contest 87 = .ok (.iload 4, 2) := by decide +kernel
theorem dX0_contest_89 : decode cX0_contest 89 = .ok (.iconst 1, 1) := by decide +kernel
theorem dX0_contest_90 : decode cX0_contest 90 = .ok (.isub, 1) := by decide +kernel
theorem dX0_contest_91 : decode cX0_contest 91 = .ok (.iload 5, 2) := by decide +kernel
theorem dX0_contest_93 : decode cX0_contest 93 = .ok (.isub, 1) := by decide +kernel
theorem dX0_contest_94 : decode cX0_contest 94 = .ok (.invokestatic 91, 3) := by decide +kernel
theorem dX0_contest_97 : decode cX0_contest 97 = .ok (.lstore 10, 2) := by decide +kernel
theorem dX0_contest_99 : decode cX0_contest 99 = .ok (.aload_n 0, 1) := by decide +kernel
theorem dX0_contest_100 : decode cX0_contest 100 = .ok (.getfield 57, 3) := by decide +kernel
theorem dX0_contest_103 : decode cX0_contest 103 = .ok (.istore 12, 2) := by decide +kernel
theorem dX0_contest_105 : decode cX0_contest 105 = .ok (.iload 12, 2) := by decide +kernel
theorem dX0_contest_107 : decode cX0_contest 107 = .ok (.ifCond .le 57, 3) := by decide +kernel
theorem dX0_contest_110 : decode cX0_contest 110 = .ok (.aload_n 0, 1) := by decide +kernel
theorem dX0_contest_111 : decode cX0_contest 111 = .ok (.iload 12, 2) := by decide +kernel
theorem dX0_contest_113 : decode cX0_contest 113 = .ok (.iload 5, 2) := by decide +kernel
theorem dX0_contest_115 : decode cX0_contest 115 = .ok (.invokevirtual 61, 3) := by decide +kernel
theorem dX0_contest_118 : decode cX0_contest 118 = .ok (.aload_n 0, 1) := by decide +kernel
theorem dX0_contest_119 : decode cX0_contest 119 = .ok (.iload 12, 2) := by decide +kernel
theorem dX0_contest_121 : decode cX0_contest 121 = .ok (.aload_n 1, 1) := by decide +kernel
theorem dX0_contest_122 : decode cX0_contest 122 = .ok (.getfield 99, 3) := by decide +kernel
theorem dX0_contest_125 : decode cX0_contest 125 = .ok (.iload 7, 2) := by decide +kernel
theorem dX0_contest_127 : decode cX0_contest 127 = .ok (.iaload, 1) := by decide +kernel
theorem dX0_contest_128 : decode cX0_contest 128 = .ok (.i2l, 1) := by decide +kernel
theorem dX0_contest_129 : decode cX0_contest 129 = .ok (.lload 10, 2) := by decide +kernel
theorem dX0_contest_131 : decode cX0_contest 131 = .ok (.lmul, 1) := by decide +kernel
theorem dX0_contest_132 : decode cX0_contest 132 = .ok (.aload_n 1, 1) := by decide +kernel
theorem dX0_contest_133 : decode cX0_contest 133 = .ok (.getfield 102, 3) := by decide +kernel
theorem dX0_contest_136 : decode cX0_contest 136 = .ok (.iload 7, 2) := by decide +kernel
theorem dX0_contest_138 : decode cX0_contest 138 = .ok (.iaload, 1) := by decide +kernel
theorem dX0_contest_139 : decode cX0_contest 139 = .ok (.i2l, 1) := by decide +kernel
theorem dX0_contest_140 : decode cX0_contest 140 = .ok (.lload 10, 2) := by decide +kernel
theorem dX0_contest_142 : decode cX0_contest 142 = .ok (.lmul, 1) := by decide +kernel
theorem dX0_contest_143 : decode cX0_contest 143 = .ok (.aload_n 1, 1) := by decide +kernel
theorem dX0_contest_144 : decode cX0_contest 144 = .ok (.getfield 105, 3) := by decide +kernel
theorem dX0_contest_147 : decode cX0_contest 147 = .ok (.i2l, 1) := by decide +kernel
theorem dX0_contest_148 : decode cX0_contest 148 = .ok (.lload 10, 2) := by decide +kernel
theorem dX0_contest_150 : decode cX0_contest 150 = .ok (.lmul, 1) := by decide +kernel
theorem dX0_contest_151 : decode cX0_contest 151 = .ok (.aload 8, 2) := by decide +kernel
theorem dX0_contest_153 : decode cX0_contest 153 = .ok (.aload 9, 2) := by decide +kernel
theorem dX0_contest_155 : decode cX0_contest 155 = .ok (.invokevirtual 108, 3) := by decide +kernel
theorem dX0_contest_158 : decode cX0_contest 158 = .ok (.iinc 12 (-1), 3) := by decide +kernel
theorem dX0_contest_161 : decode cX0_contest 161 = .ok (.goto (-56), 3) := by decide +kernel
theorem dX0_contest_164 : decode cX0_contest 164 = .ok (.iinc 5 (-1), 3) := by decide +kernel
theorem dX0_contest_167 : decode cX0_contest 167 = .ok (.goto (-147), 3) := by decide +kernel
theorem dX0_contest_170 : decode cX0_contest 170 = .ok (.aload_n 0, 1) := by decide +kernel
theorem dX0_contest_171 : decode cX0_contest 171 = .ok (.aload_n 0, 1) := by decide +kernel
theorem dX0_contest_172 : decode cX0_contest 172 = .ok (.getfield 28, 3) := by decide +kernel
theorem dX0_contest_175 : decode cX0_contest 175 = .ok (.aload_n 0, 1) := by decide +kernel
theorem dX0_contest_176 : decode cX0_contest 176 = .ok (.getfield 57, 3) := by decide +kernel
theorem dX0_contest_179 : decode cX0_contest 179 = .ok (.laload, 1) := by decide +kernel
theorem dX0_contest_180 : decode cX0_contest 180 = .ok (.putfield 112, 3) := by decide +kernel
theorem dX0_contest_183 : decode cX0_contest 183 = .ok (.aload_n 0, 1) := by decide +kernel
theorem dX0_contest_184 : decode cX0_contest 184 = .ok (.aload_n 0, 1) := by decide +kernel
theorem dX0_contest_185 : decode cX0_contest 185 = .ok (.getfield 57, 3) := by decide +kernel
theorem dX0_contest_188 : decode cX0_contest 188 = .ok (.ifCond .ne 22, 3) := by decide +kernel
theorem dX0_contest_191 : decode cX0_contest 191 = .ok (.iload 4, 2) := by decide +kernel
theorem dX0_contest_193 : decode cX0_contest 193 = .ok (.ifCond .le 17, 3) := by decide +kernel
theorem dX0_contest_196 : decode cX0_contest 196 = .ok (.aload_n 1, 1) := by decide +kernel
theorem dX0_contest_197 : decode cX0_contest 197 = .ok (.getfield 105, 3) := by decide +kernel
theorem dX0_contest_200 : decode cX0_contest 200 = .ok (.i2l, 1) := by decide +kernel
theorem dX0_contest_201 : decode cX0_contest 201 = .ok (.iload 4, 2) := by decide +kernel
theorem dX0_contest_203 : decode cX0_contest 203 = .ok (.invokestatic 91, 3) := by decide +kernel
theorem dX0_contest_206 : decode cX0_contest 206 = .ok (.lmul, 1) := by decide +kernel
theorem dX0_contest_207 : decode cX0_contest 207 = .ok (.goto 12, 3) := by decide +kernel
theorem dX0_contest_210 : decode cX0_contest 210 = .ok (.aload_n 0, 1) := by decide +kernel
theorem dX0_contest_211 : decode cX0_contest 211 = .ok (.getfield 31, 3) := by decide +kernel
theorem dX0_contest_214 : decode cX0_contest 214 = .ok (.aload_n 0, 1) := by decide +kernel
theorem dX0_contest_215 : decode cX0_contest 215 = .ok (.getfield 57, 3) := by decide +kernel
theorem dX0_contest_218 : decode cX0_contest 218 = .ok (.laload, 1) := by decide +kernel
theorem dX0_contest_219 : decode cX0_contest 219 = .ok (.putfield 116, 3) := by decide +kernel
theorem dX0_contest_222 : decode cX0_contest 222 = .ok (.return_, 1) := by decide +kernel
/-! what a KING has in the mean, as the longs have it: sv: of set s, in the HOUR behind t, what is summed up to r -/
def sv (q : rT) (wo li un : Int64) (g : Nat → Int64) (t s : Nat) : Nat → Int64
  | 0 => 0
  | r + 1 => if r = 0 then lN (wtn (ten q s t) s 0) * li * un else sv q wo li un g t s r + lN (wtn (ten q s t) s r) * (wo * un + g r)
def gs (sees : Prop) [Decidable sees] (v : Int64) : Int64 := if sees ∧ ¬ 0 < v then 0 else v
/-- k HOURS from the end, of N -/
def gg (q : rT) (wo li : Int64) (sees : Prop) [Decidable sees] (w N : Nat) : Nat → Nat → Int64
  | 0, _ => 0
  | k + 1, s => if 1 ≤ s ∧ s ≤ w then gs sees (sv q wo li (lN (1000 ^ k)) (gg q wo li sees w N k) (N - 1 - k) s (s + 1)) else gg q wo li sees w N k s
set_option maxRecDepth 100000 in
set_option maxHeartbeats 4000000 in
theorem mX0_sitting_r (q : rT) (x : Nat → Nat) (n : Nat → Int64) (u : uT) (wo li : Nat) (sees : Prop) (hd : Decidable sees) (N : Nat) (hq : oOK q) (hN : N < 100) (k t s : Nat) (hs : s < 8) (ht : t < 100) (hk : J KX0_sitting 9 (fun o B => o = some (.long (gg q (nI wo).toInt64 (-nI li).toInt64 sees (q 6 0) N N (q 6 0))) ∧ ∃ g9 f9, B = wO (rrow q 2 g9) x n (urow u 0 f9)) 108 [some (.ref 0), some (.int (nI wo)), some (.int (nI li)), some (.int (nI N)), some (.int (jB sees)), some (.ref 6), some (.int (nI t)), some (.long (lN (1000 ^ k))), none, some (.int (nI s)), some (.long (sv q (nI wo).toInt64 (-nI li).toInt64 (lN (1000 ^ k)) (gg q (nI wo).toInt64 (-nI li).toInt64 sees (q 6 0) N k) t s (s + 1))), none, some (.int (nI (s + 1)))] [] (wO (rrow q 2 (ten q s t)) x n (urow u 0 (fun j => if s < j ∧ j ≤ q 6 0 then gg q (nI wo).toInt64 (-nI li).toInt64 sees (q 6 0) N (k + 1) j else (gg q (nI wo).toInt64 (-nI li).toInt64 sees (q 6 0) N k) j))) 0 0) : ∀ (k9 i : Nat), i + k9 = s + 1 → 1 ≤ i → J KX0_sitting 9 (fun o B => o = some (.long (gg q (nI wo).toInt64 (-nI li).toInt64 sees (q 6 0) N N (q 6 0))) ∧ ∃ g9 f9, B = wO (rrow q 2 g9) x n (urow u 0 f9)) 70 [some (.ref 0), some (.int (nI wo)), some (.int (nI li)), some (.int (nI N)), some (.int (jB sees)), some (.ref 6), some (.int (nI t)), some (.long (lN (1000 ^ k))), none, some (.int (nI s)), some (.long (sv q (nI wo).toInt64 (-nI li).toInt64 (lN (1000 ^ k)) (gg q (nI wo).toInt64 (-nI li).toInt64 sees (q 6 0) N k) t s i)), none, some (.int (nI i))] [] (wO (rrow q 2 (ten q s t)) x n (urow u 0 (fun j => if s < j ∧ j ≤ q 6 0 then gg q (nI wo).toInt64 (-nI li).toInt64 sees (q 6 0) N (k + 1) j else (gg q (nI wo).toInt64 (-nI li).toInt64 sees (q 6 0) N k) j))) 0 0 := by
  intro k9
  induction k9 with
  | zero =>
    intro i hi
    obtain hiN : i = s + 1 := by omega
    intro hst
    subst hiN
    refine J.iload dX0_sitting_70 rfl ?_
    refine J.iload dX0_sitting_72 rfl ?_
    refine J.icmp_gt (tgt := 108) dX0_sitting_74 (by decide) (fun c74 => ?_) (fun c74 => absurd c74 (fun h => h ((nI_lti (by omega) (by omega)).mpr (Nat.lt_succ_self s))))
    exact hk
  | succ k9 ih =>
    intro i hi
    have hiN : i < s + 1 := by omega
    intro hst
    refine J.iload dX0_sitting_70 rfl ?_
    refine J.iload dX0_sitting_72 rfl ?_
    refine J.icmp_gt (tgt := 108) dX0_sitting_74 (by decide) (fun c74 => absurd c74 (fun h => absurd ((nI_lti (by omega) (by omega)).mp h) (by omega))) (fun c74 => ?_)
    refine J.lload dX0_sitting_77 rfl ?_
    refine J.aload_n dX0_sitting_79 rfl rfl ?_
    refine J.iload dX0_sitting_80 rfl ?_
    refine J.iload dX0_sitting_82 rfl ?_
    refine J.cv (as := [.int _, .int _]) (is := [0, 1, 2, 3, 4, 5, 6, 7, 8]) (o := 0) okX0_weight jcX0_65 (mX0_weight (rrow q 2 (ten q s t)) x n (urow u 0 (fun j => if s < j ∧ j ≤ q 6 0 then gg q (nI wo).toInt64 (-nI li).toInt64 sees (q 6 0) N (k + 1) j else (gg q (nI wo).toInt64 (-nI li).toInt64 sees (q 6 0) N k) j)) s i hs (by omega) (fun i => ten_le q s t i)) dX0_sitting_84 rfl rfl rfl rfl rfl rfl rfl (fun r9 B9 hq => ?_)
    obtain ⟨rfl, rfl⟩ := hq
    refine ⟨rfl, ?_⟩
    show J _ _ _ _ _ (.long _ :: .long _ :: _) (wO (rrow q 2 (ten q s t)) x n (urow u 0 (fun j => if s < j ∧ j ≤ q 6 0 then gg q (nI wo).toInt64 (-nI li).toInt64 sees (q 6 0) N (k + 1) j else (gg q (nI wo).toInt64 (-nI li).toInt64 sees (q 6 0) N k) j))) _ _
    refine J.iload_n dX0_sitting_87 rfl rfl ?_
    refine J.i2l dX0_sitting_88 ?_
    refine J.lload dX0_sitting_89 rfl ?_
    refine J.lmul dX0_sitting_91 ?_
    refine J.aload dX0_sitting_92 rfl ?_
    refine J.iload dX0_sitting_94 rfl ?_
    refine J.laloadN dX0_sitting_96 rfl (show i < 8 by omega) ?_
    skip
    refine J.ladd dX0_sitting_97 ?_
    refine J.lmul dX0_sitting_98 ?_
    refine J.ladd dX0_sitting_99 ?_
    refine J.lstore dX0_sitting_100 (by decide) rfl ?_
    try dsimp only [List.set, wO, wR]
    refine J.iinc (1) dX0_sitting_102 (by decide) rfl (by decide) rfl ?_
    try dsimp only [List.set, wO, wR]
    refine J.goto (tgt := 70) dX0_sitting_105 (by decide) ?_
    refine J.at (ih (i + 1) (by omega) (by omega)) ?_ rfl rfl
    rw [← nI_1, show sv q (nI wo).toInt64 (-nI li).toInt64 (lN (1000 ^ k)) (gg q (nI wo).toInt64 (-nI li).toInt64 sees (q 6 0) N k) t s (i + 1) = _ from if_neg (show ¬ i = 0 by omega)]
    rw [show urow u 0 (fun j => if s < j ∧ j ≤ q 6 0 then gg q (nI wo).toInt64 (-nI li).toInt64 sees (q 6 0) N (k + 1) j else (gg q (nI wo).toInt64 (-nI li).toInt64 sees (q 6 0) N k) j) 0 i = (gg q (nI wo).toInt64 (-nI li).toInt64 sees (q 6 0) N k) i from if_neg (fun h => absurd h.1 (by omega))]
    rfl
theorem nI_m1 (i : Nat) : nI (i + 1) + (-1) = nI i := pk_m1 i
theorem sub1 (a : Int32) : a + (-1) = a - 1 := by rw [Int32.sub_eq_add_neg]
theorem dn_s {α : Type} (a b : Nat → α) (w i : Nat) (hi : i + 1 ≤ w) : (fun j => if j = i + 1 then a (i + 1) else if i + 1 < j ∧ j ≤ w then a j else b j) = fun j => if i < j ∧ j ≤ w then a j else b j := by
  funext j
  by_cases h1 : j = i + 1
  · subst h1
    rw [if_pos rfl, if_pos ⟨by omega, hi⟩]
  · rw [if_neg h1]
    by_cases h2 : i + 1 < j ∧ j ≤ w
    · rw [if_pos h2, if_pos ⟨by omega, h2.2⟩]
    · rw [if_neg h2, if_neg (fun h => h2 ⟨by omega, h.2⟩)]
set_option maxRecDepth 100000 in
set_option maxHeartbeats 4000000 in
theorem mX0_sitting_s (q : rT) (x : Nat → Nat) (n : Nat → Int64) (u : uT) (wo li : Nat) (sees : Prop) (hd : Decidable sees) (N : Nat) (hq : oOK q) (hN : N < 100) (k t : Nat) (ht : t < 100) (ht2 : t = N - 1 - k) (hk : ∀ (g : Nat → Nat) (z1 z2 z3 : Option Value), J KX0_sitting 9 (fun o B => o = some (.long (gg q (nI wo).toInt64 (-nI li).toInt64 sees (q 6 0) N N (q 6 0))) ∧ ∃ g9 f9, B = wO (rrow q 2 g9) x n (urow u 0 f9)) 137 [some (.ref 0), some (.int (nI wo)), some (.int (nI li)), some (.int (nI N)), some (.int (jB sees)), some (.ref 6), some (.int (nI t)), some (.long (lN (1000 ^ k))), none, z1, z2, none, z3] [] (wO (rrow q 2 g) x n (urow u 0 (gg q (nI wo).toInt64 (-nI li).toInt64 sees (q 6 0) N (k + 1)))) 0 0) : ∀ (i : Nat), i ≤ q 6 0 → ∀ (g : Nat → Nat) (z1 z2 : Option Value), J KX0_sitting 9 (fun o B => o = some (.long (gg q (nI wo).toInt64 (-nI li).toInt64 sees (q 6 0) N N (q 6 0))) ∧ ∃ g9 f9, B = wO (rrow q 2 g9) x n (urow u 0 f9)) 38 [some (.ref 0), some (.int (nI wo)), some (.int (nI li)), some (.int (nI N)), some (.int (jB sees)), some (.ref 6), some (.int (nI t)), some (.long (lN (1000 ^ k))), none, some (.int (nI i)), z1, none, z2] [] (wO (rrow q 2 g) x n (urow u 0 (fun j => if i < j ∧ j ≤ q 6 0 then gg q (nI wo).toInt64 (-nI li).toInt64 sees (q 6 0) N (k + 1) j else (gg q (nI wo).toInt64 (-nI li).toInt64 sees (q 6 0) N k) j))) 0 0 := by
  intro i
  induction i with
  | zero =>
    intro hi g z1 z2
    refine J.iload dX0_sitting_38 rfl ?_
    refine J.if_le (tgt := 137) dX0_sitting_40 (by decide) (fun c40 => ?_) (fun c40 => absurd c40 (fun h => h (by decide)))
    have e9 : (fun j => if 0 < j ∧ j ≤ q 6 0 then gg q (nI wo).toInt64 (-nI li).toInt64 sees (q 6 0) N (k + 1) j else (gg q (nI wo).toInt64 (-nI li).toInt64 sees (q 6 0) N k) j) = gg q (nI wo).toInt64 (-nI li).toInt64 sees (q 6 0) N (k + 1) := by (funext j; show _ = (if 1 ≤ j ∧ j ≤ q 6 0 then _ else _); by_cases h : 0 < j ∧ j ≤ q 6 0; (rw [if_pos h, if_pos ⟨by omega, h.2⟩]; exact if_pos ⟨by omega, h.2⟩); (rw [if_neg h, if_neg (fun h9 => h ⟨by omega, h9.2⟩)]))
    rw [e9]
    exact hk g _ z1 z2
  | succ i ih =>
    intro hi g z1 z2
    refine J.iload dX0_sitting_38 rfl ?_
    refine J.if_le (tgt := 137) dX0_sitting_40 (by decide) (fun c40 => absurd c40 (fun h => absurd ((nI_lei (b := 0) (by have := hq.2.2.2; omega) (by decide)).mp h) (by omega))) (fun c40 => ?_)
    refine J.aload_n dX0_sitting_43 rfl rfl ?_
    refine J.iload dX0_sitting_44 rfl ?_
    refine J.iload dX0_sitting_46 rfl ?_
    refine J.cv (as := [.int _, .int _]) (is := [0, 1, 2, 3, 4, 5, 6, 7, 8]) (o := 0) okX0_weigh jcX0_61 (mX0_weigh (rrow q 2 g) x n (urow u 0 (fun j => if i + 1 < j ∧ j ≤ q 6 0 then gg q (nI wo).toInt64 (-nI li).toInt64 sees (q 6 0) N (k + 1) j else (gg q (nI wo).toInt64 (-nI li).toInt64 sees (q 6 0) N k) j)) (i + 1) t hq (by have := hq.2.2.2; omega) ht) dX0_sitting_48 rfl rfl rfl rfl rfl rfl rfl (fun r9 B9 hq => ?_)
    obtain ⟨rfl, rfl⟩ := hq
    refine ⟨rfl, ?_⟩
    show J _ _ _ _ _ [] (wO (rrow q 2 (ten q (i + 1) t)) x n (urow u 0 (fun j => if i + 1 < j ∧ j ≤ q 6 0 then gg q (nI wo).toInt64 (-nI li).toInt64 sees (q 6 0) N (k + 1) j else (gg q (nI wo).toInt64 (-nI li).toInt64 sees (q 6 0) N k) j))) _ _
    refine J.aload_n dX0_sitting_51 rfl rfl ?_
    refine J.iload dX0_sitting_52 rfl ?_
    refine J.iconst (0) dX0_sitting_54 (by decide) ?_
    refine J.cv (as := [.int _, .int _]) (is := [0, 1, 2, 3, 4, 5, 6, 7, 8]) (o := 0) okX0_weight jcX0_65 (mX0_weight (rrow q 2 (ten q (i + 1) t)) x n (urow u 0 (fun j => if i + 1 < j ∧ j ≤ q 6 0 then gg q (nI wo).toInt64 (-nI li).toInt64 sees (q 6 0) N (k + 1) j else (gg q (nI wo).toInt64 (-nI li).toInt64 sees (q 6 0) N k) j)) (i + 1) 0 (by have := hq.2.2.2; omega) (by decide) (fun i9 => ten_le q (i + 1) t i9)) dX0_sitting_55 rfl rfl rfl rfl rfl rfl rfl (fun r9 B9 hq => ?_)
    obtain ⟨rfl, rfl⟩ := hq
    refine ⟨rfl, ?_⟩
    show J _ _ _ _ _ (.long _ :: _) (wO (rrow q 2 (ten q (i + 1) t)) x n (urow u 0 (fun j => if i + 1 < j ∧ j ≤ q 6 0 then gg q (nI wo).toInt64 (-nI li).toInt64 sees (q 6 0) N (k + 1) j else (gg q (nI wo).toInt64 (-nI li).toInt64 sees (q 6 0) N k) j))) _ _
    refine J.iload_n dX0_sitting_58 rfl rfl ?_
    refine J.ineg dX0_sitting_59 ?_
    refine J.i2l dX0_sitting_60 ?_
    refine J.lmul dX0_sitting_61 ?_
    refine J.lload dX0_sitting_62 rfl ?_
    refine J.lmul dX0_sitting_64 ?_
    refine J.lstore dX0_sitting_65 (by decide) rfl ?_
    try dsimp only [List.set, wO, wR]
    refine J.iconst (1) dX0_sitting_67 (by decide) ?_
    refine J.istore dX0_sitting_68 (by decide) rfl ?_
    try dsimp only [List.set, wO, wR]
    refine J.at (mX0_sitting_r q x n u wo li sees hd N hq hN k t (i + 1) (by have := hq.2.2.2; omega) ht ?_ (i + 1) 1 (by omega) (by omega)) rfl rfl rfl
    refine J.aload dX0_sitting_108 rfl ?_
    refine J.iload dX0_sitting_110 rfl ?_
    refine J.iload dX0_sitting_112 rfl ?_
    refine J.if_eq (tgt := 128) dX0_sitting_114 (by decide) (fun c114 => ?_) (fun c114 => ?_)
    · refine J.lload dX0_sitting_128 rfl ?_
      refine J.lastoreN dX0_sitting_130 rfl (show i + 1 < 8 by have := hq.2.2.2; omega) ?_
      try dsimp only [List.set, wO, wR]
      refine J.iinc (-1) dX0_sitting_131 (by decide) rfl (by decide) rfl ?_
      try dsimp only [List.set, wO, wR]
      refine J.goto (tgt := 38) dX0_sitting_134 (by decide) ?_
      have e8 : gg q (nI wo).toInt64 (-nI li).toInt64 sees (q 6 0) N (k + 1) (i + 1) = (sv q (nI wo).toInt64 (-nI li).toInt64 (lN (1000 ^ k)) (gg q (nI wo).toInt64 (-nI li).toInt64 sees (q 6 0) N k) t (i + 1) (i + 1 + 1)) := by (show (if 1 ≤ i + 1 ∧ i + 1 ≤ q 6 0 then _ else _) = _; rw [if_pos ⟨by omega, hi⟩, ← ht2]; exact if_neg (fun h => (jB_0 hd).mp c114 h.1))
      have e9 : vp_updL (fun j => if i + 1 < j ∧ j ≤ q 6 0 then gg q (nI wo).toInt64 (-nI li).toInt64 sees (q 6 0) N (k + 1) j else (gg q (nI wo).toInt64 (-nI li).toInt64 sees (q 6 0) N k) j) (i + 1) ((sv q (nI wo).toInt64 (-nI li).toInt64 (lN (1000 ^ k)) (gg q (nI wo).toInt64 (-nI li).toInt64 sees (q 6 0) N k) t (i + 1) (i + 1 + 1))) = (fun j => if i < j ∧ j ≤ q 6 0 then gg q (nI wo).toInt64 (-nI li).toInt64 sees (q 6 0) N (k + 1) j else (gg q (nI wo).toInt64 (-nI li).toInt64 sees (q 6 0) N k) j) := by (rw [← e8]; exact dn_s (gg q (nI wo).toInt64 (-nI li).toInt64 sees (q 6 0) N (k + 1)) (gg q (nI wo).toInt64 (-nI li).toInt64 sees (q 6 0) N k) (q 6 0) i hi)
      refine J.at (ih (by omega) (ten q (i + 1) t) _ _) (by rw [nI_m1]) rfl ?_
      rw [← e9]
      rfl
    · refine J.lload dX0_sitting_117 rfl ?_
      refine J.lconst 0 dX0_sitting_119 (by decide) ?_
      refine J.lcmp dX0_sitting_120 ?_
      refine J.if_gt (tgt := 128) dX0_sitting_121 (by decide) (fun c121 => ?_) (fun c121 => ?_)
      · refine J.lload dX0_sitting_128 rfl ?_
        refine J.lastoreN dX0_sitting_130 rfl (show i + 1 < 8 by have := hq.2.2.2; omega) ?_
        try dsimp only [List.set, wO, wR]
        refine J.iinc (-1) dX0_sitting_131 (by decide) rfl (by decide) rfl ?_
        try dsimp only [List.set, wO, wR]
        refine J.goto (tgt := 38) dX0_sitting_134 (by decide) ?_
        have e8 : gg q (nI wo).toInt64 (-nI li).toInt64 sees (q 6 0) N (k + 1) (i + 1) = (sv q (nI wo).toInt64 (-nI li).toInt64 (lN (1000 ^ k)) (gg q (nI wo).toInt64 (-nI li).toInt64 sees (q 6 0) N k) t (i + 1) (i + 1 + 1)) := by (show (if 1 ≤ i + 1 ∧ i + 1 ≤ q 6 0 then _ else _) = _; rw [if_pos ⟨by omega, hi⟩, ← ht2]; exact if_neg (fun h => h.2 ((lg_cmp_gt _ _).mp c121)))
        have e9 : vp_updL (fun j => if i + 1 < j ∧ j ≤ q 6 0 then gg q (nI wo).toInt64 (-nI li).toInt64 sees (q 6 0) N (k + 1) j else (gg q (nI wo).toInt64 (-nI li).toInt64 sees (q 6 0) N k) j) (i + 1) ((sv q (nI wo).toInt64 (-nI li).toInt64 (lN (1000 ^ k)) (gg q (nI wo).toInt64 (-nI li).toInt64 sees (q 6 0) N k) t (i + 1) (i + 1 + 1))) = (fun j => if i < j ∧ j ≤ q 6 0 then gg q (nI wo).toInt64 (-nI li).toInt64 sees (q 6 0) N (k + 1) j else (gg q (nI wo).toInt64 (-nI li).toInt64 sees (q 6 0) N k) j) := by (rw [← e8]; exact dn_s (gg q (nI wo).toInt64 (-nI li).toInt64 sees (q 6 0) N (k + 1)) (gg q (nI wo).toInt64 (-nI li).toInt64 sees (q 6 0) N k) (q 6 0) i hi)
        refine J.at (ih (by omega) (ten q (i + 1) t) _ _) (by rw [nI_m1]) rfl ?_
        rw [← e9]
        rfl
      · refine J.lconst 0 dX0_sitting_124 (by decide) ?_
        refine J.goto (tgt := 130) dX0_sitting_125 (by decide) ?_
        refine J.lastoreN dX0_sitting_130 rfl (show i + 1 < 8 by have := hq.2.2.2; omega) ?_
        try dsimp only [List.set, wO, wR]
        refine J.iinc (-1) dX0_sitting_131 (by decide) rfl (by decide) rfl ?_
        try dsimp only [List.set, wO, wR]
        refine J.goto (tgt := 38) dX0_sitting_134 (by decide) ?_
        have e8 : gg q (nI wo).toInt64 (-nI li).toInt64 sees (q 6 0) N (k + 1) (i + 1) = 0 := by (show (if 1 ≤ i + 1 ∧ i + 1 ≤ q 6 0 then _ else _) = _; rw [if_pos ⟨by omega, hi⟩, ← ht2]; exact if_pos ⟨Decidable.not_not.mp (fun h => c114 (jB_f hd h)), fun h => c121 ((lg_cmp_gt _ _).mpr h)⟩)
        have e9 : vp_updL (fun j => if i + 1 < j ∧ j ≤ q 6 0 then gg q (nI wo).toInt64 (-nI li).toInt64 sees (q 6 0) N (k + 1) j else (gg q (nI wo).toInt64 (-nI li).toInt64 sees (q 6 0) N k) j) (i + 1) (0) = (fun j => if i < j ∧ j ≤ q 6 0 then gg q (nI wo).toInt64 (-nI li).toInt64 sees (q 6 0) N (k + 1) j else (gg q (nI wo).toInt64 (-nI li).toInt64 sees (q 6 0) N k) j) := by (rw [← e8]; exact dn_s (gg q (nI wo).toInt64 (-nI li).toInt64 sees (q 6 0) N (k + 1)) (gg q (nI wo).toInt64 (-nI li).toInt64 sees (q 6 0) N k) (q 6 0) i hi)
        refine J.at (ih (by omega) (ten q (i + 1) t) _ _) (by rw [nI_m1]) rfl ?_
        rw [← e9]
        rfl
set_option maxRecDepth 100000 in
set_option maxHeartbeats 4000000 in
theorem mX0_sitting_t (q : rT) (x : Nat → Nat) (n : Nat → Int64) (u : uT) (wo li : Nat) (sees : Prop) (hd : Decidable sees) (N : Nat) (hq : oOK q) (hN : N < 100) : ∀ (i : Nat), i ≤ N → ∀ (g : Nat → Nat) (z1 z2 z3 z4 : Option Value), J KX0_sitting 9 (fun o B => o = some (.long (gg q (nI wo).toInt64 (-nI li).toInt64 sees (q 6 0) N N (q 6 0))) ∧ ∃ g9 f9, B = wO (rrow q 2 g9) x n (urow u 0 f9)) 16 [some (.ref 0), some (.int (nI wo)), some (.int (nI li)), some (.int (nI N)), some (.int (jB sees)), some (.ref 6), some (.int (nI i - 1)), z1, none, z2, z3, none, z4] [] (wO (rrow q 2 g) x n (urow u 0 (gg q (nI wo).toInt64 (-nI li).toInt64 sees (q 6 0) N (N - i)))) 0 0 := by
  intro i
  induction i with
  | zero =>
    intro hi g z1 z2 z3 z4
    rw [Nat.sub_zero]
    refine J.iload dX0_sitting_16 rfl ?_
    refine J.if_lt (tgt := 143) dX0_sitting_18 (by decide) (fun c18 => ?_) (fun c18 => absurd c18 (fun h => h (by decide)))
    refine J.aload dX0_sitting_143 rfl ?_
    refine J.aload_n dX0_sitting_145 rfl rfl ?_
    refine J.getfield dX0_sitting_146 jFX0_57 rfl rfl ?_
    refine J.laloadN dX0_sitting_149 rfl hq.2.2.2 ?_
    exact J.lret dX0_sitting_150 rfl (Nat.le_refl _) (Nat.le_refl _) ⟨rfl, g, _, rfl⟩
  | succ i ih =>
    intro hi g z1 z2 z3 z4
    rw [nI_pred]
    refine J.iload dX0_sitting_16 rfl ?_
    refine J.if_lt (tgt := 143) dX0_sitting_18 (by decide) (fun c18 => absurd c18 (fun h => absurd h (nI_pos (by omega)))) (fun c18 => ?_)
    refine J.iload_n dX0_sitting_21 rfl rfl ?_
    refine J.iconst (1) dX0_sitting_22 (by decide) ?_
    refine J.isub dX0_sitting_23 ?_
    refine J.iload dX0_sitting_24 rfl ?_
    refine J.isub dX0_sitting_26 ?_
    rw [show (1 : Int32) = nI 1 from rfl, pk_sub (by omega), pk_sub (by omega), show N - 1 - i = N - (i + 1) from by omega]
    refine J.cs (as := [.int _]) (is := []) okX6_thousands jcX0_91 (mX6_thousands (N - (i + 1)) (by omega)) dX0_sitting_27 rfl rfl rfl rfl rfl rfl (fun r9 B9 hq => ?_)
    obtain ⟨rfl, rfl⟩ := hq
    refine ⟨rfl, ?_⟩
    show J _ _ _ _ _ (.long _ :: _) (wO (rrow q 2 g) x n (urow u 0 (gg q (nI wo).toInt64 (-nI li).toInt64 sees (q 6 0) N (N - (i + 1))))) _ _
    refine J.lstore dX0_sitting_30 (by decide) rfl ?_
    try dsimp only [List.set, wO, wR]
    refine J.aload_n dX0_sitting_32 rfl rfl ?_
    refine J.getfield dX0_sitting_33 jFX0_57 rfl rfl ?_
    refine J.istore dX0_sitting_36 (by decide) rfl ?_
    try dsimp only [List.set, wO, wR]
    refine J.at (mX0_sitting_s q x n u wo li sees hd N hq hN (N - (i + 1)) i (by omega) (by omega) ?_ (q 6 0) (Nat.le_refl _) g _ _) rfl rfl ?_
    · intro g9 y1 y2 y3
      refine J.iinc (-1) dX0_sitting_137 (by decide) rfl (by decide) rfl ?_
      try dsimp only [List.set, wO, wR]
      refine J.goto (tgt := 16) dX0_sitting_140 (by decide) ?_
      exact J.at (ih (by omega) g9 _ _ _ _) (by rw [sub1]) rfl (by rw [show N - (i + 1) + 1 = N - i from by omega]; rfl)
    · have e9 : (fun j => if q 6 0 < j ∧ j ≤ q 6 0 then gg q (nI wo).toInt64 (-nI li).toInt64 sees (q 6 0) N (N - (i + 1) + 1) j else gg q (nI wo).toInt64 (-nI li).toInt64 sees (q 6 0) N (N - (i + 1)) j) = gg q (nI wo).toInt64 (-nI li).toInt64 sees (q 6 0) N (N - (i + 1)) := funext fun j => if_neg (by omega)
      rw [e9]
      rfl
set_option maxRecDepth 100000 in
set_option maxHeartbeats 4000000 in
theorem mX0_sitting (q : rT) (x : Nat → Nat) (n : Nat → Int64) (u : uT) (wo li : Nat) (sees : Prop) (hd : Decidable sees) (N : Nat) (hq : oOK q) (hN : N < 100) : J KX0_sitting 9 (fun o B => o = some (.long (gg q (nI wo).toInt64 (-nI li).toInt64 sees (q 6 0) N N (q 6 0))) ∧ ∃ g9 f9, B = wO (rrow q 2 g9) x n (urow u 0 f9)) 0 [some (.ref 0), some (.int (nI wo)), some (.int (nI li)), some (.int (nI N)), some (.int (jB sees)), none, none, none, none, none, none, none, none] [] (wO q x n u) 0 0 := by
  refine J.aload_n dX0_sitting_0 rfl rfl ?_
  refine J.getfield dX0_sitting_1 jFX0_28 rfl rfl ?_
  refine J.astore dX0_sitting_4 (by decide) rfl ?_
  try dsimp only [List.set, wO, wR]
  refine J.aload dX0_sitting_6 rfl ?_
  refine J.cs (as := [.ref 0]) (is := [6]) okX0_clearGains jcX0_95 (mX0_clearGains 8 (u 0) (by decide)) dX0_sitting_8 rfl rfl rfl rfl rfl rfl (fun r9 B9 hq => ?_)
  obtain ⟨rfl, rfl⟩ := hq
  refine ⟨rfl, ?_⟩
  show J _ _ _ _ _ [] (wO q x n (urow u 0 (fun _ => 0))) _ _
  refine J.iload_n dX0_sitting_11 rfl rfl ?_
  refine J.iconst (1) dX0_sitting_12 (by decide) ?_
  refine J.isub dX0_sitting_13 ?_
  refine J.istore dX0_sitting_14 (by decide) rfl ?_
  try dsimp only [List.set, wO, wR]
  exact J.at (mX0_sitting_t q x n u wo li sees hd N hq hN N (Nat.le_refl _) (q 2) none none none none) rfl rfl (by rw [Nat.sub_self]; rfl)
end
section
/-! a DUEL's HOUR, as the longs have it: what the sitting one has, what the other -/
def dv (T : Nat → Nat) (wo li : Int64) (g : Nat → Int64) (s : Nat) : Nat → Int64
  | 0 => 0
  | r + 1 => if r = 0 then -li * lN (wtn T s 0) else dv T wo li g s r + lN (wtn T s r) * (wo + g r)
def ev (T : Nat → Nat) (pr : Int64) (g : Nat → Int64) (s : Nat) : Nat → Int64
  | 0 => 0
  | r + 1 => if r = 0 then pr * lN (wtn T s 0) else ev T pr g s r + lN (wtn T s r) * g r
def hvv (T : Nat → Nat) (wo li : Int64) (g : Nat → Int64) (s : Nat) : Int64 := if dv T wo li g s (s + 1) < 0 then 0 else dv T wo li g s (s + 1)
def ovv (T : Nat → Nat) (wo li pr : Int64) (g f : Nat → Int64) (s : Nat) : Int64 := if 0 < dv T wo li g s (s + 1) then ev T pr f s (s + 1) else 1000 * pr
set_option maxRecDepth 100000 in
set_option maxHeartbeats 4000000 in
theorem mX0_duelHour0_l (q : rT) (x : Nat → Nat) (n : Nat → Int64) (u : uT) (wo li pr : Int64) (s : Nat) (hs : s < 8) (ht : ∀ i, q 2 i ≤ 10) : ∀ (k9 i : Nat), i + k9 = s + 1 → 1 ≤ i → ∀ (z : Option Value), J KX0_duelHour 9 (fun o B => o = none ∧ B = wO q x n (urow (urow u 0 (fun j => if j = s then hvv (q 2) wo li (u 0) s else u 0 j)) 1 (fun j => if j = s then ovv (q 2) wo li pr (u 0) (u 1) s else u 1 j))) 26 [some (.ref 0), some (.int (nI s)), some (.long wo), none, some (.long li), none, some (.long pr), none, some (.ref 6), some (.ref 7), some (.long (dv (q 2) wo li (u 0) s i)), none, some (.long (ev (q 2) pr (u 1) s i)), none, some (.int (nI i)), z, none] [] (wO q x n u) 0 0 := by
  intro k9
  induction k9 with
  | zero =>
    intro i hi
    obtain hiN : i = s + 1 := by omega
    intro hst
    intro z
    subst hiN
    refine J.iload dX0_duelHour_26 rfl ?_
    refine J.iload_n dX0_duelHour_28 rfl rfl ?_
    refine J.icmp_gt (tgt := 75) dX0_duelHour_29 (by decide) (fun c29 => ?_) (fun c29 => absurd c29 (fun h => h ((nI_lti (by omega) (by omega)).mpr (Nat.lt_succ_self s))))
    refine J.aload dX0_duelHour_75 rfl ?_
    refine J.iload_n dX0_duelHour_77 rfl rfl ?_
    refine J.lconst 0 dX0_duelHour_78 (by decide) ?_
    refine J.lload dX0_duelHour_79 rfl ?_
    refine J.mmaxL dX0_duelHour_81 (jt 652 rfl rfl) rfl ?_
    refine J.lastoreN dX0_duelHour_84 rfl hs ?_
    try dsimp only [List.set, wO, wR, wRb, List.cons_append, List.nil_append]
    refine J.aload dX0_duelHour_85 rfl ?_
    refine J.iload_n dX0_duelHour_87 rfl rfl ?_
    refine J.lload dX0_duelHour_88 rfl ?_
    refine J.lconst 0 dX0_duelHour_90 (by decide) ?_
    refine J.lcmp dX0_duelHour_91 ?_
    refine J.if_le (tgt := 100) dX0_duelHour_92 (by decide) (fun c92 => ?_) (fun c92 => ?_)
    · refine J.ldc2 (v := 1000) dX0_duelHour_100 (jt 655 rfl rfl) ?_
      refine J.lload dX0_duelHour_103 rfl ?_
      refine J.lmul dX0_duelHour_105 ?_
      refine J.lastoreN dX0_duelHour_106 rfl hs ?_
      try dsimp only [List.set, wO, wR, wRb, List.cons_append, List.nil_append]
      exact J.vret dX0_duelHour_107 rfl (Nat.le_refl _) (Nat.le_refl _) ⟨rfl, by rw [show (fun j => if j = s then ovv (q 2) wo li pr (u 0) (u 1) s else u 1 j) = vp_updL (u 1) s (1000 * pr) from by (unfold ovv; rw [if_neg (fun h => absurd ((lg_cmp_le _ _).mp c92) (Int64.not_le.mpr h))]; rfl)]; rfl⟩
    · refine J.lload dX0_duelHour_95 rfl ?_
      refine J.goto (tgt := 106) dX0_duelHour_97 (by decide) ?_
      refine J.lastoreN dX0_duelHour_106 rfl hs ?_
      try dsimp only [List.set, wO, wR, wRb, List.cons_append, List.nil_append]
      exact J.vret dX0_duelHour_107 rfl (Nat.le_refl _) (Nat.le_refl _) ⟨rfl, by rw [show (fun j => if j = s then ovv (q 2) wo li pr (u 0) (u 1) s else u 1 j) = vp_updL (u 1) s (ev (q 2) pr (u 1) s (s + 1)) from by (unfold ovv; rw [if_pos (Int64.not_le.mp (fun h => c92 ((lg_cmp_le _ _).mpr h)))]; rfl)]; rfl⟩
  | succ k9 ih =>
    intro i hi
    have hiN : i < s + 1 := by omega
    intro hst
    intro z
    refine J.iload dX0_duelHour_26 rfl ?_
    refine J.iload_n dX0_duelHour_28 rfl rfl ?_
    refine J.icmp_gt (tgt := 75) dX0_duelHour_29 (by decide) (fun c29 => absurd c29 (fun h => absurd ((nI_lti (by omega) (by omega)).mp h) (by omega))) (fun c29 => ?_)
    refine J.aload_n dX0_duelHour_32 rfl rfl ?_
    refine J.iload_n dX0_duelHour_33 rfl rfl ?_
    refine J.iload dX0_duelHour_34 rfl ?_
    refine J.cv (as := [.int _, .int _]) (is := [0, 1, 2, 3, 4, 5, 6, 7, 8]) (o := 0) okX0_weight jcX0_65 (mX0_weight q x n u s i hs (by omega) ht) dX0_duelHour_36 rfl rfl rfl rfl rfl rfl rfl (fun r9 B9 hq => ?_)
    obtain ⟨rfl, rfl⟩ := hq
    refine ⟨rfl, ?_⟩
    show J _ _ _ _ _ (.long _ :: _) (wO q x n u) _ _
    refine J.lstore dX0_duelHour_39 (by decide) rfl ?_
    try dsimp only [List.set, wO, wR, wRb, List.cons_append, List.nil_append]
    refine J.lload dX0_duelHour_41 rfl ?_
    refine J.lload dX0_duelHour_43 rfl ?_
    refine J.lload_n dX0_duelHour_45 rfl rfl ?_
    refine J.aload dX0_duelHour_46 rfl ?_
    refine J.iload dX0_duelHour_48 rfl ?_
    refine J.laloadN dX0_duelHour_50 rfl (show i < 8 by omega) ?_
    refine J.ladd dX0_duelHour_51 ?_
    refine J.lmul dX0_duelHour_52 ?_
    refine J.ladd dX0_duelHour_53 ?_
    refine J.lstore dX0_duelHour_54 (by decide) rfl ?_
    try dsimp only [List.set, wO, wR, wRb, List.cons_append, List.nil_append]
    refine J.lload dX0_duelHour_56 rfl ?_
    refine J.lload dX0_duelHour_58 rfl ?_
    refine J.aload dX0_duelHour_60 rfl ?_
    refine J.iload dX0_duelHour_62 rfl ?_
    refine J.laloadN dX0_duelHour_64 rfl (show i < 8 by omega) ?_
    refine J.lmul dX0_duelHour_65 ?_
    refine J.ladd dX0_duelHour_66 ?_
    refine J.lstore dX0_duelHour_67 (by decide) rfl ?_
    try dsimp only [List.set, wO, wR, wRb, List.cons_append, List.nil_append]
    refine J.iinc (1) dX0_duelHour_69 (by decide) rfl (by decide) rfl ?_
    try dsimp only [List.set, wO, wR, wRb, List.cons_append, List.nil_append]
    refine J.goto (tgt := 26) dX0_duelHour_72 (by decide) ?_
    refine J.at (ih (i + 1) (by omega) (by omega) (some (.long (lN (wtn (q 2) s i))))) ?_ rfl rfl
    rw [← nI_1, show dv (q 2) wo li (u 0) s (i + 1) = _ from if_neg (show ¬ i = 0 by omega), show ev (q 2) pr (u 1) s (i + 1) = _ from if_neg (show ¬ i = 0 by omega)]
set_option maxRecDepth 100000 in
set_option maxHeartbeats 4000000 in
theorem mX0_duelHour0 (q : rT) (x : Nat → Nat) (n : Nat → Int64) (u : uT) (wo li pr : Int64) (s : Nat) (hs : s < 8) (ht : ∀ i, q 2 i ≤ 10) : J KX0_duelHour 9 (fun o B => o = none ∧ B = wO q x n (urow (urow u 0 (fun j => if j = s then hvv (q 2) wo li (u 0) s else u 0 j)) 1 (fun j => if j = s then ovv (q 2) wo li pr (u 0) (u 1) s else u 1 j))) 0 [some (.ref 0), some (.int (nI s)), some (.long wo), none, some (.long li), none, some (.long pr), none, some (.ref 6), some (.ref 7), none, none, none, none, none, none, none] [] (wO q x n u) 0 0 := by
  refine J.lload dX0_duelHour_0 rfl ?_
  refine J.lneg dX0_duelHour_2 ?_
  refine J.aload_n dX0_duelHour_3 rfl rfl ?_
  refine J.iload_n dX0_duelHour_4 rfl rfl ?_
  refine J.iconst (0) dX0_duelHour_5 (by decide) ?_
  refine J.cv (as := [.int _, .int _]) (is := [0, 1, 2, 3, 4, 5, 6, 7, 8]) (o := 0) okX0_weight jcX0_65 (mX0_weight q x n u s 0 hs (by decide) ht) dX0_duelHour_6 rfl rfl rfl rfl rfl rfl rfl (fun r9 B9 hq => ?_)
  obtain ⟨rfl, rfl⟩ := hq
  refine ⟨rfl, ?_⟩
  show J _ _ _ _ _ (.long _ :: .long _ :: _) (wO q x n u) _ _
  refine J.lmul dX0_duelHour_9 ?_
  refine J.lstore dX0_duelHour_10 (by decide) rfl ?_
  try dsimp only [List.set, wO, wR, wRb, List.cons_append, List.nil_append]
  refine J.lload dX0_duelHour_12 rfl ?_
  refine J.aload_n dX0_duelHour_14 rfl rfl ?_
  refine J.iload_n dX0_duelHour_15 rfl rfl ?_
  refine J.iconst (0) dX0_duelHour_16 (by decide) ?_
  refine J.cv (as := [.int _, .int _]) (is := [0, 1, 2, 3, 4, 5, 6, 7, 8]) (o := 0) okX0_weight jcX0_65 (mX0_weight q x n u s 0 hs (by decide) ht) dX0_duelHour_17 rfl rfl rfl rfl rfl rfl rfl (fun r9 B9 hq => ?_)
  obtain ⟨rfl, rfl⟩ := hq
  refine ⟨rfl, ?_⟩
  show J _ _ _ _ _ (.long _ :: .long _ :: _) (wO q x n u) _ _
  refine J.lmul dX0_duelHour_20 ?_
  refine J.lstore dX0_duelHour_21 (by decide) rfl ?_
  try dsimp only [List.set, wO, wR, wRb, List.cons_append, List.nil_append]
  refine J.iconst (1) dX0_duelHour_23 (by decide) ?_
  refine J.istore dX0_duelHour_24 (by decide) rfl ?_
  try dsimp only [List.set, wO, wR, wRb, List.cons_append, List.nil_append]
  exact J.at (mX0_duelHour0_l q x n u wo li pr s hs ht s 1 (by omega) (by omega) none) rfl rfl rfl
set_option maxRecDepth 100000 in
set_option maxHeartbeats 4000000 in
theorem mX0_duelHour1_l (q : rT) (x : Nat → Nat) (n : Nat → Int64) (u : uT) (wo li pr : Int64) (s : Nat) (hs : s < 8) (ht : ∀ i, q 2 i ≤ 10) : ∀ (k9 i : Nat), i + k9 = s + 1 → 1 ≤ i → ∀ (z : Option Value), J KX0_duelHour 9 (fun o B => o = none ∧ B = wO q x n (urow (urow u 1 (fun j => if j = s then hvv (q 2) wo li (u 1) s else u 1 j)) 0 (fun j => if j = s then ovv (q 2) wo li pr (u 1) (u 0) s else u 0 j))) 26 [some (.ref 0), some (.int (nI s)), some (.long wo), none, some (.long li), none, some (.long pr), none, some (.ref 7), some (.ref 6), some (.long (dv (q 2) wo li (u 1) s i)), none, some (.long (ev (q 2) pr (u 0) s i)), none, some (.int (nI i)), z, none] [] (wO q x n u) 0 0 := by
  intro k9
  induction k9 with
  | zero =>
    intro i hi
    obtain hiN : i = s + 1 := by omega
    intro hst
    intro z
    subst hiN
    refine J.iload dX0_duelHour_26 rfl ?_
    refine J.iload_n dX0_duelHour_28 rfl rfl ?_
    refine J.icmp_gt (tgt := 75) dX0_duelHour_29 (by decide) (fun c29 => ?_) (fun c29 => absurd c29 (fun h => h ((nI_lti (by omega) (by omega)).mpr (Nat.lt_succ_self s))))
    refine J.aload dX0_duelHour_75 rfl ?_
    refine J.iload_n dX0_duelHour_77 rfl rfl ?_
    refine J.lconst 0 dX0_duelHour_78 (by decide) ?_
    refine J.lload dX0_duelHour_79 rfl ?_
    refine J.mmaxL dX0_duelHour_81 (jt 652 rfl rfl) rfl ?_
    refine J.lastoreN dX0_duelHour_84 rfl hs ?_
    try dsimp only [List.set, wO, wR, wRb, List.cons_append, List.nil_append]
    refine J.aload dX0_duelHour_85 rfl ?_
    refine J.iload_n dX0_duelHour_87 rfl rfl ?_
    refine J.lload dX0_duelHour_88 rfl ?_
    refine J.lconst 0 dX0_duelHour_90 (by decide) ?_
    refine J.lcmp dX0_duelHour_91 ?_
    refine J.if_le (tgt := 100) dX0_duelHour_92 (by decide) (fun c92 => ?_) (fun c92 => ?_)
    · refine J.ldc2 (v := 1000) dX0_duelHour_100 (jt 655 rfl rfl) ?_
      refine J.lload dX0_duelHour_103 rfl ?_
      refine J.lmul dX0_duelHour_105 ?_
      refine J.lastoreN dX0_duelHour_106 rfl hs ?_
      try dsimp only [List.set, wO, wR, wRb, List.cons_append, List.nil_append]
      exact J.vret dX0_duelHour_107 rfl (Nat.le_refl _) (Nat.le_refl _) ⟨rfl, by rw [show (fun j => if j = s then ovv (q 2) wo li pr (u 1) (u 0) s else u 0 j) = vp_updL (u 0) s (1000 * pr) from by (unfold ovv; rw [if_neg (fun h => absurd ((lg_cmp_le _ _).mp c92) (Int64.not_le.mpr h))]; rfl)]; rfl⟩
    · refine J.lload dX0_duelHour_95 rfl ?_
      refine J.goto (tgt := 106) dX0_duelHour_97 (by decide) ?_
      refine J.lastoreN dX0_duelHour_106 rfl hs ?_
      try dsimp only [List.set, wO, wR, wRb, List.cons_append, List.nil_append]
      exact J.vret dX0_duelHour_107 rfl (Nat.le_refl _) (Nat.le_refl _) ⟨rfl, by rw [show (fun j => if j = s then ovv (q 2) wo li pr (u 1) (u 0) s else u 0 j) = vp_updL (u 0) s (ev (q 2) pr (u 0) s (s + 1)) from by (unfold ovv; rw [if_pos (Int64.not_le.mp (fun h => c92 ((lg_cmp_le _ _).mpr h)))]; rfl)]; rfl⟩
  | succ k9 ih =>
    intro i hi
    have hiN : i < s + 1 := by omega
    intro hst
    intro z
    refine J.iload dX0_duelHour_26 rfl ?_
    refine J.iload_n dX0_duelHour_28 rfl rfl ?_
    refine J.icmp_gt (tgt := 75) dX0_duelHour_29 (by decide) (fun c29 => absurd c29 (fun h => absurd ((nI_lti (by omega) (by omega)).mp h) (by omega))) (fun c29 => ?_)
    refine J.aload_n dX0_duelHour_32 rfl rfl ?_
    refine J.iload_n dX0_duelHour_33 rfl rfl ?_
    refine J.iload dX0_duelHour_34 rfl ?_
    refine J.cv (as := [.int _, .int _]) (is := [0, 1, 2, 3, 4, 5, 6, 7, 8]) (o := 0) okX0_weight jcX0_65 (mX0_weight q x n u s i hs (by omega) ht) dX0_duelHour_36 rfl rfl rfl rfl rfl rfl rfl (fun r9 B9 hq => ?_)
    obtain ⟨rfl, rfl⟩ := hq
    refine ⟨rfl, ?_⟩
    show J _ _ _ _ _ (.long _ :: _) (wO q x n u) _ _
    refine J.lstore dX0_duelHour_39 (by decide) rfl ?_
    try dsimp only [List.set, wO, wR, wRb, List.cons_append, List.nil_append]
    refine J.lload dX0_duelHour_41 rfl ?_
    refine J.lload dX0_duelHour_43 rfl ?_
    refine J.lload_n dX0_duelHour_45 rfl rfl ?_
    refine J.aload dX0_duelHour_46 rfl ?_
    refine J.iload dX0_duelHour_48 rfl ?_
    refine J.laloadN dX0_duelHour_50 rfl (show i < 8 by omega) ?_
    refine J.ladd dX0_duelHour_51 ?_
    refine J.lmul dX0_duelHour_52 ?_
    refine J.ladd dX0_duelHour_53 ?_
    refine J.lstore dX0_duelHour_54 (by decide) rfl ?_
    try dsimp only [List.set, wO, wR, wRb, List.cons_append, List.nil_append]
    refine J.lload dX0_duelHour_56 rfl ?_
    refine J.lload dX0_duelHour_58 rfl ?_
    refine J.aload dX0_duelHour_60 rfl ?_
    refine J.iload dX0_duelHour_62 rfl ?_
    refine J.laloadN dX0_duelHour_64 rfl (show i < 8 by omega) ?_
    refine J.lmul dX0_duelHour_65 ?_
    refine J.ladd dX0_duelHour_66 ?_
    refine J.lstore dX0_duelHour_67 (by decide) rfl ?_
    try dsimp only [List.set, wO, wR, wRb, List.cons_append, List.nil_append]
    refine J.iinc (1) dX0_duelHour_69 (by decide) rfl (by decide) rfl ?_
    try dsimp only [List.set, wO, wR, wRb, List.cons_append, List.nil_append]
    refine J.goto (tgt := 26) dX0_duelHour_72 (by decide) ?_
    refine J.at (ih (i + 1) (by omega) (by omega) (some (.long (lN (wtn (q 2) s i))))) ?_ rfl rfl
    rw [← nI_1, show dv (q 2) wo li (u 1) s (i + 1) = _ from if_neg (show ¬ i = 0 by omega), show ev (q 2) pr (u 0) s (i + 1) = _ from if_neg (show ¬ i = 0 by omega)]
set_option maxRecDepth 100000 in
set_option maxHeartbeats 4000000 in
theorem mX0_duelHour1 (q : rT) (x : Nat → Nat) (n : Nat → Int64) (u : uT) (wo li pr : Int64) (s : Nat) (hs : s < 8) (ht : ∀ i, q 2 i ≤ 10) : J KX0_duelHour 9 (fun o B => o = none ∧ B = wO q x n (urow (urow u 1 (fun j => if j = s then hvv (q 2) wo li (u 1) s else u 1 j)) 0 (fun j => if j = s then ovv (q 2) wo li pr (u 1) (u 0) s else u 0 j))) 0 [some (.ref 0), some (.int (nI s)), some (.long wo), none, some (.long li), none, some (.long pr), none, some (.ref 7), some (.ref 6), none, none, none, none, none, none, none] [] (wO q x n u) 0 0 := by
  refine J.lload dX0_duelHour_0 rfl ?_
  refine J.lneg dX0_duelHour_2 ?_
  refine J.aload_n dX0_duelHour_3 rfl rfl ?_
  refine J.iload_n dX0_duelHour_4 rfl rfl ?_
  refine J.iconst (0) dX0_duelHour_5 (by decide) ?_
  refine J.cv (as := [.int _, .int _]) (is := [0, 1, 2, 3, 4, 5, 6, 7, 8]) (o := 0) okX0_weight jcX0_65 (mX0_weight q x n u s 0 hs (by decide) ht) dX0_duelHour_6 rfl rfl rfl rfl rfl rfl rfl (fun r9 B9 hq => ?_)
  obtain ⟨rfl, rfl⟩ := hq
  refine ⟨rfl, ?_⟩
  show J _ _ _ _ _ (.long _ :: .long _ :: _) (wO q x n u) _ _
  refine J.lmul dX0_duelHour_9 ?_
  refine J.lstore dX0_duelHour_10 (by decide) rfl ?_
  try dsimp only [List.set, wO, wR, wRb, List.cons_append, List.nil_append]
  refine J.lload dX0_duelHour_12 rfl ?_
  refine J.aload_n dX0_duelHour_14 rfl rfl ?_
  refine J.iload_n dX0_duelHour_15 rfl rfl ?_
  refine J.iconst (0) dX0_duelHour_16 (by decide) ?_
  refine J.cv (as := [.int _, .int _]) (is := [0, 1, 2, 3, 4, 5, 6, 7, 8]) (o := 0) okX0_weight jcX0_65 (mX0_weight q x n u s 0 hs (by decide) ht) dX0_duelHour_17 rfl rfl rfl rfl rfl rfl rfl (fun r9 B9 hq => ?_)
  obtain ⟨rfl, rfl⟩ := hq
  refine ⟨rfl, ?_⟩
  show J _ _ _ _ _ (.long _ :: .long _ :: _) (wO q x n u) _ _
  refine J.lmul dX0_duelHour_20 ?_
  refine J.lstore dX0_duelHour_21 (by decide) rfl ?_
  try dsimp only [List.set, wO, wR, wRb, List.cons_append, List.nil_append]
  refine J.iconst (1) dX0_duelHour_23 (by decide) ?_
  refine J.istore dX0_duelHour_24 (by decide) rfl ?_
  try dsimp only [List.set, wO, wR, wRb, List.cons_append, List.nil_append]
  exact J.at (mX0_duelHour1_l q x n u wo li pr s hs ht s 1 (by omega) (by omega) none) rfl rfl rfl
/-- the one who sits in the HOUR behind t is the first one where t is even -/
def dg (q r : rT) (a b N : Nat) : Nat → Nat → Nat → Int64
  | 0, _, _ => 0
  | k + 1, c, s => if 1 ≤ s ∧ s ≤ q 6 0 then
      (if c = (N - 1 - k) % 2 then hvv (ten q s (N - 1 - k)) ((nI (r 2 (if (N - 1 - k) % 2 = 0 then a else b))).toInt64 * lN (1000 ^ k)) ((nI (r 3 (if (N - 1 - k) % 2 = 0 then a else b))).toInt64 * lN (1000 ^ k)) (dg q r a b N k ((N - 1 - k) % 2)) s
       else ovv (ten q s (N - 1 - k)) ((nI (r 2 (if (N - 1 - k) % 2 = 0 then a else b))).toInt64 * lN (1000 ^ k)) ((nI (r 3 (if (N - 1 - k) % 2 = 0 then a else b))).toInt64 * lN (1000 ^ k)) ((nI (r 6 5)).toInt64 * lN (1000 ^ k)) (dg q r a b N k ((N - 1 - k) % 2)) (dg q r a b N k (1 - (N - 1 - k) % 2)) s)
      else dg q r a b N k c s
theorem and1_eval : ∀ t, t < 100 → nI t &&& 1 = nI (t % 2) := by decide +kernel
theorem dn_z (q r : rT) (a b N k c : Nat) : (fun j => if 0 < j ∧ j ≤ q 6 0 then dg q r a b N (k + 1) c j else dg q r a b N k c j) = dg q r a b N (k + 1) c := by
  funext j
  by_cases h : 0 < j ∧ j ≤ q 6 0
  · rw [if_pos h]
  · rw [if_neg h]
    show _ = (if 1 ≤ j ∧ j ≤ q 6 0 then _ else _)
    rw [if_neg (fun h9 => h ⟨by omega, h9.2⟩)]
theorem dv_loc (T : Nat → Nat) (wo li : Int64) (g f : Nat → Int64) (s : Nat) (h : ∀ j, j ≤ s → g j = f j) : dv T wo li g s (s + 1) = dv T wo li f s (s + 1) := by
  have key : ∀ r, r ≤ s + 1 → dv T wo li g s r = dv T wo li f s r := by
    intro r
    induction r with
    | zero => intro _; rfl
    | succ r ih =>
      intro hr
      simp only [dv]
      rw [ih (by omega), h r (by omega)]
  exact key _ (Nat.le_refl _)
theorem ev_loc (T : Nat → Nat) (pr : Int64) (g f : Nat → Int64) (s : Nat) (h : ∀ j, j ≤ s → g j = f j) : ev T pr g s (s + 1) = ev T pr f s (s + 1) := by
  have key : ∀ r, r ≤ s + 1 → ev T pr g s r = ev T pr f s r := by
    intro r
    induction r with
    | zero => intro _; rfl
    | succ r ih =>
      intro hr
      simp only [ev]
      rw [ih (by omega), h r (by omega)]
  exact key _ (Nat.le_refl _)
set_option maxRecDepth 100000 in
set_option maxHeartbeats 4000000 in
theorem mX0_contest_s0 (q : rT) (x : Nat → Nat) (n : Nat → Int64) (u : uT) (r : rT) (a b N : Nat) (hq : oOK q) (ha : a < 4) (hb : b < 4) (hN : N < 100) (k t : Nat) (ht : t < 100) (ht2 : t = N - 1 - k) (hpar : t % 2 = 0) (hk : ∀ (g : Nat → Nat) (z : Option Value), J KX0_contest 16 (fun o B => o = none ∧ ∃ g9 f1 f2, B = wO (rrow q 2 g9) x n (urow (urow (urow u 0 f1) 1 f2) 3 (fun j => if j = 0 then dg q r a b N N 0 (q 6 0) else (if q 6 0 = 0 ∧ 0 < N then (nI (r 6 5)).toInt64 * lN (1000 ^ N) else dg q r a b N N 1 (q 6 0)))) ++ wRb 9 r) 164 [some (.ref 0), some (.ref 9), some (.int (nI a)), some (.int (nI b)), some (.int (nI N)), some (.int (nI t)), some (.int 1), some (.int (nI a)), some (.ref 6), some (.ref 7), some (.long (lN (1000 ^ k))), none, z] [] (wO (rrow q 2 g) x n (urow (urow u 0 (dg q r a b N (k + 1) 0)) 1 (dg q r a b N (k + 1) 1)) ++ wRb 9 r) 0 0) : ∀ (i : Nat), i ≤ q 6 0 → ∀ (g : Nat → Nat), J KX0_contest 16 (fun o B => o = none ∧ ∃ g9 f1 f2, B = wO (rrow q 2 g9) x n (urow (urow (urow u 0 f1) 1 f2) 3 (fun j => if j = 0 then dg q r a b N N 0 (q 6 0) else (if q 6 0 = 0 ∧ 0 < N then (nI (r 6 5)).toInt64 * lN (1000 ^ N) else dg q r a b N N 1 (q 6 0)))) ++ wRb 9 r) 105 [some (.ref 0), some (.ref 9), some (.int (nI a)), some (.int (nI b)), some (.int (nI N)), some (.int (nI t)), some (.int 1), some (.int (nI a)), some (.ref 6), some (.ref 7), some (.long (lN (1000 ^ k))), none, some (.int (nI i))] [] (wO (rrow q 2 g) x n (urow (urow u 0 (fun j => if i < j ∧ j ≤ q 6 0 then dg q r a b N (k + 1) 0 j else dg q r a b N k 0 j)) 1 (fun j => if i < j ∧ j ≤ q 6 0 then dg q r a b N (k + 1) 1 j else dg q r a b N k 1 j)) ++ wRb 9 r) 0 0 := by
  intro i
  induction i with
  | zero =>
    intro hi g
    refine J.iload dX0_contest_105 rfl ?_
    refine J.if_le (tgt := 164) dX0_contest_107 (by decide) (fun c107 => ?_) (fun c107 => absurd c107 (fun h => h (by decide)))
    have e0 : (fun j => if 0 < j ∧ j ≤ q 6 0 then dg q r a b N (k + 1) 0 j else dg q r a b N k 0 j) = dg q r a b N (k + 1) 0 := dn_z q r a b N k 0
    have e1 : (fun j => if 0 < j ∧ j ≤ q 6 0 then dg q r a b N (k + 1) 1 j else dg q r a b N k 1 j) = dg q r a b N (k + 1) 1 := dn_z q r a b N k 1
    rw [e0, e1]
    exact hk g _
  | succ i ih =>
    intro hi g
    refine J.iload dX0_contest_105 rfl ?_
    refine J.if_le (tgt := 164) dX0_contest_107 (by decide) (fun c107 => absurd c107 (fun h => absurd ((nI_lei (b := 0) (by have := hq.2.2.2; omega) (by decide)).mp h) (by omega))) (fun c107 => ?_)
    refine J.aload_n dX0_contest_110 rfl rfl ?_
    refine J.iload dX0_contest_111 rfl ?_
    refine J.iload dX0_contest_113 rfl ?_
    refine J.cv (as := [.int _, .int _]) (is := [0, 1, 2, 3, 4, 5, 6, 7, 8]) (o := 0) okX0_weigh jcX0_61 (mX0_weigh (rrow q 2 g) x n (urow (urow u 0 (fun j => if i + 1 < j ∧ j ≤ q 6 0 then dg q r a b N (k + 1) 0 j else dg q r a b N k 0 j)) 1 (fun j => if i + 1 < j ∧ j ≤ q 6 0 then dg q r a b N (k + 1) 1 j else dg q r a b N k 1 j)) (i + 1) t hq (by have := hq.2.2.2; omega) ht) dX0_contest_115 rfl rfl rfl rfl rfl rfl rfl (fun r9 B9 hq => ?_)
    obtain ⟨rfl, rfl⟩ := hq
    refine ⟨rfl, ?_⟩
    show J _ _ _ _ _ [] (wO (rrow q 2 (ten q (i + 1) t)) x n (urow (urow u 0 (fun j => if i + 1 < j ∧ j ≤ q 6 0 then dg q r a b N (k + 1) 0 j else dg q r a b N k 0 j)) 1 (fun j => if i + 1 < j ∧ j ≤ q 6 0 then dg q r a b N (k + 1) 1 j else dg q r a b N k 1 j)) ++ wRb 9 r) _ _
    refine J.aload_n dX0_contest_118 rfl rfl ?_
    refine J.iload dX0_contest_119 rfl ?_
    refine J.aload_n dX0_contest_121 rfl rfl ?_
    refine J.getfield dX0_contest_122 jFX0_99 rfl rfl ?_
    refine J.iload dX0_contest_125 rfl ?_
    refine J.ialoadN dX0_contest_127 rfl ha ?_
    refine J.i2l dX0_contest_128 ?_
    refine J.lload dX0_contest_129 rfl ?_
    refine J.lmul dX0_contest_131 ?_
    refine J.aload_n dX0_contest_132 rfl rfl ?_
    refine J.getfield dX0_contest_133 jFX0_102 rfl rfl ?_
    refine J.iload dX0_contest_136 rfl ?_
    refine J.ialoadN dX0_contest_138 rfl ha ?_
    refine J.i2l dX0_contest_139 ?_
    refine J.lload dX0_contest_140 rfl ?_
    refine J.lmul dX0_contest_142 ?_
    refine J.aload_n dX0_contest_143 rfl rfl ?_
    refine J.getfield dX0_contest_144 jFX0_105 rfl rfl ?_
    refine J.i2l dX0_contest_147 ?_
    refine J.lload dX0_contest_148 rfl ?_
    refine J.lmul dX0_contest_150 ?_
    refine J.aload dX0_contest_151 rfl ?_
    refine J.aload dX0_contest_153 rfl ?_
    refine J.cv (as := [.int _, .long _, .long _, .long _, .ref 6, .ref 7]) (is := [0, 1, 2, 3, 4, 5, 6, 7, 8]) (o := 0) okX0_duelHour jcX0_108 (mX0_duelHour0 (rrow q 2 (ten q (i + 1) t)) x n (urow (urow u 0 (fun j => if i + 1 < j ∧ j ≤ q 6 0 then dg q r a b N (k + 1) 0 j else dg q r a b N k 0 j)) 1 (fun j => if i + 1 < j ∧ j ≤ q 6 0 then dg q r a b N (k + 1) 1 j else dg q r a b N k 1 j)) ((nI (r 2 a)).toInt64 * lN (1000 ^ k)) ((nI (r 3 a)).toInt64 * lN (1000 ^ k)) ((nI (r 6 5)).toInt64 * lN (1000 ^ k)) (i + 1) (by have := hq.2.2.2; omega) (fun i9 => ten_le q (i + 1) t i9)) dX0_contest_155 rfl rfl rfl rfl rfl rfl rfl (fun r9 B9 hq => ?_)
    obtain ⟨rfl, rfl⟩ := hq
    refine ⟨rfl, ?_⟩
    show J _ _ _ _ _ [] (wO (rrow q 2 (ten q (i + 1) t)) x n (urow (urow u 0 (fun j => if j = i + 1 then hvv (ten q (i + 1) t) ((nI (r 2 a)).toInt64 * lN (1000 ^ k)) ((nI (r 3 a)).toInt64 * lN (1000 ^ k)) (fun j => if i + 1 < j ∧ j ≤ q 6 0 then dg q r a b N (k + 1) 0 j else dg q r a b N k 0 j) (i + 1) else (fun j => if i + 1 < j ∧ j ≤ q 6 0 then dg q r a b N (k + 1) 0 j else dg q r a b N k 0 j) j)) 1 (fun j => if j = i + 1 then ovv (ten q (i + 1) t) ((nI (r 2 a)).toInt64 * lN (1000 ^ k)) ((nI (r 3 a)).toInt64 * lN (1000 ^ k)) ((nI (r 6 5)).toInt64 * lN (1000 ^ k)) (fun j => if i + 1 < j ∧ j ≤ q 6 0 then dg q r a b N (k + 1) 0 j else dg q r a b N k 0 j) (fun j => if i + 1 < j ∧ j ≤ q 6 0 then dg q r a b N (k + 1) 1 j else dg q r a b N k 1 j) (i + 1) else (fun j => if i + 1 < j ∧ j ≤ q 6 0 then dg q r a b N (k + 1) 1 j else dg q r a b N k 1 j) j)) ++ wRb 9 r) _ _
    refine J.iinc (-1) dX0_contest_158 (by decide) rfl (by decide) rfl ?_
    try dsimp only [List.set, wO, wR, wRb, List.cons_append, List.nil_append]
    refine J.goto (tgt := 105) dX0_contest_161 (by decide) ?_
    have h0 := dv_loc (ten q (i + 1) t) ((nI (r 2 a)).toInt64 * lN (1000 ^ k)) ((nI (r 3 a)).toInt64 * lN (1000 ^ k)) (fun j => if i + 1 < j ∧ j ≤ q 6 0 then dg q r a b N (k + 1) 0 j else dg q r a b N k 0 j) (dg q r a b N k 0) (i + 1) (fun j hj => if_neg (by omega))
    have h1 := ev_loc (ten q (i + 1) t) ((nI (r 6 5)).toInt64 * lN (1000 ^ k)) (fun j => if i + 1 < j ∧ j ≤ q 6 0 then dg q r a b N (k + 1) 1 j else dg q r a b N k 1 j) (dg q r a b N k 1) (i + 1) (fun j hj => if_neg (by omega))
    have g1 : dg q r a b N (k + 1) 0 (i + 1) = hvv (ten q (i + 1) t) ((nI (r 2 a)).toInt64 * lN (1000 ^ k)) ((nI (r 3 a)).toInt64 * lN (1000 ^ k)) (fun j => if i + 1 < j ∧ j ≤ q 6 0 then dg q r a b N (k + 1) 0 j else dg q r a b N k 0 j) (i + 1) := by (unfold hvv; rw [h0]; show (if 1 ≤ i + 1 ∧ i + 1 ≤ q 6 0 then _ else _) = _; rw [if_pos ⟨by omega, hi⟩, ← ht2, hpar, if_pos rfl]; simp only [hvv, if_true])
    have g2 : dg q r a b N (k + 1) 1 (i + 1) = ovv (ten q (i + 1) t) ((nI (r 2 a)).toInt64 * lN (1000 ^ k)) ((nI (r 3 a)).toInt64 * lN (1000 ^ k)) ((nI (r 6 5)).toInt64 * lN (1000 ^ k)) (fun j => if i + 1 < j ∧ j ≤ q 6 0 then dg q r a b N (k + 1) 0 j else dg q r a b N k 0 j) (fun j => if i + 1 < j ∧ j ≤ q 6 0 then dg q r a b N (k + 1) 1 j else dg q r a b N k 1 j) (i + 1) := by (unfold ovv; rw [h0, h1]; show (if 1 ≤ i + 1 ∧ i + 1 ≤ q 6 0 then _ else _) = _; rw [if_pos ⟨by omega, hi⟩, ← ht2, hpar, if_neg (by decide)]; simp only [ovv, if_true, Nat.sub_zero])
    have e0 : (fun j => if j = i + 1 then hvv (ten q (i + 1) t) ((nI (r 2 a)).toInt64 * lN (1000 ^ k)) ((nI (r 3 a)).toInt64 * lN (1000 ^ k)) (fun j => if i + 1 < j ∧ j ≤ q 6 0 then dg q r a b N (k + 1) 0 j else dg q r a b N k 0 j) (i + 1) else (fun j => if i + 1 < j ∧ j ≤ q 6 0 then dg q r a b N (k + 1) 0 j else dg q r a b N k 0 j) j) = (fun j => if i < j ∧ j ≤ q 6 0 then dg q r a b N (k + 1) 0 j else dg q r a b N k 0 j) := by (rw [← g1]; exact dn_s (dg q r a b N (k + 1) 0) (dg q r a b N k 0) (q 6 0) i hi)
    have e1 : (fun j => if j = i + 1 then ovv (ten q (i + 1) t) ((nI (r 2 a)).toInt64 * lN (1000 ^ k)) ((nI (r 3 a)).toInt64 * lN (1000 ^ k)) ((nI (r 6 5)).toInt64 * lN (1000 ^ k)) (fun j => if i + 1 < j ∧ j ≤ q 6 0 then dg q r a b N (k + 1) 0 j else dg q r a b N k 0 j) (fun j => if i + 1 < j ∧ j ≤ q 6 0 then dg q r a b N (k + 1) 1 j else dg q r a b N k 1 j) (i + 1) else (fun j => if i + 1 < j ∧ j ≤ q 6 0 then dg q r a b N (k + 1) 1 j else dg q r a b N k 1 j) j) = (fun j => if i < j ∧ j ≤ q 6 0 then dg q r a b N (k + 1) 1 j else dg q r a b N k 1 j) := by (rw [← g2]; exact dn_s (dg q r a b N (k + 1) 1) (dg q r a b N k 1) (q 6 0) i hi)
    refine J.at (ih (by omega) (ten q (i + 1) t)) (by rw [nI_m1]) rfl ?_
    rw [← e0, ← e1]
    rfl
set_option maxRecDepth 100000 in
set_option maxHeartbeats 4000000 in
theorem mX0_contest_s1 (q : rT) (x : Nat → Nat) (n : Nat → Int64) (u : uT) (r : rT) (a b N : Nat) (hq : oOK q) (ha : a < 4) (hb : b < 4) (hN : N < 100) (k t : Nat) (ht : t < 100) (ht2 : t = N - 1 - k) (hpar : t % 2 = 1) (hk : ∀ (g : Nat → Nat) (z : Option Value), J KX0_contest 16 (fun o B => o = none ∧ ∃ g9 f1 f2, B = wO (rrow q 2 g9) x n (urow (urow (urow u 0 f1) 1 f2) 3 (fun j => if j = 0 then dg q r a b N N 0 (q 6 0) else (if q 6 0 = 0 ∧ 0 < N then (nI (r 6 5)).toInt64 * lN (1000 ^ N) else dg q r a b N N 1 (q 6 0)))) ++ wRb 9 r) 164 [some (.ref 0), some (.ref 9), some (.int (nI a)), some (.int (nI b)), some (.int (nI N)), some (.int (nI t)), some (.int 0), some (.int (nI b)), some (.ref 7), some (.ref 6), some (.long (lN (1000 ^ k))), none, z] [] (wO (rrow q 2 g) x n (urow (urow u 0 (dg q r a b N (k + 1) 0)) 1 (dg q r a b N (k + 1) 1)) ++ wRb 9 r) 0 0) : ∀ (i : Nat), i ≤ q 6 0 → ∀ (g : Nat → Nat), J KX0_contest 16 (fun o B => o = none ∧ ∃ g9 f1 f2, B = wO (rrow q 2 g9) x n (urow (urow (urow u 0 f1) 1 f2) 3 (fun j => if j = 0 then dg q r a b N N 0 (q 6 0) else (if q 6 0 = 0 ∧ 0 < N then (nI (r 6 5)).toInt64 * lN (1000 ^ N) else dg q r a b N N 1 (q 6 0)))) ++ wRb 9 r) 105 [some (.ref 0), some (.ref 9), some (.int (nI a)), some (.int (nI b)), some (.int (nI N)), some (.int (nI t)), some (.int 0), some (.int (nI b)), some (.ref 7), some (.ref 6), some (.long (lN (1000 ^ k))), none, some (.int (nI i))] [] (wO (rrow q 2 g) x n (urow (urow u 0 (fun j => if i < j ∧ j ≤ q 6 0 then dg q r a b N (k + 1) 0 j else dg q r a b N k 0 j)) 1 (fun j => if i < j ∧ j ≤ q 6 0 then dg q r a b N (k + 1) 1 j else dg q r a b N k 1 j)) ++ wRb 9 r) 0 0 := by
  intro i
  induction i with
  | zero =>
    intro hi g
    refine J.iload dX0_contest_105 rfl ?_
    refine J.if_le (tgt := 164) dX0_contest_107 (by decide) (fun c107 => ?_) (fun c107 => absurd c107 (fun h => h (by decide)))
    have e0 : (fun j => if 0 < j ∧ j ≤ q 6 0 then dg q r a b N (k + 1) 0 j else dg q r a b N k 0 j) = dg q r a b N (k + 1) 0 := dn_z q r a b N k 0
    have e1 : (fun j => if 0 < j ∧ j ≤ q 6 0 then dg q r a b N (k + 1) 1 j else dg q r a b N k 1 j) = dg q r a b N (k + 1) 1 := dn_z q r a b N k 1
    rw [e0, e1]
    exact hk g _
  | succ i ih =>
    intro hi g
    refine J.iload dX0_contest_105 rfl ?_
    refine J.if_le (tgt := 164) dX0_contest_107 (by decide) (fun c107 => absurd c107 (fun h => absurd ((nI_lei (b := 0) (by have := hq.2.2.2; omega) (by decide)).mp h) (by omega))) (fun c107 => ?_)
    refine J.aload_n dX0_contest_110 rfl rfl ?_
    refine J.iload dX0_contest_111 rfl ?_
    refine J.iload dX0_contest_113 rfl ?_
    refine J.cv (as := [.int _, .int _]) (is := [0, 1, 2, 3, 4, 5, 6, 7, 8]) (o := 0) okX0_weigh jcX0_61 (mX0_weigh (rrow q 2 g) x n (urow (urow u 0 (fun j => if i + 1 < j ∧ j ≤ q 6 0 then dg q r a b N (k + 1) 0 j else dg q r a b N k 0 j)) 1 (fun j => if i + 1 < j ∧ j ≤ q 6 0 then dg q r a b N (k + 1) 1 j else dg q r a b N k 1 j)) (i + 1) t hq (by have := hq.2.2.2; omega) ht) dX0_contest_115 rfl rfl rfl rfl rfl rfl rfl (fun r9 B9 hq => ?_)
    obtain ⟨rfl, rfl⟩ := hq
    refine ⟨rfl, ?_⟩
    show J _ _ _ _ _ [] (wO (rrow q 2 (ten q (i + 1) t)) x n (urow (urow u 0 (fun j => if i + 1 < j ∧ j ≤ q 6 0 then dg q r a b N (k + 1) 0 j else dg q r a b N k 0 j)) 1 (fun j => if i + 1 < j ∧ j ≤ q 6 0 then dg q r a b N (k + 1) 1 j else dg q r a b N k 1 j)) ++ wRb 9 r) _ _
    refine J.aload_n dX0_contest_118 rfl rfl ?_
    refine J.iload dX0_contest_119 rfl ?_
    refine J.aload_n dX0_contest_121 rfl rfl ?_
    refine J.getfield dX0_contest_122 jFX0_99 rfl rfl ?_
    refine J.iload dX0_contest_125 rfl ?_
    refine J.ialoadN dX0_contest_127 rfl hb ?_
    refine J.i2l dX0_contest_128 ?_
    refine J.lload dX0_contest_129 rfl ?_
    refine J.lmul dX0_contest_131 ?_
    refine J.aload_n dX0_contest_132 rfl rfl ?_
    refine J.getfield dX0_contest_133 jFX0_102 rfl rfl ?_
    refine J.iload dX0_contest_136 rfl ?_
    refine J.ialoadN dX0_contest_138 rfl hb ?_
    refine J.i2l dX0_contest_139 ?_
    refine J.lload dX0_contest_140 rfl ?_
    refine J.lmul dX0_contest_142 ?_
    refine J.aload_n dX0_contest_143 rfl rfl ?_
    refine J.getfield dX0_contest_144 jFX0_105 rfl rfl ?_
    refine J.i2l dX0_contest_147 ?_
    refine J.lload dX0_contest_148 rfl ?_
    refine J.lmul dX0_contest_150 ?_
    refine J.aload dX0_contest_151 rfl ?_
    refine J.aload dX0_contest_153 rfl ?_
    refine J.cv (as := [.int _, .long _, .long _, .long _, .ref 7, .ref 6]) (is := [0, 1, 2, 3, 4, 5, 6, 7, 8]) (o := 0) okX0_duelHour jcX0_108 (mX0_duelHour1 (rrow q 2 (ten q (i + 1) t)) x n (urow (urow u 0 (fun j => if i + 1 < j ∧ j ≤ q 6 0 then dg q r a b N (k + 1) 0 j else dg q r a b N k 0 j)) 1 (fun j => if i + 1 < j ∧ j ≤ q 6 0 then dg q r a b N (k + 1) 1 j else dg q r a b N k 1 j)) ((nI (r 2 b)).toInt64 * lN (1000 ^ k)) ((nI (r 3 b)).toInt64 * lN (1000 ^ k)) ((nI (r 6 5)).toInt64 * lN (1000 ^ k)) (i + 1) (by have := hq.2.2.2; omega) (fun i9 => ten_le q (i + 1) t i9)) dX0_contest_155 rfl rfl rfl rfl rfl rfl rfl (fun r9 B9 hq => ?_)
    obtain ⟨rfl, rfl⟩ := hq
    refine ⟨rfl, ?_⟩
    show J _ _ _ _ _ [] (wO (rrow q 2 (ten q (i + 1) t)) x n (urow (urow u 0 (fun j => if j = i + 1 then ovv (ten q (i + 1) t) ((nI (r 2 b)).toInt64 * lN (1000 ^ k)) ((nI (r 3 b)).toInt64 * lN (1000 ^ k)) ((nI (r 6 5)).toInt64 * lN (1000 ^ k)) (fun j => if i + 1 < j ∧ j ≤ q 6 0 then dg q r a b N (k + 1) 1 j else dg q r a b N k 1 j) (fun j => if i + 1 < j ∧ j ≤ q 6 0 then dg q r a b N (k + 1) 0 j else dg q r a b N k 0 j) (i + 1) else (fun j => if i + 1 < j ∧ j ≤ q 6 0 then dg q r a b N (k + 1) 0 j else dg q r a b N k 0 j) j)) 1 (fun j => if j = i + 1 then hvv (ten q (i + 1) t) ((nI (r 2 b)).toInt64 * lN (1000 ^ k)) ((nI (r 3 b)).toInt64 * lN (1000 ^ k)) (fun j => if i + 1 < j ∧ j ≤ q 6 0 then dg q r a b N (k + 1) 1 j else dg q r a b N k 1 j) (i + 1) else (fun j => if i + 1 < j ∧ j ≤ q 6 0 then dg q r a b N (k + 1) 1 j else dg q r a b N k 1 j) j)) ++ wRb 9 r) _ _
    refine J.iinc (-1) dX0_contest_158 (by decide) rfl (by decide) rfl ?_
    try dsimp only [List.set, wO, wR, wRb, List.cons_append, List.nil_append]
    refine J.goto (tgt := 105) dX0_contest_161 (by decide) ?_
    have h0 := dv_loc (ten q (i + 1) t) ((nI (r 2 b)).toInt64 * lN (1000 ^ k)) ((nI (r 3 b)).toInt64 * lN (1000 ^ k)) (fun j => if i + 1 < j ∧ j ≤ q 6 0 then dg q r a b N (k + 1) 1 j else dg q r a b N k 1 j) (dg q r a b N k 1) (i + 1) (fun j hj => if_neg (by omega))
    have h1 := ev_loc (ten q (i + 1) t) ((nI (r 6 5)).toInt64 * lN (1000 ^ k)) (fun j => if i + 1 < j ∧ j ≤ q 6 0 then dg q r a b N (k + 1) 0 j else dg q r a b N k 0 j) (dg q r a b N k 0) (i + 1) (fun j hj => if_neg (by omega))
    have g1 : dg q r a b N (k + 1) 1 (i + 1) = hvv (ten q (i + 1) t) ((nI (r 2 b)).toInt64 * lN (1000 ^ k)) ((nI (r 3 b)).toInt64 * lN (1000 ^ k)) (fun j => if i + 1 < j ∧ j ≤ q 6 0 then dg q r a b N (k + 1) 1 j else dg q r a b N k 1 j) (i + 1) := by (unfold hvv; rw [h0]; show (if 1 ≤ i + 1 ∧ i + 1 ≤ q 6 0 then _ else _) = _; rw [if_pos ⟨by omega, hi⟩, ← ht2, hpar, if_pos rfl]; simp only [hvv, show ((1 : Nat) = 0) = False from by simp, if_false])
    have g2 : dg q r a b N (k + 1) 0 (i + 1) = ovv (ten q (i + 1) t) ((nI (r 2 b)).toInt64 * lN (1000 ^ k)) ((nI (r 3 b)).toInt64 * lN (1000 ^ k)) ((nI (r 6 5)).toInt64 * lN (1000 ^ k)) (fun j => if i + 1 < j ∧ j ≤ q 6 0 then dg q r a b N (k + 1) 1 j else dg q r a b N k 1 j) (fun j => if i + 1 < j ∧ j ≤ q 6 0 then dg q r a b N (k + 1) 0 j else dg q r a b N k 0 j) (i + 1) := by (unfold ovv; rw [h0, h1]; show (if 1 ≤ i + 1 ∧ i + 1 ≤ q 6 0 then _ else _) = _; rw [if_pos ⟨by omega, hi⟩, ← ht2, hpar, if_neg (by decide)]; simp only [ovv, show ((1 : Nat) = 0) = False from by simp, if_false, Nat.sub_self])
    have e0 : (fun j => if j = i + 1 then ovv (ten q (i + 1) t) ((nI (r 2 b)).toInt64 * lN (1000 ^ k)) ((nI (r 3 b)).toInt64 * lN (1000 ^ k)) ((nI (r 6 5)).toInt64 * lN (1000 ^ k)) (fun j => if i + 1 < j ∧ j ≤ q 6 0 then dg q r a b N (k + 1) 1 j else dg q r a b N k 1 j) (fun j => if i + 1 < j ∧ j ≤ q 6 0 then dg q r a b N (k + 1) 0 j else dg q r a b N k 0 j) (i + 1) else (fun j => if i + 1 < j ∧ j ≤ q 6 0 then dg q r a b N (k + 1) 0 j else dg q r a b N k 0 j) j) = (fun j => if i < j ∧ j ≤ q 6 0 then dg q r a b N (k + 1) 0 j else dg q r a b N k 0 j) := by (rw [← g2]; exact dn_s (dg q r a b N (k + 1) 0) (dg q r a b N k 0) (q 6 0) i hi)
    have e1 : (fun j => if j = i + 1 then hvv (ten q (i + 1) t) ((nI (r 2 b)).toInt64 * lN (1000 ^ k)) ((nI (r 3 b)).toInt64 * lN (1000 ^ k)) (fun j => if i + 1 < j ∧ j ≤ q 6 0 then dg q r a b N (k + 1) 1 j else dg q r a b N k 1 j) (i + 1) else (fun j => if i + 1 < j ∧ j ≤ q 6 0 then dg q r a b N (k + 1) 1 j else dg q r a b N k 1 j) j) = (fun j => if i < j ∧ j ≤ q 6 0 then dg q r a b N (k + 1) 1 j else dg q r a b N k 1 j) := by (rw [← g1]; exact dn_s (dg q r a b N (k + 1) 1) (dg q r a b N k 1) (q 6 0) i hi)
    refine J.at (ih (by omega) (ten q (i + 1) t)) (by rw [nI_m1]) rfl ?_
    rw [← e0, ← e1]
    rfl
set_option maxRecDepth 100000 in
set_option maxHeartbeats 4000000 in
theorem mX0_contest_t (q : rT) (x : Nat → Nat) (n : Nat → Int64) (u : uT) (r : rT) (a b N : Nat) (hq : oOK q) (ha : a < 4) (hb : b < 4) (hN : N < 100) : ∀ (i : Nat), i ≤ N → ∀ (g : Nat → Nat) (z1 z2 z3 z4 z5 z6 : Option Value), J KX0_contest 16 (fun o B => o = none ∧ ∃ g9 f1 f2, B = wO (rrow q 2 g9) x n (urow (urow (urow u 0 f1) 1 f2) 3 (fun j => if j = 0 then dg q r a b N N 0 (q 6 0) else (if q 6 0 = 0 ∧ 0 < N then (nI (r 6 5)).toInt64 * lN (1000 ^ N) else dg q r a b N N 1 (q 6 0)))) ++ wRb 9 r) 20 [some (.ref 0), some (.ref 9), some (.int (nI a)), some (.int (nI b)), some (.int (nI N)), some (.int (nI i - 1)), z1, z2, z3, z4, z5, none, z6] [] (wO (rrow q 2 g) x n (urow (urow u 0 (dg q r a b N (N - i) 0)) 1 (dg q r a b N (N - i) 1)) ++ wRb 9 r) 0 0 := by
  intro i
  induction i with
  | zero =>
    intro hi g z1 z2 z3 z4 z5 z6
    rw [Nat.sub_zero]
    refine J.iload dX0_contest_20 rfl ?_
    refine J.if_lt (tgt := 170) dX0_contest_22 (by decide) (fun c22 => ?_) (fun c22 => absurd c22 (fun h => h (by decide)))
    refine J.aload_n dX0_contest_170 rfl rfl ?_
    refine J.aload_n dX0_contest_171 rfl rfl ?_
    refine J.getfield dX0_contest_172 jFX0_28 rfl rfl ?_
    refine J.aload_n dX0_contest_175 rfl rfl ?_
    refine J.getfield dX0_contest_176 jFX0_57 rfl rfl ?_
    refine J.laloadN dX0_contest_179 rfl hq.2.2.2 ?_
    refine J.putfield dX0_contest_180 jFX0_112 jP0_10 rfl rfl rfl (Nat.le_of_ble_eq_true rfl) ?_
    try dsimp only [List.set, wO, wR, wRb, List.cons_append, List.nil_append]
    refine J.aload_n dX0_contest_183 rfl rfl ?_
    refine J.aload_n dX0_contest_184 rfl rfl ?_
    refine J.getfield dX0_contest_185 jFX0_57 rfl rfl ?_
    refine J.if_ne (tgt := 210) dX0_contest_188 (by decide) (fun c188 => ?_) (fun c188 => ?_)
    · refine J.aload_n dX0_contest_210 rfl rfl ?_
      refine J.getfield dX0_contest_211 jFX0_31 rfl rfl ?_
      refine J.aload_n dX0_contest_214 rfl rfl ?_
      refine J.getfield dX0_contest_215 jFX0_57 rfl rfl ?_
      refine J.laloadN dX0_contest_218 rfl hq.2.2.2 ?_
      refine J.putfield dX0_contest_219 jFX0_116 jP0_11 rfl rfl rfl (Nat.le_of_ble_eq_true rfl) ?_
      try dsimp only [List.set, wO, wR, wRb, List.cons_append, List.nil_append]
      exact J.vret dX0_contest_222 rfl (Nat.le_refl _) (Nat.le_refl _) ⟨rfl, g, dg q r a b N N 0, dg q r a b N N 1, by rw [show (if q 6 0 = 0 ∧ 0 < N then (nI (r 6 5)).toInt64 * lN (1000 ^ N) else dg q r a b N N 1 (q 6 0)) = dg q r a b N N 1 (q 6 0) from if_neg (fun h => c188 (congrArg nI h.1))]; rfl⟩
    · refine J.iload dX0_contest_191 rfl ?_
      refine J.if_le (tgt := 210) dX0_contest_193 (by decide) (fun c193 => ?_) (fun c193 => ?_)
      · refine J.aload_n dX0_contest_210 rfl rfl ?_
        refine J.getfield dX0_contest_211 jFX0_31 rfl rfl ?_
        refine J.aload_n dX0_contest_214 rfl rfl ?_
        refine J.getfield dX0_contest_215 jFX0_57 rfl rfl ?_
        refine J.laloadN dX0_contest_218 rfl hq.2.2.2 ?_
        refine J.putfield dX0_contest_219 jFX0_116 jP0_11 rfl rfl rfl (Nat.le_of_ble_eq_true rfl) ?_
        try dsimp only [List.set, wO, wR, wRb, List.cons_append, List.nil_append]
        exact J.vret dX0_contest_222 rfl (Nat.le_refl _) (Nat.le_refl _) ⟨rfl, g, dg q r a b N N 0, dg q r a b N N 1, by rw [show (if q 6 0 = 0 ∧ 0 < N then (nI (r 6 5)).toInt64 * lN (1000 ^ N) else dg q r a b N N 1 (q 6 0)) = dg q r a b N N 1 (q 6 0) from if_neg (fun h => absurd ((nI_lei (b := 0) (by omega) (by decide)).mp c193) (by omega))]; rfl⟩
      · refine J.aload_n dX0_contest_196 rfl rfl ?_
        refine J.getfield dX0_contest_197 jFX0_105 rfl rfl ?_
        refine J.i2l dX0_contest_200 ?_
        refine J.iload dX0_contest_201 rfl ?_
        refine J.cs (as := [.int _]) (is := []) okX6_thousands jcX0_91 (mX6_thousands N (by omega)) dX0_contest_203 rfl rfl rfl rfl rfl rfl (fun r9 B9 hq => ?_)
        obtain ⟨rfl, rfl⟩ := hq
        refine ⟨rfl, ?_⟩
        show J _ _ _ _ _ (.long _ :: .long _ :: .ref 0 :: _) _ _ _
        refine J.lmul dX0_contest_206 ?_
        refine J.goto (tgt := 219) dX0_contest_207 (by decide) ?_
        refine J.putfield dX0_contest_219 jFX0_116 jP0_11 rfl rfl rfl (Nat.le_of_ble_eq_true rfl) ?_
        try dsimp only [List.set, wO, wR, wRb, List.cons_append, List.nil_append]
        exact J.vret dX0_contest_222 rfl (Nat.le_refl _) (Nat.le_refl _) ⟨rfl, g, dg q r a b N N 0, dg q r a b N N 1, by rw [show (if q 6 0 = 0 ∧ 0 < N then (nI (r 6 5)).toInt64 * lN (1000 ^ N) else dg q r a b N N 1 (q 6 0)) = (nI (r 6 5)).toInt64 * lN (1000 ^ N) from if_pos ⟨(nI_eqi (b := 0) (by have := hq.2.2.2; omega) (by decide)).mp c188, (nI_lti (a := 0) (by decide) (by omega)).mp (Int32.not_le.mp c193)⟩]; rfl⟩
  | succ i ih =>
    intro hi g z1 z2 z3 z4 z5 z6
    rcases (show i % 2 = 0 ∨ i % 2 = 1 by omega) with hp | hp
    · rw [nI_pred]
      refine J.iload dX0_contest_20 rfl ?_
      refine J.if_lt (tgt := 170) dX0_contest_22 (by decide) (fun c22 => absurd c22 (fun h => absurd h (nI_pos (by omega)))) (fun c22 => ?_)
      refine J.iload dX0_contest_25 rfl ?_
      refine J.iconst (1) dX0_contest_27 (by decide) ?_
      refine J.iand dX0_contest_28 ?_
      rw [and1_eval _ (by omega), hp]
      refine J.if_ne (tgt := 36) dX0_contest_29 (by decide) (fun c29 => absurd c29 (by decide)) (fun c29 => ?_)
      refine J.iconst (1) dX0_contest_32 (by decide) ?_
      refine J.goto (tgt := 37) dX0_contest_33 (by decide) ?_
      refine J.istore dX0_contest_37 (by decide) rfl ?_
      try dsimp only [List.set, wO, wR, wRb, List.cons_append, List.nil_append]
      refine J.iload dX0_contest_39 rfl ?_
      refine J.if_eq (tgt := 48) dX0_contest_41 (by decide) (fun c41 => absurd c41 (by decide)) (fun c41 => ?_)
      refine J.iload_n dX0_contest_44 rfl rfl ?_
      refine J.goto (tgt := 49) dX0_contest_45 (by decide) ?_
      refine J.istore dX0_contest_49 (by decide) rfl ?_
      try dsimp only [List.set, wO, wR, wRb, List.cons_append, List.nil_append]
      refine J.iload dX0_contest_51 rfl ?_
      refine J.if_eq (tgt := 63) dX0_contest_53 (by decide) (fun c53 => absurd c53 (by decide)) (fun c53 => ?_)
      refine J.aload_n dX0_contest_56 rfl rfl ?_
      refine J.getfield dX0_contest_57 jFX0_28 rfl rfl ?_
      refine J.goto (tgt := 67) dX0_contest_60 (by decide) ?_
      refine J.astore dX0_contest_67 (by decide) rfl ?_
      try dsimp only [List.set, wO, wR, wRb, List.cons_append, List.nil_append]
      refine J.iload dX0_contest_69 rfl ?_
      refine J.if_eq (tgt := 81) dX0_contest_71 (by decide) (fun c71 => absurd c71 (by decide)) (fun c71 => ?_)
      refine J.aload_n dX0_contest_74 rfl rfl ?_
      refine J.getfield dX0_contest_75 jFX0_31 rfl rfl ?_
      refine J.goto (tgt := 85) dX0_contest_78 (by decide) ?_
      refine J.astore dX0_contest_85 (by decide) rfl ?_
      try dsimp only [List.set, wO, wR, wRb, List.cons_append, List.nil_append]
      refine J.iload dX0_contest_87 rfl ?_
      refine J.iconst (1) dX0_contest_89 (by decide) ?_
      refine J.isub dX0_contest_90 ?_
      refine J.iload dX0_contest_91 rfl ?_
      refine J.isub dX0_contest_93 ?_
      rw [show (1 : Int32) = nI 1 from rfl, pk_sub (by omega), pk_sub (by omega), show N - 1 - i = N - (i + 1) from by omega]
      refine J.cs (as := [.int _]) (is := []) okX6_thousands jcX0_91 (mX6_thousands (N - (i + 1)) (by omega)) dX0_contest_94 rfl rfl rfl rfl rfl rfl (fun r9 B9 hq => ?_)
      obtain ⟨rfl, rfl⟩ := hq
      refine ⟨rfl, ?_⟩
      show J _ _ _ _ _ (.long _ :: _) (wO (rrow q 2 g) x n (urow (urow u 0 (dg q r a b N (N - (i + 1)) 0)) 1 (dg q r a b N (N - (i + 1)) 1)) ++ wRb 9 r) _ _
      refine J.lstore dX0_contest_97 (by decide) rfl ?_
      try dsimp only [List.set, wO, wR, wRb, List.cons_append, List.nil_append]
      refine J.aload_n dX0_contest_99 rfl rfl ?_
      refine J.getfield dX0_contest_100 jFX0_57 rfl rfl ?_
      refine J.istore dX0_contest_103 (by decide) rfl ?_
      try dsimp only [List.set, wO, wR, wRb, List.cons_append, List.nil_append]
      refine J.at (mX0_contest_s0 q x n u r a b N hq ha hb hN (N - (i + 1)) i (by omega) (by omega) hp ?_ (q 6 0) (Nat.le_refl _) g) rfl rfl ?_
      · intro g9 y1
        refine J.iinc (-1) dX0_contest_164 (by decide) rfl (by decide) rfl ?_
        try dsimp only [List.set, wO, wR, wRb, List.cons_append, List.nil_append]
        refine J.goto (tgt := 20) dX0_contest_167 (by decide) ?_
        exact J.at (ih (by omega) g9 _ _ _ _ _ _) (by rw [sub1]) rfl (by rw [show N - (i + 1) + 1 = N - i from by omega]; rfl)
      · have e0 : ∀ c, (fun j => if q 6 0 < j ∧ j ≤ q 6 0 then dg q r a b N (N - (i + 1) + 1) c j else dg q r a b N (N - (i + 1)) c j) = dg q r a b N (N - (i + 1)) c := fun c => funext fun j => if_neg (by omega)
        rw [e0 0, e0 1]
        rfl
    · rw [nI_pred]
      refine J.iload dX0_contest_20 rfl ?_
      refine J.if_lt (tgt := 170) dX0_contest_22 (by decide) (fun c22 => absurd c22 (fun h => absurd h (nI_pos (by omega)))) (fun c22 => ?_)
      refine J.iload dX0_contest_25 rfl ?_
      refine J.iconst (1) dX0_contest_27 (by decide) ?_
      refine J.iand dX0_contest_28 ?_
      rw [and1_eval _ (by omega), hp]
      refine J.if_ne (tgt := 36) dX0_contest_29 (by decide) (fun c29 => ?_) (fun c29 => absurd c29 (by decide))
      refine J.iconst (0) dX0_contest_36 (by decide) ?_
      refine J.istore dX0_contest_37 (by decide) rfl ?_
      try dsimp only [List.set, wO, wR, wRb, List.cons_append, List.nil_append]
      refine J.iload dX0_contest_39 rfl ?_
      refine J.if_eq (tgt := 48) dX0_contest_41 (by decide) (fun c41 => ?_) (fun c41 => absurd c41 (fun h => h rfl))
      refine J.iload_n dX0_contest_48 rfl rfl ?_
      refine J.istore dX0_contest_49 (by decide) rfl ?_
      try dsimp only [List.set, wO, wR, wRb, List.cons_append, List.nil_append]
      refine J.iload dX0_contest_51 rfl ?_
      refine J.if_eq (tgt := 63) dX0_contest_53 (by decide) (fun c53 => ?_) (fun c53 => absurd c53 (fun h => h rfl))
      refine J.aload_n dX0_contest_63 rfl rfl ?_
      refine J.getfield dX0_contest_64 jFX0_31 rfl rfl ?_
      refine J.astore dX0_contest_67 (by decide) rfl ?_
      try dsimp only [List.set, wO, wR, wRb, List.cons_append, List.nil_append]
      refine J.iload dX0_contest_69 rfl ?_
      refine J.if_eq (tgt := 81) dX0_contest_71 (by decide) (fun c71 => ?_) (fun c71 => absurd c71 (fun h => h rfl))
      refine J.aload_n dX0_contest_81 rfl rfl ?_
      refine J.getfield dX0_contest_82 jFX0_28 rfl rfl ?_
      refine J.astore dX0_contest_85 (by decide) rfl ?_
      try dsimp only [List.set, wO, wR, wRb, List.cons_append, List.nil_append]
      refine J.iload dX0_contest_87 rfl ?_
      refine J.iconst (1) dX0_contest_89 (by decide) ?_
      refine J.isub dX0_contest_90 ?_
      refine J.iload dX0_contest_91 rfl ?_
      refine J.isub dX0_contest_93 ?_
      rw [show (1 : Int32) = nI 1 from rfl, pk_sub (by omega), pk_sub (by omega), show N - 1 - i = N - (i + 1) from by omega]
      refine J.cs (as := [.int _]) (is := []) okX6_thousands jcX0_91 (mX6_thousands (N - (i + 1)) (by omega)) dX0_contest_94 rfl rfl rfl rfl rfl rfl (fun r9 B9 hq => ?_)
      obtain ⟨rfl, rfl⟩ := hq
      refine ⟨rfl, ?_⟩
      show J _ _ _ _ _ (.long _ :: _) (wO (rrow q 2 g) x n (urow (urow u 0 (dg q r a b N (N - (i + 1)) 0)) 1 (dg q r a b N (N - (i + 1)) 1)) ++ wRb 9 r) _ _
      refine J.lstore dX0_contest_97 (by decide) rfl ?_
      try dsimp only [List.set, wO, wR, wRb, List.cons_append, List.nil_append]
      refine J.aload_n dX0_contest_99 rfl rfl ?_
      refine J.getfield dX0_contest_100 jFX0_57 rfl rfl ?_
      refine J.istore dX0_contest_103 (by decide) rfl ?_
      try dsimp only [List.set, wO, wR, wRb, List.cons_append, List.nil_append]
      refine J.at (mX0_contest_s1 q x n u r a b N hq ha hb hN (N - (i + 1)) i (by omega) (by omega) hp ?_ (q 6 0) (Nat.le_refl _) g) rfl rfl ?_
      · intro g9 y1
        refine J.iinc (-1) dX0_contest_164 (by decide) rfl (by decide) rfl ?_
        try dsimp only [List.set, wO, wR, wRb, List.cons_append, List.nil_append]
        refine J.goto (tgt := 20) dX0_contest_167 (by decide) ?_
        exact J.at (ih (by omega) g9 _ _ _ _ _ _) (by rw [sub1]) rfl (by rw [show N - (i + 1) + 1 = N - i from by omega]; rfl)
      · have e0 : ∀ c, (fun j => if q 6 0 < j ∧ j ≤ q 6 0 then dg q r a b N (N - (i + 1) + 1) c j else dg q r a b N (N - (i + 1)) c j) = dg q r a b N (N - (i + 1)) c := fun c => funext fun j => if_neg (by omega)
        rw [e0 0, e0 1]
        rfl
set_option maxRecDepth 100000 in
set_option maxHeartbeats 4000000 in
theorem mX0_contest (q : rT) (x : Nat → Nat) (n : Nat → Int64) (u : uT) (r : rT) (a b N : Nat) (hq : oOK q) (ha : a < 4) (hb : b < 4) (hN : N < 100) : J KX0_contest 16 (fun o B => o = none ∧ ∃ g9 f1 f2, B = wO (rrow q 2 g9) x n (urow (urow (urow u 0 f1) 1 f2) 3 (fun j => if j = 0 then dg q r a b N N 0 (q 6 0) else (if q 6 0 = 0 ∧ 0 < N then (nI (r 6 5)).toInt64 * lN (1000 ^ N) else dg q r a b N N 1 (q 6 0)))) ++ wRb 9 r) 0 [some (.ref 0), some (.ref 9), some (.int (nI a)), some (.int (nI b)), some (.int (nI N)), none, none, none, none, none, none, none, none] [] (wO q x n u ++ wRb 9 r) 0 0 := by
  refine J.aload_n dX0_contest_0 rfl rfl ?_
  refine J.getfield dX0_contest_1 jFX0_28 rfl rfl ?_
  refine J.cs (as := [.ref 0]) (is := [6]) okX0_clearGains jcX0_95 (mX0_clearGains 8 (u 0) (by decide)) dX0_contest_4 rfl rfl rfl rfl rfl rfl (fun r9 B9 hq => ?_)
  obtain ⟨rfl, rfl⟩ := hq
  refine ⟨rfl, ?_⟩
  show J _ _ _ _ _ [] (wO q x n (urow u 0 (fun _ => 0)) ++ wRb 9 r) _ _
  refine J.aload_n dX0_contest_7 rfl rfl ?_
  refine J.getfield dX0_contest_8 jFX0_31 rfl rfl ?_
  refine J.cs (as := [.ref 0]) (is := [7]) okX0_clearGains jcX0_95 (mX0_clearGains 8 (u 1) (by decide)) dX0_contest_11 rfl rfl rfl rfl rfl rfl (fun r9 B9 hq => ?_)
  obtain ⟨rfl, rfl⟩ := hq
  refine ⟨rfl, ?_⟩
  show J _ _ _ _ _ [] (wO q x n (urow (urow u 0 (fun _ => 0)) 1 (fun _ => 0)) ++ wRb 9 r) _ _
  refine J.iload dX0_contest_14 rfl ?_
  refine J.iconst (1) dX0_contest_16 (by decide) ?_
  refine J.isub dX0_contest_17 ?_
  refine J.istore dX0_contest_18 (by decide) rfl ?_
  try dsimp only [List.set, wO, wR, wRb, List.cons_append, List.nil_append]
  exact J.at (mX0_contest_t q x n u r a b N hq ha hb hN N (Nat.le_refl _) (q 2) none none none none none none) rfl rfl (by rw [Nat.sub_self]; rfl)
end
section
theorem dX3_append_0 : decode cX3_append 0 = .ok (.aload_n 0, 1) := by decide +kernel
theorem dX3_append_1 : decode cX3_append 1 = .ok (.getfield 18, 3) := by decide +kernel
theorem dX3_append_4 : decode cX3_append 4 = .ok (.bipush 6, 2) := by decide +kernel
theorem dX3_append_6 : decode cX3_append 6 = .ok (.if_icmp .lt 5, 3) := by decide +kernel
theorem dX3_append_9 : decode cX3_append 9 = .ok (.iconst 0, 1) := by decide +kernel
theorem dX3_append_10 : decode cX3_append 10 = .ok (.ireturn, 1) := by decide +kernel
theorem dX3_append_11 : decode cX3_append 11 = .ok (.aload_n 0, 1) := by decide +kernel
theorem dX3_append_12 : decode cX3_append 12 = .ok (.getfield 9, 3) := by decide +kernel
theorem dX3_append_15 : decode cX3_append 15 = .ok (.aload_n 0, 1) := by decide +kernel
theorem dX3_append_16 : decode cX3_append 16 = .ok (.getfield 18, 3) := by decide +kernel
theorem dX3_append_19 : decode cX3_append 19 = .ok (.iload_n 1, 1) := by decide +kernel
theorem dX3_append_20 : decode cX3_append 20 = .ok (.iastore, 1) := by decide +kernel
theorem dX3_append_21 : decode cX3_append 21 = .ok (.aload_n 0, 1) := by decide +kernel
theorem dX3_append_22 : decode cX3_append 22 = .ok (.getfield 15, 3) := by decide +kernel
theorem dX3_append_25 : decode cX3_append 25 = .ok (.aload_n 0, 1) := by decide +kernel
theorem dX3_append_26 : decode cX3_append 26 = .ok (.getfield 18, 3) := by decide +kernel
theorem dX3_append_29 : decode cX3_append 29 = .ok (.iload_n 2, 1) := by decide +kernel
theorem dX3_append_30 : decode cX3_append 30 = .ok (.iastore, 1) := by decide +kernel
theorem dX3_append_31 : decode cX3_append 31 = .ok (.aload_n 0, 1) := by decide +kernel
theorem dX3_append_32 : decode cX3_append 32 = .ok (.dup, 1) := by decide +kernel
theorem dX3_append_33 : decode cX3_append 33 = .ok (.getfield 18, 3) := by decide +kernel
theorem dX3_append_36 : decode cX3_append 36 = .ok (.iconst 1, 1) := by decide +kernel
theorem dX3_append_37 : decode cX3_append 37 = .ok (.iadd, 1) := by decide +kernel
theorem dX3_append_38 : decode cX3_append 38 = .ok (.putfield 18, 3) := by decide +kernel
theorem dX3_append_41 : decode cX3_append 41 = .ok (.iconst 1, 1) := by decide +kernel
theorem dX3_append_42 : decode cX3_append 42 = .ok (.ireturn, 1) := by decide +kernel
theorem dX3_lastHour_0 : decode cX3_lastHour 0 = .ok (.iconst 0, 1) := by decide +kernel
theorem dX3_lastHour_1 : decode cX3_lastHour 1 = .ok (.istore_n 1, 1) := by decide +kernel
theorem dX3_lastHour_2 : decode cX3_lastHour 2 = .ok (.iconst 0, 1) := by decide +kernel
theorem dX3_lastHour_3 : decode cX3_lastHour 3 = .ok (.istore_n 2, 1) := by decide +kernel
theorem dX3_lastHour_4 : decode cX3_lastHour 4 = .ok (.iload_n 2, 1) := by decide +kernel
theorem dX3_lastHour_5 : decode cX3_lastHour 5 = .ok (.aload_n 0, 1) := by decide +kernel
theorem dX3_lastHour_6 : decode cX3_lastHour 6 = .ok (.getfield 18, 3) := by decide +kernel
theorem dX3_lastHour_9 : decode cX3_lastHour 9 = .ok (.if_icmp .ge 20, 3) := by decide +kernel
theorem dX3_lastHour_12 : decode cX3_lastHour 12 = .ok (.iload_n 1, 1) := by decide +kernel
theorem dX3_lastHour_13 : decode cX3_lastHour 13 = .ok (.aload_n 0, 1) := by decide +kernel
theorem dX3_lastHour_14 : decode cX3_lastHour 14 = .ok (.getfield 9, 3) := by decide +kernel
theorem dX3_lastHour_17 : decode cX3_lastHour 17 = .ok (.iload_n 2, 1) := by decide +kernel
theorem dX3_lastHour_18 : decode cX3_lastHour 18 = .ok (.iaload, 1) := by decide +kernel
theorem dX3_lastHour_19 : decode cX3_lastHour 19 = .ok (.invokestatic 22, 3) := by decide +kernel
theorem dX3_lastHour_22 : decode cX3_lastHour 22 = .ok (.istore_n 1, 1) := by decide +kernel
theorem dX3_lastHour_23 : decode cX3_lastHour 23 = .ok (.iinc 2 1, 3) := by decide +kernel
theorem dX3_lastHour_26 : decode cX3_lastHour 26 = .ok (.goto (-22), 3) := by decide +kernel
theorem dX3_lastHour_29 : decode cX3_lastHour 29 = .ok (.iload_n 1, 1) := by decide +kernel
theorem dX3_lastHour_30 : decode cX3_lastHour 30 = .ok (.ireturn, 1) := by decide +kernel
theorem dX4_renew_0 : decode cX4_renew 0 = .ok (.aload_n 0, 1) := by decide +kernel
theorem dX4_renew_1 : decode cX4_renew 1 = .ok (.iload_n 1, 1) := by decide +kernel
theorem dX4_renew_2 : decode cX4_renew 2 = .ok (.putfield 15, 3) := by decide +kernel
theorem dX4_renew_5 : decode cX4_renew 5 = .ok (.aload_n 0, 1) := by decide +kernel
theorem dX4_renew_6 : decode cX4_renew 6 = .ok (.iload_n 2, 1) := by decide +kernel
theorem dX4_renew_7 : decode cX4_renew 7 = .ok (.aload_n 0, 1) := by decide +kernel
theorem dX4_renew_8 : decode cX4_renew 8 = .ok (.getfield 9, 3) := by decide +kernel
theorem dX4_renew_11 : decode cX4_renew 11 = .ok (.arraylength, 1) := by decide +kernel
theorem dX4_renew_12 : decode cX4_renew 12 = .ok (.invokestatic 22, 3) := by decide +kernel
theorem dX4_renew_15 : decode cX4_renew 15 = .ok (.putfield 19, 3) := by decide +kernel
theorem dX4_renew_18 : decode cX4_renew 18 = .ok (.iconst 0, 1) := by decide +kernel
theorem dX4_renew_19 : decode cX4_renew 19 = .ok (.istore_n 3, 1) := by decide +kernel
theorem dX4_renew_20 : decode cX4_renew 20 = .ok (.iload_n 3, 1) := by decide +kernel
theorem dX4_renew_21 : decode cX4_renew 21 = .ok (.aload_n 0, 1) := by decide +kernel
theorem dX4_renew_22 : decode cX4_renew 22 = .ok (.getfield 9, 3) := by decide +kernel
theorem dX4_renew_25 : decode cX4_renew 25 = .ok (.arraylength, 1) := by decide +kernel
theorem dX4_renew_26 : decode cX4_renew 26 = .ok (.if_icmp .ge 16, 3) := by decide +kernel
theorem dX4_renew_29 : decode cX4_renew 29 = .ok (.aload_n 0, 1) := by decide +kernel
theorem dX4_renew_30 : decode cX4_renew 30 = .ok (.getfield 9, 3) := by decide +kernel
theorem dX4_renew_33 : decode cX4_renew 33 = .ok (.iload_n 3, 1) := by decide +kernel
theorem dX4_renew_34 : decode cX4_renew 34 = .ok (.iconst 0, 1) := by decide +kernel
theorem dX4_renew_35 : decode cX4_renew 35 = .ok (.iastore, 1) := by decide +kernel
theorem dX4_renew_36 : decode cX4_renew 36 = .ok (.iinc 3 1, 3) := by decide +kernel
theorem dX4_renew_39 : decode cX4_renew 39 = .ok (.goto (-19), 3) := by decide +kernel
theorem dX4_renew_42 : decode cX4_renew 42 = .ok (.return_, 1) := by decide +kernel
theorem dX4_faultAt_0 : decode cX4_faultAt 0 = .ok (.aload_n 0, 1) := by decide +kernel
theorem dX4_faultAt_1 : decode cX4_faultAt 1 = .ok (.getfield 15, 3) := by decide +kernel
theorem dX4_faultAt_4 : decode cX4_faultAt 4 = .ok (.iconst (-1), 1) := by decide +kernel
theorem dX4_faultAt_5 : decode cX4_faultAt 5 = .ok (.if_icmp .ne 5, 3) := by decide +kernel
theorem dX4_faultAt_8 : decode cX4_faultAt 8 = .ok (.iconst 1, 1) := by decide +kernel
theorem dX4_faultAt_9 : decode cX4_faultAt 9 = .ok (.ireturn, 1) := by decide +kernel
theorem dX4_faultAt_10 : decode cX4_faultAt 10 = .ok (.iload_n 1, 1) := by decide +kernel
theorem dX4_faultAt_11 : decode cX4_faultAt 11 = .ok (.iconst 0, 1) := by decide +kernel
theorem dX4_faultAt_12 : decode cX4_faultAt 12 = .ok (.aload_n 0, 1) := by decide +kernel
theorem dX4_faultAt_13 : decode cX4_faultAt 13 = .ok (.getfield 19, 3) := by decide +kernel
theorem dX4_faultAt_16 : decode cX4_faultAt 16 = .ok (.iconst 1, 1) := by decide +kernel
theorem dX4_faultAt_17 : decode cX4_faultAt 17 = .ok (.isub, 1) := by decide +kernel
theorem dX4_faultAt_18 : decode cX4_faultAt 18 = .ok (.invokestatic 28, 3) := by decide +kernel
theorem dX4_faultAt_21 : decode cX4_faultAt 21 = .ok (.ifCond .eq 7, 3) := by decide +kernel
theorem dX4_faultAt_24 : decode cX4_faultAt 24 = .ok (.iconst 0, 1) := by decide +kernel
theorem dX4_faultAt_25 : decode cX4_faultAt 25 = .ok (.goto 4, 3) := by decide +kernel
theorem dX4_faultAt_28 : decode cX4_faultAt 28 = .ok (.iconst 2, 1) := by decide +kernel
theorem dX4_faultAt_29 : decode cX4_faultAt 29 = .ok (.ireturn, 1) := by decide +kernel
theorem dX4_faultAs_0 : decode cX4_faultAs 0 = .ok (.aload_n 0, 1) := by decide +kernel
theorem dX4_faultAs_1 : decode cX4_faultAs 1 = .ok (.getfield 15, 3) := by decide +kernel
theorem dX4_faultAs_4 : decode cX4_faultAs 4 = .ok (.iconst (-1), 1) := by decide +kernel
theorem dX4_faultAs_5 : decode cX4_faultAs 5 = .ok (.if_icmp .eq 11, 3) := by decide +kernel
theorem dX4_faultAs_8 : decode cX4_faultAs 8 = .ok (.aload_n 0, 1) := by decide +kernel
theorem dX4_faultAs_9 : decode cX4_faultAs 9 = .ok (.getfield 15, 3) := by decide +kernel
theorem dX4_faultAs_12 : decode cX4_faultAs 12 = .ok (.iload_n 1, 1) := by decide +kernel
theorem dX4_faultAs_13 : decode cX4_faultAs 13 = .ok (.if_icmp .ne 11, 3) := by decide +kernel
theorem dX4_faultAs_16 : decode cX4_faultAs 16 = .ok (.aload_n 0, 1) := by decide +kernel
theorem dX4_faultAs_17 : decode cX4_faultAs 17 = .ok (.iload_n 2, 1) := by decide +kernel
theorem dX4_faultAs_18 : decode cX4_faultAs 18 = .ok (.invokevirtual 32, 3) := by decide +kernel
theorem dX4_faultAs_21 : decode cX4_faultAs 21 = .ok (.goto 4, 3) := by decide +kernel
theorem dX4_faultAs_24 : decode cX4_faultAs 24 = .ok (.iconst 3, 1) := by decide +kernel
theorem dX4_faultAs_25 : decode cX4_faultAs 25 = .ok (.ireturn, 1) := by decide +kernel
theorem dX4_write_0 : decode cX4_write 0 = .ok (.iload_n 1, 1) := by decide +kernel
theorem dX4_write_1 : decode cX4_write 1 = .ok (.iconst 0, 1) := by decide +kernel
theorem dX4_write_2 : decode cX4_write 2 = .ok (.aload_n 0, 1) := by decide +kernel
theorem dX4_write_3 : decode cX4_write 3 = .ok (.getfield 19, 3) := by decide +kernel
theorem dX4_write_6 : decode cX4_write 6 = .ok (.iconst 1, 1) := by decide +kernel
theorem dX4_write_7 : decode cX4_write 7 = .ok (.isub, 1) := by decide +kernel
theorem dX4_write_8 : decode cX4_write 8 = .ok (.invokestatic 28, 3) := by decide +kernel
theorem dX4_write_11 : decode cX4_write 11 = .ok (.ifCond .eq 35, 3) := by decide +kernel
theorem dX4_write_14 : decode cX4_write 14 = .ok (.aload_n 0, 1) := by decide +kernel
theorem dX4_write_15 : decode cX4_write 15 = .ok (.getfield 9, 3) := by decide +kernel
theorem dX4_write_18 : decode cX4_write 18 = .ok (.iload_n 1, 1) := by decide +kernel
theorem dX4_write_19 : decode cX4_write 19 = .ok (.aload_n 0, 1) := by decide +kernel
theorem dX4_write_20 : decode cX4_write 20 = .ok (.getfield 15, 3) := by decide +kernel
theorem dX4_write_23 : decode cX4_write 23 = .ok (.ifCond .ne 8, 3) := by decide +kernel
theorem dX4_write_26 : decode cX4_write 26 = .ok (.iload_n 2, 1) := by decide +kernel
theorem dX4_write_27 : decode cX4_write 27 = .ok (.i2b, 1) := by decide +kernel
theorem dX4_write_28 : decode cX4_write 28 = .ok (.goto 17, 3) := by decide +kernel
theorem dX4_write_31 : decode cX4_write 31 = .ok (.aload_n 0, 1) := by decide +kernel
theorem dX4_write_32 : decode cX4_write 32 = .ok (.getfield 15, 3) := by decide +kernel
theorem dX4_write_35 : decode cX4_write 35 = .ok (.iconst 1, 1) := by decide +kernel
theorem dX4_write_36 : decode cX4_write 36 = .ok (.if_icmp .ne 8, 3) := by decide +kernel
theorem dX4_write_39 : decode cX4_write 39 = .ok (.iload_n 2, 1) := by decide +kernel
theorem dX4_write_40 : decode cX4_write 40 = .ok (.i2s, 1) := by decide +kernel
theorem dX4_write_41 : decode cX4_write 41 = .ok (.goto 4, 3) := by decide +kernel
theorem dX4_write_44 : decode cX4_write 44 = .ok (.iload_n 2, 1) := by decide +kernel
theorem dX4_write_45 : decode cX4_write 45 = .ok (.iastore, 1) := by decide +kernel
theorem dX4_write_46 : decode cX4_write 46 = .ok (.return_, 1) := by decide +kernel
theorem dX5_append_0 : decode cX5_append 0 = .ok (.aload_n 0, 1) := by decide +kernel
theorem dX5_append_1 : decode cX5_append 1 = .ok (.getfield 15, 3) := by decide +kernel
theorem dX5_append_4 : decode cX5_append 4 = .ok (.aload_n 0, 1) := by decide +kernel
theorem dX5_append_5 : decode cX5_append 5 = .ok (.getfield 9, 3) := by decide +kernel
theorem dX5_append_8 : decode cX5_append 8 = .ok (.arraylength, 1) := by decide +kernel
theorem dX5_append_9 : decode cX5_append 9 = .ok (.if_icmp .lt 5, 3) := by decide +kernel
theorem dX5_append_12 : decode cX5_append 12 = .ok (.iconst 0, 1) := by decide +kernel
theorem dX5_append_13 : decode cX5_append 13 = .ok (.ireturn, 1) := by decide +kernel
theorem dX5_append_14 : decode cX5_append 14 = .ok (.aload_n 0, 1) := by decide +kernel
theorem dX5_append_15 : decode cX5_append 15 = .ok (.getfield 9, 3) := by decide +kernel
theorem dX5_append_18 : decode cX5_append 18 = .ok (.aload_n 0, 1) := by decide +kernel
theorem dX5_append_19 : decode cX5_append 19 = .ok (.getfield 15, 3) := by decide +kernel
theorem dX5_append_22 : decode cX5_append 22 = .ok (.iload_n 1, 1) := by decide +kernel
theorem dX5_append_23 : decode cX5_append 23 = .ok (.i2b, 1) := by decide +kernel
theorem dX5_append_24 : decode cX5_append 24 = .ok (.bastore, 1) := by decide +kernel
theorem dX5_append_25 : decode cX5_append 25 = .ok (.aload_n 0, 1) := by decide +kernel
theorem dX5_append_26 : decode cX5_append 26 = .ok (.dup, 1) := by decide +kernel
theorem dX5_append_27 : decode cX5_append 27 = .ok (.getfield 15, 3) := by decide +kernel
theorem dX5_append_30 : decode cX5_append 30 = .ok (.iconst 1, 1) := by decide +kernel
theorem dX5_append_31 : decode cX5_append 31 = .ok (.iadd, 1) := by decide +kernel
theorem dX5_append_32 : decode cX5_append 32 = .ok (.putfield 15, 3) := by decide +kernel
theorem dX5_append_35 : decode cX5_append 35 = .ok (.iconst 1, 1) := by decide +kernel
theorem dX5_append_36 : decode cX5_append 36 = .ok (.ireturn, 1) := by decide +kernel
theorem dX5_byteAt_0 : decode cX5_byteAt 0 = .ok (.iload_n 1, 1) := by decide +kernel
theorem dX5_byteAt_1 : decode cX5_byteAt 1 = .ok (.ifCond .lt 29, 3) := by decide +kernel
theorem dX5_byteAt_4 : decode cX5_byteAt 4 = .ok (.iload_n 1, 1) := by decide +kernel
theorem dX5_byteAt_5 : decode cX5_byteAt 5 = .ok (.aload_n 0, 1) := by decide +kernel
theorem dX5_byteAt_6 : decode cX5_byteAt 6 = .ok (.getfield 15, 3) := by decide +kernel
theorem dX5_byteAt_9 : decode cX5_byteAt 9 = .ok (.if_icmp .ge 21, 3) := by decide +kernel
theorem dX5_byteAt_12 : decode cX5_byteAt 12 = .ok (.iload_n 1, 1) := by decide +kernel
theorem dX5_byteAt_13 : decode cX5_byteAt 13 = .ok (.aload_n 0, 1) := by decide +kernel
theorem dX5_byteAt_14 : decode cX5_byteAt 14 = .ok (.getfield 9, 3) := by decide +kernel
theorem dX5_byteAt_17 : decode cX5_byteAt 17 = .ok (.arraylength, 1) := by decide +kernel
theorem dX5_byteAt_18 : decode cX5_byteAt 18 = .ok (.if_icmp .ge 12, 3) := by decide +kernel
theorem dX5_byteAt_21 : decode cX5_byteAt 21 = .ok (.aload_n 0, 1) := by decide +kernel
theorem dX5_byteAt_22 : decode cX5_byteAt 22 = .ok (.getfield 9, 3) := by decide +kernel
theorem dX5_byteAt_25 : decode cX5_byteAt 25 = .ok (.iload_n 1, 1) := by decide +kernel
theorem dX5_byteAt_26 : decode cX5_byteAt 26 = .ok (.baload, 1) := by decide +kernel
theorem dX5_byteAt_27 : decode cX5_byteAt 27 = .ok (.goto 4, 3) := by decide +kernel
theorem dX5_byteAt_30 : decode cX5_byteAt 30 = .ok (.iconst (-1), 1) := by decide +kernel
theorem dX5_byteAt_31 : decode cX5_byteAt 31 = .ok (.ireturn, 1) := by decide +kernel
/-! ===== Seen, Sheet, Tape ===== -/
def wN (a b : Nat → Nat) (m : Nat) : jW := [.inr (3, [.ref 1, .ref 2, .int (nI m)]), .inl (0, 6, .inl (fun j => nI (a j))), .inl (0, 6, .inl (fun j => nI (b j)))]
def wS (c : Nat → Int32) (lane : Int32) (len : Nat) : jW := [.inr (4, [.ref 1, .int lane, .int (nI len)]), .inl (0, 40, .inl c)]
def wT (b : Nat → Nat) (len : Nat) : jW := [.inr (5, [.ref 1, .int (nI len)]), .inl (2, 160, .inl (fun j => nI (b j)))]
def mxs (a : Nat → Nat) : Nat → Nat
  | 0 => 0
  | n + 1 => max (mxs a n) (a n)
def fat (lane : Int32) (len : Nat) (i : Int32) : Int32 := if lane = -1 then 1 else if 0 ≤ i ∧ i ≤ nI len - 1 then 0 else 2
def fas (lane : Int32) (len : Nat) (l i : Int32) : Int32 := if lane = -1 ∨ lane = l then fat lane len i else 3
def cnv (lane v : Int32) : Int32 := if lane = 0 then v.toInt8.toInt32 else if lane = 1 then v.toInt16.toInt32 else v
set_option maxRecDepth 100000 in
set_option maxHeartbeats 4000000 in
theorem mX3_append (a b : Nat → Nat) (m n k : Nat) (hm : m < 6) : J KX3_append 3 (fun o B => o = some (.int 1) ∧ B = wN (fun j => if j = m then n else a j) (fun j => if j = m then k else b j) (m + 1)) 0 [some (.ref 0), some (.int (nI n)), some (.int (nI k))] [] (wN a b m) 0 0 := by
  unfold wN
  refine J.aload_n dX3_append_0 rfl rfl ?_
  refine J.getfield dX3_append_1 jFX3_18 rfl rfl ?_
  refine J.bipush (6) dX3_append_4 (by decide) ?_
  refine J.icmp_lt (tgt := 11) dX3_append_6 (by decide) (fun c6 => ?_) (fun c6 => absurd c6 (fun h => h ((nI_lti (b := 6) (by omega) (by decide)).mpr hm)))
  refine J.aload_n dX3_append_11 rfl rfl ?_
  refine J.getfield dX3_append_12 jFX3_9 rfl rfl ?_
  refine J.aload_n dX3_append_15 rfl rfl ?_
  refine J.getfield dX3_append_16 jFX3_18 rfl rfl ?_
  refine J.iload_n dX3_append_19 rfl rfl ?_
  refine J.iastoreN dX3_append_20 rfl hm ?_
  rw [upd_nI]
  try dsimp only [List.set, wN, wS, wT]
  refine J.aload_n dX3_append_21 rfl rfl ?_
  refine J.getfield dX3_append_22 jFX3_15 rfl rfl ?_
  refine J.aload_n dX3_append_25 rfl rfl ?_
  refine J.getfield dX3_append_26 jFX3_18 rfl rfl ?_
  refine J.iload_n dX3_append_29 rfl rfl ?_
  refine J.iastoreN dX3_append_30 rfl hm ?_
  rw [upd_nI]
  try dsimp only [List.set, wN, wS, wT]
  refine J.aload_n dX3_append_31 rfl rfl ?_
  refine J.dup dX3_append_32 rfl ?_
  refine J.getfield dX3_append_33 jFX3_18 rfl rfl ?_
  refine J.iconst (1) dX3_append_36 (by decide) ?_
  refine J.iadd dX3_append_37 ?_
  rw [nI_1]
  refine J.putfield dX3_append_38 jFX3_18 jP3_2 rfl rfl rfl (Nat.le_of_ble_eq_true rfl) ?_
  try dsimp only [List.set, wN, wS, wT]
  refine J.iconst (1) dX3_append_41 (by decide) ?_
  exact J.iret dX3_append_42 rfl (by decide) (Nat.le_refl _) (Nat.le_refl _) ⟨rfl, rfl⟩
set_option maxRecDepth 100000 in
set_option maxHeartbeats 4000000 in
theorem mX3_append6 (a b : Nat → Nat) (n k : Nat) : J KX3_append 3 (fun o B => o = some (.int 0) ∧ B = wN a b 6) 0 [some (.ref 0), some (.int (nI n)), some (.int (nI k))] [] (wN a b 6) 0 0 := by
  refine J.aload_n dX3_append_0 rfl rfl ?_
  refine J.getfield dX3_append_1 jFX3_18 rfl rfl ?_
  refine J.bipush (6) dX3_append_4 (by decide) ?_
  refine J.icmp_lt (tgt := 11) dX3_append_6 (by decide) (fun c6 => absurd c6 (by decide)) (fun c6 => ?_)
  refine J.iconst (0) dX3_append_9 (by decide) ?_
  exact J.iret dX3_append_10 rfl (by decide) (Nat.le_refl _) (Nat.le_refl _) ⟨rfl, rfl⟩
theorem mxs_le {a : Nat → Nat} {c : Nat} (h : ∀ i, a i ≤ c) : ∀ n, mxs a n ≤ c
  | 0 => Nat.zero_le _
  | n + 1 => by have := mxs_le h n; have := h n; simp only [mxs]; omega
set_option maxRecDepth 100000 in
set_option maxHeartbeats 4000000 in
theorem mX3_lastHour_l (a b : Nat → Nat) (m : Nat) (hm : m ≤ 6) (ha : ∀ i, a i ≤ 100) : ∀ (k9 i : Nat), i + k9 = m → J KX3_lastHour 3 (fun o B => o = some (.int (nI (mxs a m))) ∧ B = wN a b m) 4 [some (.ref 0), some (.int (nI (mxs a i))), some (.int (nI i))] [] (wN a b m) 0 0 := by
  intro k9
  induction k9 with
  | zero =>
    intro i hi
    obtain hiN : i = m := by omega
    subst hiN
    refine J.iload_n dX3_lastHour_4 rfl rfl ?_
    refine J.aload_n dX3_lastHour_5 rfl rfl ?_
    refine J.getfield dX3_lastHour_6 jFX3_18 rfl rfl ?_
    refine J.icmp_ge (tgt := 29) dX3_lastHour_9 (by decide) (fun c9 => ?_) (fun c9 => absurd c9 (fun h => h (Int32.le_refl _)))
    refine J.iload_n dX3_lastHour_29 rfl rfl ?_
    exact J.iret dX3_lastHour_30 rfl rfl (Nat.le_refl _) (Nat.le_refl _) ⟨rfl, rfl⟩
  | succ k9 ih =>
    intro i hi
    have hiN : i < m := by omega
    refine J.iload_n dX3_lastHour_4 rfl rfl ?_
    refine J.aload_n dX3_lastHour_5 rfl rfl ?_
    refine J.getfield dX3_lastHour_6 jFX3_18 rfl rfl ?_
    refine J.icmp_ge (tgt := 29) dX3_lastHour_9 (by decide) (fun c9 => absurd c9 (nI_ge hiN (by omega))) (fun c9 => ?_)
    refine J.iload_n dX3_lastHour_12 rfl rfl ?_
    refine J.aload_n dX3_lastHour_13 rfl rfl ?_
    refine J.getfield dX3_lastHour_14 jFX3_9 rfl rfl ?_
    refine J.iload_n dX3_lastHour_17 rfl rfl ?_
    refine J.ialoadN dX3_lastHour_18 rfl (show i < 6 by omega) ?_
    refine J.mmax dX3_lastHour_19 (jt 701 rfl rfl) rfl ?_
    rw [nI_max (by have := mxs_le ha i; omega) (by have := ha i; omega)]
    refine J.istore_n dX3_lastHour_22 rfl (by decide) rfl ?_
    try dsimp only [List.set, wN, wS, wT]
    refine J.iinc (1) dX3_lastHour_23 (by decide) rfl (by decide) rfl ?_
    try dsimp only [List.set, wN, wS, wT]
    refine J.goto (tgt := 4) dX3_lastHour_26 (by decide) ?_
    exact J.at (ih (i + 1) (by omega)) (by rw [← nI_1, mxs]) rfl rfl
set_option maxRecDepth 100000 in
set_option maxHeartbeats 4000000 in
theorem mX3_lastHour (a b : Nat → Nat) (m : Nat) (hm : m ≤ 6) (ha : ∀ i, a i ≤ 100) : J KX3_lastHour 3 (fun o B => o = some (.int (nI (mxs a m))) ∧ B = wN a b m) 0 [some (.ref 0), none, none] [] (wN a b m) 0 0 := by
  refine J.iconst (0) dX3_lastHour_0 (by decide) ?_
  refine J.istore_n dX3_lastHour_1 rfl (by decide) rfl ?_
  try dsimp only [List.set, wN, wS, wT]
  refine J.iconst (0) dX3_lastHour_2 (by decide) ?_
  refine J.istore_n dX3_lastHour_3 rfl (by decide) rfl ?_
  try dsimp only [List.set, wN, wS, wT]
  exact mX3_lastHour_l a b m hm ha m 0 (by omega)
set_option maxRecDepth 100000 in
set_option maxHeartbeats 4000000 in
theorem mX4_renew_l (c : Nat → Int32) (l : Int32) (n : Nat) : ∀ (k9 i : Nat), i + k9 = 40 → J KX4_renew 2 (fun o B => o = none ∧ B = wS (fun _ => 0) l n) 20 [some (.ref 0), some (.int l), some (.int (nI n)), some (.int (nI i))] [] (wS (fun j => if j < i then 0 else c j) l n) 0 0 := by
  intro k9
  induction k9 with
  | zero =>
    intro i hi
    obtain hiN : i = 40 := by omega
    subst hiN
    refine J.iload_n dX4_renew_20 rfl rfl ?_
    refine J.aload_n dX4_renew_21 rfl rfl ?_
    refine J.getfield dX4_renew_22 jFX4_9 rfl rfl ?_
    refine J.arraylength dX4_renew_25 rfl (by decide) ?_
    refine J.icmp_ge (tgt := 42) dX4_renew_26 (by decide) (fun c26 => ?_) (fun c26 => absurd c26 (fun h => h (show nI 40 ≤ nI 40 from Int32.le_refl _)))
    refine J.arrI 1 0 (fun _ => 0) rfl (fun j hj => if_pos hj) ?_
    exact J.vret dX4_renew_42 rfl (Nat.le_refl _) (Nat.le_refl _) ⟨rfl, rfl⟩
  | succ k9 ih =>
    intro i hi
    have hiN : i < 40 := by omega
    refine J.iload_n dX4_renew_20 rfl rfl ?_
    refine J.aload_n dX4_renew_21 rfl rfl ?_
    refine J.getfield dX4_renew_22 jFX4_9 rfl rfl ?_
    refine J.arraylength dX4_renew_25 rfl (by decide) ?_
    refine J.icmp_ge (tgt := 42) dX4_renew_26 (by decide) (fun c26 => absurd c26 (nI_ge (b := 40) hiN (by decide))) (fun c26 => ?_)
    refine J.aload_n dX4_renew_29 rfl rfl ?_
    refine J.getfield dX4_renew_30 jFX4_9 rfl rfl ?_
    refine J.iload_n dX4_renew_33 rfl rfl ?_
    refine J.iconst (0) dX4_renew_34 (by decide) ?_
    refine J.iastoreN dX4_renew_35 rfl hiN ?_
    try dsimp only [List.set, wN, wS, wT]
    refine J.iinc (1) dX4_renew_36 (by decide) rfl (by decide) rfl ?_
    try dsimp only [List.set, wN, wS, wT]
    refine J.goto (tgt := 20) dX4_renew_39 (by decide) ?_
    refine J.at (ih (i + 1) (by omega)) (by rw [← nI_1]) rfl ?_
    have e9 : upd (fun j => if j < i then 0 else c j) i 0 = fun j => if j < i + 1 then 0 else c j := (jlt_s (fun _ => (0 : Int32)) c i)
    rw [e9]
    rfl
set_option maxRecDepth 100000 in
set_option maxHeartbeats 4000000 in
theorem mX4_renew (c : Nat → Int32) (l0 l : Int32) (len n : Nat) (hn : n ≤ 40) : J KX4_renew 2 (fun o B => o = none ∧ B = wS (fun _ => 0) l n) 0 [some (.ref 0), some (.int l), some (.int (nI n)), none] [] (wS c l0 len) 0 0 := by
  unfold wS
  refine J.aload_n dX4_renew_0 rfl rfl ?_
  refine J.iload_n dX4_renew_1 rfl rfl ?_
  refine J.putfield dX4_renew_2 jFX4_15 jP4_1 rfl rfl rfl (Nat.le_of_ble_eq_true rfl) ?_
  try dsimp only [List.set, wN, wS, wT]
  refine J.aload_n dX4_renew_5 rfl rfl ?_
  refine J.iload_n dX4_renew_6 rfl rfl ?_
  refine J.aload_n dX4_renew_7 rfl rfl ?_
  refine J.getfield dX4_renew_8 jFX4_9 rfl rfl ?_
  refine J.arraylength dX4_renew_11 rfl (by decide) ?_
  refine J.mmin dX4_renew_12 (jt 736 rfl rfl) rfl ?_
  rw [show (Int32.ofNat 40) = nI 40 from rfl, show (if nI 40 < nI n then nI 40 else nI n) = nI n from if_neg (fun h => absurd ((nI_lti (by decide) (by omega)).mp h) (by omega))]
  refine J.putfield dX4_renew_15 jFX4_19 jP4_2 rfl rfl rfl (Nat.le_of_ble_eq_true rfl) ?_
  try dsimp only [List.set, wN, wS, wT]
  refine J.iconst (0) dX4_renew_18 (by decide) ?_
  refine J.istore_n dX4_renew_19 rfl (by decide) rfl ?_
  try dsimp only [List.set, wN, wS, wT]
  exact J.at (mX4_renew_l c l n 40 0 (by omega)) rfl rfl (by simp only [Nat.not_lt_zero, if_false] <;> rfl)
set_option maxRecDepth 100000 in
set_option maxHeartbeats 4000000 in
theorem mX4_faultAt (c : Nat → Int32) (lane : Int32) (len : Nat) (i : Int32) : J KX4_faultAt 2 (fun o B => o = some (.int (fat lane len i)) ∧ B = wS c lane len) 0 [some (.ref 0), some (.int i)] [] (wS c lane len) 0 0 := by
  refine J.aload_n dX4_faultAt_0 rfl rfl ?_
  refine J.getfield dX4_faultAt_1 jFX4_15 rfl rfl ?_
  refine J.iconst (-1) dX4_faultAt_4 (by decide) ?_
  refine J.icmp_ne (tgt := 10) dX4_faultAt_5 (by decide) (fun c5 => ?_) (fun c5 => ?_)
  · refine J.iload_n dX4_faultAt_10 rfl rfl ?_
    refine J.iconst (0) dX4_faultAt_11 (by decide) ?_
    refine J.aload_n dX4_faultAt_12 rfl rfl ?_
    refine J.getfield dX4_faultAt_13 jFX4_19 rfl rfl ?_
    refine J.iconst (1) dX4_faultAt_16 (by decide) ?_
    refine J.isub dX4_faultAt_17 ?_
    refine J.cs (as := [.int _, .int _, .int _]) (is := []) okX6_within jcX4_28 (mX6_within _ _ _) dX4_faultAt_18 rfl rfl rfl rfl rfl rfl (fun r9 B9 hq => ?_)
    obtain ⟨rfl, rfl⟩ := hq
    refine ⟨rfl, ?_⟩
    show J _ _ _ _ _ (.int _ :: _) (wS c lane len) _ _
    refine J.if_eq (tgt := 28) dX4_faultAt_21 (by decide) (fun c21 => ?_) (fun c21 => ?_)
    · refine J.iconst (2) dX4_faultAt_28 (by decide) ?_
      exact J.iret dX4_faultAt_29 rfl rfl (Nat.le_refl _) (Nat.le_refl _) ⟨congrArg (fun x => some (Value.int x)) (by first | exact ((if_neg c5).trans (if_neg ((jB_0 _).mp c21))).symm | exact ((if_neg c5).trans (if_pos (Decidable.not_not.mp (fun h => c21 ((jB_0 _).mpr h))))).symm), rfl⟩
    · refine J.iconst (0) dX4_faultAt_24 (by decide) ?_
      refine J.goto (tgt := 29) dX4_faultAt_25 (by decide) ?_
      exact J.iret dX4_faultAt_29 rfl rfl (Nat.le_refl _) (Nat.le_refl _) ⟨congrArg (fun x => some (Value.int x)) (by first | exact ((if_neg c5).trans (if_neg ((jB_0 _).mp c21))).symm | exact ((if_neg c5).trans (if_pos (Decidable.not_not.mp (fun h => c21 ((jB_0 _).mpr h))))).symm), rfl⟩
  · refine J.iconst (1) dX4_faultAt_8 (by decide) ?_
    exact J.iret dX4_faultAt_9 rfl rfl (Nat.le_refl _) (Nat.le_refl _) ⟨congrArg (fun x => some (Value.int x)) ((if_pos c5).symm), rfl⟩
set_option maxRecDepth 100000 in
set_option maxHeartbeats 4000000 in
theorem mX4_faultAs (c : Nat → Int32) (lane : Int32) (len : Nat) (l i : Int32) : J KX4_faultAs 2 (fun o B => o = some (.int (fas lane len l i)) ∧ B = wS c lane len) 0 [some (.ref 0), some (.int l), some (.int i)] [] (wS c lane len) 0 0 := by
  refine J.aload_n dX4_faultAs_0 rfl rfl ?_
  refine J.getfield dX4_faultAs_1 jFX4_15 rfl rfl ?_
  refine J.iconst (-1) dX4_faultAs_4 (by decide) ?_
  refine J.icmp_eq (tgt := 16) dX4_faultAs_5 (by decide) (fun c5 => ?_) (fun c5 => ?_)
  · refine J.aload_n dX4_faultAs_16 rfl rfl ?_
    refine J.iload_n dX4_faultAs_17 rfl rfl ?_
    refine J.cv (as := [.int _]) (is := [0, 1]) (o := 0) okX4_faultAt jcX4_32 (mX4_faultAt c lane len i) dX4_faultAs_18 rfl rfl rfl rfl rfl rfl rfl (fun r9 B9 hq => ?_)
    obtain ⟨rfl, rfl⟩ := hq
    refine ⟨rfl, ?_⟩
    show J _ _ _ _ _ (.int _ :: _) (wS c lane len) _ _
    refine J.goto (tgt := 25) dX4_faultAs_21 (by decide) ?_
    exact J.iret dX4_faultAs_25 rfl rfl (Nat.le_refl _) (Nat.le_refl _) ⟨congrArg (fun x => some (Value.int x)) (by first | exact (if_pos (Or.inl c5)).symm | exact (if_pos (Or.inr c13)).symm | exact (if_neg (fun h => h.elim c5 c13)).symm), rfl⟩
  · refine J.aload_n dX4_faultAs_8 rfl rfl ?_
    refine J.getfield dX4_faultAs_9 jFX4_15 rfl rfl ?_
    refine J.iload_n dX4_faultAs_12 rfl rfl ?_
    refine J.icmp_ne (tgt := 24) dX4_faultAs_13 (by decide) (fun c13 => ?_) (fun c13 => ?_)
    · refine J.iconst (3) dX4_faultAs_24 (by decide) ?_
      exact J.iret dX4_faultAs_25 rfl rfl (Nat.le_refl _) (Nat.le_refl _) ⟨congrArg (fun x => some (Value.int x)) (by first | exact (if_pos (Or.inl c5)).symm | exact (if_pos (Or.inr c13)).symm | exact (if_neg (fun h => h.elim c5 c13)).symm), rfl⟩
    · refine J.aload_n dX4_faultAs_16 rfl rfl ?_
      refine J.iload_n dX4_faultAs_17 rfl rfl ?_
      refine J.cv (as := [.int _]) (is := [0, 1]) (o := 0) okX4_faultAt jcX4_32 (mX4_faultAt c lane len i) dX4_faultAs_18 rfl rfl rfl rfl rfl rfl rfl (fun r9 B9 hq => ?_)
      obtain ⟨rfl, rfl⟩ := hq
      refine ⟨rfl, ?_⟩
      show J _ _ _ _ _ (.int _ :: _) (wS c lane len) _ _
      refine J.goto (tgt := 25) dX4_faultAs_21 (by decide) ?_
      exact J.iret dX4_faultAs_25 rfl rfl (Nat.le_refl _) (Nat.le_refl _) ⟨congrArg (fun x => some (Value.int x)) (by first | exact (if_pos (Or.inl c5)).symm | exact (if_pos (Or.inr c13)).symm | exact (if_neg (fun h => h.elim c5 c13)).symm), rfl⟩
set_option maxRecDepth 100000 in
set_option maxHeartbeats 4000000 in
theorem mX4_write (c : Nat → Int32) (lane : Int32) (len j : Nat) (v : Int32) (hj : j < len) (hl : len ≤ 40) : J KX4_write 2 (fun o B => o = none ∧ B = wS (upd c j (cnv lane v)) lane len) 0 [some (.ref 0), some (.int (nI j)), some (.int v)] [] (wS c lane len) 0 0 := by
  refine J.iload_n dX4_write_0 rfl rfl ?_
  refine J.iconst (0) dX4_write_1 (by decide) ?_
  refine J.aload_n dX4_write_2 rfl rfl ?_
  refine J.getfield dX4_write_3 jFX4_19 rfl rfl ?_
  refine J.iconst (1) dX4_write_6 (by decide) ?_
  refine J.isub dX4_write_7 ?_
  refine J.cs (as := [.int _, .int _, .int _]) (is := []) okX6_within jcX4_28 (mX6_within _ _ _) dX4_write_8 rfl rfl rfl rfl rfl rfl (fun r9 B9 hq => ?_)
  obtain ⟨rfl, rfl⟩ := hq
  refine ⟨rfl, ?_⟩
  show J _ _ _ _ _ (.int _ :: _) (wS c lane len) _ _
  refine J.if_eq (tgt := 46) dX4_write_11 (by decide) (fun c11 => absurd c11 (fun h => (jB_0 _).mp h (jin_ge (by omega) hj))) (fun c11 => ?_)
  refine J.aload_n dX4_write_14 rfl rfl ?_
  refine J.getfield dX4_write_15 jFX4_9 rfl rfl ?_
  refine J.iload_n dX4_write_18 rfl rfl ?_
  refine J.aload_n dX4_write_19 rfl rfl ?_
  refine J.getfield dX4_write_20 jFX4_15 rfl rfl ?_
  refine J.if_ne (tgt := 31) dX4_write_23 (by decide) (fun c23 => ?_) (fun c23 => ?_)
  · refine J.aload_n dX4_write_31 rfl rfl ?_
    refine J.getfield dX4_write_32 jFX4_15 rfl rfl ?_
    refine J.iconst (1) dX4_write_35 (by decide) ?_
    refine J.icmp_ne (tgt := 44) dX4_write_36 (by decide) (fun c36 => ?_) (fun c36 => ?_)
    · refine J.iload_n dX4_write_44 rfl rfl ?_
      refine J.iastoreN dX4_write_45 rfl (show j < 40 by omega) ?_
      try dsimp only [List.set, wN, wS, wT]
      exact J.vret dX4_write_46 rfl (Nat.le_refl _) (Nat.le_refl _) ⟨rfl, by (rw [show cnv lane v = _ from by (unfold cnv; first | exact if_pos c23 | exact (if_neg c23).trans (if_pos c36) | exact (if_neg c23).trans (if_neg c36))])⟩
    · refine J.iload_n dX4_write_39 rfl rfl ?_
      refine J.i2s dX4_write_40 ?_
      refine J.goto (tgt := 45) dX4_write_41 (by decide) ?_
      refine J.iastoreN dX4_write_45 rfl (show j < 40 by omega) ?_
      try dsimp only [List.set, wN, wS, wT]
      exact J.vret dX4_write_46 rfl (Nat.le_refl _) (Nat.le_refl _) ⟨rfl, by (rw [show cnv lane v = _ from by (unfold cnv; first | exact if_pos c23 | exact (if_neg c23).trans (if_pos c36) | exact (if_neg c23).trans (if_neg c36))])⟩
  · refine J.iload_n dX4_write_26 rfl rfl ?_
    refine J.i2b dX4_write_27 ?_
    refine J.goto (tgt := 45) dX4_write_28 (by decide) ?_
    refine J.iastoreN dX4_write_45 rfl (show j < 40 by omega) ?_
    try dsimp only [List.set, wN, wS, wT]
    exact J.vret dX4_write_46 rfl (Nat.le_refl _) (Nat.le_refl _) ⟨rfl, by (rw [show cnv lane v = _ from by (unfold cnv; first | exact if_pos c23 | exact (if_neg c23).trans (if_pos c36) | exact (if_neg c23).trans (if_neg c36))])⟩
theorem byt_eval : ∀ x, x < 128 → vp_nar .byte ((nI x).toInt8.toInt32) = nI x := by decide +kernel
set_option maxRecDepth 100000 in
set_option maxHeartbeats 4000000 in
theorem mX5_append (b : Nat → Nat) (len x : Nat) (hl : len < 160) (hx : x < 128) : J KX5_append 2 (fun o B => o = some (.int 1) ∧ B = wT (fun j => if j = len then x else b j) (len + 1)) 0 [some (.ref 0), some (.int (nI x))] [] (wT b len) 0 0 := by
  unfold wT
  refine J.aload_n dX5_append_0 rfl rfl ?_
  refine J.getfield dX5_append_1 jFX5_15 rfl rfl ?_
  refine J.aload_n dX5_append_4 rfl rfl ?_
  refine J.getfield dX5_append_5 jFX5_9 rfl rfl ?_
  refine J.arraylength dX5_append_8 rfl (by decide) ?_
  refine J.icmp_lt (tgt := 14) dX5_append_9 (by decide) (fun c9 => ?_) (fun c9 => absurd c9 (fun h => h ((nI_lti (b := 160) (by omega) (by decide)).mpr hl)))
  refine J.aload_n dX5_append_14 rfl rfl ?_
  refine J.getfield dX5_append_15 jFX5_9 rfl rfl ?_
  refine J.aload_n dX5_append_18 rfl rfl ?_
  refine J.getfield dX5_append_19 jFX5_15 rfl rfl ?_
  refine J.iload_n dX5_append_22 rfl rfl ?_
  refine J.i2b dX5_append_23 ?_
  refine J.bastoreN dX5_append_24 rfl hl ?_
  rw [byt_eval _ hx, upd_nI]
  try dsimp only [List.set, wN, wS, wT]
  refine J.aload_n dX5_append_25 rfl rfl ?_
  refine J.dup dX5_append_26 rfl ?_
  refine J.getfield dX5_append_27 jFX5_15 rfl rfl ?_
  refine J.iconst (1) dX5_append_30 (by decide) ?_
  refine J.iadd dX5_append_31 ?_
  rw [nI_1]
  refine J.putfield dX5_append_32 jFX5_15 jP5_1 rfl rfl rfl (Nat.le_of_ble_eq_true rfl) ?_
  try dsimp only [List.set, wN, wS, wT]
  refine J.iconst (1) dX5_append_35 (by decide) ?_
  exact J.iret dX5_append_36 rfl (by decide) (Nat.le_refl _) (Nat.le_refl _) ⟨rfl, rfl⟩
set_option maxRecDepth 100000 in
set_option maxHeartbeats 4000000 in
theorem mX5_append160 (b : Nat → Nat) (x : Nat) : J KX5_append 2 (fun o B => o = some (.int 0) ∧ B = wT b 160) 0 [some (.ref 0), some (.int (nI x))] [] (wT b 160) 0 0 := by
  refine J.aload_n dX5_append_0 rfl rfl ?_
  refine J.getfield dX5_append_1 jFX5_15 rfl rfl ?_
  refine J.aload_n dX5_append_4 rfl rfl ?_
  refine J.getfield dX5_append_5 jFX5_9 rfl rfl ?_
  refine J.arraylength dX5_append_8 rfl (by decide) ?_
  refine J.icmp_lt (tgt := 14) dX5_append_9 (by decide) (fun c9 => absurd c9 (show ¬ nI 160 < nI 160 from by decide)) (fun c9 => ?_)
  refine J.iconst (0) dX5_append_12 (by decide) ?_
  exact J.iret dX5_append_13 rfl (by decide) (Nat.le_refl _) (Nat.le_refl _) ⟨rfl, rfl⟩
/-- the byte at a place of the tape, -1 where there is none -/
def bya (b : Nat → Nat) (len p : Nat) : Int32 := if p < len then nI (b p) else -1
set_option maxRecDepth 100000 in
set_option maxHeartbeats 4000000 in
theorem mX5_byteAt (b : Nat → Nat) (len p : Nat) (hl : len ≤ 160) (hp : p < 1000) : J KX5_byteAt 2 (fun o B => o = some (.int (bya b len p)) ∧ B = wT b len) 0 [some (.ref 0), some (.int (nI p))] [] (wT b len) 0 0 := by
  refine J.iload_n dX5_byteAt_0 rfl rfl ?_
  refine J.if_lt (tgt := 30) dX5_byteAt_1 (by decide) (fun c1 => absurd c1 (nI_pos (by omega))) (fun c1 => ?_)
  refine J.iload_n dX5_byteAt_4 rfl rfl ?_
  refine J.aload_n dX5_byteAt_5 rfl rfl ?_
  refine J.getfield dX5_byteAt_6 jFX5_15 rfl rfl ?_
  refine J.icmp_ge (tgt := 30) dX5_byteAt_9 (by decide) (fun c9 => ?_) (fun c9 => ?_)
  · refine J.iconst (-1) dX5_byteAt_30 (by decide) ?_
    exact J.iret dX5_byteAt_31 rfl rfl (Nat.le_refl _) (Nat.le_refl _) ⟨congrArg (fun x => some (Value.int x)) (by first | exact (if_neg (by have := (nI_lei (a := len) (b := p) (by omega) (by omega)).mp c9; omega)).symm | exact (if_pos (by have := mt (nI_lei (a := len) (b := p) (by omega) (by omega)).mpr c9; omega)).symm), rfl⟩
  · refine J.iload_n dX5_byteAt_12 rfl rfl ?_
    refine J.aload_n dX5_byteAt_13 rfl rfl ?_
    refine J.getfield dX5_byteAt_14 jFX5_9 rfl rfl ?_
    refine J.arraylength dX5_byteAt_17 rfl (by decide) ?_
    refine J.icmp_ge (tgt := 30) dX5_byteAt_18 (by decide) (fun c18 => absurd c18 (nI_ge (b := 160) (by have := mt (nI_lei (a := len) (b := p) (by omega) (by omega)).mpr c9; omega) (by decide))) (fun c18 => ?_)
    refine J.aload_n dX5_byteAt_21 rfl rfl ?_
    refine J.getfield dX5_byteAt_22 jFX5_9 rfl rfl ?_
    refine J.iload_n dX5_byteAt_25 rfl rfl ?_
    refine J.baloadN dX5_byteAt_26 rfl (by have := mt (nI_lei (a := len) (b := p) (by omega) (by omega)).mpr c9; omega) ?_
    refine J.goto (tgt := 31) dX5_byteAt_27 (by decide) ?_
    exact J.iret dX5_byteAt_31 rfl rfl (Nat.le_refl _) (Nat.le_refl _) ⟨congrArg (fun x => some (Value.int x)) (by first | exact (if_neg (by have := (nI_lei (a := len) (b := p) (by omega) (by omega)).mp c9; omega)).symm | exact (if_pos (by have := mt (nI_lei (a := len) (b := p) (by omega) (by omega)).mpr c9; omega)).symm), rfl⟩
end
section
theorem dJ0_coder_7d493_0 : decode cJ0_coder_7d493 0 = .ok (.getstatic 38, 3) := by decide +kernel
theorem dJ0_coder_7d493_3 : decode cJ0_coder_7d493 3 = .ok (.ifCond .eq 10, 3) := by decide +kernel
theorem dJ0_coder_7d493_6 : decode cJ0_coder_7d493 6 = .ok (.aload_n 0, 1) := by decide +kernel
theorem dJ0_coder_7d493_7 : decode cJ0_coder_7d493 7 = .ok (.getfield 15, 3) := by decide +kernel
theorem dJ0_coder_7d493_10 : decode cJ0_coder_7d493 10 = .ok (.goto 4, 3) := by decide +kernel
theorem dJ0_coder_7d493_13 : decode cJ0_coder_7d493 13 = .ok (.iconst 1, 1) := by decide +kernel
theorem dJ0_coder_7d493_14 : decode cJ0_coder_7d493 14 = .ok (.ireturn, 1) := by decide +kernel
theorem dJ0_isLatin1_aae02_0 : decode cJ0_isLatin1_aae02 0 = .ok (.getstatic 38, 3) := by decide +kernel
theorem dJ0_isLatin1_aae02_3 : decode cJ0_isLatin1_aae02 3 = .ok (.ifCond .eq 14, 3) := by decide +kernel
theorem dJ0_isLatin1_aae02_6 : decode cJ0_isLatin1_aae02 6 = .ok (.aload_n 0, 1) := by decide +kernel
theorem dJ0_isLatin1_aae02_7 : decode cJ0_isLatin1_aae02 7 = .ok (.getfield 15, 3) := by decide +kernel
theorem dJ0_isLatin1_aae02_10 : decode cJ0_isLatin1_aae02 10 = .ok (.ifCond .ne 7, 3) := by decide +kernel
theorem dJ0_isLatin1_aae02_13 : decode cJ0_isLatin1_aae02 13 = .ok (.iconst 1, 1) := by decide +kernel
theorem dJ0_isLatin1_aae02_14 : decode cJ0_isLatin1_aae02 14 = .ok (.goto 4, 3) := by decide +kernel
theorem dJ0_isLatin1_aae02_17 : decode cJ0_isLatin1_aae02 17 = .ok (.iconst 0, 1) := by decide +kernel
theorem dJ0_isLatin1_aae02_18 : decode cJ0_isLatin1_aae02 18 = .ok (.ireturn, 1) := by decide +kernel
theorem dJ0_length_8abf5_0 : decode cJ0_length_8abf5 0 = .ok (.aload_n 0, 1) := by decide +kernel
theorem dJ0_length_8abf5_1 : decode cJ0_length_8abf5 1 = .ok (.getfield 9, 3) := by decide +kernel
theorem dJ0_length_8abf5_4 : decode cJ0_length_8abf5 4 = .ok (.arraylength, 1) := by decide +kernel
theorem dJ0_length_8abf5_5 : decode cJ0_length_8abf5 5 = .ok (.aload_n 0, 1) := by decide +kernel
theorem dJ0_length_8abf5_6 : decode cJ0_length_8abf5 6 = .ok (.invokevirtual 335, 3) := by decide +kernel
theorem dJ0_length_8abf5_9 : decode cJ0_length_8abf5 9 = .ok (.ishr, 1) := by decide +kernel
theorem dJ0_length_8abf5_10 : decode cJ0_length_8abf5 10 = .ok (.ireturn, 1) := by decide +kernel
theorem dJ3_checkIndex_8e157_0 : decode cJ3_checkIndex_8e157 0 = .ok (.iload_n 0, 1) := by decide +kernel
theorem dJ3_checkIndex_8e157_1 : decode cJ3_checkIndex_8e157 1 = .ok (.ifCond .lt 8, 3) := by decide +kernel
theorem dJ3_checkIndex_8e157_4 : decode cJ3_checkIndex_8e157 4 = .ok (.iload_n 0, 1) := by decide +kernel
theorem dJ3_checkIndex_8e157_5 : decode cJ3_checkIndex_8e157 5 = .ok (.iload_n 1, 1) := by decide +kernel
theorem dJ3_checkIndex_8e157_6 : decode cJ3_checkIndex_8e157 6 = .ok (.if_icmp .lt 10, 3) := by decide +kernel
theorem dJ3_checkIndex_8e157_9 : decode cJ3_checkIndex_8e157 9 = .ok (.aload_n 2, 1) := by decide +kernel
theorem dJ3_checkIndex_8e157_10 : decode cJ3_checkIndex_8e157 10 = .ok (.iload_n 0, 1) := by decide +kernel
theorem dJ3_checkIndex_8e157_11 : decode cJ3_checkIndex_8e157 11 = .ok (.iload_n 1, 1) := by decide +kernel
theorem dJ3_checkIndex_8e157_12 : decode cJ3_checkIndex_8e157 12 = .ok (.invokestatic 95, 3) := by decide +kernel
theorem dJ3_checkIndex_8e157_15 : decode cJ3_checkIndex_8e157 15 = .ok (.athrow, 1) := by decide +kernel
theorem dJ3_checkIndex_8e157_16 : decode cJ3_checkIndex_8e157 16 = .ok (.iload_n 0, 1) := by decide +kernel
theorem dJ3_checkIndex_8e157_17 : decode cJ3_checkIndex_8e157 17 = .ok (.ireturn, 1) := by decide +kernel
theorem dJ0_checkIndex_df160_0 : decode cJ0_checkIndex_df160 0 = .ok (.iload_n 0, 1) := by decide +kernel
theorem dJ0_checkIndex_df160_1 : decode cJ0_checkIndex_df160 1 = .ok (.iload_n 1, 1) := by decide +kernel
theorem dJ0_checkIndex_df160_2 : decode cJ0_checkIndex_df160 2 = .ok (.getstatic 1053, 3) := by decide +kernel
theorem dJ0_checkIndex_df160_5 : decode cJ0_checkIndex_df160 5 = .ok (.invokestatic 1059, 3) := by decide +kernel
theorem dJ0_checkIndex_df160_8 : decode cJ0_checkIndex_df160 8 = .ok (.pop, 1) := by decide +kernel
theorem dJ0_checkIndex_df160_9 : decode cJ0_checkIndex_df160 9 = .ok (.return_, 1) := by decide +kernel
theorem dJ1_charAt_3b067_0 : decode cJ1_charAt_3b067 0 = .ok (.iload_n 1, 1) := by decide +kernel
theorem dJ1_charAt_3b067_1 : decode cJ1_charAt_3b067 1 = .ok (.aload_n 0, 1) := by decide +kernel
theorem dJ1_charAt_3b067_2 : decode cJ1_charAt_3b067 2 = .ok (.arraylength, 1) := by decide +kernel
theorem dJ1_charAt_3b067_3 : decode cJ1_charAt_3b067 3 = .ok (.invokestatic 9, 3) := by decide +kernel
theorem dJ1_charAt_3b067_6 : decode cJ1_charAt_3b067 6 = .ok (.aload_n 0, 1) := by decide +kernel
theorem dJ1_charAt_3b067_7 : decode cJ1_charAt_3b067 7 = .ok (.iload_n 1, 1) := by decide +kernel
theorem dJ1_charAt_3b067_8 : decode cJ1_charAt_3b067 8 = .ok (.baload, 1) := by decide +kernel
theorem dJ1_charAt_3b067_9 : decode cJ1_charAt_3b067 9 = .ok (.sipush 255, 3) := by decide +kernel
theorem dJ1_charAt_3b067_12 : decode cJ1_charAt_3b067 12 = .ok (.iand, 1) := by decide +kernel
theorem dJ1_charAt_3b067_13 : decode cJ1_charAt_3b067 13 = .ok (.i2c, 1) := by decide +kernel
theorem dJ1_charAt_3b067_14 : decode cJ1_charAt_3b067 14 = .ok (.ireturn, 1) := by decide +kernel
theorem dJ0_charAt_5068e_0 : decode cJ0_charAt_5068e 0 = .ok (.aload_n 0, 1) := by decide +kernel
theorem dJ0_charAt_5068e_1 : decode cJ0_charAt_5068e 1 = .ok (.invokevirtual 492, 3) := by decide +kernel
theorem dJ0_charAt_5068e_4 : decode cJ0_charAt_5068e 4 = .ok (.ifCond .eq 12, 3) := by decide +kernel
theorem dJ0_charAt_5068e_7 : decode cJ0_charAt_5068e 7 = .ok (.aload_n 0, 1) := by decide +kernel
theorem dJ0_charAt_5068e_8 : decode cJ0_charAt_5068e 8 = .ok (.getfield 9, 3) := by decide +kernel
theorem dJ0_charAt_5068e_11 : decode cJ0_charAt_5068e 11 = .ok (.iload_n 1, 1) := by decide +kernel
theorem dJ0_charAt_5068e_12 : decode cJ0_charAt_5068e 12 = .ok (.invokestatic 495, 3) := by decide +kernel
theorem dJ0_charAt_5068e_15 : decode cJ0_charAt_5068e 15 = .ok (.ireturn, 1) := by decide +kernel
theorem dJ0_charAt_5068e_16 : decode cJ0_charAt_5068e 16 = .ok (.aload_n 0, 1) := by decide +kernel
theorem dJ0_charAt_5068e_17 : decode cJ0_charAt_5068e 17 = .ok (.getfield 9, 3) := by decide +kernel
theorem dJ0_charAt_5068e_20 : decode cJ0_charAt_5068e 20 = .ok (.iload_n 1, 1) := by decide +kernel
theorem dJ0_charAt_5068e_21 : decode cJ0_charAt_5068e 21 = .ok (.invokestatic 498, 3) := by decide +kernel
theorem dJ0_charAt_5068e_24 : decode cJ0_charAt_5068e 24 = .ok (.ireturn, 1) := by decide +kernel
set_option maxRecDepth 100000 in
theorem jsJ0_335 : jcVS RJ0 335 KJ0_coder_7d493 0 := ⟨jt 330 rfl rfl, jt 331 rfl rfl, jt 332 rfl rfl, by decide +kernel, rfl⟩
set_option maxRecDepth 100000 in
theorem jsJ0_492 : jcVS RJ0 492 KJ0_isLatin1_aae02 0 := ⟨jt 340 rfl rfl, jt 341 rfl rfl, jt 342 rfl rfl, by decide +kernel, rfl⟩
set_option maxRecDepth 100000 in
theorem jsX1_157 : jcVS RX1 157 KJ0_length_8abf5 0 := ⟨jt 326 rfl rfl, jt 327 rfl rfl, jt 328 rfl rfl, by decide +kernel, rfl⟩
set_option maxRecDepth 100000 in
theorem jsX1_161 : jcVS RX1 161 KJ0_charAt_5068e 1 := ⟨jt 336 rfl rfl, jt 337 rfl rfl, jt 338 rfl rfl, by decide +kernel, rfl⟩
set_option maxRecDepth 100000 in
set_option maxHeartbeats 4000000 in
theorem mJ0_coder (j : Nat) (hj : j < 11) : J KJ0_coder_7d493 0 (fun o B => o = some (.int 0) ∧ B = []) 0 [some (.ref (1000 + j))] [] [] 0 0 := by
  refine J.getsC dJ0_coder_7d493_0 (jt 334 rfl rfl) ?_
  refine J.if_eq (tgt := 13) dJ0_coder_7d493_3 (by decide) (fun c3 => absurd c3 (by decide)) (fun c3 => ?_)
  refine J.aload_n dJ0_coder_7d493_6 rfl rfl ?_
  refine J.getfC dJ0_coder_7d493_7 hj (jt 1210 rfl rfl) ?_
  refine J.goto (tgt := 14) dJ0_coder_7d493_10 (by decide) ?_
  exact J.iret dJ0_coder_7d493_14 rfl (by decide) (Nat.le_refl _) (Nat.le_refl _) ⟨rfl, rfl⟩
set_option maxRecDepth 100000 in
set_option maxHeartbeats 4000000 in
theorem mJ0_isLatin1 (j : Nat) (hj : j < 11) : J KJ0_isLatin1_aae02 0 (fun o B => o = some (.int 1) ∧ B = []) 0 [some (.ref (1000 + j))] [] [] 0 0 := by
  refine J.getsC dJ0_isLatin1_aae02_0 (jt 334 rfl rfl) ?_
  refine J.if_eq (tgt := 17) dJ0_isLatin1_aae02_3 (by decide) (fun c3 => absurd c3 (by decide)) (fun c3 => ?_)
  refine J.aload_n dJ0_isLatin1_aae02_6 rfl rfl ?_
  refine J.getfC dJ0_isLatin1_aae02_7 hj (jt 1210 rfl rfl) ?_
  refine J.if_ne (tgt := 17) dJ0_isLatin1_aae02_10 (by decide) (fun c10 => absurd c10 (fun h => h rfl)) (fun c10 => ?_)
  refine J.iconst (1) dJ0_isLatin1_aae02_13 (by decide) ?_
  refine J.goto (tgt := 18) dJ0_isLatin1_aae02_14 (by decide) ?_
  exact J.iret dJ0_isLatin1_aae02_18 rfl (by decide) (Nat.le_refl _) (Nat.le_refl _) ⟨rfl, rfl⟩
theorem slen_eval : ∀ j, j < 11 → Int32.ofNat (jlen.getD j 0) >>> ((0 : Int32) &&& 31) = nI (jlen.getD j 0) := by decide +kernel
theorem slen_lt : ∀ j, j < 11 → jlen.getD j 0 < 8 := by decide +kernel
theorem schr_eval : ∀ j, j < 11 → ∀ i, i < jlen.getD j 0 → ((jbyt.getD j []).getD i 0 &&& 255).toUInt32.toUInt16.toUInt32.toInt32 = (jbyt.getD j []).getD i 0 := by decide +kernel
theorem schr_nar : ∀ j, j < 11 → ∀ i, i < jlen.getD j 0 → narrow .char (.int ((jbyt.getD j []).getD i 0)) = .int ((jbyt.getD j []).getD i 0) := by decide +kernel
set_option maxRecDepth 100000 in
set_option maxHeartbeats 4000000 in
theorem mJ0_length (j : Nat) (hj : j < 11) : J KJ0_length_8abf5 0 (fun o B => o = some (.int (nI (jlen.getD j 0))) ∧ B = []) 0 [some (.ref (1000 + j))] [] [] 0 0 := by
  refine J.aload_n dJ0_length_8abf5_0 rfl rfl ?_
  refine J.getfS dJ0_length_8abf5_1 hj (jt 1209 rfl rfl) ?_
  refine J.alenS dJ0_length_8abf5_4 hj ?_
  refine J.aload_n dJ0_length_8abf5_5 rfl rfl ?_
  refine J.cvS (as := []) okJ0_coder_7d493 jsJ0_335 (mJ0_coder j hj) dJ0_length_8abf5_6 hj rfl rfl rfl rfl (fun r9 B9 hq => ?_)
  obtain ⟨rfl, rfl⟩ := hq
  refine ⟨rfl, ?_⟩
  show J _ _ _ _ _ (.int _ :: .int _ :: _) [] _ _
  refine J.ishr dJ0_length_8abf5_9 ?_
  exact J.iret dJ0_length_8abf5_10 rfl rfl (Nat.le_refl _) (Nat.le_refl _) ⟨congrArg (fun x => some (Value.int x)) (slen_eval j hj), rfl⟩
set_option maxRecDepth 100000 in
set_option maxHeartbeats 4000000 in
theorem mJ3_checkIndex (i n : Nat) (v : Value) (hi : i < n) (hn : n < 1000) : J KJ3_checkIndex_8e157 0 (fun o B => o = some (.int (nI i)) ∧ B = []) 0 [some (.int (nI i)), some (.int (nI n)), some v] [] [] 0 0 := by
  refine J.iload_n dJ3_checkIndex_8e157_0 rfl rfl ?_
  refine J.if_lt (tgt := 9) dJ3_checkIndex_8e157_1 (by decide) (fun c1 => absurd c1 (nI_pos (by omega))) (fun c1 => ?_)
  refine J.iload_n dJ3_checkIndex_8e157_4 rfl rfl ?_
  refine J.iload_n dJ3_checkIndex_8e157_5 rfl rfl ?_
  refine J.icmp_lt (tgt := 16) dJ3_checkIndex_8e157_6 (by decide) (fun c6 => ?_) (fun c6 => absurd c6 (fun h => h ((nI_lti (by omega) (by omega)).mpr hi)))
  refine J.iload_n dJ3_checkIndex_8e157_16 rfl rfl ?_
  exact J.iret dJ3_checkIndex_8e157_17 rfl rfl (Nat.le_refl _) (Nat.le_refl _) ⟨rfl, rfl⟩
set_option maxRecDepth 100000 in
set_option maxHeartbeats 4000000 in
theorem mJ0_checkIndex (i n : Nat) (hi : i < n) (hn : n < 1000) : J KJ0_checkIndex_df160 0 (fun o B => o = none ∧ B = []) 0 [some (.int (nI i)), some (.int (nI n))] [] [] 0 0 := by
  refine J.iload_n dJ0_checkIndex_df160_0 rfl rfl ?_
  refine J.iload_n dJ0_checkIndex_df160_1 rfl rfl ?_
  refine J.getsF dJ0_checkIndex_df160_2 (jt 350 rfl rfl) ?_ ?_
  · refine J.cs (as := [.int _, .int _, .null]) (is := []) okJ3_checkIndex_8e157 jcJ0_1059 (mJ3_checkIndex i n .null hi hn) dJ0_checkIndex_df160_5 rfl rfl rfl rfl rfl rfl (fun r9 B9 hq => ?_)
    obtain ⟨rfl, rfl⟩ := hq
    refine ⟨rfl, ?_⟩
    show J _ _ _ _ _ (.int _ :: _) [] _ _
    refine J.pop dJ0_checkIndex_df160_8 rfl ?_
    exact J.vret dJ0_checkIndex_df160_9 rfl (Nat.le_refl _) (Nat.le_refl _) ⟨rfl, rfl⟩
  · refine J.cs (as := [.int _, .int _, (.ref 3000)]) (is := []) okJ3_checkIndex_8e157 jcJ0_1059 (mJ3_checkIndex i n (.ref 3000) hi hn) dJ0_checkIndex_df160_5 rfl rfl rfl rfl rfl rfl (fun r9 B9 hq => ?_)
    obtain ⟨rfl, rfl⟩ := hq
    refine ⟨rfl, ?_⟩
    show J _ _ _ _ _ (.int _ :: _) [] _ _
    refine J.pop dJ0_checkIndex_df160_8 rfl ?_
    exact J.vret dJ0_checkIndex_df160_9 rfl (Nat.le_refl _) (Nat.le_refl _) ⟨rfl, rfl⟩
set_option maxRecDepth 100000 in
set_option maxHeartbeats 4000000 in
theorem mJ1_charAt (j i : Nat) (hj : j < 11) (hi : i < jlen.getD j 0) : J KJ1_charAt_3b067 0 (fun o B => o = some (.int ((jbyt.getD j []).getD i 0)) ∧ B = []) 0 [some (.ref (2000 + j)), some (.int (nI i))] [] [] 0 0 := by
  refine J.iload_n dJ1_charAt_3b067_0 rfl rfl ?_
  refine J.aload_n dJ1_charAt_3b067_1 rfl rfl ?_
  refine J.alenS dJ1_charAt_3b067_2 hj ?_
  refine J.cs (as := [.int (nI i), .int (nI (jlen.getD j 0))]) (is := []) okJ0_checkIndex_df160 jcJ1_9 (mJ0_checkIndex i (jlen.getD j 0) hi (by have := slen_lt j hj; omega)) dJ1_charAt_3b067_3 rfl rfl rfl rfl rfl rfl (fun r9 B9 hq => ?_)
  obtain ⟨rfl, rfl⟩ := hq
  refine ⟨rfl, ?_⟩
  show J _ _ _ _ _ [] [] _ _
  refine J.aload_n dJ1_charAt_3b067_6 rfl rfl ?_
  refine J.iload_n dJ1_charAt_3b067_7 rfl rfl ?_
  refine J.baldS dJ1_charAt_3b067_8 hj (vp_in_nI hi (by have := slen_lt j hj; omega)) ?_
  rw [nI_clamp (by have := slen_lt j hj; omega)]
  refine J.sipush (255) dJ1_charAt_3b067_9 (by decide) ?_
  refine J.iand dJ1_charAt_3b067_12 ?_
  refine J.i2c dJ1_charAt_3b067_13 ?_
  exact J.iret dJ1_charAt_3b067_14 rfl (by rw [schr_eval j hj i hi]; exact schr_nar j hj i hi) (Nat.le_refl _) (Nat.le_refl _) ⟨congrArg (fun x => some (Value.int x)) (schr_eval j hj i hi), rfl⟩
set_option maxRecDepth 100000 in
set_option maxHeartbeats 4000000 in
theorem mJ0_charAt (j i : Nat) (hj : j < 11) (hi : i < jlen.getD j 0) : J KJ0_charAt_5068e 0 (fun o B => o = some (.int ((jbyt.getD j []).getD i 0)) ∧ B = []) 0 [some (.ref (1000 + j)), some (.int (nI i))] [] [] 0 0 := by
  refine J.aload_n dJ0_charAt_5068e_0 rfl rfl ?_
  refine J.cvS (as := []) okJ0_isLatin1_aae02 jsJ0_492 (mJ0_isLatin1 j hj) dJ0_charAt_5068e_1 hj rfl rfl rfl rfl (fun r9 B9 hq => ?_)
  obtain ⟨rfl, rfl⟩ := hq
  refine ⟨rfl, ?_⟩
  show J _ _ _ _ _ (.int _ :: _) [] _ _
  refine J.if_eq (tgt := 16) dJ0_charAt_5068e_4 (by decide) (fun c4 => absurd c4 (by decide)) (fun c4 => ?_)
  refine J.aload_n dJ0_charAt_5068e_7 rfl rfl ?_
  refine J.getfS dJ0_charAt_5068e_8 hj (jt 1209 rfl rfl) ?_
  refine J.iload_n dJ0_charAt_5068e_11 rfl rfl ?_
  refine J.cs (as := [.ref (2000 + j), .int (nI i)]) (is := []) (rest := []) okJ1_charAt_3b067 jcJ0_495 (mJ1_charAt j i hj hi) dJ0_charAt_5068e_12 rfl (by simp [jg, jr]; omega) rfl rfl rfl rfl (fun r9 B9 hq => ?_)
  obtain ⟨rfl, rfl⟩ := hq
  refine ⟨rfl, ?_⟩
  show J _ _ _ _ _ (.int _ :: _) [] _ _
  exact J.iret dJ0_charAt_5068e_15 rfl (schr_nar j hj i hi) (Nat.le_refl _) (Nat.le_refl _) ⟨rfl, rfl⟩
end
section
theorem dX1_sortOf_0 : decode cX1_sortOf 0 = .ok (.iload_n 0, 1) := by decide +kernel
theorem dX1_sortOf_1 : decode cX1_sortOf 1 = .ok (.ifCond .ge 5, 3) := by decide +kernel
theorem dX1_sortOf_4 : decode cX1_sortOf 4 = .ok (.iconst 0, 1) := by decide +kernel
theorem dX1_sortOf_5 : decode cX1_sortOf 5 = .ok (.ireturn, 1) := by decide +kernel
theorem dX1_sortOf_6 : decode cX1_sortOf 6 = .ok (.iload_n 0, 1) := by decide +kernel
theorem dX1_sortOf_7 : decode cX1_sortOf 7 = .ok (.bipush 97, 2) := by decide +kernel
theorem dX1_sortOf_9 : decode cX1_sortOf 9 = .ok (.if_icmp .lt 11, 3) := by decide +kernel
theorem dX1_sortOf_12 : decode cX1_sortOf 12 = .ok (.iload_n 0, 1) := by decide +kernel
theorem dX1_sortOf_13 : decode cX1_sortOf 13 = .ok (.bipush 122, 2) := by decide +kernel
theorem dX1_sortOf_15 : decode cX1_sortOf 15 = .ok (.if_icmp .gt 5, 3) := by decide +kernel
theorem dX1_sortOf_18 : decode cX1_sortOf 18 = .ok (.iconst 1, 1) := by decide +kernel
theorem dX1_sortOf_19 : decode cX1_sortOf 19 = .ok (.ireturn, 1) := by decide +kernel
theorem dX1_sortOf_20 : decode cX1_sortOf 20 = .ok (.iload_n 0, 1) := by decide +kernel
theorem dX1_sortOf_21 : decode cX1_sortOf 21 = .ok (.bipush 48, 2) := by decide +kernel
theorem dX1_sortOf_23 : decode cX1_sortOf 23 = .ok (.if_icmp .lt 11, 3) := by decide +kernel
theorem dX1_sortOf_26 : decode cX1_sortOf 26 = .ok (.iload_n 0, 1) := by decide +kernel
theorem dX1_sortOf_27 : decode cX1_sortOf 27 = .ok (.bipush 57, 2) := by decide +kernel
theorem dX1_sortOf_29 : decode cX1_sortOf 29 = .ok (.if_icmp .gt 5, 3) := by decide +kernel
theorem dX1_sortOf_32 : decode cX1_sortOf 32 = .ok (.iconst 2, 1) := by decide +kernel
theorem dX1_sortOf_33 : decode cX1_sortOf 33 = .ok (.ireturn, 1) := by decide +kernel
theorem dX1_sortOf_34 : decode cX1_sortOf 34 = .ok (.iload_n 0, 1) := by decide +kernel
theorem dX1_sortOf_35 : decode cX1_sortOf 35 = .ok (.bipush 59, 2) := by decide +kernel
theorem dX1_sortOf_37 : decode cX1_sortOf 37 = .ok (.if_icmp .ne 7, 3) := by decide +kernel
theorem dX1_sortOf_40 : decode cX1_sortOf 40 = .ok (.iconst 3, 1) := by decide +kernel
theorem dX1_sortOf_41 : decode cX1_sortOf 41 = .ok (.goto 4, 3) := by decide +kernel
theorem dX1_sortOf_44 : decode cX1_sortOf 44 = .ok (.iconst 4, 1) := by decide +kernel
theorem dX1_sortOf_45 : decode cX1_sortOf 45 = .ok (.ireturn, 1) := by decide +kernel
theorem dX1_fail_0 : decode cX1_fail 0 = .ok (.aload_n 0, 1) := by decide +kernel
theorem dX1_fail_1 : decode cX1_fail 1 = .ok (.iload_n 1, 1) := by decide +kernel
theorem dX1_fail_2 : decode cX1_fail 2 = .ok (.putfield 25, 3) := by decide +kernel
theorem dX1_fail_5 : decode cX1_fail 5 = .ok (.aload_n 0, 1) := by decide +kernel
theorem dX1_fail_6 : decode cX1_fail 6 = .ok (.iload_n 2, 1) := by decide +kernel
theorem dX1_fail_7 : decode cX1_fail 7 = .ok (.putfield 68, 3) := by decide +kernel
theorem dX1_fail_10 : decode cX1_fail 10 = .ok (.iconst 0, 1) := by decide +kernel
theorem dX1_fail_11 : decode cX1_fail 11 = .ok (.ireturn, 1) := by decide +kernel
theorem dX1_nextToken_0 : decode cX1_nextToken 0 = .ok (.aload_n 0, 1) := by decide +kernel
theorem dX1_nextToken_1 : decode cX1_nextToken 1 = .ok (.aload_n 0, 1) := by decide +kernel
theorem dX1_nextToken_2 : decode cX1_nextToken 2 = .ok (.getfield 32, 3) := by decide +kernel
theorem dX1_nextToken_5 : decode cX1_nextToken 5 = .ok (.putfield 107, 3) := by decide +kernel
theorem dX1_nextToken_8 : decode cX1_nextToken 8 = .ok (.aload_n 0, 1) := by decide +kernel
theorem dX1_nextToken_9 : decode cX1_nextToken 9 = .ok (.getfield 107, 3) := by decide +kernel
theorem dX1_nextToken_12 : decode cX1_nextToken 12 = .ok (.aload_n 0, 1) := by decide +kernel
theorem dX1_nextToken_13 : decode cX1_nextToken 13 = .ok (.getfield 12, 3) := by decide +kernel
theorem dX1_nextToken_16 : decode cX1_nextToken 16 = .ok (.getfield 58, 3) := by decide +kernel
theorem dX1_nextToken_19 : decode cX1_nextToken 19 = .ok (.if_icmp .ge 32, 3) := by decide +kernel
theorem dX1_nextToken_22 : decode cX1_nextToken 22 = .ok (.aload_n 0, 1) := by decide +kernel
theorem dX1_nextToken_23 : decode cX1_nextToken 23 = .ok (.getfield 12, 3) := by decide +kernel
theorem dX1_nextToken_26 : decode cX1_nextToken 26 = .ok (.aload_n 0, 1) := by decide +kernel
theorem dX1_nextToken_27 : decode cX1_nextToken 27 = .ok (.getfield 107, 3) := by decide +kernel
theorem dX1_nextToken_30 : decode cX1_nextToken 30 = .ok (.invokevirtual 139, 3) := by decide +kernel
theorem dX1_nextToken_33 : decode cX1_nextToken 33 = .ok (.bipush 32, 2) := by decide +kernel
theorem dX1_nextToken_35 : decode cX1_nextToken 35 = .ok (.if_icmp .ne 16, 3) := by decide +kernel
theorem dX1_nextToken_38 : decode cX1_nextToken 38 = .ok (.aload_n 0, 1) := by decide +kernel
theorem dX1_nextToken_39 : decode cX1_nextToken 39 = .ok (.dup, 1) := by decide +kernel
theorem dX1_nextToken_40 : decode cX1_nextToken 40 = .ok (.getfield 107, 3) := by decide +kernel
theorem dX1_nextToken_43 : decode cX1_nextToken 43 = .ok (.iconst 1, 1) := by decide +kernel
theorem dX1_nextToken_44 : decode cX1_nextToken 44 = .ok (.iadd, 1) := by decide +kernel
theorem dX1_nextToken_45 : decode cX1_nextToken 45 = .ok (.putfield 107, 3) := by decide +kernel
theorem dX1_nextToken_48 : decode cX1_nextToken 48 = .ok (.goto (-40), 3) := by decide +kernel
theorem dX1_nextToken_51 : decode cX1_nextToken 51 = .ok (.aload_n 0, 1) := by decide +kernel
theorem dX1_nextToken_52 : decode cX1_nextToken 52 = .ok (.aload_n 0, 1) := by decide +kernel
theorem dX1_nextToken_53 : decode cX1_nextToken 53 = .ok (.getfield 107, 3) := by decide +kernel
theorem dX1_nextToken_56 : decode cX1_nextToken 56 = .ok (.putfield 32, 3) := by decide +kernel
theorem dX1_nextToken_59 : decode cX1_nextToken 59 = .ok (.aload_n 0, 1) := by decide +kernel
theorem dX1_nextToken_60 : decode cX1_nextToken 60 = .ok (.aload_n 0, 1) := by decide +kernel
theorem dX1_nextToken_61 : decode cX1_nextToken 61 = .ok (.getfield 12, 3) := by decide +kernel
theorem dX1_nextToken_64 : decode cX1_nextToken 64 = .ok (.aload_n 0, 1) := by decide +kernel
theorem dX1_nextToken_65 : decode cX1_nextToken 65 = .ok (.getfield 107, 3) := by decide +kernel
theorem dX1_nextToken_68 : decode cX1_nextToken 68 = .ok (.invokevirtual 139, 3) := by decide +kernel
theorem dX1_nextToken_71 : decode cX1_nextToken 71 = .ok (.invokestatic 165, 3) := by decide +kernel
theorem dX1_nextToken_74 : decode cX1_nextToken 74 = .ok (.putfield 49, 3) := by decide +kernel
theorem dX1_nextToken_77 : decode cX1_nextToken 77 = .ok (.aload_n 0, 1) := by decide +kernel
theorem dX1_nextToken_78 : decode cX1_nextToken 78 = .ok (.getfield 49, 3) := by decide +kernel
theorem dX1_nextToken_81 : decode cX1_nextToken 81 = .ok (.iconst 3, 1) := by decide +kernel
theorem dX1_nextToken_82 : decode cX1_nextToken 82 = .ok (.if_icmp .ne 16, 3) := by decide +kernel
theorem dX1_nextToken_85 : decode cX1_nextToken 85 = .ok (.aload_n 0, 1) := by decide +kernel
theorem dX1_nextToken_86 : decode cX1_nextToken 86 = .ok (.dup, 1) := by decide +kernel
theorem dX1_nextToken_87 : decode cX1_nextToken 87 = .ok (.getfield 32, 3) := by decide +kernel
theorem dX1_nextToken_90 : decode cX1_nextToken 90 = .ok (.iconst 1, 1) := by decide +kernel
theorem dX1_nextToken_91 : decode cX1_nextToken 91 = .ok (.iadd, 1) := by decide +kernel
theorem dX1_nextToken_92 : decode cX1_nextToken 92 = .ok (.putfield 32, 3) := by decide +kernel
theorem dX1_nextToken_95 : decode cX1_nextToken 95 = .ok (.goto 67, 3) := by decide +kernel
theorem dX1_nextToken_98 : decode cX1_nextToken 98 = .ok (.aload_n 0, 1) := by decide +kernel
theorem dX1_nextToken_99 : decode cX1_nextToken 99 = .ok (.getfield 49, 3) := by decide +kernel
theorem dX1_nextToken_102 : decode cX1_nextToken 102 = .ok (.iconst 1, 1) := by decide +kernel
theorem dX1_nextToken_103 : decode cX1_nextToken 103 = .ok (.if_icmp .eq 11, 3) := by decide +kernel
theorem dX1_nextToken_106 : decode cX1_nextToken 106 = .ok (.aload_n 0, 1) := by decide +kernel
theorem dX1_nextToken_107 : decode cX1_nextToken 107 = .ok (.getfield 49, 3) := by decide +kernel
theorem dX1_nextToken_110 : decode cX1_nextToken 110 = .ok (.iconst 2, 1) := by decide +kernel
theorem dX1_nextToken_111 : decode cX1_nextToken 111 = .ok (.if_icmp .ne 51, 3) := by decide +kernel
theorem dX1_nextToken_114 : decode cX1_nextToken 114 = .ok (.aload_n 0, 1) := by decide +kernel
theorem dX1_nextToken_115 : decode cX1_nextToken 115 = .ok (.getfield 32, 3) := by decide +kernel
theorem dX1_nextToken_118 : decode cX1_nextToken 118 = .ok (.aload_n 0, 1) := by decide +kernel
theorem dX1_nextToken_119 : decode cX1_nextToken 119 = .ok (.getfield 12, 3) := by decide +kernel
theorem dX1_nextToken_122 : decode cX1_nextToken 122 = .ok (.getfield 58, 3) := by decide +kernel
theorem dX1_nextToken_125 : decode cX1_nextToken 125 = .ok (.if_icmp .ge 37, 3) := by decide +kernel
theorem dX1_nextToken_128 : decode cX1_nextToken 128 = .ok (.aload_n 0, 1) := by decide +kernel
theorem dX1_nextToken_129 : decode cX1_nextToken 129 = .ok (.getfield 12, 3) := by decide +kernel
theorem dX1_nextToken_132 : decode cX1_nextToken 132 = .ok (.aload_n 0, 1) := by decide +kernel
theorem dX1_nextToken_133 : decode cX1_nextToken 133 = .ok (.getfield 32, 3) := by decide +kernel
theorem dX1_nextToken_136 : decode cX1_nextToken 136 = .ok (.invokevirtual 139, 3) := by decide +kernel
theorem dX1_nextToken_139 : decode cX1_nextToken 139 = .ok (.invokestatic 165, 3) := by decide +kernel
theorem dX1_nextToken_142 : decode cX1_nextToken 142 = .ok (.aload_n 0, 1) := by decide +kernel
theorem dX1_nextToken_143 : decode cX1_nextToken 143 = .ok (.getfield 49, 3) := by decide +kernel
theorem dX1_nextToken_146 : decode cX1_nextToken 146 = .ok (.if_icmp .ne 16, 3) := by decide +kernel
theorem dX1_nextToken_149 : decode cX1_nextToken 149 = .ok (.aload_n 0, 1) := by decide +kernel
theorem dX1_nextToken_150 : decode cX1_nextToken 150 = .ok (.dup, 1) := by decide +kernel
theorem dX1_nextToken_151 : decode cX1_nextToken 151 = .ok (.getfield 32, 3) := by decide +kernel
theorem dX1_nextToken_154 : decode cX1_nextToken 154 = .ok (.iconst 1, 1) := by decide +kernel
theorem dX1_nextToken_155 : decode cX1_nextToken 155 = .ok (.iadd, 1) := by decide +kernel
theorem dX1_nextToken_156 : decode cX1_nextToken 156 = .ok (.putfield 32, 3) := by decide +kernel
theorem dX1_nextToken_159 : decode cX1_nextToken 159 = .ok (.goto (-45), 3) := by decide +kernel
theorem dX1_nextToken_162 : decode cX1_nextToken 162 = .ok (.aload_n 0, 1) := by decide +kernel
theorem dX1_nextToken_163 : decode cX1_nextToken 163 = .ok (.getfield 49, 3) := by decide +kernel
theorem dX1_nextToken_166 : decode cX1_nextToken 166 = .ok (.iconst 2, 1) := by decide +kernel
theorem dX1_nextToken_167 : decode cX1_nextToken 167 = .ok (.if_icmp .ne 20, 3) := by decide +kernel
theorem dX1_nextToken_170 : decode cX1_nextToken 170 = .ok (.aload_n 0, 1) := by decide +kernel
theorem dX1_nextToken_171 : decode cX1_nextToken 171 = .ok (.getfield 32, 3) := by decide +kernel
theorem dX1_nextToken_174 : decode cX1_nextToken 174 = .ok (.aload_n 0, 1) := by decide +kernel
theorem dX1_nextToken_175 : decode cX1_nextToken 175 = .ok (.getfield 107, 3) := by decide +kernel
theorem dX1_nextToken_178 : decode cX1_nextToken 178 = .ok (.isub, 1) := by decide +kernel
theorem dX1_nextToken_179 : decode cX1_nextToken 179 = .ok (.iconst 2, 1) := by decide +kernel
theorem dX1_nextToken_180 : decode cX1_nextToken 180 = .ok (.if_icmp .le 7, 3) := by decide +kernel
theorem dX1_nextToken_183 : decode cX1_nextToken 183 = .ok (.iconst 1, 1) := by decide +kernel
theorem dX1_nextToken_184 : decode cX1_nextToken 184 = .ok (.goto 4, 3) := by decide +kernel
theorem dX1_nextToken_187 : decode cX1_nextToken 187 = .ok (.iconst 0, 1) := by decide +kernel
theorem dX1_nextToken_188 : decode cX1_nextToken 188 = .ok (.istore_n 1, 1) := by decide +kernel
theorem dX1_nextToken_189 : decode cX1_nextToken 189 = .ok (.aload_n 0, 1) := by decide +kernel
theorem dX1_nextToken_190 : decode cX1_nextToken 190 = .ok (.getfield 49, 3) := by decide +kernel
theorem dX1_nextToken_193 : decode cX1_nextToken 193 = .ok (.iconst 4, 1) := by decide +kernel
theorem dX1_nextToken_194 : decode cX1_nextToken 194 = .ok (.if_icmp .eq 7, 3) := by decide +kernel
theorem dX1_nextToken_197 : decode cX1_nextToken 197 = .ok (.iload_n 1, 1) := by decide +kernel
theorem dX1_nextToken_198 : decode cX1_nextToken 198 = .ok (.ifCond .eq 15, 3) := by decide +kernel
theorem dX1_nextToken_201 : decode cX1_nextToken 201 = .ok (.aload_n 0, 1) := by decide +kernel
theorem dX1_nextToken_202 : decode cX1_nextToken 202 = .ok (.iconst 1, 1) := by decide +kernel
theorem dX1_nextToken_203 : decode cX1_nextToken 203 = .ok (.aload_n 0, 1) := by decide +kernel
theorem dX1_nextToken_204 : decode cX1_nextToken 204 = .ok (.getfield 107, 3) := by decide +kernel
theorem dX1_nextToken_207 : decode cX1_nextToken 207 = .ok (.invokevirtual 61, 3) := by decide +kernel
theorem dX1_nextToken_210 : decode cX1_nextToken 210 = .ok (.ifCond .eq 7, 3) := by decide +kernel
theorem dX1_nextToken_213 : decode cX1_nextToken 213 = .ok (.iconst 1, 1) := by decide +kernel
theorem dX1_nextToken_214 : decode cX1_nextToken 214 = .ok (.goto 4, 3) := by decide +kernel
theorem dX1_nextToken_217 : decode cX1_nextToken 217 = .ok (.iconst 0, 1) := by decide +kernel
theorem dX1_nextToken_218 : decode cX1_nextToken 218 = .ok (.ireturn, 1) := by decide +kernel
/-! ===== Reader: b, len the tape; d the draft; y: sort, from, to, value, broken, loadTold, prizeTold, fault, place ===== -/
def sof (x : Int32) : Nat := if x < 0 then 0 else if 97 ≤ x ∧ x ≤ 122 then 1 else if 48 ≤ x ∧ x ≤ 57 then 2 else if x = 59 then 3 else 4
def srt (b : Nat → Nat) (len p : Nat) : Nat := sof (bya b len p)
def wX (b : Nat → Nat) (len : Nat) (d : rT) (y : Nat → Nat) : jW := [.inr (1, [.ref 1, .ref 3, .int (nI (y 0)), .int (nI (y 1)), .int (nI (y 2)), .int (nI (y 3)), .int (nI (y 4)), .int (nI (y 5)), .int (nI (y 6)), .int (nI (y 7)), .int (nI (y 8))]), .inr (5, [.ref 2, .int (nI len)]), .inl (2, 160, .inl (fun j => nI (b j))),
  .inr (2, [.ref 4, .ref 5, .ref 6, .ref 7, .ref 8, .ref 9, .int (nI (d 6 0)), .int (nI (d 6 1)), .int (nI (d 6 2)), .int (nI (d 6 3)), .int (nI (d 6 4)), .int (nI (d 6 5)), .int (nI (d 6 6))]),
  .inl (0, 3, .inl (fun j => nI (d 0 j))), .inl (0, 3, .inl (fun j => nI (d 1 j))), .inl (0, 4, .inl (fun j => nI (d 2 j))), .inl (0, 4, .inl (fun j => nI (d 3 j))), .inl (0, 3, .inl (fun j => nI (d 4 j))), .inl (0, 3, .inl (fun j => nI (d 5 j)))]
def yset (y : Nat → Nat) (i v : Nat) : Nat → Nat := fun j => if j = i then v else y j
def skp (b : Nat → Nat) : Nat → Nat → Nat
  | 0, p => p
  | k + 1, p => if b p = 32 then skp b k (p + 1) else p
def run (b : Nat → Nat) (len st : Nat) : Nat → Nat → Nat
  | 0, p => p
  | k + 1, p => if srt b len p = st then run b len st k (p + 1) else p
/-- the next TOKEN behind p: where it begins, its sort, where it ends, whether it is none that is FAULT 1 -/
def ntf (b : Nat → Nat) (len p : Nat) : Nat := skp b (len - p) p
def nts (b : Nat → Nat) (len p : Nat) : Nat := srt b len (ntf b len p)
def ntt (b : Nat → Nat) (len p : Nat) : Nat := if nts b len p = 3 then ntf b len p + 1 else if nts b len p = 1 ∨ nts b len p = 2 then run b len (nts b len p) (len - ntf b len p) (ntf b len p) else ntf b len p
def nto (b : Nat → Nat) (len p : Nat) : Prop := nts b len p ≠ 4 ∧ ¬ (nts b len p = 2 ∧ 2 < ntt b len p - ntf b len p)
theorem skp_le (b : Nat → Nat) : ∀ k p, p ≤ skp b k p ∧ skp b k p ≤ p + k
  | 0, p => ⟨Nat.le_refl _, Nat.le_refl _⟩
  | k + 1, p => by
    have := skp_le b k (p + 1)
    simp only [skp]
    split <;> omega
theorem run_le (b : Nat → Nat) (len st : Nat) : ∀ k p, p ≤ run b len st k p ∧ run b len st k p ≤ p + k
  | 0, p => ⟨Nat.le_refl _, Nat.le_refl _⟩
  | k + 1, p => by
    have := run_le b len st k (p + 1)
    simp only [run]
    split <;> omega
theorem sof_le (x : Int32) : sof x ≤ 4 := by
  unfold sof
  repeat' split
  all_goals omega
set_option maxRecDepth 100000 in
set_option maxHeartbeats 4000000 in
theorem mX1_sortOf (x : Int32) : J KX1_sortOf 0 (fun o B => o = some (.int (nI (sof x))) ∧ B = []) 0 [some (.int x)] [] [] 0 0 := by
  refine J.iload_n dX1_sortOf_0 rfl rfl ?_
  refine J.if_ge (tgt := 6) dX1_sortOf_1 (by decide) (fun c1 => ?_) (fun c1 => ?_)
  · refine J.iload_n dX1_sortOf_6 rfl rfl ?_
    refine J.bipush (97) dX1_sortOf_7 (by decide) ?_
    refine J.icmp_lt (tgt := 20) dX1_sortOf_9 (by decide) (fun c9 => ?_) (fun c9 => ?_)
    · refine J.iload_n dX1_sortOf_20 rfl rfl ?_
      refine J.bipush (48) dX1_sortOf_21 (by decide) ?_
      refine J.icmp_lt (tgt := 34) dX1_sortOf_23 (by decide) (fun c23 => ?_) (fun c23 => ?_)
      · refine J.iload_n dX1_sortOf_34 rfl rfl ?_
        refine J.bipush (59) dX1_sortOf_35 (by decide) ?_
        refine J.icmp_ne (tgt := 44) dX1_sortOf_37 (by decide) (fun c37 => ?_) (fun c37 => ?_)
        · refine J.iconst (4) dX1_sortOf_44 (by decide) ?_
          exact J.iret dX1_sortOf_45 rfl rfl (Nat.le_refl _) (Nat.le_refl _) ⟨congrArg (fun x => some (Value.int x)) (by rw [sof, if_neg (Int32.not_lt.mpr c1), if_neg (fun h => by first | exact absurd h.1 (Int32.not_le.mpr c9) | exact absurd h.2 (Int32.not_le.mpr c15)), if_neg (fun h => by first | exact absurd h.1 (Int32.not_le.mpr c23) | exact absurd h.2 (Int32.not_le.mpr c29))]; first | (rw [if_pos c37]; rfl) | (rw [if_neg c37]; rfl)), rfl⟩
        · refine J.iconst (3) dX1_sortOf_40 (by decide) ?_
          refine J.goto (tgt := 45) dX1_sortOf_41 (by decide) ?_
          exact J.iret dX1_sortOf_45 rfl rfl (Nat.le_refl _) (Nat.le_refl _) ⟨congrArg (fun x => some (Value.int x)) (by rw [sof, if_neg (Int32.not_lt.mpr c1), if_neg (fun h => by first | exact absurd h.1 (Int32.not_le.mpr c9) | exact absurd h.2 (Int32.not_le.mpr c15)), if_neg (fun h => by first | exact absurd h.1 (Int32.not_le.mpr c23) | exact absurd h.2 (Int32.not_le.mpr c29))]; first | (rw [if_pos c37]; rfl) | (rw [if_neg c37]; rfl)), rfl⟩
      · refine J.iload_n dX1_sortOf_26 rfl rfl ?_
        refine J.bipush (57) dX1_sortOf_27 (by decide) ?_
        refine J.icmp_gt (tgt := 34) dX1_sortOf_29 (by decide) (fun c29 => ?_) (fun c29 => ?_)
        · refine J.iload_n dX1_sortOf_34 rfl rfl ?_
          refine J.bipush (59) dX1_sortOf_35 (by decide) ?_
          refine J.icmp_ne (tgt := 44) dX1_sortOf_37 (by decide) (fun c37 => ?_) (fun c37 => ?_)
          · refine J.iconst (4) dX1_sortOf_44 (by decide) ?_
            exact J.iret dX1_sortOf_45 rfl rfl (Nat.le_refl _) (Nat.le_refl _) ⟨congrArg (fun x => some (Value.int x)) (by rw [sof, if_neg (Int32.not_lt.mpr c1), if_neg (fun h => by first | exact absurd h.1 (Int32.not_le.mpr c9) | exact absurd h.2 (Int32.not_le.mpr c15)), if_neg (fun h => by first | exact absurd h.1 (Int32.not_le.mpr c23) | exact absurd h.2 (Int32.not_le.mpr c29))]; first | (rw [if_pos c37]; rfl) | (rw [if_neg c37]; rfl)), rfl⟩
          · refine J.iconst (3) dX1_sortOf_40 (by decide) ?_
            refine J.goto (tgt := 45) dX1_sortOf_41 (by decide) ?_
            exact J.iret dX1_sortOf_45 rfl rfl (Nat.le_refl _) (Nat.le_refl _) ⟨congrArg (fun x => some (Value.int x)) (by rw [sof, if_neg (Int32.not_lt.mpr c1), if_neg (fun h => by first | exact absurd h.1 (Int32.not_le.mpr c9) | exact absurd h.2 (Int32.not_le.mpr c15)), if_neg (fun h => by first | exact absurd h.1 (Int32.not_le.mpr c23) | exact absurd h.2 (Int32.not_le.mpr c29))]; first | (rw [if_pos c37]; rfl) | (rw [if_neg c37]; rfl)), rfl⟩
        · refine J.iconst (2) dX1_sortOf_32 (by decide) ?_
          exact J.iret dX1_sortOf_33 rfl rfl (Nat.le_refl _) (Nat.le_refl _) ⟨congrArg (fun x => some (Value.int x)) (by rw [sof, if_neg (Int32.not_lt.mpr c1), if_neg (fun h => by first | exact absurd h.1 (Int32.not_le.mpr c9) | exact absurd h.2 (Int32.not_le.mpr c15)), if_pos ⟨Int32.not_lt.mp c23, Int32.not_lt.mp c29⟩]; rfl), rfl⟩
    · refine J.iload_n dX1_sortOf_12 rfl rfl ?_
      refine J.bipush (122) dX1_sortOf_13 (by decide) ?_
      refine J.icmp_gt (tgt := 20) dX1_sortOf_15 (by decide) (fun c15 => ?_) (fun c15 => ?_)
      · refine J.iload_n dX1_sortOf_20 rfl rfl ?_
        refine J.bipush (48) dX1_sortOf_21 (by decide) ?_
        refine J.icmp_lt (tgt := 34) dX1_sortOf_23 (by decide) (fun c23 => ?_) (fun c23 => ?_)
        · refine J.iload_n dX1_sortOf_34 rfl rfl ?_
          refine J.bipush (59) dX1_sortOf_35 (by decide) ?_
          refine J.icmp_ne (tgt := 44) dX1_sortOf_37 (by decide) (fun c37 => ?_) (fun c37 => ?_)
          · refine J.iconst (4) dX1_sortOf_44 (by decide) ?_
            exact J.iret dX1_sortOf_45 rfl rfl (Nat.le_refl _) (Nat.le_refl _) ⟨congrArg (fun x => some (Value.int x)) (by rw [sof, if_neg (Int32.not_lt.mpr c1), if_neg (fun h => by first | exact absurd h.1 (Int32.not_le.mpr c9) | exact absurd h.2 (Int32.not_le.mpr c15)), if_neg (fun h => by first | exact absurd h.1 (Int32.not_le.mpr c23) | exact absurd h.2 (Int32.not_le.mpr c29))]; first | (rw [if_pos c37]; rfl) | (rw [if_neg c37]; rfl)), rfl⟩
          · refine J.iconst (3) dX1_sortOf_40 (by decide) ?_
            refine J.goto (tgt := 45) dX1_sortOf_41 (by decide) ?_
            exact J.iret dX1_sortOf_45 rfl rfl (Nat.le_refl _) (Nat.le_refl _) ⟨congrArg (fun x => some (Value.int x)) (by rw [sof, if_neg (Int32.not_lt.mpr c1), if_neg (fun h => by first | exact absurd h.1 (Int32.not_le.mpr c9) | exact absurd h.2 (Int32.not_le.mpr c15)), if_neg (fun h => by first | exact absurd h.1 (Int32.not_le.mpr c23) | exact absurd h.2 (Int32.not_le.mpr c29))]; first | (rw [if_pos c37]; rfl) | (rw [if_neg c37]; rfl)), rfl⟩
        · refine J.iload_n dX1_sortOf_26 rfl rfl ?_
          refine J.bipush (57) dX1_sortOf_27 (by decide) ?_
          refine J.icmp_gt (tgt := 34) dX1_sortOf_29 (by decide) (fun c29 => ?_) (fun c29 => ?_)
          · refine J.iload_n dX1_sortOf_34 rfl rfl ?_
            refine J.bipush (59) dX1_sortOf_35 (by decide) ?_
            refine J.icmp_ne (tgt := 44) dX1_sortOf_37 (by decide) (fun c37 => ?_) (fun c37 => ?_)
            · refine J.iconst (4) dX1_sortOf_44 (by decide) ?_
              exact J.iret dX1_sortOf_45 rfl rfl (Nat.le_refl _) (Nat.le_refl _) ⟨congrArg (fun x => some (Value.int x)) (by rw [sof, if_neg (Int32.not_lt.mpr c1), if_neg (fun h => by first | exact absurd h.1 (Int32.not_le.mpr c9) | exact absurd h.2 (Int32.not_le.mpr c15)), if_neg (fun h => by first | exact absurd h.1 (Int32.not_le.mpr c23) | exact absurd h.2 (Int32.not_le.mpr c29))]; first | (rw [if_pos c37]; rfl) | (rw [if_neg c37]; rfl)), rfl⟩
            · refine J.iconst (3) dX1_sortOf_40 (by decide) ?_
              refine J.goto (tgt := 45) dX1_sortOf_41 (by decide) ?_
              exact J.iret dX1_sortOf_45 rfl rfl (Nat.le_refl _) (Nat.le_refl _) ⟨congrArg (fun x => some (Value.int x)) (by rw [sof, if_neg (Int32.not_lt.mpr c1), if_neg (fun h => by first | exact absurd h.1 (Int32.not_le.mpr c9) | exact absurd h.2 (Int32.not_le.mpr c15)), if_neg (fun h => by first | exact absurd h.1 (Int32.not_le.mpr c23) | exact absurd h.2 (Int32.not_le.mpr c29))]; first | (rw [if_pos c37]; rfl) | (rw [if_neg c37]; rfl)), rfl⟩
          · refine J.iconst (2) dX1_sortOf_32 (by decide) ?_
            exact J.iret dX1_sortOf_33 rfl rfl (Nat.le_refl _) (Nat.le_refl _) ⟨congrArg (fun x => some (Value.int x)) (by rw [sof, if_neg (Int32.not_lt.mpr c1), if_neg (fun h => by first | exact absurd h.1 (Int32.not_le.mpr c9) | exact absurd h.2 (Int32.not_le.mpr c15)), if_pos ⟨Int32.not_lt.mp c23, Int32.not_lt.mp c29⟩]; rfl), rfl⟩
      · refine J.iconst (1) dX1_sortOf_18 (by decide) ?_
        exact J.iret dX1_sortOf_19 rfl rfl (Nat.le_refl _) (Nat.le_refl _) ⟨congrArg (fun x => some (Value.int x)) (by rw [sof, if_neg (Int32.not_lt.mpr c1), if_pos ⟨Int32.not_lt.mp c9, Int32.not_lt.mp c15⟩]; rfl), rfl⟩
  · refine J.iconst (0) dX1_sortOf_4 (by decide) ?_
    exact J.iret dX1_sortOf_5 rfl rfl (Nat.le_refl _) (Nat.le_refl _) ⟨congrArg (fun x => some (Value.int x)) (by rw [sof, if_pos (Int32.not_le.mp c1)]; rfl), rfl⟩
set_option maxRecDepth 100000 in
set_option maxHeartbeats 4000000 in
theorem mX1_fail (b : Nat → Nat) (len : Nat) (d : rT) (y : Nat → Nat) (f p : Nat) : J KX1_fail 10 (fun o B => o = some (.int 0) ∧ B = wX b len d (yset (yset y 7 f) 8 p)) 0 [some (.ref 0), some (.int (nI f)), some (.int (nI p))] [] (wX b len d y) 0 0 := by
  unfold wX
  refine J.aload_n dX1_fail_0 rfl rfl ?_
  refine J.iload_n dX1_fail_1 rfl rfl ?_
  refine J.putfield dX1_fail_2 jFX1_25 jP1_9 rfl rfl rfl (Nat.le_of_ble_eq_true rfl) ?_
  try dsimp only [List.set, wX]
  refine J.aload_n dX1_fail_5 rfl rfl ?_
  refine J.iload_n dX1_fail_6 rfl rfl ?_
  refine J.putfield dX1_fail_7 jFX1_68 jP1_10 rfl rfl rfl (Nat.le_of_ble_eq_true rfl) ?_
  try dsimp only [List.set, wX]
  refine J.iconst (0) dX1_fail_10 (by decide) ?_
  exact J.iret dX1_fail_11 rfl (by decide) (Nat.le_refl _) (Nat.le_refl _) ⟨rfl, rfl⟩
/-- what nextToken leaves -/
def ynt (b : Nat → Nat) (len : Nat) (y : Nat → Nat) (ok : Prop) [Decidable ok] : Nat → Nat := fun j => match j with
  | 0 => nts b len (y 2)
  | 1 => ntf b len (y 2)
  | 2 => ntt b len (y 2)
  | 7 => if ok then y 7 else 1
  | 8 => if ok then y 8 else ntf b len (y 2)
  | j => y j
set_option maxRecDepth 100000 in
set_option maxHeartbeats 4000000 in
theorem mX1_nextToken_z (b : Nat → Nat) (len : Nat) (d : rT) (hb : ∀ j, b j < 128) (hl : len ≤ 160) (y0 : Nat → Nat) (hy : y0 2 ≤ len) (ok : Prop) (hd : Decidable ok) (hok : ok ↔ nto b len (y0 2)) (hft : ntf b len (y0 2) ≤ ntt b len (y0 2) ∧ ntt b len (y0 2) < 1000) : J KX1_nextToken 10 (fun o B => o = some (.int (jB ok)) ∧ B = wX b len d (ynt b len y0 ok)) 162 [some (.ref 0), none] [] (wX b len d (yset (yset (yset y0 1 (ntf b len (y0 2))) 0 (nts b len (y0 2))) 2 (ntt b len (y0 2)))) 0 0 := by
  by_cases hn : nto b len (y0 2)
  · by_cases h2 : nts b len (y0 2) = 2
    · refine J.aload_n dX1_nextToken_162 rfl rfl ?_
      refine J.getfield dX1_nextToken_163 jFX1_49 rfl rfl ?_
      refine J.iconst (2) dX1_nextToken_166 (by decide) ?_
      refine J.icmp_ne (tgt := 187) dX1_nextToken_167 (by decide) (fun c167 => absurd c167 (fun h => h (congrArg nI h2))) (fun c167 => ?_)
      refine J.aload_n dX1_nextToken_170 rfl rfl ?_
      refine J.getfield dX1_nextToken_171 jFX1_32 rfl rfl ?_
      refine J.aload_n dX1_nextToken_174 rfl rfl ?_
      refine J.getfield dX1_nextToken_175 jFX1_107 rfl rfl ?_
      refine J.isub dX1_nextToken_178 ?_
      refine J.iconst (2) dX1_nextToken_179 (by decide) ?_
      rw [show nI ((yset (yset (yset y0 1 (ntf b len (y0 2))) 0 (nts b len (y0 2))) 2 (ntt b len (y0 2))) 2) - nI ((yset (yset (yset y0 1 (ntf b len (y0 2))) 0 (nts b len (y0 2))) 2 (ntt b len (y0 2))) 1) = nI (ntt b len (y0 2) - ntf b len (y0 2)) from pk_sub hft.1]
      refine J.icmp_le (tgt := 187) dX1_nextToken_180 (by decide) (fun c180 => ?_) (fun c180 => absurd c180 (fun h => h ((nI_lei (b := 2) (by omega) (by decide)).mpr (by have := mt (And.intro h2) hn.2; omega))))
      refine J.iconst (0) dX1_nextToken_187 (by decide) ?_
      refine J.istore_n dX1_nextToken_188 rfl (by decide) rfl ?_
      try dsimp only [List.set, wX]
      refine J.aload_n dX1_nextToken_189 rfl rfl ?_
      refine J.getfield dX1_nextToken_190 jFX1_49 rfl rfl ?_
      refine J.iconst (4) dX1_nextToken_193 (by decide) ?_
      refine J.icmp_eq (tgt := 201) dX1_nextToken_194 (by decide) (fun c194 => absurd c194 (fun h => absurd ((nI_eqi (b := 4) (show nts b len (y0 2) < 2147483648 by have := sof_le (bya b len (ntf b len (y0 2))); unfold nts srt; omega) (by decide)).mp h) (show ¬ nts b len (y0 2) = 4 from hn.1))) (fun c194 => ?_)
      refine J.iload_n dX1_nextToken_197 rfl rfl ?_
      refine J.if_eq (tgt := 213) dX1_nextToken_198 (by decide) (fun c198 => ?_) (fun c198 => absurd c198 (fun h => h rfl))
      refine J.iconst (1) dX1_nextToken_213 (by decide) ?_
      refine J.goto (tgt := 218) dX1_nextToken_214 (by decide) ?_
      refine J.iret dX1_nextToken_218 rfl (by decide) (Nat.le_refl _) (Nat.le_refl _) ⟨congrArg (fun x => some (Value.int x)) (jB_t hd (hok.mpr hn)).symm, ?_⟩
      simp only [ynt, if_pos (hok.mpr hn)]
      rfl
    · refine J.aload_n dX1_nextToken_162 rfl rfl ?_
      refine J.getfield dX1_nextToken_163 jFX1_49 rfl rfl ?_
      refine J.iconst (2) dX1_nextToken_166 (by decide) ?_
      refine J.icmp_ne (tgt := 187) dX1_nextToken_167 (by decide) (fun c167 => ?_) (fun c167 => absurd c167 (fun h => absurd ((nI_eqi (b := 2) (show nts b len (y0 2) < 2147483648 by have := sof_le (bya b len (ntf b len (y0 2))); unfold nts srt; omega) (by decide)).mp h) (show ¬ nts b len (y0 2) = 2 from h2)))
      refine J.iconst (0) dX1_nextToken_187 (by decide) ?_
      refine J.istore_n dX1_nextToken_188 rfl (by decide) rfl ?_
      try dsimp only [List.set, wX]
      refine J.aload_n dX1_nextToken_189 rfl rfl ?_
      refine J.getfield dX1_nextToken_190 jFX1_49 rfl rfl ?_
      refine J.iconst (4) dX1_nextToken_193 (by decide) ?_
      refine J.icmp_eq (tgt := 201) dX1_nextToken_194 (by decide) (fun c194 => absurd c194 (fun h => absurd ((nI_eqi (b := 4) (show nts b len (y0 2) < 2147483648 by have := sof_le (bya b len (ntf b len (y0 2))); unfold nts srt; omega) (by decide)).mp h) (show ¬ nts b len (y0 2) = 4 from hn.1))) (fun c194 => ?_)
      refine J.iload_n dX1_nextToken_197 rfl rfl ?_
      refine J.if_eq (tgt := 213) dX1_nextToken_198 (by decide) (fun c198 => ?_) (fun c198 => absurd c198 (fun h => h rfl))
      refine J.iconst (1) dX1_nextToken_213 (by decide) ?_
      refine J.goto (tgt := 218) dX1_nextToken_214 (by decide) ?_
      refine J.iret dX1_nextToken_218 rfl (by decide) (Nat.le_refl _) (Nat.le_refl _) ⟨congrArg (fun x => some (Value.int x)) (jB_t hd (hok.mpr hn)).symm, ?_⟩
      simp only [ynt, if_pos (hok.mpr hn)]
      rfl
  · by_cases h4 : nts b len (y0 2) = 4
    · refine J.aload_n dX1_nextToken_162 rfl rfl ?_
      refine J.getfield dX1_nextToken_163 jFX1_49 rfl rfl ?_
      refine J.iconst (2) dX1_nextToken_166 (by decide) ?_
      refine J.icmp_ne (tgt := 187) dX1_nextToken_167 (by decide) (fun c167 => ?_) (fun c167 => absurd c167 (fun h => absurd ((nI_eqi (b := 2) (show nts b len (y0 2) < 2147483648 by have := sof_le (bya b len (ntf b len (y0 2))); unfold nts srt; omega) (by decide)).mp h) (show ¬ nts b len (y0 2) = 2 from (by rw [h4]; decide))))
      refine J.iconst (0) dX1_nextToken_187 (by decide) ?_
      refine J.istore_n dX1_nextToken_188 rfl (by decide) rfl ?_
      try dsimp only [List.set, wX]
      refine J.aload_n dX1_nextToken_189 rfl rfl ?_
      refine J.getfield dX1_nextToken_190 jFX1_49 rfl rfl ?_
      refine J.iconst (4) dX1_nextToken_193 (by decide) ?_
      refine J.icmp_eq (tgt := 201) dX1_nextToken_194 (by decide) (fun c194 => ?_) (fun c194 => absurd c194 (fun h => h (congrArg nI h4)))
      refine J.aload_n dX1_nextToken_201 rfl rfl ?_
      refine J.iconst (1) dX1_nextToken_202 (by decide) ?_
      refine J.aload_n dX1_nextToken_203 rfl rfl ?_
      refine J.getfield dX1_nextToken_204 jFX1_107 rfl rfl ?_
      refine J.cv (as := [.int (nI 1), .int _]) (is := [0, 1, 2, 3, 4, 5, 6, 7, 8, 9]) (o := 0) okX1_fail jcX1_61 (mX1_fail b len d (yset (yset (yset y0 1 (ntf b len (y0 2))) 0 (nts b len (y0 2))) 2 (ntt b len (y0 2))) 1 (ntf b len (y0 2))) dX1_nextToken_207 rfl rfl rfl rfl rfl rfl rfl (fun r9 B9 hq => ?_)
      obtain ⟨rfl, rfl⟩ := hq
      refine ⟨rfl, ?_⟩
      show J _ _ _ _ _ (.int 0 :: _) (wX b len d (yset (yset (yset (yset (yset y0 1 (ntf b len (y0 2))) 0 (nts b len (y0 2))) 2 (ntt b len (y0 2))) 7 1) 8 (ntf b len (y0 2)))) _ _
      refine J.if_eq (tgt := 217) dX1_nextToken_210 (by decide) (fun c210 => ?_) (fun c210 => absurd c210 (fun h => h rfl))
      refine J.iconst (0) dX1_nextToken_217 (by decide) ?_
      refine J.iret dX1_nextToken_218 rfl (by decide) (Nat.le_refl _) (Nat.le_refl _) ⟨congrArg (fun x => some (Value.int x)) (jB_f hd (fun h => hn (hok.mp h))).symm, ?_⟩
      simp only [ynt, if_neg (fun h => hn (hok.mp h))]
      rfl
    · have h2 : nts b len (y0 2) = 2 ∧ 2 < ntt b len (y0 2) - ntf b len (y0 2) := Decidable.not_not.mp (fun h => hn ⟨h4, h⟩)
      refine J.aload_n dX1_nextToken_162 rfl rfl ?_
      refine J.getfield dX1_nextToken_163 jFX1_49 rfl rfl ?_
      refine J.iconst (2) dX1_nextToken_166 (by decide) ?_
      refine J.icmp_ne (tgt := 187) dX1_nextToken_167 (by decide) (fun c167 => absurd c167 (fun h => h (congrArg nI h2.1))) (fun c167 => ?_)
      refine J.aload_n dX1_nextToken_170 rfl rfl ?_
      refine J.getfield dX1_nextToken_171 jFX1_32 rfl rfl ?_
      refine J.aload_n dX1_nextToken_174 rfl rfl ?_
      refine J.getfield dX1_nextToken_175 jFX1_107 rfl rfl ?_
      refine J.isub dX1_nextToken_178 ?_
      refine J.iconst (2) dX1_nextToken_179 (by decide) ?_
      rw [show nI ((yset (yset (yset y0 1 (ntf b len (y0 2))) 0 (nts b len (y0 2))) 2 (ntt b len (y0 2))) 2) - nI ((yset (yset (yset y0 1 (ntf b len (y0 2))) 0 (nts b len (y0 2))) 2 (ntt b len (y0 2))) 1) = nI (ntt b len (y0 2) - ntf b len (y0 2)) from pk_sub hft.1]
      refine J.icmp_le (tgt := 187) dX1_nextToken_180 (by decide) (fun c180 => absurd c180 (fun h => absurd ((nI_lei (b := 2) (by omega) (by decide)).mp h) (by omega))) (fun c180 => ?_)
      refine J.iconst (1) dX1_nextToken_183 (by decide) ?_
      refine J.goto (tgt := 188) dX1_nextToken_184 (by decide) ?_
      refine J.istore_n dX1_nextToken_188 rfl (by decide) rfl ?_
      try dsimp only [List.set, wX]
      refine J.aload_n dX1_nextToken_189 rfl rfl ?_
      refine J.getfield dX1_nextToken_190 jFX1_49 rfl rfl ?_
      refine J.iconst (4) dX1_nextToken_193 (by decide) ?_
      refine J.icmp_eq (tgt := 201) dX1_nextToken_194 (by decide) (fun c194 => absurd c194 (fun h => absurd ((nI_eqi (b := 4) (show nts b len (y0 2) < 2147483648 by have := sof_le (bya b len (ntf b len (y0 2))); unfold nts srt; omega) (by decide)).mp h) (show ¬ nts b len (y0 2) = 4 from (by rw [h2.1]; decide)))) (fun c194 => ?_)
      refine J.iload_n dX1_nextToken_197 rfl rfl ?_
      refine J.if_eq (tgt := 213) dX1_nextToken_198 (by decide) (fun c198 => absurd c198 (by decide)) (fun c198 => ?_)
      refine J.aload_n dX1_nextToken_201 rfl rfl ?_
      refine J.iconst (1) dX1_nextToken_202 (by decide) ?_
      refine J.aload_n dX1_nextToken_203 rfl rfl ?_
      refine J.getfield dX1_nextToken_204 jFX1_107 rfl rfl ?_
      refine J.cv (as := [.int (nI 1), .int _]) (is := [0, 1, 2, 3, 4, 5, 6, 7, 8, 9]) (o := 0) okX1_fail jcX1_61 (mX1_fail b len d (yset (yset (yset y0 1 (ntf b len (y0 2))) 0 (nts b len (y0 2))) 2 (ntt b len (y0 2))) 1 (ntf b len (y0 2))) dX1_nextToken_207 rfl rfl rfl rfl rfl rfl rfl (fun r9 B9 hq => ?_)
      obtain ⟨rfl, rfl⟩ := hq
      refine ⟨rfl, ?_⟩
      show J _ _ _ _ _ (.int 0 :: _) (wX b len d (yset (yset (yset (yset (yset y0 1 (ntf b len (y0 2))) 0 (nts b len (y0 2))) 2 (ntt b len (y0 2))) 7 1) 8 (ntf b len (y0 2)))) _ _
      refine J.if_eq (tgt := 217) dX1_nextToken_210 (by decide) (fun c210 => ?_) (fun c210 => absurd c210 (fun h => h rfl))
      refine J.iconst (0) dX1_nextToken_217 (by decide) ?_
      refine J.iret dX1_nextToken_218 rfl (by decide) (Nat.le_refl _) (Nat.le_refl _) ⟨congrArg (fun x => some (Value.int x)) (jB_f hd (fun h => hn (hok.mp h))).symm, ?_⟩
      simp only [ynt, if_neg (fun h => hn (hok.mp h))]
      rfl
set_option maxRecDepth 100000 in
set_option maxHeartbeats 4000000 in
theorem mX1_nextToken_r (b : Nat → Nat) (len : Nat) (d : rT) (hb : ∀ j, b j < 128) (hl : len ≤ 160) (y0 : Nat → Nat) (hy : y0 2 ≤ len) (ok : Prop) (hd : Decidable ok) (hok : ok ↔ nto b len (y0 2)) : ∀ (k p : Nat), p + k = len → J KX1_nextToken 10 (fun o B => o = some (.int (jB ok)) ∧ B = wX b len d (ynt b len y0 ok)) 162 [some (.ref 0), none] [] (wX b len d (yset (yset (yset y0 1 (ntf b len (y0 2))) 0 (nts b len (y0 2))) 2 (run b len (nts b len (y0 2)) k p))) 0 0 → J KX1_nextToken 10 (fun o B => o = some (.int (jB ok)) ∧ B = wX b len d (ynt b len y0 ok)) 114 [some (.ref 0), none] [] (wX b len d (yset (yset (yset y0 1 (ntf b len (y0 2))) 0 (nts b len (y0 2))) 2 p)) 0 0 := by
  intro k
  induction k with
  | zero =>
    intro p hp hk
    obtain rfl : p = len := by omega
    refine J.aload_n dX1_nextToken_114 rfl rfl ?_
    refine J.getfield dX1_nextToken_115 jFX1_32 rfl rfl ?_
    refine J.aload_n dX1_nextToken_118 rfl rfl ?_
    refine J.getfield dX1_nextToken_119 jFX1_12 rfl rfl ?_
    refine J.getfield dX1_nextToken_122 jFX1_58 rfl rfl ?_
    refine J.icmp_ge (tgt := 162) dX1_nextToken_125 (by decide) (fun c125 => ?_) (fun c125 => absurd c125 (fun h => h (Int32.le_refl _)))
    exact hk
  | succ k ih =>
    intro p hp hk
    refine J.aload_n dX1_nextToken_114 rfl rfl ?_
    refine J.getfield dX1_nextToken_115 jFX1_32 rfl rfl ?_
    refine J.aload_n dX1_nextToken_118 rfl rfl ?_
    refine J.getfield dX1_nextToken_119 jFX1_12 rfl rfl ?_
    refine J.getfield dX1_nextToken_122 jFX1_58 rfl rfl ?_
    refine J.icmp_ge (tgt := 162) dX1_nextToken_125 (by decide) (fun c125 => absurd c125 (nI_ge (show p < len by omega) (by omega))) (fun c125 => ?_)
    refine J.aload_n dX1_nextToken_128 rfl rfl ?_
    refine J.getfield dX1_nextToken_129 jFX1_12 rfl rfl ?_
    refine J.aload_n dX1_nextToken_132 rfl rfl ?_
    refine J.getfield dX1_nextToken_133 jFX1_32 rfl rfl ?_
    refine J.cv (as := [.int _]) (is := [1, 2]) (o := 0) okX5_byteAt jcX1_139 (mX5_byteAt b len p hl (by omega)) dX1_nextToken_136 rfl rfl rfl rfl rfl rfl rfl (fun r9 B9 hq => ?_)
    obtain ⟨rfl, rfl⟩ := hq
    refine ⟨rfl, ?_⟩
    show J _ _ _ _ _ _ (wX b len d (yset (yset (yset y0 1 (ntf b len (y0 2))) 0 (nts b len (y0 2))) 2 p)) _ _
    refine J.cs (as := [.int _]) (is := []) okX1_sortOf jcX1_165 (mX1_sortOf _) dX1_nextToken_139 rfl rfl rfl rfl rfl rfl (fun r9 B9 hq => ?_)
    obtain ⟨rfl, rfl⟩ := hq
    refine ⟨rfl, ?_⟩
    show J _ _ _ _ _ _ (wX b len d (yset (yset (yset y0 1 (ntf b len (y0 2))) 0 (nts b len (y0 2))) 2 p)) _ _
    refine J.aload_n dX1_nextToken_142 rfl rfl ?_
    refine J.getfield dX1_nextToken_143 jFX1_49 rfl rfl ?_
    refine J.icmp_ne (tgt := 162) dX1_nextToken_146 (by decide) (fun c146 => ?_) (fun c146 => ?_)
    · rw [run, if_neg (show ¬ srt b len p = nts b len (y0 2) from fun h => c146 (congrArg nI h))] at hk
      exact hk
    · refine J.aload_n dX1_nextToken_149 rfl rfl ?_
      refine J.dup dX1_nextToken_150 rfl ?_
      refine J.getfield dX1_nextToken_151 jFX1_32 rfl rfl ?_
      refine J.iconst (1) dX1_nextToken_154 (by decide) ?_
      refine J.iadd dX1_nextToken_155 ?_
      refine J.putfield dX1_nextToken_156 jFX1_32 jP1_4 rfl rfl rfl (Nat.le_of_ble_eq_true rfl) ?_
      try dsimp only [List.set, wX]
      refine J.goto (tgt := 114) dX1_nextToken_159 (by decide) ?_
      rw [nI_1]
      rw [run, if_pos (show srt b len p = nts b len (y0 2) from (nI_eqi (show srt b len p < 2147483648 by have := sof_le (bya b len p); unfold srt; omega) (show nts b len (y0 2) < 2147483648 by have := sof_le (bya b len (ntf b len (y0 2))); unfold nts srt; omega)).mp c146)] at hk
      exact ih (p + 1) (by omega) hk
set_option maxRecDepth 100000 in
set_option maxHeartbeats 4000000 in
theorem mX1_nextToken_s (b : Nat → Nat) (len : Nat) (d : rT) (hb : ∀ j, b j < 128) (hl : len ≤ 160) (y0 : Nat → Nat) (hy : y0 2 ≤ len) (ok : Prop) (hd : Decidable ok) (hok : ok ↔ nto b len (y0 2)) : ∀ (k p : Nat), p + k = len → J KX1_nextToken 10 (fun o B => o = some (.int (jB ok)) ∧ B = wX b len d (ynt b len y0 ok)) 51 [some (.ref 0), none] [] (wX b len d (yset y0 1 (skp b k p))) 0 0 → J KX1_nextToken 10 (fun o B => o = some (.int (jB ok)) ∧ B = wX b len d (ynt b len y0 ok)) 8 [some (.ref 0), none] [] (wX b len d (yset y0 1 p)) 0 0 := by
  intro k
  induction k with
  | zero =>
    intro p hp hk
    obtain rfl : p = len := by omega
    refine J.aload_n dX1_nextToken_8 rfl rfl ?_
    refine J.getfield dX1_nextToken_9 jFX1_107 rfl rfl ?_
    refine J.aload_n dX1_nextToken_12 rfl rfl ?_
    refine J.getfield dX1_nextToken_13 jFX1_12 rfl rfl ?_
    refine J.getfield dX1_nextToken_16 jFX1_58 rfl rfl ?_
    refine J.icmp_ge (tgt := 51) dX1_nextToken_19 (by decide) (fun c19 => ?_) (fun c19 => absurd c19 (fun h => h (Int32.le_refl _)))
    exact hk
  | succ k ih =>
    intro p hp hk
    refine J.aload_n dX1_nextToken_8 rfl rfl ?_
    refine J.getfield dX1_nextToken_9 jFX1_107 rfl rfl ?_
    refine J.aload_n dX1_nextToken_12 rfl rfl ?_
    refine J.getfield dX1_nextToken_13 jFX1_12 rfl rfl ?_
    refine J.getfield dX1_nextToken_16 jFX1_58 rfl rfl ?_
    refine J.icmp_ge (tgt := 51) dX1_nextToken_19 (by decide) (fun c19 => absurd c19 (nI_ge (show p < len by omega) (by omega))) (fun c19 => ?_)
    refine J.aload_n dX1_nextToken_22 rfl rfl ?_
    refine J.getfield dX1_nextToken_23 jFX1_12 rfl rfl ?_
    refine J.aload_n dX1_nextToken_26 rfl rfl ?_
    refine J.getfield dX1_nextToken_27 jFX1_107 rfl rfl ?_
    refine J.cv (as := [.int _]) (is := [1, 2]) (o := 0) okX5_byteAt jcX1_139 (mX5_byteAt b len p hl (by omega)) dX1_nextToken_30 rfl rfl rfl rfl rfl rfl rfl (fun r9 B9 hq => ?_)
    obtain ⟨rfl, rfl⟩ := hq
    refine ⟨rfl, ?_⟩
    show J _ _ _ _ _ _ (wX b len d (yset y0 1 p)) _ _
    refine J.bipush (32) dX1_nextToken_33 (by decide) ?_
    refine J.icmp_ne (tgt := 51) dX1_nextToken_35 (by decide) (fun c35 => ?_) (fun c35 => ?_)
    · rw [skp, if_neg (fun h => c35 (by rw [(show bya b len p = nI (b p) from if_pos (by omega)), h]; rfl))] at hk
      exact hk
    · refine J.aload_n dX1_nextToken_38 rfl rfl ?_
      refine J.dup dX1_nextToken_39 rfl ?_
      refine J.getfield dX1_nextToken_40 jFX1_107 rfl rfl ?_
      refine J.iconst (1) dX1_nextToken_43 (by decide) ?_
      refine J.iadd dX1_nextToken_44 ?_
      refine J.putfield dX1_nextToken_45 jFX1_107 jP1_3 rfl rfl rfl (Nat.le_of_ble_eq_true rfl) ?_
      try dsimp only [List.set, wX]
      refine J.goto (tgt := 8) dX1_nextToken_48 (by decide) ?_
      rw [nI_1]
      rw [(show bya b len p = nI (b p) from if_pos (by omega))] at c35
      rw [skp, if_pos ((nI_eqi (b := 32) (by have := hb p; omega) (by decide)).mp c35)] at hk
      exact ih (p + 1) (by omega) hk
set_option maxRecDepth 100000 in
set_option maxHeartbeats 4000000 in
theorem mX1_nextToken_m (b : Nat → Nat) (len : Nat) (d : rT) (hb : ∀ j, b j < 128) (hl : len ≤ 160) (y0 : Nat → Nat) (hy : y0 2 ≤ len) (ok : Prop) (hd : Decidable ok) (hok : ok ↔ nto b len (y0 2)) : J KX1_nextToken 10 (fun o B => o = some (.int (jB ok)) ∧ B = wX b len d (ynt b len y0 ok)) 51 [some (.ref 0), none] [] (wX b len d (yset y0 1 (ntf b len (y0 2)))) 0 0 := by
  have hfl := (show ntf b len (y0 2) ≤ len by have := skp_le b (len - y0 2) (y0 2); unfold ntf; omega)
  refine J.aload_n dX1_nextToken_51 rfl rfl ?_
  refine J.aload_n dX1_nextToken_52 rfl rfl ?_
  refine J.getfield dX1_nextToken_53 jFX1_107 rfl rfl ?_
  refine J.putfield dX1_nextToken_56 jFX1_32 jP1_4 rfl rfl rfl (Nat.le_of_ble_eq_true rfl) ?_
  try dsimp only [List.set, wX]
  refine J.aload_n dX1_nextToken_59 rfl rfl ?_
  refine J.aload_n dX1_nextToken_60 rfl rfl ?_
  refine J.getfield dX1_nextToken_61 jFX1_12 rfl rfl ?_
  refine J.aload_n dX1_nextToken_64 rfl rfl ?_
  refine J.getfield dX1_nextToken_65 jFX1_107 rfl rfl ?_
  refine J.cv (as := [.int _]) (is := [1, 2]) (o := 0) okX5_byteAt jcX1_139 (mX5_byteAt b len (ntf b len (y0 2)) hl (by omega)) dX1_nextToken_68 rfl rfl rfl rfl rfl rfl rfl (fun r9 B9 hq => ?_)
  obtain ⟨rfl, rfl⟩ := hq
  refine ⟨rfl, ?_⟩
  show J _ _ _ _ _ _ (wX b len d (yset (yset y0 1 (ntf b len (y0 2))) 2 (ntf b len (y0 2)))) _ _
  refine J.cs (as := [.int _]) (is := []) okX1_sortOf jcX1_165 (mX1_sortOf _) dX1_nextToken_71 rfl rfl rfl rfl rfl rfl (fun r9 B9 hq => ?_)
  obtain ⟨rfl, rfl⟩ := hq
  refine ⟨rfl, ?_⟩
  show J _ _ _ _ _ _ (wX b len d (yset (yset y0 1 (ntf b len (y0 2))) 2 (ntf b len (y0 2)))) _ _
  refine J.putfield dX1_nextToken_74 jFX1_49 jP1_2 rfl rfl rfl (Nat.le_of_ble_eq_true rfl) ?_
  try dsimp only [List.set, wX]
  show J _ _ _ _ _ [] (wX b len d (yset (yset (yset y0 1 (ntf b len (y0 2))) 2 (ntf b len (y0 2))) 0 (nts b len (y0 2)))) _ _
  by_cases h3 : nts b len (y0 2) = 3
  · refine J.aload_n dX1_nextToken_77 rfl rfl ?_
    refine J.getfield dX1_nextToken_78 jFX1_49 rfl rfl ?_
    refine J.iconst (3) dX1_nextToken_81 (by decide) ?_
    refine J.icmp_ne (tgt := 98) dX1_nextToken_82 (by decide) (fun c82 => absurd c82 (fun h => h (congrArg nI h3))) (fun c82 => ?_)
    refine J.aload_n dX1_nextToken_85 rfl rfl ?_
    refine J.dup dX1_nextToken_86 rfl ?_
    refine J.getfield dX1_nextToken_87 jFX1_32 rfl rfl ?_
    refine J.iconst (1) dX1_nextToken_90 (by decide) ?_
    refine J.iadd dX1_nextToken_91 ?_
    rw [nI_1]
    refine J.putfield dX1_nextToken_92 jFX1_32 jP1_4 rfl rfl rfl (Nat.le_of_ble_eq_true rfl) ?_
    try dsimp only [List.set, wX]
    refine J.goto (tgt := 162) dX1_nextToken_95 (by decide) ?_
    have e9 : ntt b len (y0 2) = (ntf b len (y0 2)) + 1 := if_pos h3
    refine J.at (mX1_nextToken_z b len d hb hl y0 hy ok hd hok ?_) rfl rfl (by rw [e9]; rfl)
    rw [e9]
    omega
  · by_cases h1 : nts b len (y0 2) = 1
    · refine J.aload_n dX1_nextToken_77 rfl rfl ?_
      refine J.getfield dX1_nextToken_78 jFX1_49 rfl rfl ?_
      refine J.iconst (3) dX1_nextToken_81 (by decide) ?_
      refine J.icmp_ne (tgt := 98) dX1_nextToken_82 (by decide) (fun c82 => ?_) (fun c82 => absurd c82 (fun h => absurd ((nI_eqi (b := 3) (show nts b len (y0 2) < 2147483648 by have := sof_le (bya b len (ntf b len (y0 2))); unfold nts srt; omega) (by decide)).mp h) (show ¬ nts b len (y0 2) = 3 from (by rw [h1]; decide))))
      refine J.aload_n dX1_nextToken_98 rfl rfl ?_
      refine J.getfield dX1_nextToken_99 jFX1_49 rfl rfl ?_
      refine J.iconst (1) dX1_nextToken_102 (by decide) ?_
      refine J.icmp_eq (tgt := 114) dX1_nextToken_103 (by decide) (fun c103 => ?_) (fun c103 => absurd c103 (fun h => h (congrArg nI h1)))
      have e9 : ntt b len (y0 2) = run b len (nts b len (y0 2)) (len - (ntf b len (y0 2))) (ntf b len (y0 2)) := (if_neg (by rw [h1]; decide)).trans (if_pos (Or.inl h1))
      have hr9 := run_le b len (nts b len (y0 2)) (len - (ntf b len (y0 2))) (ntf b len (y0 2))
      exact J.at (mX1_nextToken_r b len d hb hl y0 hy ok hd hok (len - (ntf b len (y0 2))) (ntf b len (y0 2)) (by omega) (J.at (mX1_nextToken_z b len d hb hl y0 hy ok hd hok (by rw [e9]; omega)) rfl rfl (by rw [e9]))) rfl rfl rfl
    · by_cases h2 : nts b len (y0 2) = 2
      · have h1 := h2
        refine J.aload_n dX1_nextToken_77 rfl rfl ?_
        refine J.getfield dX1_nextToken_78 jFX1_49 rfl rfl ?_
        refine J.iconst (3) dX1_nextToken_81 (by decide) ?_
        refine J.icmp_ne (tgt := 98) dX1_nextToken_82 (by decide) (fun c82 => ?_) (fun c82 => absurd c82 (fun h => absurd ((nI_eqi (b := 3) (show nts b len (y0 2) < 2147483648 by have := sof_le (bya b len (ntf b len (y0 2))); unfold nts srt; omega) (by decide)).mp h) (show ¬ nts b len (y0 2) = 3 from (by rw [h1]; decide))))
        refine J.aload_n dX1_nextToken_98 rfl rfl ?_
        refine J.getfield dX1_nextToken_99 jFX1_49 rfl rfl ?_
        refine J.iconst (1) dX1_nextToken_102 (by decide) ?_
        refine J.icmp_eq (tgt := 114) dX1_nextToken_103 (by decide) (fun c103 => absurd c103 (fun h => absurd ((nI_eqi (b := 1) (show nts b len (y0 2) < 2147483648 by have := sof_le (bya b len (ntf b len (y0 2))); unfold nts srt; omega) (by decide)).mp h) (show ¬ nts b len (y0 2) = 1 from (by rw [h1]; decide)))) (fun c103 => ?_)
        refine J.aload_n dX1_nextToken_106 rfl rfl ?_
        refine J.getfield dX1_nextToken_107 jFX1_49 rfl rfl ?_
        refine J.iconst (2) dX1_nextToken_110 (by decide) ?_
        refine J.icmp_ne (tgt := 162) dX1_nextToken_111 (by decide) (fun c111 => absurd c111 (fun h => h (congrArg nI h1))) (fun c111 => ?_)
        have e9 : ntt b len (y0 2) = run b len (nts b len (y0 2)) (len - (ntf b len (y0 2))) (ntf b len (y0 2)) := (if_neg (by rw [h1]; decide)).trans (if_pos (Or.inr h1))
        have hr9 := run_le b len (nts b len (y0 2)) (len - (ntf b len (y0 2))) (ntf b len (y0 2))
        exact J.at (mX1_nextToken_r b len d hb hl y0 hy ok hd hok (len - (ntf b len (y0 2))) (ntf b len (y0 2)) (by omega) (J.at (mX1_nextToken_z b len d hb hl y0 hy ok hd hok (by rw [e9]; omega)) rfl rfl (by rw [e9]))) rfl rfl rfl
      · refine J.aload_n dX1_nextToken_77 rfl rfl ?_
        refine J.getfield dX1_nextToken_78 jFX1_49 rfl rfl ?_
        refine J.iconst (3) dX1_nextToken_81 (by decide) ?_
        refine J.icmp_ne (tgt := 98) dX1_nextToken_82 (by decide) (fun c82 => ?_) (fun c82 => absurd c82 (fun h => absurd ((nI_eqi (b := 3) (show nts b len (y0 2) < 2147483648 by have := sof_le (bya b len (ntf b len (y0 2))); unfold nts srt; omega) (by decide)).mp h) (show ¬ nts b len (y0 2) = 3 from h3)))
        refine J.aload_n dX1_nextToken_98 rfl rfl ?_
        refine J.getfield dX1_nextToken_99 jFX1_49 rfl rfl ?_
        refine J.iconst (1) dX1_nextToken_102 (by decide) ?_
        refine J.icmp_eq (tgt := 114) dX1_nextToken_103 (by decide) (fun c103 => absurd c103 (fun h => absurd ((nI_eqi (b := 1) (show nts b len (y0 2) < 2147483648 by have := sof_le (bya b len (ntf b len (y0 2))); unfold nts srt; omega) (by decide)).mp h) (show ¬ nts b len (y0 2) = 1 from h1))) (fun c103 => ?_)
        refine J.aload_n dX1_nextToken_106 rfl rfl ?_
        refine J.getfield dX1_nextToken_107 jFX1_49 rfl rfl ?_
        refine J.iconst (2) dX1_nextToken_110 (by decide) ?_
        refine J.icmp_ne (tgt := 162) dX1_nextToken_111 (by decide) (fun c111 => ?_) (fun c111 => absurd c111 (fun h => absurd ((nI_eqi (b := 2) (show nts b len (y0 2) < 2147483648 by have := sof_le (bya b len (ntf b len (y0 2))); unfold nts srt; omega) (by decide)).mp h) (show ¬ nts b len (y0 2) = 2 from h2)))
        have e9 : ntt b len (y0 2) = (ntf b len (y0 2)) := (if_neg h3).trans (if_neg (fun h => h.elim h1 h2))
        refine J.at (mX1_nextToken_z b len d hb hl y0 hy ok hd hok ?_) rfl rfl (by rw [e9]; rfl)
        rw [e9]
        omega
set_option maxRecDepth 100000 in
set_option maxHeartbeats 4000000 in
theorem mX1_nextToken (b : Nat → Nat) (len : Nat) (d : rT) (hb : ∀ j, b j < 128) (hl : len ≤ 160) (y0 : Nat → Nat) (hy : y0 2 ≤ len) (ok : Prop) (hd : Decidable ok) (hok : ok ↔ nto b len (y0 2)) : J KX1_nextToken 10 (fun o B => o = some (.int (jB ok)) ∧ B = wX b len d (ynt b len y0 ok)) 0 [some (.ref 0), none] [] (wX b len d y0) 0 0 := by
  refine J.aload_n dX1_nextToken_0 rfl rfl ?_
  refine J.aload_n dX1_nextToken_1 rfl rfl ?_
  refine J.getfield dX1_nextToken_2 jFX1_32 rfl rfl ?_
  refine J.putfield dX1_nextToken_5 jFX1_107 jP1_3 rfl rfl rfl (Nat.le_of_ble_eq_true rfl) ?_
  try dsimp only [List.set, wX]
  exact J.at (mX1_nextToken_s b len d hb hl y0 hy ok hd hok (len - y0 2) (y0 2) (by omega) (mX1_nextToken_m b len d hb hl y0 hy ok hd hok)) rfl rfl rfl
end
section
theorem dX1_spells_0 : decode cX1_spells 0 = .ok (.aload_n 0, 1) := by decide +kernel
theorem dX1_spells_1 : decode cX1_spells 1 = .ok (.getfield 49, 3) := by decide +kernel
theorem dX1_spells_4 : decode cX1_spells 4 = .ok (.iconst 1, 1) := by decide +kernel
theorem dX1_spells_5 : decode cX1_spells 5 = .ok (.if_icmp .ne 19, 3) := by decide +kernel
theorem dX1_spells_8 : decode cX1_spells 8 = .ok (.aload_n 0, 1) := by decide +kernel
theorem dX1_spells_9 : decode cX1_spells 9 = .ok (.getfield 32, 3) := by decide +kernel
theorem dX1_spells_12 : decode cX1_spells 12 = .ok (.aload_n 0, 1) := by decide +kernel
theorem dX1_spells_13 : decode cX1_spells 13 = .ok (.getfield 107, 3) := by decide +kernel
theorem dX1_spells_16 : decode cX1_spells 16 = .ok (.isub, 1) := by decide +kernel
theorem dX1_spells_17 : decode cX1_spells 17 = .ok (.aload_n 1, 1) := by decide +kernel
theorem dX1_spells_18 : decode cX1_spells 18 = .ok (.invokevirtual 157, 3) := by decide +kernel
theorem dX1_spells_21 : decode cX1_spells 21 = .ok (.if_icmp .eq 5, 3) := by decide +kernel
theorem dX1_spells_24 : decode cX1_spells 24 = .ok (.iconst 0, 1) := by decide +kernel
theorem dX1_spells_25 : decode cX1_spells 25 = .ok (.ireturn, 1) := by decide +kernel
theorem dX1_spells_26 : decode cX1_spells 26 = .ok (.iconst 0, 1) := by decide +kernel
theorem dX1_spells_27 : decode cX1_spells 27 = .ok (.istore_n 2, 1) := by decide +kernel
theorem dX1_spells_28 : decode cX1_spells 28 = .ok (.iload_n 2, 1) := by decide +kernel
theorem dX1_spells_29 : decode cX1_spells 29 = .ok (.aload_n 1, 1) := by decide +kernel
theorem dX1_spells_30 : decode cX1_spells 30 = .ok (.invokevirtual 157, 3) := by decide +kernel
theorem dX1_spells_33 : decode cX1_spells 33 = .ok (.if_icmp .ge 32, 3) := by decide +kernel
theorem dX1_spells_36 : decode cX1_spells 36 = .ok (.aload_n 0, 1) := by decide +kernel
theorem dX1_spells_37 : decode cX1_spells 37 = .ok (.getfield 12, 3) := by decide +kernel
theorem dX1_spells_40 : decode cX1_spells 40 = .ok (.aload_n 0, 1) := by decide +kernel
theorem dX1_spells_41 : decode cX1_spells 41 = .ok (.getfield 107, 3) := by decide +kernel
theorem dX1_spells_44 : decode cX1_spells 44 = .ok (.iload_n 2, 1) := by decide +kernel
theorem dX1_spells_45 : decode cX1_spells 45 = .ok (.iadd, 1) := by decide +kernel
theorem dX1_spells_46 : decode cX1_spells 46 = .ok (.invokevirtual 139, 3) := by decide +kernel
theorem dX1_spells_49 : decode cX1_spells 49 = .ok (.aload_n 1, 1) := by decide +kernel
theorem dX1_spells_50 : decode cX1_spells 50 = .ok (.iload_n 2, 1) := by decide +kernel
theorem dX1_spells_51 : decode cX1_spells 51 = .ok (.invokevirtual 161, 3) := by decide +kernel
theorem dX1_spells_54 : decode cX1_spells 54 = .ok (.if_icmp .eq 5, 3) := by decide +kernel
theorem dX1_spells_57 : decode cX1_spells 57 = .ok (.iconst 0, 1) := by decide +kernel
theorem dX1_spells_58 : decode cX1_spells 58 = .ok (.ireturn, 1) := by decide +kernel
theorem dX1_spells_59 : decode cX1_spells 59 = .ok (.iinc 2 1, 3) := by decide +kernel
theorem dX1_spells_62 : decode cX1_spells 62 = .ok (.goto (-34), 3) := by decide +kernel
theorem dX1_spells_65 : decode cX1_spells 65 = .ok (.iconst 1, 1) := by decide +kernel
theorem dX1_spells_66 : decode cX1_spells 66 = .ok (.ireturn, 1) := by decide +kernel
theorem dX1_spelledKind_0 : decode cX1_spelledKind 0 = .ok (.aload_n 0, 1) := by decide +kernel
theorem dX1_spelledKind_1 : decode cX1_spelledKind 1 = .ok (.ldc 147, 2) := by decide +kernel
theorem dX1_spelledKind_3 : decode cX1_spelledKind 3 = .ok (.invokevirtual 73, 3) := by decide +kernel
theorem dX1_spelledKind_6 : decode cX1_spelledKind 6 = .ok (.ifCond .eq 5, 3) := by decide +kernel
theorem dX1_spelledKind_9 : decode cX1_spelledKind 9 = .ok (.iconst 0, 1) := by decide +kernel
theorem dX1_spelledKind_10 : decode cX1_spelledKind 10 = .ok (.ireturn, 1) := by decide +kernel
theorem dX1_spelledKind_11 : decode cX1_spelledKind 11 = .ok (.aload_n 0, 1) := by decide +kernel
theorem dX1_spelledKind_12 : decode cX1_spelledKind 12 = .ok (.ldc 149, 2) := by decide +kernel
theorem dX1_spelledKind_14 : decode cX1_spelledKind 14 = .ok (.invokevirtual 73, 3) := by decide +kernel
theorem dX1_spelledKind_17 : decode cX1_spelledKind 17 = .ok (.ifCond .eq 5, 3) := by decide +kernel
theorem dX1_spelledKind_20 : decode cX1_spelledKind 20 = .ok (.iconst 1, 1) := by decide +kernel
theorem dX1_spelledKind_21 : decode cX1_spelledKind 21 = .ok (.ireturn, 1) := by decide +kernel
theorem dX1_spelledKind_22 : decode cX1_spelledKind 22 = .ok (.aload_n 0, 1) := by decide +kernel
theorem dX1_spelledKind_23 : decode cX1_spelledKind 23 = .ok (.ldc 151, 2) := by decide +kernel
theorem dX1_spelledKind_25 : decode cX1_spelledKind 25 = .ok (.invokevirtual 73, 3) := by decide +kernel
theorem dX1_spelledKind_28 : decode cX1_spelledKind 28 = .ok (.ifCond .eq 5, 3) := by decide +kernel
theorem dX1_spelledKind_31 : decode cX1_spelledKind 31 = .ok (.iconst 2, 1) := by decide +kernel
theorem dX1_spelledKind_32 : decode cX1_spelledKind 32 = .ok (.ireturn, 1) := by decide +kernel
theorem dX1_spelledKind_33 : decode cX1_spelledKind 33 = .ok (.aload_n 0, 1) := by decide +kernel
theorem dX1_spelledKind_34 : decode cX1_spelledKind 34 = .ok (.ldc 153, 2) := by decide +kernel
theorem dX1_spelledKind_36 : decode cX1_spelledKind 36 = .ok (.invokevirtual 73, 3) := by decide +kernel
theorem dX1_spelledKind_39 : decode cX1_spelledKind 39 = .ok (.ifCond .eq 5, 3) := by decide +kernel
theorem dX1_spelledKind_42 : decode cX1_spelledKind 42 = .ok (.iconst 3, 1) := by decide +kernel
theorem dX1_spelledKind_43 : decode cX1_spelledKind 43 = .ok (.ireturn, 1) := by decide +kernel
theorem dX1_spelledKind_44 : decode cX1_spelledKind 44 = .ok (.aload_n 0, 1) := by decide +kernel
theorem dX1_spelledKind_45 : decode cX1_spelledKind 45 = .ok (.ldc 155, 2) := by decide +kernel
theorem dX1_spelledKind_47 : decode cX1_spelledKind 47 = .ok (.invokevirtual 73, 3) := by decide +kernel
theorem dX1_spelledKind_50 : decode cX1_spelledKind 50 = .ok (.ifCond .eq 7, 3) := by decide +kernel
theorem dX1_spelledKind_53 : decode cX1_spelledKind 53 = .ok (.iconst 4, 1) := by decide +kernel
theorem dX1_spelledKind_54 : decode cX1_spelledKind 54 = .ok (.goto 4, 3) := by decide +kernel
theorem dX1_spelledKind_57 : decode cX1_spelledKind 57 = .ok (.iconst (-1), 1) := by decide +kernel
theorem dX1_spelledKind_58 : decode cX1_spelledKind 58 = .ok (.ireturn, 1) := by decide +kernel
theorem dX1_readNumber_0 : decode cX1_readNumber 0 = .ok (.aload_n 0, 1) := by decide +kernel
theorem dX1_readNumber_1 : decode cX1_readNumber 1 = .ok (.invokevirtual 45, 3) := by decide +kernel
theorem dX1_readNumber_4 : decode cX1_readNumber 4 = .ok (.ifCond .ne 5, 3) := by decide +kernel
theorem dX1_readNumber_7 : decode cX1_readNumber 7 = .ok (.iconst 0, 1) := by decide +kernel
theorem dX1_readNumber_8 : decode cX1_readNumber 8 = .ok (.ireturn, 1) := by decide +kernel
theorem dX1_readNumber_9 : decode cX1_readNumber 9 = .ok (.aload_n 0, 1) := by decide +kernel
theorem dX1_readNumber_10 : decode cX1_readNumber 10 = .ok (.getfield 49, 3) := by decide +kernel
theorem dX1_readNumber_13 : decode cX1_readNumber 13 = .ok (.iconst 2, 1) := by decide +kernel
theorem dX1_readNumber_14 : decode cX1_readNumber 14 = .ok (.if_icmp .eq 13, 3) := by decide +kernel
theorem dX1_readNumber_17 : decode cX1_readNumber 17 = .ok (.aload_n 0, 1) := by decide +kernel
theorem dX1_readNumber_18 : decode cX1_readNumber 18 = .ok (.iconst 2, 1) := by decide +kernel
theorem dX1_readNumber_19 : decode cX1_readNumber 19 = .ok (.aload_n 0, 1) := by decide +kernel
theorem dX1_readNumber_20 : decode cX1_readNumber 20 = .ok (.getfield 107, 3) := by decide +kernel
theorem dX1_readNumber_23 : decode cX1_readNumber 23 = .ok (.invokevirtual 61, 3) := by decide +kernel
theorem dX1_readNumber_26 : decode cX1_readNumber 26 = .ok (.ireturn, 1) := by decide +kernel
theorem dX1_readNumber_27 : decode cX1_readNumber 27 = .ok (.aload_n 0, 1) := by decide +kernel
theorem dX1_readNumber_28 : decode cX1_readNumber 28 = .ok (.iconst 0, 1) := by decide +kernel
theorem dX1_readNumber_29 : decode cX1_readNumber 29 = .ok (.putfield 117, 3) := by decide +kernel
theorem dX1_readNumber_32 : decode cX1_readNumber 32 = .ok (.aload_n 0, 1) := by decide +kernel
theorem dX1_readNumber_33 : decode cX1_readNumber 33 = .ok (.getfield 107, 3) := by decide +kernel
theorem dX1_readNumber_36 : decode cX1_readNumber 36 = .ok (.istore_n 3, 1) := by decide +kernel
theorem dX1_readNumber_37 : decode cX1_readNumber 37 = .ok (.iload_n 3, 1) := by decide +kernel
theorem dX1_readNumber_38 : decode cX1_readNumber 38 = .ok (.aload_n 0, 1) := by decide +kernel
theorem dX1_readNumber_39 : decode cX1_readNumber 39 = .ok (.getfield 32, 3) := by decide +kernel
theorem dX1_readNumber_42 : decode cX1_readNumber 42 = .ok (.if_icmp .ge 32, 3) := by decide +kernel
theorem dX1_readNumber_45 : decode cX1_readNumber 45 = .ok (.aload_n 0, 1) := by decide +kernel
theorem dX1_readNumber_46 : decode cX1_readNumber 46 = .ok (.bipush 10, 2) := by decide +kernel
theorem dX1_readNumber_48 : decode cX1_readNumber 48 = .ok (.aload_n 0, 1) := by decide +kernel
theorem dX1_readNumber_49 : decode cX1_readNumber 49 = .ok (.getfield 117, 3) := by decide +kernel
theorem dX1_readNumber_52 : decode cX1_readNumber 52 = .ok (.imul, 1) := by decide +kernel
theorem dX1_readNumber_53 : decode cX1_readNumber 53 = .ok (.aload_n 0, 1) := by decide +kernel
theorem dX1_readNumber_54 : decode cX1_readNumber 54 = .ok (.getfield 12, 3) := by decide +kernel
theorem dX1_readNumber_57 : decode cX1_readNumber 57 = .ok (.iload_n 3, 1) := by decide +kernel
theorem dX1_readNumber_58 : decode cX1_readNumber 58 = .ok (.invokevirtual 139, 3) := by decide +kernel
theorem dX1_readNumber_61 : decode cX1_readNumber 61 = .ok (.iadd, 1) := by decide +kernel
theorem dX1_readNumber_62 : decode cX1_readNumber 62 = .ok (.bipush 48, 2) := by decide +kernel
theorem dX1_readNumber_64 : decode cX1_readNumber 64 = .ok (.isub, 1) := by decide +kernel
theorem dX1_readNumber_65 : decode cX1_readNumber 65 = .ok (.putfield 117, 3) := by decide +kernel
theorem dX1_readNumber_68 : decode cX1_readNumber 68 = .ok (.iinc 3 1, 3) := by decide +kernel
theorem dX1_readNumber_71 : decode cX1_readNumber 71 = .ok (.goto (-34), 3) := by decide +kernel
theorem dX1_readNumber_74 : decode cX1_readNumber 74 = .ok (.aload_n 0, 1) := by decide +kernel
theorem dX1_readNumber_75 : decode cX1_readNumber 75 = .ok (.getfield 117, 3) := by decide +kernel
theorem dX1_readNumber_78 : decode cX1_readNumber 78 = .ok (.iload_n 1, 1) := by decide +kernel
theorem dX1_readNumber_79 : decode cX1_readNumber 79 = .ok (.iload_n 2, 1) := by decide +kernel
theorem dX1_readNumber_80 : decode cX1_readNumber 80 = .ok (.invokestatic 143, 3) := by decide +kernel
theorem dX1_readNumber_83 : decode cX1_readNumber 83 = .ok (.ifCond .ne 15, 3) := by decide +kernel
theorem dX1_readNumber_86 : decode cX1_readNumber 86 = .ok (.aload_n 0, 1) := by decide +kernel
theorem dX1_readNumber_87 : decode cX1_readNumber 87 = .ok (.iconst 3, 1) := by decide +kernel
theorem dX1_readNumber_88 : decode cX1_readNumber 88 = .ok (.aload_n 0, 1) := by decide +kernel
theorem dX1_readNumber_89 : decode cX1_readNumber 89 = .ok (.getfield 107, 3) := by decide +kernel
theorem dX1_readNumber_92 : decode cX1_readNumber 92 = .ok (.invokevirtual 61, 3) := by decide +kernel
theorem dX1_readNumber_95 : decode cX1_readNumber 95 = .ok (.ifCond .eq 7, 3) := by decide +kernel
theorem dX1_readNumber_98 : decode cX1_readNumber 98 = .ok (.iconst 1, 1) := by decide +kernel
theorem dX1_readNumber_99 : decode cX1_readNumber 99 = .ok (.goto 4, 3) := by decide +kernel
theorem dX1_readNumber_102 : decode cX1_readNumber 102 = .ok (.iconst 0, 1) := by decide +kernel
theorem dX1_readNumber_103 : decode cX1_readNumber 103 = .ok (.ireturn, 1) := by decide +kernel
theorem dX1_readStop_0 : decode cX1_readStop 0 = .ok (.aload_n 0, 1) := by decide +kernel
theorem dX1_readStop_1 : decode cX1_readStop 1 = .ok (.invokevirtual 45, 3) := by decide +kernel
theorem dX1_readStop_4 : decode cX1_readStop 4 = .ok (.ifCond .eq 27, 3) := by decide +kernel
theorem dX1_readStop_7 : decode cX1_readStop 7 = .ok (.aload_n 0, 1) := by decide +kernel
theorem dX1_readStop_8 : decode cX1_readStop 8 = .ok (.getfield 49, 3) := by decide +kernel
theorem dX1_readStop_11 : decode cX1_readStop 11 = .ok (.iconst 3, 1) := by decide +kernel
theorem dX1_readStop_12 : decode cX1_readStop 12 = .ok (.if_icmp .eq 15, 3) := by decide +kernel
theorem dX1_readStop_15 : decode cX1_readStop 15 = .ok (.aload_n 0, 1) := by decide +kernel
theorem dX1_readStop_16 : decode cX1_readStop 16 = .ok (.iconst 2, 1) := by decide +kernel
theorem dX1_readStop_17 : decode cX1_readStop 17 = .ok (.aload_n 0, 1) := by decide +kernel
theorem dX1_readStop_18 : decode cX1_readStop 18 = .ok (.getfield 107, 3) := by decide +kernel
theorem dX1_readStop_21 : decode cX1_readStop 21 = .ok (.invokevirtual 61, 3) := by decide +kernel
theorem dX1_readStop_24 : decode cX1_readStop 24 = .ok (.ifCond .eq 7, 3) := by decide +kernel
theorem dX1_readStop_27 : decode cX1_readStop 27 = .ok (.iconst 1, 1) := by decide +kernel
theorem dX1_readStop_28 : decode cX1_readStop 28 = .ok (.goto 4, 3) := by decide +kernel
theorem dX1_readStop_31 : decode cX1_readStop 31 = .ok (.iconst 0, 1) := by decide +kernel
theorem dX1_readStop_32 : decode cX1_readStop 32 = .ok (.ireturn, 1) := by decide +kernel
def ntoB (b : Nat → Nat) (len p : Nat) : Bool := (nts b len p != 4) && !((nts b len p == 2) && decide (2 < ntt b len p - ntf b len p))
theorem ntoB_iff (b : Nat → Nat) (len p : Nat) : ntoB b len p = true ↔ nto b len p := by
  simp [ntoB, nto]
  intro _
  by_cases h : nts b len p = 2 <;> simp [h]
def yN (b : Nat → Nat) (len : Nat) (y : Nat → Nat) : Nat → Nat := ynt b len y (ntoB b len (y 2) = true)
def yF (y : Nat → Nat) (f p : Nat) : Nat → Nat := yset (yset y 7 f) 8 p
theorem mX1_next (b : Nat → Nat) (len : Nat) (d : rT) (hb : ∀ j, b j < 128) (hl : len ≤ 160) (y : Nat → Nat) (hy : y 2 ≤ len) : J KX1_nextToken 10 (fun o B => o = some (.int (jB (ntoB b len (y 2) = true))) ∧ B = wX b len d (yN b len y)) 0 [some (.ref 0), none] [] (wX b len d y) 0 0 := mX1_nextToken b len d hb hl y hy _ _ (ntoB_iff b len (y 2))
theorem ntf_le {b : Nat → Nat} {len p : Nat} (h : p ≤ len) : p ≤ ntf b len p ∧ ntf b len p ≤ len := by
  have := skp_le b (len - p) p
  unfold ntf
  omega
theorem srt_0 {b : Nat → Nat} {len p : Nat} (h : len ≤ p) : srt b len p = 0 := by
  rw [srt, bya, if_neg (by omega)]
  rfl
theorem ntt_le {b : Nat → Nat} {len p : Nat} (h : p ≤ len) : ntf b len p ≤ ntt b len p ∧ ntt b len p ≤ len := by
  have h1 := ntf_le (b := b) h
  have h2 := run_le b len (nts b len p) (len - ntf b len p) (ntf b len p)
  unfold ntt
  split
  · next h3 =>
    by_cases h4 : ntf b len p < len
    · omega
    · exact absurd (srt_0 (b := b) (show len ≤ ntf b len p by omega)) (by unfold nts at h3; rw [h3]; decide)
  · split <;> omega
theorem run_all (b : Nat → Nat) (len st : Nat) : ∀ k p i, p ≤ i → i < run b len st k p → srt b len i = st
  | 0, p, i, h1, h2 => absurd h2 (by simp only [run]; omega)
  | k + 1, p, i, h1, h2 => by
    simp only [run] at h2
    split at h2
    · next h3 =>
      by_cases h4 : i = p
      · rw [h4]; exact h3
      · exact run_all b len st k (p + 1) i (by omega) h2
    · omega
/-- the number that the digits from f on tell -/
def vl (b : Nat → Nat) (f : Nat) : Nat → Nat
  | 0 => 0
  | k + 1 => 10 * vl b f k + b (f + k) - 48
theorem dig {b : Nat → Nat} {len p : Nat} (hb : b p < 128) (h : srt b len p = 2) : 48 ≤ b p ∧ b p ≤ 57 := by
  by_cases hp : p < len
  · rw [srt, bya, if_pos hp] at h
    unfold sof at h
    rw [if_neg (nI_pos (by omega))] at h
    split at h
    · exact absurd h (by decide)
    · split at h
      · next h3 => exact ⟨(nI_lei (a := 48) (by decide) (by omega)).mp h3.1, (nI_lei (b := 57) (by omega) (by decide)).mp h3.2⟩
      · split at h <;> exact absurd h (by decide)
  · rw [srt_0 (by omega)] at h
    exact absurd h (by decide)
theorem vl_le {b : Nat → Nat} {f : Nat} (h : ∀ i, 48 ≤ b i → b i ≤ 57 → True) : ∀ k, (∀ i, i < k → 48 ≤ b (f + i) ∧ b (f + i) ≤ 57) → vl b f k < 10 ^ k
  | 0, _ => by simp only [vl]; decide
  | k + 1, h2 => by
    have h3 := vl_le h k (fun i hi => h2 i (by omega))
    have h4 := h2 k (by omega)
    simp only [vl, Nat.pow_succ]
    omega
abbrev spl (b y : Nat → Nat) (j : Nat) : Prop := y 0 = 1 ∧ y 2 - y 1 = jlen.getD j 0 ∧ ∀ i, i < jlen.getD j 0 → nI (b (y 1 + i)) = (jbyt.getD j []).getD i 0
set_option maxRecDepth 100000 in
set_option maxHeartbeats 4000000 in
theorem mX1_spells_l (b : Nat → Nat) (len : Nat) (d : rT) (hb : ∀ j, b j < 128) (hl : len ≤ 160) (y : Nat → Nat) (j : Nat) (hj : j < 11) (hy : y 1 ≤ y 2 ∧ y 2 ≤ len) (h0 : y 0 < 100) (h1 : y 0 = 1) (h2 : y 2 - y 1 = jlen.getD j 0) : ∀ (k9 i : Nat), i + k9 = jlen.getD j 0 → (∀ i9, i9 < i → nI (b (y 1 + i9)) = (jbyt.getD j []).getD i9 0) → J KX1_spells 10 (fun o B => o = some (.int (jB (spl b y j))) ∧ B = wX b len d y) 28 [some (.ref 0), some (.ref (1000 + j)), some (.int (nI i))] [] (wX b len d y) 0 0 := by
  intro k9
  induction k9 with
  | zero =>
    intro i hi
    obtain hiN : i = jlen.getD j 0 := by omega
    intro hst
    rw [hiN] at hst ⊢
    refine J.iload_n dX1_spells_28 rfl rfl ?_
    refine J.aload_n dX1_spells_29 rfl rfl ?_
    refine J.cvS (as := []) okJ0_length_8abf5 jsX1_157 (mJ0_length j hj) dX1_spells_30 hj rfl rfl rfl rfl (fun r9 B9 hq => ?_)
    obtain ⟨rfl, rfl⟩ := hq
    refine ⟨rfl, ?_⟩
    show J _ _ _ _ _ _ (wX b len d y) _ _
    refine J.icmp_ge (tgt := 65) dX1_spells_33 (by decide) (fun c33 => ?_) (fun c33 => absurd c33 (fun h => h (Int32.le_refl _)))
    refine J.iconst (1) dX1_spells_65 (by decide) ?_
    exact J.iret dX1_spells_66 rfl (by decide) (Nat.le_refl _) (Nat.le_refl _) ⟨congrArg (fun x => some (Value.int x)) (jB_t _ (⟨h1, h2, hst⟩)).symm, rfl⟩
  | succ k9 ih =>
    intro i hi
    have hiN : i < jlen.getD j 0 := by omega
    intro hst
    refine J.iload_n dX1_spells_28 rfl rfl ?_
    refine J.aload_n dX1_spells_29 rfl rfl ?_
    refine J.cvS (as := []) okJ0_length_8abf5 jsX1_157 (mJ0_length j hj) dX1_spells_30 hj rfl rfl rfl rfl (fun r9 B9 hq => ?_)
    obtain ⟨rfl, rfl⟩ := hq
    refine ⟨rfl, ?_⟩
    show J _ _ _ _ _ _ (wX b len d y) _ _
    refine J.icmp_ge (tgt := 65) dX1_spells_33 (by decide) (fun c33 => absurd c33 (nI_ge hiN (by have := slen_lt j hj; omega))) (fun c33 => ?_)
    refine J.aload_n dX1_spells_36 rfl rfl ?_
    refine J.getfield dX1_spells_37 jFX1_12 rfl rfl ?_
    refine J.aload_n dX1_spells_40 rfl rfl ?_
    refine J.getfield dX1_spells_41 jFX1_107 rfl rfl ?_
    refine J.iload_n dX1_spells_44 rfl rfl ?_
    refine J.iadd dX1_spells_45 ?_
    rw [nI_add]
    refine J.cv (as := [.int _]) (is := [1, 2]) (o := 0) okX5_byteAt jcX1_139 (mX5_byteAt b len (y 1 + i) hl (by omega)) dX1_spells_46 rfl rfl rfl rfl rfl rfl rfl (fun r9 B9 hq => ?_)
    obtain ⟨rfl, rfl⟩ := hq
    refine ⟨rfl, ?_⟩
    show J _ _ _ _ _ _ (wX b len d y) _ _
    refine J.aload_n dX1_spells_49 rfl rfl ?_
    refine J.iload_n dX1_spells_50 rfl rfl ?_
    refine J.cvS (as := [.int _]) okJ0_charAt_5068e jsX1_161 (mJ0_charAt j i hj hiN) dX1_spells_51 hj rfl rfl rfl rfl (fun r9 B9 hq => ?_)
    obtain ⟨rfl, rfl⟩ := hq
    refine ⟨rfl, ?_⟩
    show J _ _ _ _ _ _ (wX b len d y) _ _
    refine J.icmp_eq (tgt := 59) dX1_spells_54 (by decide) (fun c54 => ?_) (fun c54 => ?_)
    · refine J.iinc (1) dX1_spells_59 (by decide) rfl (by decide) rfl ?_
      try dsimp only [List.set, wX]
      refine J.goto (tgt := 28) dX1_spells_62 (by decide) ?_
      refine J.at (ih (i + 1) (by omega) (fun i9 h9 => ?_)) (by rw [← nI_1]) rfl rfl
      by_cases e9 : i9 = i
      · subst e9
        rw [show bya b len (y 1 + i9) = nI (b (y 1 + i9)) from if_pos (by have := h2; omega)] at c54
        exact c54
      · exact hst i9 (by omega)
    · refine J.iconst (0) dX1_spells_57 (by decide) ?_
      exact J.iret dX1_spells_58 rfl (by decide) (Nat.le_refl _) (Nat.le_refl _) ⟨congrArg (fun x => some (Value.int x)) (jB_f _ (fun h => c54 (by rw [show bya b len (y 1 + i) = nI (b (y 1 + i)) from if_pos (by have := h2; omega)]; exact h.2.2 i hiN))).symm, rfl⟩
set_option maxRecDepth 100000 in
set_option maxHeartbeats 4000000 in
theorem mX1_spells (b : Nat → Nat) (len : Nat) (d : rT) (hb : ∀ j, b j < 128) (hl : len ≤ 160) (y : Nat → Nat) (j : Nat) (hj : j < 11) (hy : y 1 ≤ y 2 ∧ y 2 ≤ len) (h0 : y 0 < 100) : J KX1_spells 10 (fun o B => o = some (.int (jB (spl b y j))) ∧ B = wX b len d y) 0 [some (.ref 0), some (.ref (1000 + j)), none] [] (wX b len d y) 0 0 := by
  refine J.aload_n dX1_spells_0 rfl rfl ?_
  refine J.getfield dX1_spells_1 jFX1_49 rfl rfl ?_
  refine J.iconst (1) dX1_spells_4 (by decide) ?_
  refine J.icmp_ne (tgt := 24) dX1_spells_5 (by decide) (fun c5 => ?_) (fun c5 => ?_)
  · refine J.iconst (0) dX1_spells_24 (by decide) ?_
    first | exact J.iret dX1_spells_25 rfl (by decide) (Nat.le_refl _) (Nat.le_refl _) ⟨congrArg (fun x => some (Value.int x)) (jB_f _ (fun h => c5 (congrArg nI h.1))).symm, rfl⟩ | exact J.iret dX1_spells_25 rfl (by decide) (Nat.le_refl _) (Nat.le_refl _) ⟨congrArg (fun x => some (Value.int x)) (jB_f _ (fun h => c21 (congrArg nI h.2.1))).symm, rfl⟩
  · refine J.aload_n dX1_spells_8 rfl rfl ?_
    refine J.getfield dX1_spells_9 jFX1_32 rfl rfl ?_
    refine J.aload_n dX1_spells_12 rfl rfl ?_
    refine J.getfield dX1_spells_13 jFX1_107 rfl rfl ?_
    refine J.isub dX1_spells_16 ?_
    refine J.aload_n dX1_spells_17 rfl rfl ?_
    refine J.cvS (as := []) okJ0_length_8abf5 jsX1_157 (mJ0_length j hj) dX1_spells_18 hj rfl rfl rfl rfl (fun r9 B9 hq => ?_)
    obtain ⟨rfl, rfl⟩ := hq
    refine ⟨rfl, ?_⟩
    show J _ _ _ _ _ _ (wX b len d y) _ _
    rw [pk_sub hy.1]
    refine J.icmp_eq (tgt := 26) dX1_spells_21 (by decide) (fun c21 => ?_) (fun c21 => ?_)
    · refine J.iconst (0) dX1_spells_26 (by decide) ?_
      refine J.istore_n dX1_spells_27 rfl (by decide) rfl ?_
      try dsimp only [List.set, wX]
      exact mX1_spells_l b len d hb hl y j hj hy h0 ((nI_eqi (b := 1) (by omega) (by decide)).mp c5) ((nI_eqi (by omega) (by have := slen_lt j hj; omega)).mp c21) (jlen.getD j 0) 0 (by omega) (fun i9 h9 => absurd h9 (Nat.not_lt_zero _))
    · refine J.iconst (0) dX1_spells_24 (by decide) ?_
      first | exact J.iret dX1_spells_25 rfl (by decide) (Nat.le_refl _) (Nat.le_refl _) ⟨congrArg (fun x => some (Value.int x)) (jB_f _ (fun h => c5 (congrArg nI h.1))).symm, rfl⟩ | exact J.iret dX1_spells_25 rfl (by decide) (Nat.le_refl _) (Nat.le_refl _) ⟨congrArg (fun x => some (Value.int x)) (jB_f _ (fun h => c21 (congrArg nI h.2.1))).symm, rfl⟩
/-- readNumber, readStop: whether they go on, and what they leave -/
def rdN (b : Nat → Nat) (len lo up : Nat) (y : Nat → Nat) : Bool × (Nat → Nat) :=
  if ntoB b len (y 2) = true then
    (if yN b len y 0 = 2 then
      (if lo ≤ vl b (yN b len y 1) (yN b len y 2 - yN b len y 1) ∧ vl b (yN b len y 1) (yN b len y 2 - yN b len y 1) ≤ up then (true, yset (yN b len y) 3 (vl b (yN b len y 1) (yN b len y 2 - yN b len y 1)))
       else (false, yF (yset (yN b len y) 3 (vl b (yN b len y 1) (yN b len y 2 - yN b len y 1))) 3 (yN b len y 1)))
     else (false, yF (yN b len y) 2 (yN b len y 1)))
  else (false, yN b len y)
def rdS (b : Nat → Nat) (len : Nat) (y : Nat → Nat) : Bool × (Nat → Nat) :=
  if ntoB b len (y 2) = true then (if yN b len y 0 = 3 then (true, yN b len y) else (false, yF (yN b len y) 2 (yN b len y 1))) else (false, yN b len y)
theorem yN_2 {b : Nat → Nat} {len : Nat} {y : Nat → Nat} (h : y 2 ≤ len) : yN b len y 1 ≤ yN b len y 2 ∧ yN b len y 2 ≤ len := ntt_le h
theorem yN_0 (b : Nat → Nat) (len : Nat) (y : Nat → Nat) : yN b len y 0 ≤ 4 := sof_le _
theorem yN_d {b : Nat → Nat} {len : Nat} {y : Nat → Nat} (h : y 2 ≤ len) (hb : ∀ j, b j < 128) (h1 : ntoB b len (y 2) = true) (h2 : yN b len y 0 = 2) : yN b len y 2 - yN b len y 1 ≤ 2 ∧ ∀ i, i < yN b len y 2 - yN b len y 1 → 48 ≤ b (yN b len y 1 + i) ∧ b (yN b len y 1 + i) ≤ 57 := by
  have h3 : nts b len (y 2) = 2 := h2
  have h4 := (ntoB_iff b len (y 2)).mp h1
  refine ⟨Nat.not_lt.mp (fun h9 => h4.2 ⟨h3, h9⟩), fun i up => ?_⟩
  refine dig (hb _) (?_ : srt b len _ = 2)
  have h5 : ntt b len (y 2) = run b len (nts b len (y 2)) (len - ntf b len (y 2)) (ntf b len (y 2)) := (if_neg (by rw [h3]; decide)).trans (if_pos (Or.inr h3))
  have h6 : i < ntt b len (y 2) - ntf b len (y 2) := up
  rw [← h3]
  exact run_all b len _ (len - ntf b len (y 2)) (ntf b len (y 2)) _ (Nat.le_add_right _ _) (by rw [← h5]; show ntf b len (y 2) + i < _; omega)
set_option maxRecDepth 100000 in
set_option maxHeartbeats 4000000 in
theorem mX1_readNumber_l (b : Nat → Nat) (len : Nat) (d : rT) (hb : ∀ j, b j < 128) (hl : len ≤ 160) (y : Nat → Nat) (hy : y 2 ≤ len) (lo up : Nat) (hlo : lo < 1000) (hhi : up < 1000) (n4 : ntoB b len (y 2) = true) (n2 : yN b len y 0 = 2) (hdg : ∀ i, i < yN b len y 2 - yN b len y 1 → 48 ≤ b (yN b len y 1 + i) ∧ b (yN b len y 1 + i) ≤ 57) (hy1 : yN b len y 1 ≤ yN b len y 2 ∧ yN b len y 2 ≤ len) (hw9 : ¬ jB (nI lo ≤ nI (vl b (yN b len y 1) (yN b len y 2 - yN b len y 1)) ∧ nI (vl b (yN b len y 1) (yN b len y 2 - yN b len y 1)) ≤ nI up) = 0 → lo ≤ (vl b (yN b len y 1) (yN b len y 2 - yN b len y 1)) ∧ (vl b (yN b len y 1) (yN b len y 2 - yN b len y 1)) ≤ up) (hw8 : jB (nI lo ≤ nI (vl b (yN b len y 1) (yN b len y 2 - yN b len y 1)) ∧ nI (vl b (yN b len y 1) (yN b len y 2 - yN b len y 1)) ≤ nI up) = 0 → ¬ (lo ≤ (vl b (yN b len y 1) (yN b len y 2 - yN b len y 1)) ∧ (vl b (yN b len y 1) (yN b len y 2 - yN b len y 1)) ≤ up)) : ∀ (k9 i : Nat), i + k9 = (yN b len y 2 - yN b len y 1) → J KX1_readNumber 10 (fun o B => o = some (.int (jB ((rdN b len lo up y).1 = true))) ∧ B = wX b len d (rdN b len lo up y).2) 37 [some (.ref 0), some (.int (nI lo)), some (.int (nI up)), some (.int (nI (yN b len y 1 + i)))] [] (wX b len d (yset (yN b len y) 3 (vl b (yN b len y 1) i))) 0 0 := by
  intro k9
  induction k9 with
  | zero =>
    intro i hi
    obtain hiN : i = (yN b len y 2 - yN b len y 1) := by omega
    subst hiN
    refine J.iload_n dX1_readNumber_37 rfl rfl ?_
    refine J.aload_n dX1_readNumber_38 rfl rfl ?_
    refine J.getfield dX1_readNumber_39 jFX1_32 rfl rfl ?_
    refine J.icmp_ge (tgt := 74) dX1_readNumber_42 (by decide) (fun c42 => ?_) (fun c42 => absurd c42 (fun h => h (show nI (yN b len y 2) ≤ nI (yN b len y 1 + (yN b len y 2 - yN b len y 1)) from (nI_lei (by omega) (by omega)).mpr (by omega))))
    refine J.aload_n dX1_readNumber_74 rfl rfl ?_
    refine J.getfield dX1_readNumber_75 jFX1_117 rfl rfl ?_
    refine J.iload_n dX1_readNumber_78 rfl rfl ?_
    refine J.iload_n dX1_readNumber_79 rfl rfl ?_
    refine J.cs (as := [.int _, .int _, .int _]) (is := []) okX6_within jcX1_143 (mX6_within _ _ _) dX1_readNumber_80 rfl rfl rfl rfl rfl rfl (fun r9 B9 hq => ?_)
    obtain ⟨rfl, rfl⟩ := hq
    refine ⟨rfl, ?_⟩
    show J _ _ _ _ _ (.int _ :: _) (wX b len d (yset (yN b len y) 3 (vl b (yN b len y 1) (yN b len y 2 - yN b len y 1)))) _ _
    refine J.if_ne (tgt := 98) dX1_readNumber_83 (by decide) (fun c83 => ?_) (fun c83 => ?_)
    · refine J.iconst (1) dX1_readNumber_98 (by decide) ?_
      refine J.goto (tgt := 103) dX1_readNumber_99 (by decide) ?_
      first | (have e9 : rdN b len lo up y = (true, yset (yN b len y) 3 (vl b (yN b len y 1) (yN b len y 2 - yN b len y 1))) := (if_pos n4).trans ((if_pos n2).trans (if_pos (hw9 c83))); exact J.iret dX1_readNumber_103 rfl (by decide) (Nat.le_refl _) (Nat.le_refl _) ⟨by rw [e9] <;> rfl, by rw [e9] <;> rfl⟩) | (have e9 : rdN b len lo up y = (false, yF (yset (yN b len y) 3 (vl b (yN b len y 1) (yN b len y 2 - yN b len y 1))) 3 (yN b len y 1)) := (if_pos n4).trans ((if_pos n2).trans (if_neg (hw8 c83))); exact J.iret dX1_readNumber_103 rfl (by decide) (Nat.le_refl _) (Nat.le_refl _) ⟨by rw [e9] <;> rfl, by rw [e9] <;> rfl⟩)
    · refine J.aload_n dX1_readNumber_86 rfl rfl ?_
      refine J.iconst (3) dX1_readNumber_87 (by decide) ?_
      refine J.aload_n dX1_readNumber_88 rfl rfl ?_
      refine J.getfield dX1_readNumber_89 jFX1_107 rfl rfl ?_
      refine J.cv (as := [.int (nI 3), .int _]) (is := [0, 1, 2, 3, 4, 5, 6, 7, 8, 9]) (o := 0) okX1_fail jcX1_61 (mX1_fail b len d (yset (yN b len y) 3 (vl b (yN b len y 1) (yN b len y 2 - yN b len y 1))) 3 (yN b len y 1)) dX1_readNumber_92 rfl rfl rfl rfl rfl rfl rfl (fun r9 B9 hq => ?_)
      obtain ⟨rfl, rfl⟩ := hq
      refine ⟨rfl, ?_⟩
      show J _ _ _ _ _ (.int 0 :: _) (wX b len d (yF (yset (yN b len y) 3 (vl b (yN b len y 1) (yN b len y 2 - yN b len y 1))) 3 (yN b len y 1))) _ _
      refine J.if_eq (tgt := 102) dX1_readNumber_95 (by decide) (fun c95 => ?_) (fun c95 => absurd c95 (fun h => h rfl))
      refine J.iconst (0) dX1_readNumber_102 (by decide) ?_
      first | (have e9 : rdN b len lo up y = (true, yset (yN b len y) 3 (vl b (yN b len y 1) (yN b len y 2 - yN b len y 1))) := (if_pos n4).trans ((if_pos n2).trans (if_pos (hw9 c83))); exact J.iret dX1_readNumber_103 rfl (by decide) (Nat.le_refl _) (Nat.le_refl _) ⟨by rw [e9] <;> rfl, by rw [e9] <;> rfl⟩) | (have e9 : rdN b len lo up y = (false, yF (yset (yN b len y) 3 (vl b (yN b len y 1) (yN b len y 2 - yN b len y 1))) 3 (yN b len y 1)) := (if_pos n4).trans ((if_pos n2).trans (if_neg (hw8 c83))); exact J.iret dX1_readNumber_103 rfl (by decide) (Nat.le_refl _) (Nat.le_refl _) ⟨by rw [e9] <;> rfl, by rw [e9] <;> rfl⟩)
  | succ k9 ih =>
    intro i hi
    have hiN : i < (yN b len y 2 - yN b len y 1) := by omega
    refine J.iload_n dX1_readNumber_37 rfl rfl ?_
    refine J.aload_n dX1_readNumber_38 rfl rfl ?_
    refine J.getfield dX1_readNumber_39 jFX1_32 rfl rfl ?_
    refine J.icmp_ge (tgt := 74) dX1_readNumber_42 (by decide) (fun c42 => absurd c42 (nI_ge (show yN b len y 1 + i < yN b len y 2 by omega) (show yN b len y 2 < 2147483648 by omega))) (fun c42 => ?_)
    refine J.aload_n dX1_readNumber_45 rfl rfl ?_
    refine J.bipush (10) dX1_readNumber_46 (by decide) ?_
    refine J.aload_n dX1_readNumber_48 rfl rfl ?_
    refine J.getfield dX1_readNumber_49 jFX1_117 rfl rfl ?_
    refine J.imul dX1_readNumber_52 ?_
    refine J.aload_n dX1_readNumber_53 rfl rfl ?_
    refine J.getfield dX1_readNumber_54 jFX1_12 rfl rfl ?_
    refine J.iload_n dX1_readNumber_57 rfl rfl ?_
    refine J.cv (as := [.int _]) (is := [1, 2]) (o := 0) okX5_byteAt jcX1_139 (mX5_byteAt b len (yN b len y 1 + i) hl (by omega)) dX1_readNumber_58 rfl rfl rfl rfl rfl rfl rfl (fun r9 B9 hq => ?_)
    obtain ⟨rfl, rfl⟩ := hq
    refine ⟨rfl, ?_⟩
    show J _ _ _ _ _ _ (wX b len d (yset (yN b len y) 3 (vl b (yN b len y 1) i))) _ _
    refine J.iadd dX1_readNumber_61 ?_
    refine J.bipush (48) dX1_readNumber_62 (by decide) ?_
    refine J.isub dX1_readNumber_64 ?_
    rw [(show bya b len (yN b len y 1 + i) = nI (b (yN b len y 1 + i)) from if_pos (by omega)), show (10 : Int32) = nI 10 from rfl, show (48 : Int32) = nI 48 from rfl, show nI 10 * nI ((yset (yN b len y) 3 (vl b (yN b len y 1) i)) 3) + nI (b (yN b len y 1 + i)) - nI 48 = nI (vl b (yN b len y 1) (i + 1)) from by (rw [pk_mul, nI_add, pk_sub (by have := (hdg i hiN).1; omega)]; rfl)]
    refine J.putfield dX1_readNumber_65 jFX1_117 jP1_5 rfl rfl rfl (Nat.le_of_ble_eq_true rfl) ?_
    try dsimp only [List.set, wX]
    refine J.iinc (1) dX1_readNumber_68 (by decide) rfl (by decide) rfl ?_
    try dsimp only [List.set, wX]
    refine J.goto (tgt := 37) dX1_readNumber_71 (by decide) ?_
    exact J.at (ih (i + 1) (by omega)) (by rw [← Nat.add_assoc, ← nI_1]) rfl rfl
set_option maxRecDepth 100000 in
set_option maxHeartbeats 4000000 in
theorem mX1_readNumber (b : Nat → Nat) (len : Nat) (d : rT) (hb : ∀ j, b j < 128) (hl : len ≤ 160) (y : Nat → Nat) (hy : y 2 ≤ len) (lo up : Nat) (hlo : lo < 1000) (hhi : up < 1000) : J KX1_readNumber 10 (fun o B => o = some (.int (jB ((rdN b len lo up y).1 = true))) ∧ B = wX b len d (rdN b len lo up y).2) 0 [some (.ref 0), some (.int (nI lo)), some (.int (nI up)), none] [] (wX b len d y) 0 0 := by
  refine J.aload_n dX1_readNumber_0 rfl rfl ?_
  refine J.cv (as := []) (is := [0, 1, 2, 3, 4, 5, 6, 7, 8, 9]) (o := 0) okX1_nextToken jcX1_45 (mX1_next b len d hb hl y hy) dX1_readNumber_1 rfl rfl rfl rfl rfl rfl rfl (fun r9 B9 hq => ?_)
  obtain ⟨rfl, rfl⟩ := hq
  refine ⟨rfl, ?_⟩
  show J _ _ _ _ _ (.int _ :: _) (wX b len d (yN b len y)) _ _
  refine J.if_ne (tgt := 9) dX1_readNumber_4 (by decide) (fun c4 => ?_) (fun c4 => ?_)
  · refine J.aload_n dX1_readNumber_9 rfl rfl ?_
    refine J.getfield dX1_readNumber_10 jFX1_49 rfl rfl ?_
    refine J.iconst (2) dX1_readNumber_13 (by decide) ?_
    refine J.icmp_eq (tgt := 27) dX1_readNumber_14 (by decide) (fun c14 => ?_) (fun c14 => ?_)
    · refine J.aload_n dX1_readNumber_27 rfl rfl ?_
      refine J.iconst (0) dX1_readNumber_28 (by decide) ?_
      refine J.putfield dX1_readNumber_29 jFX1_117 jP1_5 rfl rfl rfl (Nat.le_of_ble_eq_true rfl) ?_
      try dsimp only [List.set, wX]
      refine J.aload_n dX1_readNumber_32 rfl rfl ?_
      refine J.getfield dX1_readNumber_33 jFX1_107 rfl rfl ?_
      refine J.istore_n dX1_readNumber_36 rfl (by decide) rfl ?_
      try dsimp only [List.set, wX]
      have n4 : ntoB b len (y 2) = true := Decidable.not_not.mp (fun h => c4 ((jB_0 _).mpr h))
      have n2 := (show yN b len y 0 = 2 from (nI_eqi (b := 2) (by have := yN_0 b len y; omega) (by decide)).mp c14)
      have hd9 := yN_d hy hb n4 n2
      have hy1 := yN_2 (b := b) hy
      have hv9 : (vl b (yN b len y 1) (yN b len y 2 - yN b len y 1)) < 100 := Nat.lt_of_lt_of_le (vl_le (fun _ _ _ => trivial) _ hd9.2) (Nat.pow_le_pow_right (by decide) hd9.1)
      have hw : (nI lo ≤ nI (vl b (yN b len y 1) (yN b len y 2 - yN b len y 1)) ∧ nI (vl b (yN b len y 1) (yN b len y 2 - yN b len y 1)) ≤ nI up) ↔ (lo ≤ (vl b (yN b len y 1) (yN b len y 2 - yN b len y 1)) ∧ (vl b (yN b len y 1) (yN b len y 2 - yN b len y 1)) ≤ up) := and_congr (nI_lei (by omega) (by omega)) (nI_lei (by omega) (by omega))
      exact J.at (mX1_readNumber_l b len d hb hl y hy lo up hlo hhi n4 n2 hd9.2 hy1 (fun h => hw.mp (Decidable.not_not.mp (fun h9 => h ((jB_0 _).mpr h9)))) (fun h h9 => (jB_0 _).mp h (hw.mpr h9)) (yN b len y 2 - yN b len y 1) 0 (by omega)) rfl rfl rfl
    · refine J.aload_n dX1_readNumber_17 rfl rfl ?_
      refine J.iconst (2) dX1_readNumber_18 (by decide) ?_
      refine J.aload_n dX1_readNumber_19 rfl rfl ?_
      refine J.getfield dX1_readNumber_20 jFX1_107 rfl rfl ?_
      refine J.cv (as := [.int (nI 2), .int _]) (is := [0, 1, 2, 3, 4, 5, 6, 7, 8, 9]) (o := 0) okX1_fail jcX1_61 (mX1_fail b len d (yN b len y) 2 (yN b len y 1)) dX1_readNumber_23 rfl rfl rfl rfl rfl rfl rfl (fun r9 B9 hq => ?_)
      obtain ⟨rfl, rfl⟩ := hq
      refine ⟨rfl, ?_⟩
      show J _ _ _ _ _ (.int 0 :: _) (wX b len d (yF (yN b len y) 2 (yN b len y 1))) _ _
      have n4 : ntoB b len (y 2) = true := Decidable.not_not.mp (fun h => c4 ((jB_0 _).mpr h))
      have e9 : rdN b len lo up y = (false, yF (yN b len y) 2 (yN b len y 1)) := (if_pos n4).trans (if_neg (fun h => c14 (congrArg nI h)))
      exact J.iret dX1_readNumber_26 rfl (by decide) (Nat.le_refl _) (Nat.le_refl _) ⟨by rw [e9] <;> rfl, by rw [e9] <;> rfl⟩
  · refine J.iconst (0) dX1_readNumber_7 (by decide) ?_
    have n4 : ¬ ntoB b len (y 2) = true := (jB_0 _).mp c4
    have e9 : rdN b len lo up y = (false, yN b len y) := if_neg n4
    exact J.iret dX1_readNumber_8 rfl (by decide) (Nat.le_refl _) (Nat.le_refl _) ⟨by rw [e9] <;> rfl, by rw [e9] <;> rfl⟩
end
section
theorem dX1_readHair_0 : decode cX1_readHair 0 = .ok (.aload_n 0, 1) := by decide +kernel
theorem dX1_readHair_1 : decode cX1_readHair 1 = .ok (.getfield 21, 3) := by decide +kernel
theorem dX1_readHair_4 : decode cX1_readHair 4 = .ok (.getfield 55, 3) := by decide +kernel
theorem dX1_readHair_7 : decode cX1_readHair 7 = .ok (.iconst 3, 1) := by decide +kernel
theorem dX1_readHair_8 : decode cX1_readHair 8 = .ok (.if_icmp .lt 13, 3) := by decide +kernel
theorem dX1_readHair_11 : decode cX1_readHair 11 = .ok (.aload_n 0, 1) := by decide +kernel
theorem dX1_readHair_12 : decode cX1_readHair 12 = .ok (.iconst 5, 1) := by decide +kernel
theorem dX1_readHair_13 : decode cX1_readHair 13 = .ok (.aload_n 0, 1) := by decide +kernel
theorem dX1_readHair_14 : decode cX1_readHair 14 = .ok (.getfield 107, 3) := by decide +kernel
theorem dX1_readHair_17 : decode cX1_readHair 17 = .ok (.invokevirtual 61, 3) := by decide +kernel
theorem dX1_readHair_20 : decode cX1_readHair 20 = .ok (.ireturn, 1) := by decide +kernel
theorem dX1_readHair_21 : decode cX1_readHair 21 = .ok (.aload_n 0, 1) := by decide +kernel
theorem dX1_readHair_22 : decode cX1_readHair 22 = .ok (.invokevirtual 45, 3) := by decide +kernel
theorem dX1_readHair_25 : decode cX1_readHair 25 = .ok (.ifCond .ne 5, 3) := by decide +kernel
theorem dX1_readHair_28 : decode cX1_readHair 28 = .ok (.iconst 0, 1) := by decide +kernel
theorem dX1_readHair_29 : decode cX1_readHair 29 = .ok (.ireturn, 1) := by decide +kernel
theorem dX1_readHair_30 : decode cX1_readHair 30 = .ok (.aload_n 0, 1) := by decide +kernel
theorem dX1_readHair_31 : decode cX1_readHair 31 = .ok (.invokevirtual 110, 3) := by decide +kernel
theorem dX1_readHair_34 : decode cX1_readHair 34 = .ok (.istore_n 1, 1) := by decide +kernel
theorem dX1_readHair_35 : decode cX1_readHair 35 = .ok (.iload_n 1, 1) := by decide +kernel
theorem dX1_readHair_36 : decode cX1_readHair 36 = .ok (.ifCond .ge 13, 3) := by decide +kernel
theorem dX1_readHair_39 : decode cX1_readHair 39 = .ok (.aload_n 0, 1) := by decide +kernel
theorem dX1_readHair_40 : decode cX1_readHair 40 = .ok (.iconst 2, 1) := by decide +kernel
theorem dX1_readHair_41 : decode cX1_readHair 41 = .ok (.aload_n 0, 1) := by decide +kernel
theorem dX1_readHair_42 : decode cX1_readHair 42 = .ok (.getfield 107, 3) := by decide +kernel
theorem dX1_readHair_45 : decode cX1_readHair 45 = .ok (.invokevirtual 61, 3) := by decide +kernel
theorem dX1_readHair_48 : decode cX1_readHair 48 = .ok (.ireturn, 1) := by decide +kernel
theorem dX1_readHair_49 : decode cX1_readHair 49 = .ok (.aload_n 0, 1) := by decide +kernel
theorem dX1_readHair_50 : decode cX1_readHair 50 = .ok (.iconst 0, 1) := by decide +kernel
theorem dX1_readHair_51 : decode cX1_readHair 51 = .ok (.bipush 9, 2) := by decide +kernel
theorem dX1_readHair_53 : decode cX1_readHair 53 = .ok (.invokevirtual 114, 3) := by decide +kernel
theorem dX1_readHair_56 : decode cX1_readHair 56 = .ok (.ifCond .eq 22, 3) := by decide +kernel
theorem dX1_readHair_59 : decode cX1_readHair 59 = .ok (.aload_n 0, 1) := by decide +kernel
theorem dX1_readHair_60 : decode cX1_readHair 60 = .ok (.getfield 21, 3) := by decide +kernel
theorem dX1_readHair_63 : decode cX1_readHair 63 = .ok (.iload_n 1, 1) := by decide +kernel
theorem dX1_readHair_64 : decode cX1_readHair 64 = .ok (.aload_n 0, 1) := by decide +kernel
theorem dX1_readHair_65 : decode cX1_readHair 65 = .ok (.getfield 117, 3) := by decide +kernel
theorem dX1_readHair_68 : decode cX1_readHair 68 = .ok (.invokevirtual 120, 3) := by decide +kernel
theorem dX1_readHair_71 : decode cX1_readHair 71 = .ok (.ifCond .eq 7, 3) := by decide +kernel
theorem dX1_readHair_74 : decode cX1_readHair 74 = .ok (.iconst 1, 1) := by decide +kernel
theorem dX1_readHair_75 : decode cX1_readHair 75 = .ok (.goto 4, 3) := by decide +kernel
theorem dX1_readHair_78 : decode cX1_readHair 78 = .ok (.iconst 0, 1) := by decide +kernel
theorem dX1_readHair_79 : decode cX1_readHair 79 = .ok (.ireturn, 1) := by decide +kernel
theorem dX1_readKing_0 : decode cX1_readKing 0 = .ok (.aload_n 0, 1) := by decide +kernel
theorem dX1_readKing_1 : decode cX1_readKing 1 = .ok (.getfield 21, 3) := by decide +kernel
theorem dX1_readKing_4 : decode cX1_readKing 4 = .ok (.getfield 123, 3) := by decide +kernel
theorem dX1_readKing_7 : decode cX1_readKing 7 = .ok (.iconst 4, 1) := by decide +kernel
theorem dX1_readKing_8 : decode cX1_readKing 8 = .ok (.if_icmp .lt 13, 3) := by decide +kernel
theorem dX1_readKing_11 : decode cX1_readKing 11 = .ok (.aload_n 0, 1) := by decide +kernel
theorem dX1_readKing_12 : decode cX1_readKing 12 = .ok (.iconst 5, 1) := by decide +kernel
theorem dX1_readKing_13 : decode cX1_readKing 13 = .ok (.aload_n 0, 1) := by decide +kernel
theorem dX1_readKing_14 : decode cX1_readKing 14 = .ok (.getfield 107, 3) := by decide +kernel
theorem dX1_readKing_17 : decode cX1_readKing 17 = .ok (.invokevirtual 61, 3) := by decide +kernel
theorem dX1_readKing_20 : decode cX1_readKing 20 = .ok (.ireturn, 1) := by decide +kernel
theorem dX1_readKing_21 : decode cX1_readKing 21 = .ok (.aload_n 0, 1) := by decide +kernel
theorem dX1_readKing_22 : decode cX1_readKing 22 = .ok (.iconst 0, 1) := by decide +kernel
theorem dX1_readKing_23 : decode cX1_readKing 23 = .ok (.bipush 9, 2) := by decide +kernel
theorem dX1_readKing_25 : decode cX1_readKing 25 = .ok (.invokevirtual 114, 3) := by decide +kernel
theorem dX1_readKing_28 : decode cX1_readKing 28 = .ok (.ifCond .ne 5, 3) := by decide +kernel
theorem dX1_readKing_31 : decode cX1_readKing 31 = .ok (.iconst 0, 1) := by decide +kernel
theorem dX1_readKing_32 : decode cX1_readKing 32 = .ok (.ireturn, 1) := by decide +kernel
theorem dX1_readKing_33 : decode cX1_readKing 33 = .ok (.aload_n 0, 1) := by decide +kernel
theorem dX1_readKing_34 : decode cX1_readKing 34 = .ok (.getfield 117, 3) := by decide +kernel
theorem dX1_readKing_37 : decode cX1_readKing 37 = .ok (.istore_n 1, 1) := by decide +kernel
theorem dX1_readKing_38 : decode cX1_readKing 38 = .ok (.aload_n 0, 1) := by decide +kernel
theorem dX1_readKing_39 : decode cX1_readKing 39 = .ok (.iconst 0, 1) := by decide +kernel
theorem dX1_readKing_40 : decode cX1_readKing 40 = .ok (.bipush 99, 2) := by decide +kernel
theorem dX1_readKing_42 : decode cX1_readKing 42 = .ok (.invokevirtual 114, 3) := by decide +kernel
theorem dX1_readKing_45 : decode cX1_readKing 45 = .ok (.ifCond .eq 22, 3) := by decide +kernel
theorem dX1_readKing_48 : decode cX1_readKing 48 = .ok (.aload_n 0, 1) := by decide +kernel
theorem dX1_readKing_49 : decode cX1_readKing 49 = .ok (.getfield 21, 3) := by decide +kernel
theorem dX1_readKing_52 : decode cX1_readKing 52 = .ok (.iload_n 1, 1) := by decide +kernel
theorem dX1_readKing_53 : decode cX1_readKing 53 = .ok (.aload_n 0, 1) := by decide +kernel
theorem dX1_readKing_54 : decode cX1_readKing 54 = .ok (.getfield 117, 3) := by decide +kernel
theorem dX1_readKing_57 : decode cX1_readKing 57 = .ok (.invokevirtual 126, 3) := by decide +kernel
theorem dX1_readKing_60 : decode cX1_readKing 60 = .ok (.ifCond .eq 7, 3) := by decide +kernel
theorem dX1_readKing_63 : decode cX1_readKing 63 = .ok (.iconst 1, 1) := by decide +kernel
theorem dX1_readKing_64 : decode cX1_readKing 64 = .ok (.goto 4, 3) := by decide +kernel
theorem dX1_readKing_67 : decode cX1_readKing 67 = .ok (.iconst 0, 1) := by decide +kernel
theorem dX1_readKing_68 : decode cX1_readKing 68 = .ok (.ireturn, 1) := by decide +kernel
theorem dX1_readLaw_0 : decode cX1_readLaw 0 = .ok (.aload_n 0, 1) := by decide +kernel
theorem dX1_readLaw_1 : decode cX1_readLaw 1 = .ok (.getfield 21, 3) := by decide +kernel
theorem dX1_readLaw_4 : decode cX1_readLaw 4 = .ok (.getfield 129, 3) := by decide +kernel
theorem dX1_readLaw_7 : decode cX1_readLaw 7 = .ok (.iconst 3, 1) := by decide +kernel
theorem dX1_readLaw_8 : decode cX1_readLaw 8 = .ok (.if_icmp .lt 13, 3) := by decide +kernel
theorem dX1_readLaw_11 : decode cX1_readLaw 11 = .ok (.aload_n 0, 1) := by decide +kernel
theorem dX1_readLaw_12 : decode cX1_readLaw 12 = .ok (.iconst 5, 1) := by decide +kernel
theorem dX1_readLaw_13 : decode cX1_readLaw 13 = .ok (.aload_n 0, 1) := by decide +kernel
theorem dX1_readLaw_14 : decode cX1_readLaw 14 = .ok (.getfield 107, 3) := by decide +kernel
theorem dX1_readLaw_17 : decode cX1_readLaw 17 = .ok (.invokevirtual 61, 3) := by decide +kernel
theorem dX1_readLaw_20 : decode cX1_readLaw 20 = .ok (.ireturn, 1) := by decide +kernel
theorem dX1_readLaw_21 : decode cX1_readLaw 21 = .ok (.aload_n 0, 1) := by decide +kernel
theorem dX1_readLaw_22 : decode cX1_readLaw 22 = .ok (.iconst 1, 1) := by decide +kernel
theorem dX1_readLaw_23 : decode cX1_readLaw 23 = .ok (.iconst 5, 1) := by decide +kernel
theorem dX1_readLaw_24 : decode cX1_readLaw 24 = .ok (.invokevirtual 114, 3) := by decide +kernel
theorem dX1_readLaw_27 : decode cX1_readLaw 27 = .ok (.ifCond .ne 5, 3) := by decide +kernel
theorem dX1_readLaw_30 : decode cX1_readLaw 30 = .ok (.iconst 0, 1) := by decide +kernel
theorem dX1_readLaw_31 : decode cX1_readLaw 31 = .ok (.ireturn, 1) := by decide +kernel
theorem dX1_readLaw_32 : decode cX1_readLaw 32 = .ok (.aload_n 0, 1) := by decide +kernel
theorem dX1_readLaw_33 : decode cX1_readLaw 33 = .ok (.getfield 117, 3) := by decide +kernel
theorem dX1_readLaw_36 : decode cX1_readLaw 36 = .ok (.istore_n 1, 1) := by decide +kernel
theorem dX1_readLaw_37 : decode cX1_readLaw 37 = .ok (.aload_n 0, 1) := by decide +kernel
theorem dX1_readLaw_38 : decode cX1_readLaw 38 = .ok (.iconst 0, 1) := by decide +kernel
theorem dX1_readLaw_39 : decode cX1_readLaw 39 = .ok (.bipush 9, 2) := by decide +kernel
theorem dX1_readLaw_41 : decode cX1_readLaw 41 = .ok (.invokevirtual 114, 3) := by decide +kernel
theorem dX1_readLaw_44 : decode cX1_readLaw 44 = .ok (.ifCond .eq 22, 3) := by decide +kernel
theorem dX1_readLaw_47 : decode cX1_readLaw 47 = .ok (.aload_n 0, 1) := by decide +kernel
theorem dX1_readLaw_48 : decode cX1_readLaw 48 = .ok (.getfield 21, 3) := by decide +kernel
theorem dX1_readLaw_51 : decode cX1_readLaw 51 = .ok (.iload_n 1, 1) := by decide +kernel
theorem dX1_readLaw_52 : decode cX1_readLaw 52 = .ok (.aload_n 0, 1) := by decide +kernel
theorem dX1_readLaw_53 : decode cX1_readLaw 53 = .ok (.getfield 117, 3) := by decide +kernel
theorem dX1_readLaw_56 : decode cX1_readLaw 56 = .ok (.invokevirtual 132, 3) := by decide +kernel
theorem dX1_readLaw_59 : decode cX1_readLaw 59 = .ok (.ifCond .eq 7, 3) := by decide +kernel
theorem dX1_readLaw_62 : decode cX1_readLaw 62 = .ok (.iconst 1, 1) := by decide +kernel
theorem dX1_readLaw_63 : decode cX1_readLaw 63 = .ok (.goto 4, 3) := by decide +kernel
theorem dX1_readLaw_66 : decode cX1_readLaw 66 = .ok (.iconst 0, 1) := by decide +kernel
theorem dX1_readLaw_67 : decode cX1_readLaw 67 = .ok (.ireturn, 1) := by decide +kernel
theorem dX1_readLoad_0 : decode cX1_readLoad 0 = .ok (.aload_n 0, 1) := by decide +kernel
theorem dX1_readLoad_1 : decode cX1_readLoad 1 = .ok (.getfield 38, 3) := by decide +kernel
theorem dX1_readLoad_4 : decode cX1_readLoad 4 = .ok (.ifCond .eq 13, 3) := by decide +kernel
theorem dX1_readLoad_7 : decode cX1_readLoad 7 = .ok (.aload_n 0, 1) := by decide +kernel
theorem dX1_readLoad_8 : decode cX1_readLoad 8 = .ok (.iconst 4, 1) := by decide +kernel
theorem dX1_readLoad_9 : decode cX1_readLoad 9 = .ok (.aload_n 0, 1) := by decide +kernel
theorem dX1_readLoad_10 : decode cX1_readLoad 10 = .ok (.getfield 107, 3) := by decide +kernel
theorem dX1_readLoad_13 : decode cX1_readLoad 13 = .ok (.invokevirtual 61, 3) := by decide +kernel
theorem dX1_readLoad_16 : decode cX1_readLoad 16 = .ok (.ireturn, 1) := by decide +kernel
theorem dX1_readLoad_17 : decode cX1_readLoad 17 = .ok (.aload_n 0, 1) := by decide +kernel
theorem dX1_readLoad_18 : decode cX1_readLoad 18 = .ok (.iconst 1, 1) := by decide +kernel
theorem dX1_readLoad_19 : decode cX1_readLoad 19 = .ok (.putfield 38, 3) := by decide +kernel
theorem dX1_readLoad_22 : decode cX1_readLoad 22 = .ok (.aload_n 0, 1) := by decide +kernel
theorem dX1_readLoad_23 : decode cX1_readLoad 23 = .ok (.iconst 1, 1) := by decide +kernel
theorem dX1_readLoad_24 : decode cX1_readLoad 24 = .ok (.bipush 9, 2) := by decide +kernel
theorem dX1_readLoad_26 : decode cX1_readLoad 26 = .ok (.invokevirtual 114, 3) := by decide +kernel
theorem dX1_readLoad_29 : decode cX1_readLoad 29 = .ok (.ifCond .ne 5, 3) := by decide +kernel
theorem dX1_readLoad_32 : decode cX1_readLoad 32 = .ok (.iconst 0, 1) := by decide +kernel
theorem dX1_readLoad_33 : decode cX1_readLoad 33 = .ok (.ireturn, 1) := by decide +kernel
theorem dX1_readLoad_34 : decode cX1_readLoad 34 = .ok (.aload_n 0, 1) := by decide +kernel
theorem dX1_readLoad_35 : decode cX1_readLoad 35 = .ok (.getfield 21, 3) := by decide +kernel
theorem dX1_readLoad_38 : decode cX1_readLoad 38 = .ok (.aload_n 0, 1) := by decide +kernel
theorem dX1_readLoad_39 : decode cX1_readLoad 39 = .ok (.getfield 117, 3) := by decide +kernel
theorem dX1_readLoad_42 : decode cX1_readLoad 42 = .ok (.putfield 135, 3) := by decide +kernel
theorem dX1_readLoad_45 : decode cX1_readLoad 45 = .ok (.iconst 1, 1) := by decide +kernel
theorem dX1_readLoad_46 : decode cX1_readLoad 46 = .ok (.ireturn, 1) := by decide +kernel
theorem dX1_readPrize_0 : decode cX1_readPrize 0 = .ok (.aload_n 0, 1) := by decide +kernel
theorem dX1_readPrize_1 : decode cX1_readPrize 1 = .ok (.getfield 42, 3) := by decide +kernel
theorem dX1_readPrize_4 : decode cX1_readPrize 4 = .ok (.ifCond .eq 13, 3) := by decide +kernel
theorem dX1_readPrize_7 : decode cX1_readPrize 7 = .ok (.aload_n 0, 1) := by decide +kernel
theorem dX1_readPrize_8 : decode cX1_readPrize 8 = .ok (.iconst 4, 1) := by decide +kernel
theorem dX1_readPrize_9 : decode cX1_readPrize 9 = .ok (.aload_n 0, 1) := by decide +kernel
theorem dX1_readPrize_10 : decode cX1_readPrize 10 = .ok (.getfield 107, 3) := by decide +kernel
theorem dX1_readPrize_13 : decode cX1_readPrize 13 = .ok (.invokevirtual 61, 3) := by decide +kernel
theorem dX1_readPrize_16 : decode cX1_readPrize 16 = .ok (.ireturn, 1) := by decide +kernel
theorem dX1_readPrize_17 : decode cX1_readPrize 17 = .ok (.aload_n 0, 1) := by decide +kernel
theorem dX1_readPrize_18 : decode cX1_readPrize 18 = .ok (.iconst 1, 1) := by decide +kernel
theorem dX1_readPrize_19 : decode cX1_readPrize 19 = .ok (.putfield 42, 3) := by decide +kernel
theorem dX1_readPrize_22 : decode cX1_readPrize 22 = .ok (.aload_n 0, 1) := by decide +kernel
theorem dX1_readPrize_23 : decode cX1_readPrize 23 = .ok (.iconst 0, 1) := by decide +kernel
theorem dX1_readPrize_24 : decode cX1_readPrize 24 = .ok (.bipush 99, 2) := by decide +kernel
theorem dX1_readPrize_26 : decode cX1_readPrize 26 = .ok (.invokevirtual 114, 3) := by decide +kernel
theorem dX1_readPrize_29 : decode cX1_readPrize 29 = .ok (.ifCond .ne 5, 3) := by decide +kernel
theorem dX1_readPrize_32 : decode cX1_readPrize 32 = .ok (.iconst 0, 1) := by decide +kernel
theorem dX1_readPrize_33 : decode cX1_readPrize 33 = .ok (.ireturn, 1) := by decide +kernel
theorem dX1_readPrize_34 : decode cX1_readPrize 34 = .ok (.aload_n 0, 1) := by decide +kernel
theorem dX1_readPrize_35 : decode cX1_readPrize 35 = .ok (.getfield 21, 3) := by decide +kernel
theorem dX1_readPrize_38 : decode cX1_readPrize 38 = .ok (.aload_n 0, 1) := by decide +kernel
theorem dX1_readPrize_39 : decode cX1_readPrize 39 = .ok (.getfield 117, 3) := by decide +kernel
theorem dX1_readPrize_42 : decode cX1_readPrize 42 = .ok (.putfield 137, 3) := by decide +kernel
theorem dX1_readPrize_45 : decode cX1_readPrize 45 = .ok (.iconst 1, 1) := by decide +kernel
theorem dX1_readPrize_46 : decode cX1_readPrize 46 = .ok (.ireturn, 1) := by decide +kernel
theorem dX1_readBroken_0 : decode cX1_readBroken 0 = .ok (.aload_n 0, 1) := by decide +kernel
theorem dX1_readBroken_1 : decode cX1_readBroken 1 = .ok (.iconst 0, 1) := by decide +kernel
theorem dX1_readBroken_2 : decode cX1_readBroken 2 = .ok (.iconst 2, 1) := by decide +kernel
theorem dX1_readBroken_3 : decode cX1_readBroken 3 = .ok (.invokevirtual 114, 3) := by decide +kernel
theorem dX1_readBroken_6 : decode cX1_readBroken 6 = .ok (.ifCond .ne 5, 3) := by decide +kernel
theorem dX1_readBroken_9 : decode cX1_readBroken 9 = .ok (.iconst 0, 1) := by decide +kernel
theorem dX1_readBroken_10 : decode cX1_readBroken 10 = .ok (.ireturn, 1) := by decide +kernel
theorem dX1_readBroken_11 : decode cX1_readBroken 11 = .ok (.aload_n 0, 1) := by decide +kernel
theorem dX1_readBroken_12 : decode cX1_readBroken 12 = .ok (.getfield 35, 3) := by decide +kernel
theorem dX1_readBroken_15 : decode cX1_readBroken 15 = .ok (.aload_n 0, 1) := by decide +kernel
theorem dX1_readBroken_16 : decode cX1_readBroken 16 = .ok (.getfield 117, 3) := by decide +kernel
theorem dX1_readBroken_19 : decode cX1_readBroken 19 = .ok (.ishr, 1) := by decide +kernel
theorem dX1_readBroken_20 : decode cX1_readBroken 20 = .ok (.iconst 1, 1) := by decide +kernel
theorem dX1_readBroken_21 : decode cX1_readBroken 21 = .ok (.iand, 1) := by decide +kernel
theorem dX1_readBroken_22 : decode cX1_readBroken 22 = .ok (.iconst 1, 1) := by decide +kernel
theorem dX1_readBroken_23 : decode cX1_readBroken 23 = .ok (.if_icmp .ne 13, 3) := by decide +kernel
theorem dX1_readBroken_26 : decode cX1_readBroken 26 = .ok (.aload_n 0, 1) := by decide +kernel
theorem dX1_readBroken_27 : decode cX1_readBroken 27 = .ok (.iconst 4, 1) := by decide +kernel
theorem dX1_readBroken_28 : decode cX1_readBroken 28 = .ok (.aload_n 0, 1) := by decide +kernel
theorem dX1_readBroken_29 : decode cX1_readBroken 29 = .ok (.getfield 107, 3) := by decide +kernel
theorem dX1_readBroken_32 : decode cX1_readBroken 32 = .ok (.invokevirtual 61, 3) := by decide +kernel
theorem dX1_readBroken_35 : decode cX1_readBroken 35 = .ok (.ireturn, 1) := by decide +kernel
theorem dX1_readBroken_36 : decode cX1_readBroken 36 = .ok (.aload_n 0, 1) := by decide +kernel
theorem dX1_readBroken_37 : decode cX1_readBroken 37 = .ok (.dup, 1) := by decide +kernel
theorem dX1_readBroken_38 : decode cX1_readBroken 38 = .ok (.getfield 35, 3) := by decide +kernel
theorem dX1_readBroken_41 : decode cX1_readBroken 41 = .ok (.iconst 1, 1) := by decide +kernel
theorem dX1_readBroken_42 : decode cX1_readBroken 42 = .ok (.aload_n 0, 1) := by decide +kernel
theorem dX1_readBroken_43 : decode cX1_readBroken 43 = .ok (.getfield 117, 3) := by decide +kernel
theorem dX1_readBroken_46 : decode cX1_readBroken 46 = .ok (.ishl, 1) := by decide +kernel
theorem dX1_readBroken_47 : decode cX1_readBroken 47 = .ok (.ior, 1) := by decide +kernel
theorem dX1_readBroken_48 : decode cX1_readBroken 48 = .ok (.putfield 35, 3) := by decide +kernel
theorem dX1_readBroken_51 : decode cX1_readBroken 51 = .ok (.iconst 1, 1) := by decide +kernel
theorem dX1_readBroken_52 : decode cX1_readBroken 52 = .ok (.ireturn, 1) := by decide +kernel
/-! what the lines' readers leave: of y and of the draft -/
abbrev pT : Type := (Nat → Nat) × rT
def kd (b y : Nat → Nat) : Nat := if spl b y 1 then 0 else if spl b y 2 then 1 else if spl b y 3 then 2 else if spl b y 4 then 3 else if spl b y 5 then 4 else 5
theorem kd_le (b y : Nat → Nat) : kd b y ≤ 5 := by
  unfold kd
  repeat' split
  all_goals decide
def kdI (b y : Nat → Nat) : Int32 := if kd b y = 5 then -1 else nI (kd b y)
def rdHa (b : Nat → Nat) (len : Nat) (y : Nat → Nat) (d : rT) : Bool × pT :=
  if d 6 0 < 3 then
    (if ntoB b len (y 2) = true then
      (if kd b (yN b len y) = 5 then (false, (yF (yN b len y) 2 (yN b len y 1), d))
       else if (rdN b len 0 9 (yN b len y)).1 = true then (true, ((rdN b len 0 9 (yN b len y)).2, raddH d (kd b (yN b len y)) ((rdN b len 0 9 (yN b len y)).2 3)))
       else (false, ((rdN b len 0 9 (yN b len y)).2, d)))
     else (false, (yN b len y, d)))
  else (false, (yF y 5 (y 1), d))
def rdTwo (b : Nat → Nat) (len lo1 hi1 lo2 hi2 : Nat) (f : rT → Nat → Nat → rT) (y : Nat → Nat) (d : rT) : Bool × pT :=
  if (rdN b len lo1 hi1 y).1 = true then
    (if (rdN b len lo2 hi2 (rdN b len lo1 hi1 y).2).1 = true then (true, ((rdN b len lo2 hi2 (rdN b len lo1 hi1 y).2).2, f d ((rdN b len lo1 hi1 y).2 3) ((rdN b len lo2 hi2 (rdN b len lo1 hi1 y).2).2 3)))
     else (false, ((rdN b len lo2 hi2 (rdN b len lo1 hi1 y).2).2, d)))
  else (false, ((rdN b len lo1 hi1 y).2, d))
def rdKi (b : Nat → Nat) (len : Nat) (y : Nat → Nat) (d : rT) : Bool × pT := if d 6 1 < 4 then rdTwo b len 0 9 0 99 raddK y d else (false, (yF y 5 (y 1), d))
def rdLa (b : Nat → Nat) (len : Nat) (y : Nat → Nat) (d : rT) : Bool × pT := if d 6 2 < 3 then rdTwo b len 1 5 0 9 raddL y d else (false, (yF y 5 (y 1), d))
def rdOnce (b : Nat → Nat) (len i lo hi j : Nat) (y : Nat → Nat) (d : rT) : Bool × pT :=
  if y i = 0 then
    (if (rdN b len lo hi (yset y i 1)).1 = true then (true, ((rdN b len lo hi (yset y i 1)).2, rset d 6 j ((rdN b len lo hi (yset y i 1)).2 3)))
     else (false, ((rdN b len lo hi (yset y i 1)).2, d)))
  else (false, (yF y 4 (y 1), d))
def rdBr (b : Nat → Nat) (len : Nat) (y : Nat → Nat) (d : rT) : Bool × pT :=
  if (rdN b len 0 2 y).1 = true then
    (if bit ((rdN b len 0 2 y).2 4) ((rdN b len 0 2 y).2 3) = 1 then (false, (yF (rdN b len 0 2 y).2 4 ((rdN b len 0 2 y).2 1), d))
     else (true, (yset (rdN b len 0 2 y).2 4 ((rdN b len 0 2 y).2 4 ||| 2 ^ (rdN b len 0 2 y).2 3), d)))
  else (false, ((rdN b len 0 2 y).2, d))
theorem rdN_2 {b : Nat → Nat} {len lo hi : Nat} {y : Nat → Nat} : (rdN b len lo hi y).2 2 = yN b len y 2 := by
  unfold rdN
  repeat' split
  all_goals rfl
theorem rdN_1 {b : Nat → Nat} {len lo hi : Nat} {y : Nat → Nat} : (rdN b len lo hi y).2 1 = yN b len y 1 := by
  unfold rdN
  repeat' split
  all_goals rfl
theorem rdN_4 {b : Nat → Nat} {len lo hi : Nat} {y : Nat → Nat} : (rdN b len lo hi y).2 4 = y 4 := by
  unfold rdN
  repeat' split
  all_goals rfl
theorem rdN_5 {b : Nat → Nat} {len lo hi : Nat} {y : Nat → Nat} : (rdN b len lo hi y).2 5 = y 5 := by
  unfold rdN
  repeat' split
  all_goals rfl
theorem rdN_6 {b : Nat → Nat} {len lo hi : Nat} {y : Nat → Nat} : (rdN b len lo hi y).2 6 = y 6 := by
  unfold rdN
  repeat' split
  all_goals rfl
theorem rdN_3 {b : Nat → Nat} {len lo hi : Nat} {y : Nat → Nat} (h : (rdN b len lo hi y).1 = true) : lo ≤ (rdN b len lo hi y).2 3 ∧ (rdN b len lo hi y).2 3 ≤ hi := by
  unfold rdN at h ⊢
  split at h
  · next h1 =>
    rw [if_pos h1]
    split at h
    · next h2 =>
      rw [if_pos h2]
      split at h
      · next h3 =>
        rw [if_pos h3]
        exact h3
      · cases h
    · cases h
  · cases h
theorem yN_le {b : Nat → Nat} {len : Nat} {y : Nat → Nat} (h : y 2 ≤ len) : yN b len y 2 ≤ len := (yN_2 h).2
theorem rdN_le {b : Nat → Nat} {len lo hi : Nat} {y : Nat → Nat} (h : y 2 ≤ len) : (rdN b len lo hi y).2 2 ≤ len := by rw [rdN_2]; exact yN_le h
set_option maxRecDepth 100000 in
set_option maxHeartbeats 4000000 in
theorem mX1_spelledKind (b : Nat → Nat) (len : Nat) (d : rT) (hb : ∀ j, b j < 128) (hl : len ≤ 160) (y : Nat → Nat) (hy : y 2 ≤ len) (hy1 : y 1 ≤ y 2) (h0 : y 0 < 100) : J KX1_spelledKind 10 (fun o B => o = some (.int (kdI b y)) ∧ B = wX b len d y) 0 [some (.ref 0)] [] (wX b len d y) 0 0 := by
  refine J.aload_n dX1_spelledKind_0 rfl rfl ?_
  refine J.ldcS (j := 1) dX1_spelledKind_1 rfl (by decide) rfl ?_
  refine J.cv (as := [.ref (1000 + 1)]) (is := [0, 1, 2, 3, 4, 5, 6, 7, 8, 9]) (o := 0) okX1_spells jcX1_73 (mX1_spells b len d hb hl y 1 (by decide) ⟨hy1, hy⟩ h0) dX1_spelledKind_3 rfl rfl rfl rfl rfl rfl rfl (fun r9 B9 hq => ?_)
  obtain ⟨rfl, rfl⟩ := hq
  refine ⟨rfl, ?_⟩
  show J _ _ _ _ _ (.int _ :: _) (wX b len d y) _ _
  refine J.if_eq (tgt := 11) dX1_spelledKind_6 (by decide) (fun c6 => ?_) (fun c6 => ?_)
  · refine J.aload_n dX1_spelledKind_11 rfl rfl ?_
    refine J.ldcS (j := 2) dX1_spelledKind_12 rfl (by decide) rfl ?_
    refine J.cv (as := [.ref (1000 + 2)]) (is := [0, 1, 2, 3, 4, 5, 6, 7, 8, 9]) (o := 0) okX1_spells jcX1_73 (mX1_spells b len d hb hl y 2 (by decide) ⟨hy1, hy⟩ h0) dX1_spelledKind_14 rfl rfl rfl rfl rfl rfl rfl (fun r9 B9 hq => ?_)
    obtain ⟨rfl, rfl⟩ := hq
    refine ⟨rfl, ?_⟩
    show J _ _ _ _ _ (.int _ :: _) (wX b len d y) _ _
    refine J.if_eq (tgt := 22) dX1_spelledKind_17 (by decide) (fun c17 => ?_) (fun c17 => ?_)
    · refine J.aload_n dX1_spelledKind_22 rfl rfl ?_
      refine J.ldcS (j := 3) dX1_spelledKind_23 rfl (by decide) rfl ?_
      refine J.cv (as := [.ref (1000 + 3)]) (is := [0, 1, 2, 3, 4, 5, 6, 7, 8, 9]) (o := 0) okX1_spells jcX1_73 (mX1_spells b len d hb hl y 3 (by decide) ⟨hy1, hy⟩ h0) dX1_spelledKind_25 rfl rfl rfl rfl rfl rfl rfl (fun r9 B9 hq => ?_)
      obtain ⟨rfl, rfl⟩ := hq
      refine ⟨rfl, ?_⟩
      show J _ _ _ _ _ (.int _ :: _) (wX b len d y) _ _
      refine J.if_eq (tgt := 33) dX1_spelledKind_28 (by decide) (fun c28 => ?_) (fun c28 => ?_)
      · refine J.aload_n dX1_spelledKind_33 rfl rfl ?_
        refine J.ldcS (j := 4) dX1_spelledKind_34 rfl (by decide) rfl ?_
        refine J.cv (as := [.ref (1000 + 4)]) (is := [0, 1, 2, 3, 4, 5, 6, 7, 8, 9]) (o := 0) okX1_spells jcX1_73 (mX1_spells b len d hb hl y 4 (by decide) ⟨hy1, hy⟩ h0) dX1_spelledKind_36 rfl rfl rfl rfl rfl rfl rfl (fun r9 B9 hq => ?_)
        obtain ⟨rfl, rfl⟩ := hq
        refine ⟨rfl, ?_⟩
        show J _ _ _ _ _ (.int _ :: _) (wX b len d y) _ _
        refine J.if_eq (tgt := 44) dX1_spelledKind_39 (by decide) (fun c39 => ?_) (fun c39 => ?_)
        · refine J.aload_n dX1_spelledKind_44 rfl rfl ?_
          refine J.ldcS (j := 5) dX1_spelledKind_45 rfl (by decide) rfl ?_
          refine J.cv (as := [.ref (1000 + 5)]) (is := [0, 1, 2, 3, 4, 5, 6, 7, 8, 9]) (o := 0) okX1_spells jcX1_73 (mX1_spells b len d hb hl y 5 (by decide) ⟨hy1, hy⟩ h0) dX1_spelledKind_47 rfl rfl rfl rfl rfl rfl rfl (fun r9 B9 hq => ?_)
          obtain ⟨rfl, rfl⟩ := hq
          refine ⟨rfl, ?_⟩
          show J _ _ _ _ _ (.int _ :: _) (wX b len d y) _ _
          refine J.if_eq (tgt := 57) dX1_spelledKind_50 (by decide) (fun c50 => ?_) (fun c50 => ?_)
          · refine J.iconst (-1) dX1_spelledKind_57 (by decide) ?_
            first | (refine J.iret dX1_spelledKind_58 rfl rfl (Nat.le_refl _) (Nat.le_refl _) ⟨congrArg (fun x => some (Value.int x)) ?_, rfl⟩; have e9 : kd b y = 4 := (by (unfold kd; rw [if_neg ((jB_0 _).mp c6), if_neg ((jB_0 _).mp c17), if_neg ((jB_0 _).mp c28), if_neg ((jB_0 _).mp c39), if_pos (Decidable.not_not.mp (fun h => c50 ((jB_0 _).mpr h)))])); rw [kdI, e9]; rfl) | (refine J.iret dX1_spelledKind_58 rfl rfl (Nat.le_refl _) (Nat.le_refl _) ⟨congrArg (fun x => some (Value.int x)) ?_, rfl⟩; have e9 : kd b y = 5 := (by (unfold kd; rw [if_neg ((jB_0 _).mp c6), if_neg ((jB_0 _).mp c17), if_neg ((jB_0 _).mp c28), if_neg ((jB_0 _).mp c39), if_neg ((jB_0 _).mp c50)])); rw [kdI, e9]; rfl)
          · refine J.iconst (4) dX1_spelledKind_53 (by decide) ?_
            refine J.goto (tgt := 58) dX1_spelledKind_54 (by decide) ?_
            first | (refine J.iret dX1_spelledKind_58 rfl rfl (Nat.le_refl _) (Nat.le_refl _) ⟨congrArg (fun x => some (Value.int x)) ?_, rfl⟩; have e9 : kd b y = 4 := (by (unfold kd; rw [if_neg ((jB_0 _).mp c6), if_neg ((jB_0 _).mp c17), if_neg ((jB_0 _).mp c28), if_neg ((jB_0 _).mp c39), if_pos (Decidable.not_not.mp (fun h => c50 ((jB_0 _).mpr h)))])); rw [kdI, e9]; rfl) | (refine J.iret dX1_spelledKind_58 rfl rfl (Nat.le_refl _) (Nat.le_refl _) ⟨congrArg (fun x => some (Value.int x)) ?_, rfl⟩; have e9 : kd b y = 5 := (by (unfold kd; rw [if_neg ((jB_0 _).mp c6), if_neg ((jB_0 _).mp c17), if_neg ((jB_0 _).mp c28), if_neg ((jB_0 _).mp c39), if_neg ((jB_0 _).mp c50)])); rw [kdI, e9]; rfl)
        · refine J.iconst (3) dX1_spelledKind_42 (by decide) ?_
          refine J.iret dX1_spelledKind_43 rfl rfl (Nat.le_refl _) (Nat.le_refl _) ⟨congrArg (fun x => some (Value.int x)) ?_, rfl⟩
          have e9 : kd b y = 3 := (by (unfold kd; rw [if_neg ((jB_0 _).mp c6), if_neg ((jB_0 _).mp c17), if_neg ((jB_0 _).mp c28), if_pos (Decidable.not_not.mp (fun h => c39 ((jB_0 _).mpr h)))]))
          rw [kdI, e9]
          rfl
      · refine J.iconst (2) dX1_spelledKind_31 (by decide) ?_
        refine J.iret dX1_spelledKind_32 rfl rfl (Nat.le_refl _) (Nat.le_refl _) ⟨congrArg (fun x => some (Value.int x)) ?_, rfl⟩
        have e9 : kd b y = 2 := (by (unfold kd; rw [if_neg ((jB_0 _).mp c6), if_neg ((jB_0 _).mp c17), if_pos (Decidable.not_not.mp (fun h => c28 ((jB_0 _).mpr h)))]))
        rw [kdI, e9]
        rfl
    · refine J.iconst (1) dX1_spelledKind_20 (by decide) ?_
      refine J.iret dX1_spelledKind_21 rfl rfl (Nat.le_refl _) (Nat.le_refl _) ⟨congrArg (fun x => some (Value.int x)) ?_, rfl⟩
      have e9 : kd b y = 1 := (by (unfold kd; rw [if_neg ((jB_0 _).mp c6), if_pos (Decidable.not_not.mp (fun h => c17 ((jB_0 _).mpr h)))]))
      rw [kdI, e9]
      rfl
  · refine J.iconst (0) dX1_spelledKind_9 (by decide) ?_
    refine J.iret dX1_spelledKind_10 rfl rfl (Nat.le_refl _) (Nat.le_refl _) ⟨congrArg (fun x => some (Value.int x)) ?_, rfl⟩
    have e9 : kd b y = 0 := (by (unfold kd; rw [if_pos (Decidable.not_not.mp (fun h => c6 ((jB_0 _).mpr h)))]))
    rw [kdI, e9]
    rfl
set_option maxRecDepth 100000 in
set_option maxHeartbeats 4000000 in
theorem mX1_readHair (b : Nat → Nat) (len : Nat) (d : rT) (hb : ∀ j, b j < 128) (hl : len ≤ 160) (y : Nat → Nat) (hy : y 2 ≤ len) (hd3 : d 6 0 ≤ 3) (hw : d 6 3 < 8) : J KX1_readHair 10 (fun o B => o = some (.int (jB ((rdHa b len y d).1 = true))) ∧ B = wX b len (rdHa b len y d).2.2 (rdHa b len y d).2.1) 0 [some (.ref 0), none] [] (wX b len d y) 0 0 := by
  refine J.aload_n dX1_readHair_0 rfl rfl ?_
  refine J.getfield dX1_readHair_1 jFX1_21 rfl rfl ?_
  refine J.getfield dX1_readHair_4 jFX1_55 rfl rfl ?_
  refine J.iconst (3) dX1_readHair_7 (by decide) ?_
  refine J.icmp_lt (tgt := 21) dX1_readHair_8 (by decide) (fun c8 => ?_) (fun c8 => ?_)
  · have hc9 : d 6 0 < 3 := (nI_lti (b := 3) (by omega) (by decide)).mp c8
    refine J.aload_n dX1_readHair_21 rfl rfl ?_
    refine J.cv (as := []) (is := [0, 1, 2, 3, 4, 5, 6, 7, 8, 9]) (o := 0) okX1_nextToken jcX1_45 (mX1_next b len d hb hl y hy) dX1_readHair_22 rfl rfl rfl rfl rfl rfl rfl (fun r9 B9 hq => ?_)
    obtain ⟨rfl, rfl⟩ := hq
    refine ⟨rfl, ?_⟩
    show J _ _ _ _ _ (.int _ :: _) (wX b len d (yN b len y)) _ _
    refine J.if_ne (tgt := 30) dX1_readHair_25 (by decide) (fun c25 => ?_) (fun c25 => ?_)
    · refine J.aload_n dX1_readHair_30 rfl rfl ?_
      refine J.cv (as := []) (is := [0, 1, 2, 3, 4, 5, 6, 7, 8, 9]) (o := 0) okX1_spelledKind jcX1_110 (mX1_spelledKind b len d hb hl (yN b len y) (yN_le hy) (yN_2 hy).1 (by have := yN_0 b len y; omega)) dX1_readHair_31 rfl rfl rfl rfl rfl rfl rfl (fun r9 B9 hq => ?_)
      obtain ⟨rfl, rfl⟩ := hq
      refine ⟨rfl, ?_⟩
      show J _ _ _ _ _ (.int _ :: _) (wX b len d (yN b len y)) _ _
      refine J.istore_n dX1_readHair_34 rfl (by decide) rfl ?_
      try dsimp only [List.set, wX]
      refine J.iload_n dX1_readHair_35 rfl rfl ?_
      refine J.if_ge (tgt := 49) dX1_readHair_36 (by decide) (fun c36 => ?_) (fun c36 => ?_)
      · have hk9 : ¬ kd b (yN b len y) = 5 := fun h => absurd c36 (by rw [show kdI b (yN b len y) = -1 from if_pos h]; decide)
        refine J.aload_n dX1_readHair_49 rfl rfl ?_
        refine J.iconst (0) dX1_readHair_50 (by decide) ?_
        refine J.bipush (9) dX1_readHair_51 (by decide) ?_
        refine J.cv (as := [.int (nI 0), .int (nI 9)]) (is := [0, 1, 2, 3, 4, 5, 6, 7, 8, 9]) (o := 0) okX1_readNumber jcX1_114 (mX1_readNumber b len d hb hl (yN b len y) (yN_le hy) 0 9 (by decide) (by decide)) dX1_readHair_53 rfl rfl rfl rfl rfl rfl rfl (fun r9 B9 hq => ?_)
        obtain ⟨rfl, rfl⟩ := hq
        refine ⟨rfl, ?_⟩
        show J _ _ _ _ _ (.int _ :: _) (wX b len d (rdN b len 0 9 (yN b len y)).2) _ _
        refine J.if_eq (tgt := 78) dX1_readHair_56 (by decide) (fun c56 => ?_) (fun c56 => ?_)
        · refine J.iconst (0) dX1_readHair_78 (by decide) ?_
          first | (have e9 : rdHa b len y d = (true, ((rdN b len 0 9 (yN b len y)).2, raddH d (kd b (yN b len y)) ((rdN b len 0 9 (yN b len y)).2 3))) := (by (unfold rdHa; rw [if_pos hc9, if_pos (Decidable.not_not.mp (fun h => c25 ((jB_0 _).mpr h))), if_neg hk9, if_pos (Decidable.not_not.mp (fun h => c56 ((jB_0 _).mpr h)))])); exact J.iret dX1_readHair_79 rfl (by decide) (Nat.le_refl _) (Nat.le_refl _) ⟨by rw [e9] <;> rfl, by rw [e9] <;> rfl⟩) | (have e9 : rdHa b len y d = (false, ((rdN b len 0 9 (yN b len y)).2, d)) := (by (unfold rdHa; rw [if_pos hc9, if_pos (Decidable.not_not.mp (fun h => c25 ((jB_0 _).mpr h))), if_neg hk9, if_neg ((jB_0 _).mp c56)])); exact J.iret dX1_readHair_79 rfl (by decide) (Nat.le_refl _) (Nat.le_refl _) ⟨by rw [e9] <;> rfl, by rw [e9] <;> rfl⟩)
        · refine J.aload_n dX1_readHair_59 rfl rfl ?_
          refine J.getfield dX1_readHair_60 jFX1_21 rfl rfl ?_
          refine J.iload_n dX1_readHair_63 rfl rfl ?_
          refine J.aload_n dX1_readHair_64 rfl rfl ?_
          refine J.getfield dX1_readHair_65 jFX1_117 rfl rfl ?_
          rw [show kdI b (yN b len y) = nI (kd b (yN b len y)) from if_neg hk9]
          refine J.cv (as := [.int _, .int _]) (is := [3, 4, 5, 6, 7, 8, 9]) (o := 0) okX2_addHair jcX1_120 (mX2_addHair d (kd b (yN b len y)) ((rdN b len 0 9 (yN b len y)).2 3) hc9 hw) dX1_readHair_68 rfl rfl rfl rfl rfl rfl rfl (fun r9 B9 hq => ?_)
          obtain ⟨rfl, rfl⟩ := hq
          refine ⟨rfl, ?_⟩
          show J _ _ _ _ _ (.int 1 :: _) (wX b len (raddH d (kd b (yN b len y)) ((rdN b len 0 9 (yN b len y)).2 3)) (rdN b len 0 9 (yN b len y)).2) _ _
          refine J.if_eq (tgt := 78) dX1_readHair_71 (by decide) (fun c71 => absurd c71 (by decide)) (fun c71 => ?_)
          refine J.iconst (1) dX1_readHair_74 (by decide) ?_
          refine J.goto (tgt := 79) dX1_readHair_75 (by decide) ?_
          first | (have e9 : rdHa b len y d = (true, ((rdN b len 0 9 (yN b len y)).2, raddH d (kd b (yN b len y)) ((rdN b len 0 9 (yN b len y)).2 3))) := (by (unfold rdHa; rw [if_pos hc9, if_pos (Decidable.not_not.mp (fun h => c25 ((jB_0 _).mpr h))), if_neg hk9, if_pos (Decidable.not_not.mp (fun h => c56 ((jB_0 _).mpr h)))])); exact J.iret dX1_readHair_79 rfl (by decide) (Nat.le_refl _) (Nat.le_refl _) ⟨by rw [e9] <;> rfl, by rw [e9] <;> rfl⟩) | (have e9 : rdHa b len y d = (false, ((rdN b len 0 9 (yN b len y)).2, d)) := (by (unfold rdHa; rw [if_pos hc9, if_pos (Decidable.not_not.mp (fun h => c25 ((jB_0 _).mpr h))), if_neg hk9, if_neg ((jB_0 _).mp c56)])); exact J.iret dX1_readHair_79 rfl (by decide) (Nat.le_refl _) (Nat.le_refl _) ⟨by rw [e9] <;> rfl, by rw [e9] <;> rfl⟩)
      · have hk8 : ¬ 0 ≤ kdI b (yN b len y) → kd b (yN b len y) = 5 := fun h => Decidable.not_not.mp (fun h9 => h (by rw [show kdI b (yN b len y) = nI (kd b (yN b len y)) from if_neg h9]; exact nI_pos' (show kd b (yN b len y) < 2 ^ 31 by have := kd_le b (yN b len y); omega)))
        refine J.aload_n dX1_readHair_39 rfl rfl ?_
        refine J.iconst (2) dX1_readHair_40 (by decide) ?_
        refine J.aload_n dX1_readHair_41 rfl rfl ?_
        refine J.getfield dX1_readHair_42 jFX1_107 rfl rfl ?_
        refine J.cv (as := [.int (nI 2), .int _]) (is := [0, 1, 2, 3, 4, 5, 6, 7, 8, 9]) (o := 0) okX1_fail jcX1_61 (mX1_fail b len d (yN b len y) 2 (yN b len y 1)) dX1_readHair_45 rfl rfl rfl rfl rfl rfl rfl (fun r9 B9 hq => ?_)
        obtain ⟨rfl, rfl⟩ := hq
        refine ⟨rfl, ?_⟩
        show J _ _ _ _ _ (.int 0 :: _) (wX b len d (yF (yN b len y) 2 (yN b len y 1))) _ _
        have e9 : rdHa b len y d = (false, (yF (yN b len y) 2 (yN b len y 1), d)) := (by (unfold rdHa; rw [if_pos hc9, if_pos (Decidable.not_not.mp (fun h => c25 ((jB_0 _).mpr h))), if_pos (hk8 c36)]))
        exact J.iret dX1_readHair_48 rfl (by decide) (Nat.le_refl _) (Nat.le_refl _) ⟨by rw [e9] <;> rfl, by rw [e9] <;> rfl⟩
    · refine J.iconst (0) dX1_readHair_28 (by decide) ?_
      have e9 : rdHa b len y d = (false, ((yN b len y), d)) := (by (unfold rdHa; rw [if_pos hc9, if_neg ((jB_0 _).mp c25)]))
      exact J.iret dX1_readHair_29 rfl (by decide) (Nat.le_refl _) (Nat.le_refl _) ⟨by rw [e9] <;> rfl, by rw [e9] <;> rfl⟩
  · refine J.aload_n dX1_readHair_11 rfl rfl ?_
    refine J.iconst (5) dX1_readHair_12 (by decide) ?_
    refine J.aload_n dX1_readHair_13 rfl rfl ?_
    refine J.getfield dX1_readHair_14 jFX1_107 rfl rfl ?_
    refine J.cv (as := [.int (nI 5), .int _]) (is := [0, 1, 2, 3, 4, 5, 6, 7, 8, 9]) (o := 0) okX1_fail jcX1_61 (mX1_fail b len d y 5 (y 1)) dX1_readHair_17 rfl rfl rfl rfl rfl rfl rfl (fun r9 B9 hq => ?_)
    obtain ⟨rfl, rfl⟩ := hq
    refine ⟨rfl, ?_⟩
    show J _ _ _ _ _ (.int 0 :: _) (wX b len d (yF y 5 (y 1))) _ _
    have e9 : rdHa b len y d = (false, (yF y 5 (y 1), d)) := (by (unfold rdHa; exact if_neg (fun h => c8 ((nI_lti (b := 3) (by omega) (by decide)).mpr h))))
    exact J.iret dX1_readHair_20 rfl (by decide) (Nat.le_refl _) (Nat.le_refl _) ⟨by rw [e9] <;> rfl, by rw [e9] <;> rfl⟩
set_option maxRecDepth 100000 in
set_option maxHeartbeats 4000000 in
theorem mX1_readKing (b : Nat → Nat) (len : Nat) (d : rT) (hb : ∀ j, b j < 128) (hl : len ≤ 160) (y : Nat → Nat) (hy : y 2 ≤ len) (hd3 : d 6 1 ≤ 4) : J KX1_readKing 10 (fun o B => o = some (.int (jB ((rdKi b len y d).1 = true))) ∧ B = wX b len (rdKi b len y d).2.2 (rdKi b len y d).2.1) 0 [some (.ref 0), none] [] (wX b len d y) 0 0 := by
  refine J.aload_n dX1_readKing_0 rfl rfl ?_
  refine J.getfield dX1_readKing_1 jFX1_21 rfl rfl ?_
  refine J.getfield dX1_readKing_4 jFX1_123 rfl rfl ?_
  refine J.iconst (4) dX1_readKing_7 (by decide) ?_
  refine J.icmp_lt (tgt := 21) dX1_readKing_8 (by decide) (fun c8 => ?_) (fun c8 => ?_)
  · have hc9 : d 6 1 < 4 := (nI_lti (b := 4) (by omega) (by decide)).mp c8
    refine J.aload_n dX1_readKing_21 rfl rfl ?_
    refine J.iconst (0) dX1_readKing_22 (by decide) ?_
    refine J.bipush (9) dX1_readKing_23 (by decide) ?_
    refine J.cv (as := [.int (nI 0), .int (nI 9)]) (is := [0, 1, 2, 3, 4, 5, 6, 7, 8, 9]) (o := 0) okX1_readNumber jcX1_114 (mX1_readNumber b len d hb hl y hy 0 9 (by decide) (by decide)) dX1_readKing_25 rfl rfl rfl rfl rfl rfl rfl (fun r9 B9 hq => ?_)
    obtain ⟨rfl, rfl⟩ := hq
    refine ⟨rfl, ?_⟩
    show J _ _ _ _ _ (.int _ :: _) (wX b len d (rdN b len 0 9 y).2) _ _
    refine J.if_ne (tgt := 33) dX1_readKing_28 (by decide) (fun c28 => ?_) (fun c28 => ?_)
    · refine J.aload_n dX1_readKing_33 rfl rfl ?_
      refine J.getfield dX1_readKing_34 jFX1_117 rfl rfl ?_
      refine J.istore_n dX1_readKing_37 rfl (by decide) rfl ?_
      try dsimp only [List.set, wX]
      refine J.aload_n dX1_readKing_38 rfl rfl ?_
      refine J.iconst (0) dX1_readKing_39 (by decide) ?_
      refine J.bipush (99) dX1_readKing_40 (by decide) ?_
      refine J.cv (as := [.int (nI 0), .int (nI 99)]) (is := [0, 1, 2, 3, 4, 5, 6, 7, 8, 9]) (o := 0) okX1_readNumber jcX1_114 (mX1_readNumber b len d hb hl (rdN b len 0 9 y).2 (rdN_le hy) 0 99 (by decide) (by decide)) dX1_readKing_42 rfl rfl rfl rfl rfl rfl rfl (fun r9 B9 hq => ?_)
      obtain ⟨rfl, rfl⟩ := hq
      refine ⟨rfl, ?_⟩
      show J _ _ _ _ _ (.int _ :: _) (wX b len d (rdN b len 0 99 (rdN b len 0 9 y).2).2) _ _
      refine J.if_eq (tgt := 67) dX1_readKing_45 (by decide) (fun c45 => ?_) (fun c45 => ?_)
      · refine J.iconst (0) dX1_readKing_67 (by decide) ?_
        first | (have e9 : rdKi b len y d = (true, ((rdN b len 0 99 (rdN b len 0 9 y).2).2, raddK d ((rdN b len 0 9 y).2 3) ((rdN b len 0 99 (rdN b len 0 9 y).2).2 3))) := (by (unfold rdKi; rw [if_pos hc9]; unfold rdTwo; rw [if_pos (Decidable.not_not.mp (fun h => c28 ((jB_0 _).mpr h))), if_pos (Decidable.not_not.mp (fun h => c45 ((jB_0 _).mpr h)))])); exact J.iret dX1_readKing_68 rfl (by decide) (Nat.le_refl _) (Nat.le_refl _) ⟨by rw [e9] <;> rfl, by rw [e9] <;> rfl⟩) | (have e9 : rdKi b len y d = (false, ((rdN b len 0 99 (rdN b len 0 9 y).2).2, d)) := (by (unfold rdKi; rw [if_pos hc9]; unfold rdTwo; rw [if_pos (Decidable.not_not.mp (fun h => c28 ((jB_0 _).mpr h))), if_neg ((jB_0 _).mp c45)])); exact J.iret dX1_readKing_68 rfl (by decide) (Nat.le_refl _) (Nat.le_refl _) ⟨by rw [e9] <;> rfl, by rw [e9] <;> rfl⟩)
      · refine J.aload_n dX1_readKing_48 rfl rfl ?_
        refine J.getfield dX1_readKing_49 jFX1_21 rfl rfl ?_
        refine J.iload_n dX1_readKing_52 rfl rfl ?_
        refine J.aload_n dX1_readKing_53 rfl rfl ?_
        refine J.getfield dX1_readKing_54 jFX1_117 rfl rfl ?_
        refine J.cv (as := [.int _, .int _]) (is := [3, 4, 5, 6, 7, 8, 9]) (o := 0) okX2_addKing jcX1_126 (mX2_addKing d ((rdN b len 0 9 y).2 3) ((rdN b len 0 99 (rdN b len 0 9 y).2).2 3) hc9) dX1_readKing_57 rfl rfl rfl rfl rfl rfl rfl (fun r9 B9 hq => ?_)
        obtain ⟨rfl, rfl⟩ := hq
        refine ⟨rfl, ?_⟩
        show J _ _ _ _ _ (.int 1 :: _) (wX b len (raddK d ((rdN b len 0 9 y).2 3) ((rdN b len 0 99 (rdN b len 0 9 y).2).2 3)) (rdN b len 0 99 (rdN b len 0 9 y).2).2) _ _
        refine J.if_eq (tgt := 67) dX1_readKing_60 (by decide) (fun c60 => absurd c60 (by decide)) (fun c60 => ?_)
        refine J.iconst (1) dX1_readKing_63 (by decide) ?_
        refine J.goto (tgt := 68) dX1_readKing_64 (by decide) ?_
        first | (have e9 : rdKi b len y d = (true, ((rdN b len 0 99 (rdN b len 0 9 y).2).2, raddK d ((rdN b len 0 9 y).2 3) ((rdN b len 0 99 (rdN b len 0 9 y).2).2 3))) := (by (unfold rdKi; rw [if_pos hc9]; unfold rdTwo; rw [if_pos (Decidable.not_not.mp (fun h => c28 ((jB_0 _).mpr h))), if_pos (Decidable.not_not.mp (fun h => c45 ((jB_0 _).mpr h)))])); exact J.iret dX1_readKing_68 rfl (by decide) (Nat.le_refl _) (Nat.le_refl _) ⟨by rw [e9] <;> rfl, by rw [e9] <;> rfl⟩) | (have e9 : rdKi b len y d = (false, ((rdN b len 0 99 (rdN b len 0 9 y).2).2, d)) := (by (unfold rdKi; rw [if_pos hc9]; unfold rdTwo; rw [if_pos (Decidable.not_not.mp (fun h => c28 ((jB_0 _).mpr h))), if_neg ((jB_0 _).mp c45)])); exact J.iret dX1_readKing_68 rfl (by decide) (Nat.le_refl _) (Nat.le_refl _) ⟨by rw [e9] <;> rfl, by rw [e9] <;> rfl⟩)
    · refine J.iconst (0) dX1_readKing_31 (by decide) ?_
      have e9 : rdKi b len y d = (false, ((rdN b len 0 9 y).2, d)) := (by (unfold rdKi; rw [if_pos hc9]; unfold rdTwo; rw [if_neg ((jB_0 _).mp c28)]))
      exact J.iret dX1_readKing_32 rfl (by decide) (Nat.le_refl _) (Nat.le_refl _) ⟨by rw [e9] <;> rfl, by rw [e9] <;> rfl⟩
  · refine J.aload_n dX1_readKing_11 rfl rfl ?_
    refine J.iconst (5) dX1_readKing_12 (by decide) ?_
    refine J.aload_n dX1_readKing_13 rfl rfl ?_
    refine J.getfield dX1_readKing_14 jFX1_107 rfl rfl ?_
    refine J.cv (as := [.int (nI 5), .int _]) (is := [0, 1, 2, 3, 4, 5, 6, 7, 8, 9]) (o := 0) okX1_fail jcX1_61 (mX1_fail b len d y 5 (y 1)) dX1_readKing_17 rfl rfl rfl rfl rfl rfl rfl (fun r9 B9 hq => ?_)
    obtain ⟨rfl, rfl⟩ := hq
    refine ⟨rfl, ?_⟩
    show J _ _ _ _ _ (.int 0 :: _) (wX b len d (yF y 5 (y 1))) _ _
    have e9 : rdKi b len y d = (false, (yF y 5 (y 1), d)) := (by (unfold rdKi; exact if_neg (fun h => c8 ((nI_lti (b := 4) (by omega) (by decide)).mpr h))))
    exact J.iret dX1_readKing_20 rfl (by decide) (Nat.le_refl _) (Nat.le_refl _) ⟨by rw [e9] <;> rfl, by rw [e9] <;> rfl⟩
set_option maxRecDepth 100000 in
set_option maxHeartbeats 4000000 in
theorem mX1_readLaw (b : Nat → Nat) (len : Nat) (d : rT) (hb : ∀ j, b j < 128) (hl : len ≤ 160) (y : Nat → Nat) (hy : y 2 ≤ len) (hd3 : d 6 2 ≤ 3) : J KX1_readLaw 10 (fun o B => o = some (.int (jB ((rdLa b len y d).1 = true))) ∧ B = wX b len (rdLa b len y d).2.2 (rdLa b len y d).2.1) 0 [some (.ref 0), none] [] (wX b len d y) 0 0 := by
  refine J.aload_n dX1_readLaw_0 rfl rfl ?_
  refine J.getfield dX1_readLaw_1 jFX1_21 rfl rfl ?_
  refine J.getfield dX1_readLaw_4 jFX1_129 rfl rfl ?_
  refine J.iconst (3) dX1_readLaw_7 (by decide) ?_
  refine J.icmp_lt (tgt := 21) dX1_readLaw_8 (by decide) (fun c8 => ?_) (fun c8 => ?_)
  · have hc9 : d 6 2 < 3 := (nI_lti (b := 3) (by omega) (by decide)).mp c8
    refine J.aload_n dX1_readLaw_21 rfl rfl ?_
    refine J.iconst (1) dX1_readLaw_22 (by decide) ?_
    refine J.iconst (5) dX1_readLaw_23 (by decide) ?_
    refine J.cv (as := [.int (nI 1), .int (nI 5)]) (is := [0, 1, 2, 3, 4, 5, 6, 7, 8, 9]) (o := 0) okX1_readNumber jcX1_114 (mX1_readNumber b len d hb hl y hy 1 5 (by decide) (by decide)) dX1_readLaw_24 rfl rfl rfl rfl rfl rfl rfl (fun r9 B9 hq => ?_)
    obtain ⟨rfl, rfl⟩ := hq
    refine ⟨rfl, ?_⟩
    show J _ _ _ _ _ (.int _ :: _) (wX b len d (rdN b len 1 5 y).2) _ _
    refine J.if_ne (tgt := 32) dX1_readLaw_27 (by decide) (fun c27 => ?_) (fun c27 => ?_)
    · refine J.aload_n dX1_readLaw_32 rfl rfl ?_
      refine J.getfield dX1_readLaw_33 jFX1_117 rfl rfl ?_
      refine J.istore_n dX1_readLaw_36 rfl (by decide) rfl ?_
      try dsimp only [List.set, wX]
      refine J.aload_n dX1_readLaw_37 rfl rfl ?_
      refine J.iconst (0) dX1_readLaw_38 (by decide) ?_
      refine J.bipush (9) dX1_readLaw_39 (by decide) ?_
      refine J.cv (as := [.int (nI 0), .int (nI 9)]) (is := [0, 1, 2, 3, 4, 5, 6, 7, 8, 9]) (o := 0) okX1_readNumber jcX1_114 (mX1_readNumber b len d hb hl (rdN b len 1 5 y).2 (rdN_le hy) 0 9 (by decide) (by decide)) dX1_readLaw_41 rfl rfl rfl rfl rfl rfl rfl (fun r9 B9 hq => ?_)
      obtain ⟨rfl, rfl⟩ := hq
      refine ⟨rfl, ?_⟩
      show J _ _ _ _ _ (.int _ :: _) (wX b len d (rdN b len 0 9 (rdN b len 1 5 y).2).2) _ _
      refine J.if_eq (tgt := 66) dX1_readLaw_44 (by decide) (fun c44 => ?_) (fun c44 => ?_)
      · refine J.iconst (0) dX1_readLaw_66 (by decide) ?_
        first | (have e9 : rdLa b len y d = (true, ((rdN b len 0 9 (rdN b len 1 5 y).2).2, raddL d ((rdN b len 1 5 y).2 3) ((rdN b len 0 9 (rdN b len 1 5 y).2).2 3))) := (by (unfold rdLa; rw [if_pos hc9]; unfold rdTwo; rw [if_pos (Decidable.not_not.mp (fun h => c27 ((jB_0 _).mpr h))), if_pos (Decidable.not_not.mp (fun h => c44 ((jB_0 _).mpr h)))])); exact J.iret dX1_readLaw_67 rfl (by decide) (Nat.le_refl _) (Nat.le_refl _) ⟨by rw [e9] <;> rfl, by rw [e9] <;> rfl⟩) | (have e9 : rdLa b len y d = (false, ((rdN b len 0 9 (rdN b len 1 5 y).2).2, d)) := (by (unfold rdLa; rw [if_pos hc9]; unfold rdTwo; rw [if_pos (Decidable.not_not.mp (fun h => c27 ((jB_0 _).mpr h))), if_neg ((jB_0 _).mp c44)])); exact J.iret dX1_readLaw_67 rfl (by decide) (Nat.le_refl _) (Nat.le_refl _) ⟨by rw [e9] <;> rfl, by rw [e9] <;> rfl⟩)
      · refine J.aload_n dX1_readLaw_47 rfl rfl ?_
        refine J.getfield dX1_readLaw_48 jFX1_21 rfl rfl ?_
        refine J.iload_n dX1_readLaw_51 rfl rfl ?_
        refine J.aload_n dX1_readLaw_52 rfl rfl ?_
        refine J.getfield dX1_readLaw_53 jFX1_117 rfl rfl ?_
        refine J.cv (as := [.int _, .int _]) (is := [3, 4, 5, 6, 7, 8, 9]) (o := 0) okX2_addLaw jcX1_132 (mX2_addLaw d ((rdN b len 1 5 y).2 3) ((rdN b len 0 9 (rdN b len 1 5 y).2).2 3) hc9) dX1_readLaw_56 rfl rfl rfl rfl rfl rfl rfl (fun r9 B9 hq => ?_)
        obtain ⟨rfl, rfl⟩ := hq
        refine ⟨rfl, ?_⟩
        show J _ _ _ _ _ (.int 1 :: _) (wX b len (raddL d ((rdN b len 1 5 y).2 3) ((rdN b len 0 9 (rdN b len 1 5 y).2).2 3)) (rdN b len 0 9 (rdN b len 1 5 y).2).2) _ _
        refine J.if_eq (tgt := 66) dX1_readLaw_59 (by decide) (fun c59 => absurd c59 (by decide)) (fun c59 => ?_)
        refine J.iconst (1) dX1_readLaw_62 (by decide) ?_
        refine J.goto (tgt := 67) dX1_readLaw_63 (by decide) ?_
        first | (have e9 : rdLa b len y d = (true, ((rdN b len 0 9 (rdN b len 1 5 y).2).2, raddL d ((rdN b len 1 5 y).2 3) ((rdN b len 0 9 (rdN b len 1 5 y).2).2 3))) := (by (unfold rdLa; rw [if_pos hc9]; unfold rdTwo; rw [if_pos (Decidable.not_not.mp (fun h => c27 ((jB_0 _).mpr h))), if_pos (Decidable.not_not.mp (fun h => c44 ((jB_0 _).mpr h)))])); exact J.iret dX1_readLaw_67 rfl (by decide) (Nat.le_refl _) (Nat.le_refl _) ⟨by rw [e9] <;> rfl, by rw [e9] <;> rfl⟩) | (have e9 : rdLa b len y d = (false, ((rdN b len 0 9 (rdN b len 1 5 y).2).2, d)) := (by (unfold rdLa; rw [if_pos hc9]; unfold rdTwo; rw [if_pos (Decidable.not_not.mp (fun h => c27 ((jB_0 _).mpr h))), if_neg ((jB_0 _).mp c44)])); exact J.iret dX1_readLaw_67 rfl (by decide) (Nat.le_refl _) (Nat.le_refl _) ⟨by rw [e9] <;> rfl, by rw [e9] <;> rfl⟩)
    · refine J.iconst (0) dX1_readLaw_30 (by decide) ?_
      have e9 : rdLa b len y d = (false, ((rdN b len 1 5 y).2, d)) := (by (unfold rdLa; rw [if_pos hc9]; unfold rdTwo; rw [if_neg ((jB_0 _).mp c27)]))
      exact J.iret dX1_readLaw_31 rfl (by decide) (Nat.le_refl _) (Nat.le_refl _) ⟨by rw [e9] <;> rfl, by rw [e9] <;> rfl⟩
  · refine J.aload_n dX1_readLaw_11 rfl rfl ?_
    refine J.iconst (5) dX1_readLaw_12 (by decide) ?_
    refine J.aload_n dX1_readLaw_13 rfl rfl ?_
    refine J.getfield dX1_readLaw_14 jFX1_107 rfl rfl ?_
    refine J.cv (as := [.int (nI 5), .int _]) (is := [0, 1, 2, 3, 4, 5, 6, 7, 8, 9]) (o := 0) okX1_fail jcX1_61 (mX1_fail b len d y 5 (y 1)) dX1_readLaw_17 rfl rfl rfl rfl rfl rfl rfl (fun r9 B9 hq => ?_)
    obtain ⟨rfl, rfl⟩ := hq
    refine ⟨rfl, ?_⟩
    show J _ _ _ _ _ (.int 0 :: _) (wX b len d (yF y 5 (y 1))) _ _
    have e9 : rdLa b len y d = (false, (yF y 5 (y 1), d)) := (by (unfold rdLa; exact if_neg (fun h => c8 ((nI_lti (b := 3) (by omega) (by decide)).mpr h))))
    exact J.iret dX1_readLaw_20 rfl (by decide) (Nat.le_refl _) (Nat.le_refl _) ⟨by rw [e9] <;> rfl, by rw [e9] <;> rfl⟩
set_option maxRecDepth 100000 in
set_option maxHeartbeats 4000000 in
theorem mX1_readLoad (b : Nat → Nat) (len : Nat) (d : rT) (hb : ∀ j, b j < 128) (hl : len ≤ 160) (y : Nat → Nat) (hy : y 2 ≤ len) (hd3 : y 5 < 100) : J KX1_readLoad 10 (fun o B => o = some (.int (jB ((rdOnce b len 5 1 9 4 y d).1 = true))) ∧ B = wX b len (rdOnce b len 5 1 9 4 y d).2.2 (rdOnce b len 5 1 9 4 y d).2.1) 0 [some (.ref 0)] [] (wX b len d y) 0 0 := by
  refine J.aload_n dX1_readLoad_0 rfl rfl ?_
  refine J.getfield dX1_readLoad_1 jFX1_38 rfl rfl ?_
  refine J.if_eq (tgt := 17) dX1_readLoad_4 (by decide) (fun c4 => ?_) (fun c4 => ?_)
  · have hc9 : y 5 = 0 := (nI_eqi (b := 0) (by omega) (by decide)).mp c4
    refine J.aload_n dX1_readLoad_17 rfl rfl ?_
    refine J.iconst (1) dX1_readLoad_18 (by decide) ?_
    refine J.putfield dX1_readLoad_19 jFX1_38 jP1_7 rfl (by decide) (by decide) (Nat.le_of_ble_eq_true rfl) ?_
    try dsimp only [List.set, wX]
    refine J.aload_n dX1_readLoad_22 rfl rfl ?_
    refine J.iconst (1) dX1_readLoad_23 (by decide) ?_
    refine J.bipush (9) dX1_readLoad_24 (by decide) ?_
    show J _ _ _ _ _ (.int (nI 9) :: .int (nI 1) :: _) (wX b len d (yset y 5 1)) _ _
    refine J.cv (as := [.int (nI 1), .int (nI 9)]) (is := [0, 1, 2, 3, 4, 5, 6, 7, 8, 9]) (o := 0) okX1_readNumber jcX1_114 (mX1_readNumber b len d hb hl (yset y 5 1) hy 1 9 (by decide) (by decide)) dX1_readLoad_26 rfl rfl rfl rfl rfl rfl rfl (fun r9 B9 hq => ?_)
    obtain ⟨rfl, rfl⟩ := hq
    refine ⟨rfl, ?_⟩
    show J _ _ _ _ _ (.int _ :: _) (wX b len d (rdN b len 1 9 (yset y 5 1)).2) _ _
    refine J.if_ne (tgt := 34) dX1_readLoad_29 (by decide) (fun c29 => ?_) (fun c29 => ?_)
    · refine J.aload_n dX1_readLoad_34 rfl rfl ?_
      refine J.getfield dX1_readLoad_35 jFX1_21 rfl rfl ?_
      refine J.aload_n dX1_readLoad_38 rfl rfl ?_
      refine J.getfield dX1_readLoad_39 jFX1_117 rfl rfl ?_
      refine J.putfield dX1_readLoad_42 jFX1_135 jP2_10 rfl rfl rfl (Nat.le_of_ble_eq_true rfl) ?_
      try dsimp only [List.set, wX]
      refine J.iconst (1) dX1_readLoad_45 (by decide) ?_
      have e9 : rdOnce b len 5 1 9 4 y d = (true, ((rdN b len 1 9 (yset y 5 1)).2, rset d 6 4 ((rdN b len 1 9 (yset y 5 1)).2 3))) := (by (unfold rdOnce; rw [if_pos hc9, if_pos (Decidable.not_not.mp (fun h => c29 ((jB_0 _).mpr h)))]))
      exact J.iret dX1_readLoad_46 rfl (by decide) (Nat.le_refl _) (Nat.le_refl _) ⟨by rw [e9] <;> rfl, by rw [e9] <;> rfl⟩
    · refine J.iconst (0) dX1_readLoad_32 (by decide) ?_
      have e9 : rdOnce b len 5 1 9 4 y d = (false, ((rdN b len 1 9 (yset y 5 1)).2, d)) := (by (unfold rdOnce; rw [if_pos hc9, if_neg ((jB_0 _).mp c29)]))
      exact J.iret dX1_readLoad_33 rfl (by decide) (Nat.le_refl _) (Nat.le_refl _) ⟨by rw [e9] <;> rfl, by rw [e9] <;> rfl⟩
  · refine J.aload_n dX1_readLoad_7 rfl rfl ?_
    refine J.iconst (4) dX1_readLoad_8 (by decide) ?_
    refine J.aload_n dX1_readLoad_9 rfl rfl ?_
    refine J.getfield dX1_readLoad_10 jFX1_107 rfl rfl ?_
    refine J.cv (as := [.int (nI 4), .int _]) (is := [0, 1, 2, 3, 4, 5, 6, 7, 8, 9]) (o := 0) okX1_fail jcX1_61 (mX1_fail b len d y 4 (y 1)) dX1_readLoad_13 rfl rfl rfl rfl rfl rfl rfl (fun r9 B9 hq => ?_)
    obtain ⟨rfl, rfl⟩ := hq
    refine ⟨rfl, ?_⟩
    show J _ _ _ _ _ (.int 0 :: _) (wX b len d (yF y 4 (y 1))) _ _
    have e9 : rdOnce b len 5 1 9 4 y d = (false, (yF y 4 (y 1), d)) := (by (unfold rdOnce; exact if_neg (fun h => c4 (congrArg nI h))))
    exact J.iret dX1_readLoad_16 rfl (by decide) (Nat.le_refl _) (Nat.le_refl _) ⟨by rw [e9] <;> rfl, by rw [e9] <;> rfl⟩
set_option maxRecDepth 100000 in
set_option maxHeartbeats 4000000 in
theorem mX1_readPrize (b : Nat → Nat) (len : Nat) (d : rT) (hb : ∀ j, b j < 128) (hl : len ≤ 160) (y : Nat → Nat) (hy : y 2 ≤ len) (hd3 : y 6 < 100) : J KX1_readPrize 10 (fun o B => o = some (.int (jB ((rdOnce b len 6 0 99 5 y d).1 = true))) ∧ B = wX b len (rdOnce b len 6 0 99 5 y d).2.2 (rdOnce b len 6 0 99 5 y d).2.1) 0 [some (.ref 0)] [] (wX b len d y) 0 0 := by
  refine J.aload_n dX1_readPrize_0 rfl rfl ?_
  refine J.getfield dX1_readPrize_1 jFX1_42 rfl rfl ?_
  refine J.if_eq (tgt := 17) dX1_readPrize_4 (by decide) (fun c4 => ?_) (fun c4 => ?_)
  · have hc9 : y 6 = 0 := (nI_eqi (b := 0) (by omega) (by decide)).mp c4
    refine J.aload_n dX1_readPrize_17 rfl rfl ?_
    refine J.iconst (1) dX1_readPrize_18 (by decide) ?_
    refine J.putfield dX1_readPrize_19 jFX1_42 jP1_8 rfl (by decide) (by decide) (Nat.le_of_ble_eq_true rfl) ?_
    try dsimp only [List.set, wX]
    refine J.aload_n dX1_readPrize_22 rfl rfl ?_
    refine J.iconst (0) dX1_readPrize_23 (by decide) ?_
    refine J.bipush (99) dX1_readPrize_24 (by decide) ?_
    show J _ _ _ _ _ (.int (nI 99) :: .int (nI 0) :: _) (wX b len d (yset y 6 1)) _ _
    refine J.cv (as := [.int (nI 0), .int (nI 99)]) (is := [0, 1, 2, 3, 4, 5, 6, 7, 8, 9]) (o := 0) okX1_readNumber jcX1_114 (mX1_readNumber b len d hb hl (yset y 6 1) hy 0 99 (by decide) (by decide)) dX1_readPrize_26 rfl rfl rfl rfl rfl rfl rfl (fun r9 B9 hq => ?_)
    obtain ⟨rfl, rfl⟩ := hq
    refine ⟨rfl, ?_⟩
    show J _ _ _ _ _ (.int _ :: _) (wX b len d (rdN b len 0 99 (yset y 6 1)).2) _ _
    refine J.if_ne (tgt := 34) dX1_readPrize_29 (by decide) (fun c29 => ?_) (fun c29 => ?_)
    · refine J.aload_n dX1_readPrize_34 rfl rfl ?_
      refine J.getfield dX1_readPrize_35 jFX1_21 rfl rfl ?_
      refine J.aload_n dX1_readPrize_38 rfl rfl ?_
      refine J.getfield dX1_readPrize_39 jFX1_117 rfl rfl ?_
      refine J.putfield dX1_readPrize_42 jFX1_137 jP2_11 rfl rfl rfl (Nat.le_of_ble_eq_true rfl) ?_
      try dsimp only [List.set, wX]
      refine J.iconst (1) dX1_readPrize_45 (by decide) ?_
      have e9 : rdOnce b len 6 0 99 5 y d = (true, ((rdN b len 0 99 (yset y 6 1)).2, rset d 6 5 ((rdN b len 0 99 (yset y 6 1)).2 3))) := (by (unfold rdOnce; rw [if_pos hc9, if_pos (Decidable.not_not.mp (fun h => c29 ((jB_0 _).mpr h)))]))
      exact J.iret dX1_readPrize_46 rfl (by decide) (Nat.le_refl _) (Nat.le_refl _) ⟨by rw [e9] <;> rfl, by rw [e9] <;> rfl⟩
    · refine J.iconst (0) dX1_readPrize_32 (by decide) ?_
      have e9 : rdOnce b len 6 0 99 5 y d = (false, ((rdN b len 0 99 (yset y 6 1)).2, d)) := (by (unfold rdOnce; rw [if_pos hc9, if_neg ((jB_0 _).mp c29)]))
      exact J.iret dX1_readPrize_33 rfl (by decide) (Nat.le_refl _) (Nat.le_refl _) ⟨by rw [e9] <;> rfl, by rw [e9] <;> rfl⟩
  · refine J.aload_n dX1_readPrize_7 rfl rfl ?_
    refine J.iconst (4) dX1_readPrize_8 (by decide) ?_
    refine J.aload_n dX1_readPrize_9 rfl rfl ?_
    refine J.getfield dX1_readPrize_10 jFX1_107 rfl rfl ?_
    refine J.cv (as := [.int (nI 4), .int _]) (is := [0, 1, 2, 3, 4, 5, 6, 7, 8, 9]) (o := 0) okX1_fail jcX1_61 (mX1_fail b len d y 4 (y 1)) dX1_readPrize_13 rfl rfl rfl rfl rfl rfl rfl (fun r9 B9 hq => ?_)
    obtain ⟨rfl, rfl⟩ := hq
    refine ⟨rfl, ?_⟩
    show J _ _ _ _ _ (.int 0 :: _) (wX b len d (yF y 4 (y 1))) _ _
    have e9 : rdOnce b len 6 0 99 5 y d = (false, (yF y 4 (y 1), d)) := (by (unfold rdOnce; exact if_neg (fun h => c4 (congrArg nI h))))
    exact J.iret dX1_readPrize_16 rfl (by decide) (Nat.le_refl _) (Nat.le_refl _) ⟨by rw [e9] <;> rfl, by rw [e9] <;> rfl⟩
set_option maxRecDepth 100000 in
set_option maxHeartbeats 4000000 in
theorem mX1_readBroken (b : Nat → Nat) (len : Nat) (d : rT) (hb : ∀ j, b j < 128) (hl : len ≤ 160) (y : Nat → Nat) (hy : y 2 ≤ len) (h4 : y 4 < 8) : J KX1_readBroken 10 (fun o B => o = some (.int (jB ((rdBr b len y d).1 = true))) ∧ B = wX b len (rdBr b len y d).2.2 (rdBr b len y d).2.1) 0 [some (.ref 0)] [] (wX b len d y) 0 0 := by
  refine J.aload_n dX1_readBroken_0 rfl rfl ?_
  refine J.iconst (0) dX1_readBroken_1 (by decide) ?_
  refine J.iconst (2) dX1_readBroken_2 (by decide) ?_
  refine J.cv (as := [.int (nI 0), .int (nI 2)]) (is := [0, 1, 2, 3, 4, 5, 6, 7, 8, 9]) (o := 0) okX1_readNumber jcX1_114 (mX1_readNumber b len d hb hl y hy 0 2 (by decide) (by decide)) dX1_readBroken_3 rfl rfl rfl rfl rfl rfl rfl (fun r9 B9 hq => ?_)
  obtain ⟨rfl, rfl⟩ := hq
  refine ⟨rfl, ?_⟩
  show J _ _ _ _ _ (.int _ :: _) (wX b len d (rdN b len 0 2 y).2) _ _
  refine J.if_ne (tgt := 11) dX1_readBroken_6 (by decide) (fun c6 => ?_) (fun c6 => ?_)
  · refine J.aload_n dX1_readBroken_11 rfl rfl ?_
    refine J.getfield dX1_readBroken_12 jFX1_35 rfl rfl ?_
    refine J.aload_n dX1_readBroken_15 rfl rfl ?_
    refine J.getfield dX1_readBroken_16 jFX1_117 rfl rfl ?_
    refine J.ishr dX1_readBroken_19 ?_
    refine J.iconst (1) dX1_readBroken_20 (by decide) ?_
    refine J.iand dX1_readBroken_21 ?_
    refine J.iconst (1) dX1_readBroken_22 (by decide) ?_
    have h39 := rdN_3 (Decidable.not_not.mp (fun h => c6 ((jB_0 _).mpr h)))
    have h49 : (rdN b len 0 2 y).2 4 < 8 := by rw [rdN_4]; exact h4
    rw [bit_eval _ h49 _ (by omega)]
    refine J.icmp_ne (tgt := 36) dX1_readBroken_23 (by decide) (fun c23 => ?_) (fun c23 => ?_)
    · refine J.aload_n dX1_readBroken_36 rfl rfl ?_
      refine J.dup dX1_readBroken_37 rfl ?_
      refine J.getfield dX1_readBroken_38 jFX1_35 rfl rfl ?_
      refine J.iconst (1) dX1_readBroken_41 (by decide) ?_
      refine J.aload_n dX1_readBroken_42 rfl rfl ?_
      refine J.getfield dX1_readBroken_43 jFX1_117 rfl rfl ?_
      refine J.ishl dX1_readBroken_46 ?_
      refine J.ior dX1_readBroken_47 ?_
      rw [ws_eval _ h49 _ (by omega)]
      refine J.putfield dX1_readBroken_48 jFX1_35 jP1_6 rfl rfl rfl (Nat.le_of_ble_eq_true rfl) ?_
      try dsimp only [List.set, wX]
      refine J.iconst (1) dX1_readBroken_51 (by decide) ?_
      have e9 : rdBr b len y d = (true, (yset (rdN b len 0 2 y).2 4 ((rdN b len 0 2 y).2 4 ||| 2 ^ (rdN b len 0 2 y).2 3), d)) := (by (unfold rdBr; rw [if_pos (Decidable.not_not.mp (fun h => c6 ((jB_0 _).mpr h))), if_neg (fun h => c23 (congrArg nI h))]))
      exact J.iret dX1_readBroken_52 rfl (by decide) (Nat.le_refl _) (Nat.le_refl _) ⟨by rw [e9] <;> rfl, by rw [e9] <;> rfl⟩
    · have hb1 : bit ((rdN b len 0 2 y).2 4) ((rdN b len 0 2 y).2 3) = 1 := (nI_eqi (b := 1) (by have := bit_le ((rdN b len 0 2 y).2 4) ((rdN b len 0 2 y).2 3); omega) (by decide)).mp c23
      refine J.aload_n dX1_readBroken_26 rfl rfl ?_
      refine J.iconst (4) dX1_readBroken_27 (by decide) ?_
      refine J.aload_n dX1_readBroken_28 rfl rfl ?_
      refine J.getfield dX1_readBroken_29 jFX1_107 rfl rfl ?_
      refine J.cv (as := [.int (nI 4), .int _]) (is := [0, 1, 2, 3, 4, 5, 6, 7, 8, 9]) (o := 0) okX1_fail jcX1_61 (mX1_fail b len d (rdN b len 0 2 y).2 4 ((rdN b len 0 2 y).2 1)) dX1_readBroken_32 rfl rfl rfl rfl rfl rfl rfl (fun r9 B9 hq => ?_)
      obtain ⟨rfl, rfl⟩ := hq
      refine ⟨rfl, ?_⟩
      show J _ _ _ _ _ (.int 0 :: _) (wX b len d (yF (rdN b len 0 2 y).2 4 ((rdN b len 0 2 y).2 1))) _ _
      have e9 : rdBr b len y d = (false, (yF (rdN b len 0 2 y).2 4 ((rdN b len 0 2 y).2 1), d)) := (by (unfold rdBr; rw [if_pos (Decidable.not_not.mp (fun h => c6 ((jB_0 _).mpr h))), if_pos hb1]))
      exact J.iret dX1_readBroken_35 rfl (by decide) (Nat.le_refl _) (Nat.le_refl _) ⟨by rw [e9] <;> rfl, by rw [e9] <;> rfl⟩
  · refine J.iconst (0) dX1_readBroken_9 (by decide) ?_
    have e9 : rdBr b len y d = (false, ((rdN b len 0 2 y).2, d)) := (by (unfold rdBr; rw [if_neg ((jB_0 _).mp c6)]))
    exact J.iret dX1_readBroken_10 rfl (by decide) (Nat.le_refl _) (Nat.le_refl _) ⟨by rw [e9] <;> rfl, by rw [e9] <;> rfl⟩
set_option maxRecDepth 100000 in
set_option maxHeartbeats 4000000 in
theorem mX1_readStop (b : Nat → Nat) (len : Nat) (d : rT) (hb : ∀ j, b j < 128) (hl : len ≤ 160) (y : Nat → Nat) (hy : y 2 ≤ len) : J KX1_readStop 10 (fun o B => o = some (.int (jB ((rdS b len y).1 = true))) ∧ B = wX b len d (rdS b len y).2) 0 [some (.ref 0)] [] (wX b len d y) 0 0 := by
  refine J.aload_n dX1_readStop_0 rfl rfl ?_
  refine J.cv (as := []) (is := [0, 1, 2, 3, 4, 5, 6, 7, 8, 9]) (o := 0) okX1_nextToken jcX1_45 (mX1_next b len d hb hl y hy) dX1_readStop_1 rfl rfl rfl rfl rfl rfl rfl (fun r9 B9 hq => ?_)
  obtain ⟨rfl, rfl⟩ := hq
  refine ⟨rfl, ?_⟩
  show J _ _ _ _ _ (.int _ :: _) (wX b len d (yN b len y)) _ _
  refine J.if_eq (tgt := 31) dX1_readStop_4 (by decide) (fun c4 => ?_) (fun c4 => ?_)
  · refine J.iconst (0) dX1_readStop_31 (by decide) ?_
    first | (have e9 : rdS b len y = (true, yN b len y) := (by (unfold rdS; rw [if_pos (Decidable.not_not.mp (fun h => c4 ((jB_0 _).mpr h))), if_pos ((nI_eqi (b := 3) (by have := yN_0 b len y; omega) (by decide)).mp c12)])); exact J.iret dX1_readStop_32 rfl (by decide) (Nat.le_refl _) (Nat.le_refl _) ⟨by rw [e9] <;> rfl, by rw [e9] <;> rfl⟩) | (have e9 : rdS b len y = (false, yF (yN b len y) 2 (yN b len y 1)) := (by (unfold rdS; rw [if_pos (Decidable.not_not.mp (fun h => c4 ((jB_0 _).mpr h))), if_neg (fun h => c12 (congrArg nI h))])); exact J.iret dX1_readStop_32 rfl (by decide) (Nat.le_refl _) (Nat.le_refl _) ⟨by rw [e9] <;> rfl, by rw [e9] <;> rfl⟩) | (have e9 : rdS b len y = (false, yN b len y) := (by (unfold rdS; rw [if_neg ((jB_0 _).mp c4)])); exact J.iret dX1_readStop_32 rfl (by decide) (Nat.le_refl _) (Nat.le_refl _) ⟨by rw [e9] <;> rfl, by rw [e9] <;> rfl⟩)
  · refine J.aload_n dX1_readStop_7 rfl rfl ?_
    refine J.getfield dX1_readStop_8 jFX1_49 rfl rfl ?_
    refine J.iconst (3) dX1_readStop_11 (by decide) ?_
    refine J.icmp_eq (tgt := 27) dX1_readStop_12 (by decide) (fun c12 => ?_) (fun c12 => ?_)
    · refine J.iconst (1) dX1_readStop_27 (by decide) ?_
      refine J.goto (tgt := 32) dX1_readStop_28 (by decide) ?_
      first | (have e9 : rdS b len y = (true, yN b len y) := (by (unfold rdS; rw [if_pos (Decidable.not_not.mp (fun h => c4 ((jB_0 _).mpr h))), if_pos ((nI_eqi (b := 3) (by have := yN_0 b len y; omega) (by decide)).mp c12)])); exact J.iret dX1_readStop_32 rfl (by decide) (Nat.le_refl _) (Nat.le_refl _) ⟨by rw [e9] <;> rfl, by rw [e9] <;> rfl⟩) | (have e9 : rdS b len y = (false, yF (yN b len y) 2 (yN b len y 1)) := (by (unfold rdS; rw [if_pos (Decidable.not_not.mp (fun h => c4 ((jB_0 _).mpr h))), if_neg (fun h => c12 (congrArg nI h))])); exact J.iret dX1_readStop_32 rfl (by decide) (Nat.le_refl _) (Nat.le_refl _) ⟨by rw [e9] <;> rfl, by rw [e9] <;> rfl⟩) | (have e9 : rdS b len y = (false, yN b len y) := (by (unfold rdS; rw [if_neg ((jB_0 _).mp c4)])); exact J.iret dX1_readStop_32 rfl (by decide) (Nat.le_refl _) (Nat.le_refl _) ⟨by rw [e9] <;> rfl, by rw [e9] <;> rfl⟩)
    · refine J.aload_n dX1_readStop_15 rfl rfl ?_
      refine J.iconst (2) dX1_readStop_16 (by decide) ?_
      refine J.aload_n dX1_readStop_17 rfl rfl ?_
      refine J.getfield dX1_readStop_18 jFX1_107 rfl rfl ?_
      refine J.cv (as := [.int (nI 2), .int _]) (is := [0, 1, 2, 3, 4, 5, 6, 7, 8, 9]) (o := 0) okX1_fail jcX1_61 (mX1_fail b len d (yN b len y) 2 (yN b len y 1)) dX1_readStop_21 rfl rfl rfl rfl rfl rfl rfl (fun r9 B9 hq => ?_)
      obtain ⟨rfl, rfl⟩ := hq
      refine ⟨rfl, ?_⟩
      show J _ _ _ _ _ (.int 0 :: _) (wX b len d (yF (yN b len y) 2 (yN b len y 1))) _ _
      refine J.if_eq (tgt := 31) dX1_readStop_24 (by decide) (fun c24 => ?_) (fun c24 => absurd c24 (fun h => h rfl))
      refine J.iconst (0) dX1_readStop_31 (by decide) ?_
      first | (have e9 : rdS b len y = (true, yN b len y) := (by (unfold rdS; rw [if_pos (Decidable.not_not.mp (fun h => c4 ((jB_0 _).mpr h))), if_pos ((nI_eqi (b := 3) (by have := yN_0 b len y; omega) (by decide)).mp c12)])); exact J.iret dX1_readStop_32 rfl (by decide) (Nat.le_refl _) (Nat.le_refl _) ⟨by rw [e9] <;> rfl, by rw [e9] <;> rfl⟩) | (have e9 : rdS b len y = (false, yF (yN b len y) 2 (yN b len y 1)) := (by (unfold rdS; rw [if_pos (Decidable.not_not.mp (fun h => c4 ((jB_0 _).mpr h))), if_neg (fun h => c12 (congrArg nI h))])); exact J.iret dX1_readStop_32 rfl (by decide) (Nat.le_refl _) (Nat.le_refl _) ⟨by rw [e9] <;> rfl, by rw [e9] <;> rfl⟩) | (have e9 : rdS b len y = (false, yN b len y) := (by (unfold rdS; rw [if_neg ((jB_0 _).mp c4)])); exact J.iret dX1_readStop_32 rfl (by decide) (Nat.le_refl _) (Nat.le_refl _) ⟨by rw [e9] <;> rfl, by rw [e9] <;> rfl⟩)
end
section
theorem dX1_readLine_0 : decode cX1_readLine 0 = .ok (.aload_n 0, 1) := by decide +kernel
theorem dX1_readLine_1 : decode cX1_readLine 1 = .ok (.ldc 71, 2) := by decide +kernel
theorem dX1_readLine_3 : decode cX1_readLine 3 = .ok (.invokevirtual 73, 3) := by decide +kernel
theorem dX1_readLine_6 : decode cX1_readLine 6 = .ok (.ifCond .eq 23, 3) := by decide +kernel
theorem dX1_readLine_9 : decode cX1_readLine 9 = .ok (.aload_n 0, 1) := by decide +kernel
theorem dX1_readLine_10 : decode cX1_readLine 10 = .ok (.invokevirtual 77, 3) := by decide +kernel
theorem dX1_readLine_13 : decode cX1_readLine 13 = .ok (.ifCond .eq 14, 3) := by decide +kernel
theorem dX1_readLine_16 : decode cX1_readLine 16 = .ok (.aload_n 0, 1) := by decide +kernel
theorem dX1_readLine_17 : decode cX1_readLine 17 = .ok (.invokevirtual 80, 3) := by decide +kernel
theorem dX1_readLine_20 : decode cX1_readLine 20 = .ok (.ifCond .eq 7, 3) := by decide +kernel
theorem dX1_readLine_23 : decode cX1_readLine 23 = .ok (.iconst 1, 1) := by decide +kernel
theorem dX1_readLine_24 : decode cX1_readLine 24 = .ok (.goto 4, 3) := by decide +kernel
theorem dX1_readLine_27 : decode cX1_readLine 27 = .ok (.iconst 0, 1) := by decide +kernel
theorem dX1_readLine_28 : decode cX1_readLine 28 = .ok (.ireturn, 1) := by decide +kernel
theorem dX1_readLine_29 : decode cX1_readLine 29 = .ok (.aload_n 0, 1) := by decide +kernel
theorem dX1_readLine_30 : decode cX1_readLine 30 = .ok (.ldc 83, 2) := by decide +kernel
theorem dX1_readLine_32 : decode cX1_readLine 32 = .ok (.invokevirtual 73, 3) := by decide +kernel
theorem dX1_readLine_35 : decode cX1_readLine 35 = .ok (.ifCond .eq 23, 3) := by decide +kernel
theorem dX1_readLine_38 : decode cX1_readLine 38 = .ok (.aload_n 0, 1) := by decide +kernel
theorem dX1_readLine_39 : decode cX1_readLine 39 = .ok (.invokevirtual 85, 3) := by decide +kernel
theorem dX1_readLine_42 : decode cX1_readLine 42 = .ok (.ifCond .eq 14, 3) := by decide +kernel
theorem dX1_readLine_45 : decode cX1_readLine 45 = .ok (.aload_n 0, 1) := by decide +kernel
theorem dX1_readLine_46 : decode cX1_readLine 46 = .ok (.invokevirtual 80, 3) := by decide +kernel
theorem dX1_readLine_49 : decode cX1_readLine 49 = .ok (.ifCond .eq 7, 3) := by decide +kernel
theorem dX1_readLine_52 : decode cX1_readLine 52 = .ok (.iconst 1, 1) := by decide +kernel
theorem dX1_readLine_53 : decode cX1_readLine 53 = .ok (.goto 4, 3) := by decide +kernel
theorem dX1_readLine_56 : decode cX1_readLine 56 = .ok (.iconst 0, 1) := by decide +kernel
theorem dX1_readLine_57 : decode cX1_readLine 57 = .ok (.ireturn, 1) := by decide +kernel
theorem dX1_readLine_58 : decode cX1_readLine 58 = .ok (.aload_n 0, 1) := by decide +kernel
theorem dX1_readLine_59 : decode cX1_readLine 59 = .ok (.ldc 88, 2) := by decide +kernel
theorem dX1_readLine_61 : decode cX1_readLine 61 = .ok (.invokevirtual 73, 3) := by decide +kernel
theorem dX1_readLine_64 : decode cX1_readLine 64 = .ok (.ifCond .eq 23, 3) := by decide +kernel
theorem dX1_readLine_67 : decode cX1_readLine 67 = .ok (.aload_n 0, 1) := by decide +kernel
theorem dX1_readLine_68 : decode cX1_readLine 68 = .ok (.invokevirtual 90, 3) := by decide +kernel
theorem dX1_readLine_71 : decode cX1_readLine 71 = .ok (.ifCond .eq 14, 3) := by decide +kernel
theorem dX1_readLine_74 : decode cX1_readLine 74 = .ok (.aload_n 0, 1) := by decide +kernel
theorem dX1_readLine_75 : decode cX1_readLine 75 = .ok (.invokevirtual 80, 3) := by decide +kernel
theorem dX1_readLine_78 : decode cX1_readLine 78 = .ok (.ifCond .eq 7, 3) := by decide +kernel
theorem dX1_readLine_81 : decode cX1_readLine 81 = .ok (.iconst 1, 1) := by decide +kernel
theorem dX1_readLine_82 : decode cX1_readLine 82 = .ok (.goto 4, 3) := by decide +kernel
theorem dX1_readLine_85 : decode cX1_readLine 85 = .ok (.iconst 0, 1) := by decide +kernel
theorem dX1_readLine_86 : decode cX1_readLine 86 = .ok (.ireturn, 1) := by decide +kernel
theorem dX1_readLine_87 : decode cX1_readLine 87 = .ok (.aload_n 0, 1) := by decide +kernel
theorem dX1_readLine_88 : decode cX1_readLine 88 = .ok (.ldc 93, 2) := by decide +kernel
theorem dX1_readLine_90 : decode cX1_readLine 90 = .ok (.invokevirtual 73, 3) := by decide +kernel
theorem dX1_readLine_93 : decode cX1_readLine 93 = .ok (.ifCond .eq 23, 3) := by decide +kernel
theorem dX1_readLine_96 : decode cX1_readLine 96 = .ok (.aload_n 0, 1) := by decide +kernel
theorem dX1_readLine_97 : decode cX1_readLine 97 = .ok (.invokevirtual 95, 3) := by decide +kernel
theorem dX1_readLine_100 : decode cX1_readLine 100 = .ok (.ifCond .eq 14, 3) := by decide +kernel
theorem dX1_readLine_103 : decode cX1_readLine 103 = .ok (.aload_n 0, 1) := by decide +kernel
theorem dX1_readLine_104 : decode cX1_readLine 104 = .ok (.invokevirtual 80, 3) := by decide +kernel
theorem dX1_readLine_107 : decode cX1_readLine 107 = .ok (.ifCond .eq 7, 3) := by decide +kernel
theorem dX1_readLine_110 : decode cX1_readLine 110 = .ok (.iconst 1, 1) := by decide +kernel
theorem dX1_readLine_111 : decode cX1_readLine 111 = .ok (.goto 4, 3) := by decide +kernel
theorem dX1_readLine_114 : decode cX1_readLine 114 = .ok (.iconst 0, 1) := by decide +kernel
theorem dX1_readLine_115 : decode cX1_readLine 115 = .ok (.ireturn, 1) := by decide +kernel
theorem dX1_readLine_116 : decode cX1_readLine 116 = .ok (.aload_n 0, 1) := by decide +kernel
theorem dX1_readLine_117 : decode cX1_readLine 117 = .ok (.ldc 98, 2) := by decide +kernel
theorem dX1_readLine_119 : decode cX1_readLine 119 = .ok (.invokevirtual 73, 3) := by decide +kernel
theorem dX1_readLine_122 : decode cX1_readLine 122 = .ok (.ifCond .eq 23, 3) := by decide +kernel
theorem dX1_readLine_125 : decode cX1_readLine 125 = .ok (.aload_n 0, 1) := by decide +kernel
theorem dX1_readLine_126 : decode cX1_readLine 126 = .ok (.invokevirtual 100, 3) := by decide +kernel
theorem dX1_readLine_129 : decode cX1_readLine 129 = .ok (.ifCond .eq 14, 3) := by decide +kernel
theorem dX1_readLine_132 : decode cX1_readLine 132 = .ok (.aload_n 0, 1) := by decide +kernel
theorem dX1_readLine_133 : decode cX1_readLine 133 = .ok (.invokevirtual 80, 3) := by decide +kernel
theorem dX1_readLine_136 : decode cX1_readLine 136 = .ok (.ifCond .eq 7, 3) := by decide +kernel
theorem dX1_readLine_139 : decode cX1_readLine 139 = .ok (.iconst 1, 1) := by decide +kernel
theorem dX1_readLine_140 : decode cX1_readLine 140 = .ok (.goto 4, 3) := by decide +kernel
theorem dX1_readLine_143 : decode cX1_readLine 143 = .ok (.iconst 0, 1) := by decide +kernel
theorem dX1_readLine_144 : decode cX1_readLine 144 = .ok (.ireturn, 1) := by decide +kernel
theorem dX1_readLine_145 : decode cX1_readLine 145 = .ok (.aload_n 0, 1) := by decide +kernel
theorem dX1_readLine_146 : decode cX1_readLine 146 = .ok (.ldc 103, 2) := by decide +kernel
theorem dX1_readLine_148 : decode cX1_readLine 148 = .ok (.invokevirtual 73, 3) := by decide +kernel
theorem dX1_readLine_151 : decode cX1_readLine 151 = .ok (.ifCond .eq 23, 3) := by decide +kernel
theorem dX1_readLine_154 : decode cX1_readLine 154 = .ok (.aload_n 0, 1) := by decide +kernel
theorem dX1_readLine_155 : decode cX1_readLine 155 = .ok (.invokevirtual 104, 3) := by decide +kernel
theorem dX1_readLine_158 : decode cX1_readLine 158 = .ok (.ifCond .eq 14, 3) := by decide +kernel
theorem dX1_readLine_161 : decode cX1_readLine 161 = .ok (.aload_n 0, 1) := by decide +kernel
theorem dX1_readLine_162 : decode cX1_readLine 162 = .ok (.invokevirtual 80, 3) := by decide +kernel
theorem dX1_readLine_165 : decode cX1_readLine 165 = .ok (.ifCond .eq 7, 3) := by decide +kernel
theorem dX1_readLine_168 : decode cX1_readLine 168 = .ok (.iconst 1, 1) := by decide +kernel
theorem dX1_readLine_169 : decode cX1_readLine 169 = .ok (.goto 4, 3) := by decide +kernel
theorem dX1_readLine_172 : decode cX1_readLine 172 = .ok (.iconst 0, 1) := by decide +kernel
theorem dX1_readLine_173 : decode cX1_readLine 173 = .ok (.ireturn, 1) := by decide +kernel
theorem dX1_readLine_174 : decode cX1_readLine 174 = .ok (.aload_n 0, 1) := by decide +kernel
theorem dX1_readLine_175 : decode cX1_readLine 175 = .ok (.iconst 2, 1) := by decide +kernel
theorem dX1_readLine_176 : decode cX1_readLine 176 = .ok (.aload_n 0, 1) := by decide +kernel
theorem dX1_readLine_177 : decode cX1_readLine 177 = .ok (.getfield 107, 3) := by decide +kernel
theorem dX1_readLine_180 : decode cX1_readLine 180 = .ok (.invokevirtual 61, 3) := by decide +kernel
theorem dX1_readLine_183 : decode cX1_readLine 183 = .ok (.ireturn, 1) := by decide +kernel
theorem dX1_readAll_0 : decode cX1_readAll 0 = .ok (.aload_n 0, 1) := by decide +kernel
theorem dX1_readAll_1 : decode cX1_readAll 1 = .ok (.getfield 21, 3) := by decide +kernel
theorem dX1_readAll_4 : decode cX1_readAll 4 = .ok (.invokevirtual 29, 3) := by decide +kernel
theorem dX1_readAll_7 : decode cX1_readAll 7 = .ok (.aload_n 0, 1) := by decide +kernel
theorem dX1_readAll_8 : decode cX1_readAll 8 = .ok (.iconst 0, 1) := by decide +kernel
theorem dX1_readAll_9 : decode cX1_readAll 9 = .ok (.putfield 32, 3) := by decide +kernel
theorem dX1_readAll_12 : decode cX1_readAll 12 = .ok (.aload_n 0, 1) := by decide +kernel
theorem dX1_readAll_13 : decode cX1_readAll 13 = .ok (.iconst 0, 1) := by decide +kernel
theorem dX1_readAll_14 : decode cX1_readAll 14 = .ok (.putfield 35, 3) := by decide +kernel
theorem dX1_readAll_17 : decode cX1_readAll 17 = .ok (.aload_n 0, 1) := by decide +kernel
theorem dX1_readAll_18 : decode cX1_readAll 18 = .ok (.iconst 0, 1) := by decide +kernel
theorem dX1_readAll_19 : decode cX1_readAll 19 = .ok (.putfield 38, 3) := by decide +kernel
theorem dX1_readAll_22 : decode cX1_readAll 22 = .ok (.aload_n 0, 1) := by decide +kernel
theorem dX1_readAll_23 : decode cX1_readAll 23 = .ok (.iconst 0, 1) := by decide +kernel
theorem dX1_readAll_24 : decode cX1_readAll 24 = .ok (.putfield 42, 3) := by decide +kernel
theorem dX1_readAll_27 : decode cX1_readAll 27 = .ok (.aload_n 0, 1) := by decide +kernel
theorem dX1_readAll_28 : decode cX1_readAll 28 = .ok (.iconst 0, 1) := by decide +kernel
theorem dX1_readAll_29 : decode cX1_readAll 29 = .ok (.putfield 25, 3) := by decide +kernel
theorem dX1_readAll_32 : decode cX1_readAll 32 = .ok (.iconst 0, 1) := by decide +kernel
theorem dX1_readAll_33 : decode cX1_readAll 33 = .ok (.istore_n 1, 1) := by decide +kernel
theorem dX1_readAll_34 : decode cX1_readAll 34 = .ok (.iconst 0, 1) := by decide +kernel
theorem dX1_readAll_35 : decode cX1_readAll 35 = .ok (.istore_n 2, 1) := by decide +kernel
theorem dX1_readAll_36 : decode cX1_readAll 36 = .ok (.iload_n 2, 1) := by decide +kernel
theorem dX1_readAll_37 : decode cX1_readAll 37 = .ok (.sipush 160, 3) := by decide +kernel
theorem dX1_readAll_40 : decode cX1_readAll 40 = .ok (.if_icmp .gt 33, 3) := by decide +kernel
theorem dX1_readAll_43 : decode cX1_readAll 43 = .ok (.aload_n 0, 1) := by decide +kernel
theorem dX1_readAll_44 : decode cX1_readAll 44 = .ok (.invokevirtual 45, 3) := by decide +kernel
theorem dX1_readAll_47 : decode cX1_readAll 47 = .ok (.ifCond .eq 26, 3) := by decide +kernel
theorem dX1_readAll_50 : decode cX1_readAll 50 = .ok (.aload_n 0, 1) := by decide +kernel
theorem dX1_readAll_51 : decode cX1_readAll 51 = .ok (.getfield 49, 3) := by decide +kernel
theorem dX1_readAll_54 : decode cX1_readAll 54 = .ok (.ifCond .eq 19, 3) := by decide +kernel
theorem dX1_readAll_57 : decode cX1_readAll 57 = .ok (.aload_n 0, 1) := by decide +kernel
theorem dX1_readAll_58 : decode cX1_readAll 58 = .ok (.invokevirtual 52, 3) := by decide +kernel
theorem dX1_readAll_61 : decode cX1_readAll 61 = .ok (.ifCond .eq 12, 3) := by decide +kernel
theorem dX1_readAll_64 : decode cX1_readAll 64 = .ok (.iinc 1 1, 3) := by decide +kernel
theorem dX1_readAll_67 : decode cX1_readAll 67 = .ok (.iinc 2 1, 3) := by decide +kernel
theorem dX1_readAll_70 : decode cX1_readAll 70 = .ok (.goto (-34), 3) := by decide +kernel
theorem dX1_readAll_73 : decode cX1_readAll 73 = .ok (.aload_n 0, 1) := by decide +kernel
theorem dX1_readAll_74 : decode cX1_readAll 74 = .ok (.getfield 25, 3) := by decide +kernel
theorem dX1_readAll_77 : decode cX1_readAll 77 = .ok (.ifCond .ne 32, 3) := by decide +kernel
theorem dX1_readAll_80 : decode cX1_readAll 80 = .ok (.aload_n 0, 1) := by decide +kernel
theorem dX1_readAll_81 : decode cX1_readAll 81 = .ok (.getfield 35, 3) := by decide +kernel
theorem dX1_readAll_84 : decode cX1_readAll 84 = .ok (.aload_n 0, 1) := by decide +kernel
theorem dX1_readAll_85 : decode cX1_readAll 85 = .ok (.getfield 21, 3) := by decide +kernel
theorem dX1_readAll_88 : decode cX1_readAll 88 = .ok (.getfield 55, 3) := by decide +kernel
theorem dX1_readAll_91 : decode cX1_readAll 91 = .ok (.ishr, 1) := by decide +kernel
theorem dX1_readAll_92 : decode cX1_readAll 92 = .ok (.ifCond .eq 17, 3) := by decide +kernel
theorem dX1_readAll_95 : decode cX1_readAll 95 = .ok (.aload_n 0, 1) := by decide +kernel
theorem dX1_readAll_96 : decode cX1_readAll 96 = .ok (.bipush 6, 2) := by decide +kernel
theorem dX1_readAll_98 : decode cX1_readAll 98 = .ok (.aload_n 0, 1) := by decide +kernel
theorem dX1_readAll_99 : decode cX1_readAll 99 = .ok (.getfield 12, 3) := by decide +kernel
theorem dX1_readAll_102 : decode cX1_readAll 102 = .ok (.getfield 58, 3) := by decide +kernel
theorem dX1_readAll_105 : decode cX1_readAll 105 = .ok (.invokevirtual 61, 3) := by decide +kernel
theorem dX1_readAll_108 : decode cX1_readAll 108 = .ok (.pop, 1) := by decide +kernel
theorem dX1_readAll_109 : decode cX1_readAll 109 = .ok (.aload_n 0, 1) := by decide +kernel
theorem dX1_readAll_110 : decode cX1_readAll 110 = .ok (.getfield 21, 3) := by decide +kernel
theorem dX1_readAll_113 : decode cX1_readAll 113 = .ok (.dup, 1) := by decide +kernel
theorem dX1_readAll_114 : decode cX1_readAll 114 = .ok (.getfield 65, 3) := by decide +kernel
theorem dX1_readAll_117 : decode cX1_readAll 117 = .ok (.aload_n 0, 1) := by decide +kernel
theorem dX1_readAll_118 : decode cX1_readAll 118 = .ok (.getfield 35, 3) := by decide +kernel
theorem dX1_readAll_121 : decode cX1_readAll 121 = .ok (.iconst (-1), 1) := by decide +kernel
theorem dX1_readAll_122 : decode cX1_readAll 122 = .ok (.ixor, 1) := by decide +kernel
theorem dX1_readAll_123 : decode cX1_readAll 123 = .ok (.iand, 1) := by decide +kernel
theorem dX1_readAll_124 : decode cX1_readAll 124 = .ok (.putfield 65, 3) := by decide +kernel
theorem dX1_readAll_127 : decode cX1_readAll 127 = .ok (.aload_n 0, 1) := by decide +kernel
theorem dX1_readAll_128 : decode cX1_readAll 128 = .ok (.getfield 25, 3) := by decide +kernel
theorem dX1_readAll_131 : decode cX1_readAll 131 = .ok (.ifCond .ne 7, 3) := by decide +kernel
theorem dX1_readAll_134 : decode cX1_readAll 134 = .ok (.iload_n 1, 1) := by decide +kernel
theorem dX1_readAll_135 : decode cX1_readAll 135 = .ok (.goto 10, 3) := by decide +kernel
theorem dX1_readAll_138 : decode cX1_readAll 138 = .ok (.bipush (-10), 2) := by decide +kernel
theorem dX1_readAll_140 : decode cX1_readAll 140 = .ok (.aload_n 0, 1) := by decide +kernel
theorem dX1_readAll_141 : decode cX1_readAll 141 = .ok (.getfield 68, 3) := by decide +kernel
theorem dX1_readAll_144 : decode cX1_readAll 144 = .ok (.isub, 1) := by decide +kernel
theorem dX1_readAll_145 : decode cX1_readAll 145 = .ok (.ireturn, 1) := by decide +kernel
def fin (b : Nat → Nat) (len : Nat) (p : Bool × pT) : Bool × pT := if p.1 = true then ((rdS b len p.2.1).1, ((rdS b len p.2.1).2, p.2.2)) else (false, p.2)
def rdLi (b : Nat → Nat) (len : Nat) (y : Nat → Nat) (d : rT) : Bool × pT :=
  if spl b y 0 then fin b len (rdHa b len y d) else if spl b y 6 then fin b len (rdKi b len y d) else if spl b y 7 then fin b len (rdLa b len y d) else if spl b y 8 then fin b len (rdOnce b len 5 1 9 4 y d) else if spl b y 9 then fin b len (rdOnce b len 6 0 99 5 y d) else if spl b y 10 then fin b len (rdBr b len y d) else (false, (yF y 2 (y 1), d))
/-- what the reader's state always keeps to -/
def yOK (len : Nat) (y : Nat → Nat) (d : rT) : Prop := y 1 ≤ y 2 ∧ y 2 ≤ len ∧ y 0 ≤ 4 ∧ y 4 < 8 ∧ y 5 ≤ 1 ∧ y 6 ≤ 1 ∧ d 6 0 ≤ 3 ∧ d 6 1 ≤ 4 ∧ d 6 2 ≤ 3 ∧ d 6 3 < 8
theorem yF_i {y : Nat → Nat} {f p i : Nat} (h7 : i ≠ 7) (h8 : i ≠ 8) : yF y f p i = y i := by
  unfold yF yset
  rw [if_neg h8, if_neg h7]
theorem yOK.F {len : Nat} {y : Nat → Nat} {d : rT} {f p : Nat} (h : yOK len y d) : yOK len (yF y f p) d := h
theorem yOK.N {b : Nat → Nat} {len : Nat} {y : Nat → Nat} {d : rT} (h : yOK len y d) : yOK len (yN b len y) d := ⟨(yN_2 h.2.1).1, (yN_2 h.2.1).2, yN_0 b len y, h.2.2.2⟩
theorem rdN_0 {b : Nat → Nat} {len lo hi : Nat} {y : Nat → Nat} : (rdN b len lo hi y).2 0 = yN b len y 0 := by
  unfold rdN
  repeat' split
  all_goals rfl
theorem yOK.R {b : Nat → Nat} {len lo hi : Nat} {y : Nat → Nat} {d : rT} (h : yOK len y d) : yOK len (rdN b len lo hi y).2 d := by
  unfold yOK
  rw [rdN_0, rdN_1, rdN_2, rdN_4, rdN_5, rdN_6]
  exact ⟨(yN_2 h.2.1).1, (yN_2 h.2.1).2, yN_0 b len y, h.2.2.2⟩
theorem yOK.S {b : Nat → Nat} {len : Nat} {y : Nat → Nat} {d : rT} (h : yOK len y d) : yOK len (rdS b len y).2 d := by
  unfold rdS
  split
  · split
    · exact h.N
    · exact h.N
  · exact h.N
theorem yOK.Ha {b : Nat → Nat} {len : Nat} {y : Nat → Nat} {d : rT} (h : yOK len y d) : yOK len (rdHa b len y d).2.1 (rdHa b len y d).2.2 := by
  unfold rdHa
  split
  · next h3 =>
    split
    · split
      · exact h.N
      · split
        · have h9 := (yOK.R (b := b) (lo := 0) (hi := 9) (h.N (b := b)))
          exact ⟨h9.1, h9.2.1, h9.2.2.1, h9.2.2.2.1, h9.2.2.2.2.1, h9.2.2.2.2.2.1, h3, h9.2.2.2.2.2.2.2.1, h9.2.2.2.2.2.2.2.2.1, ws_lt _ h9.2.2.2.2.2.2.2.2.2 _ h3⟩
        · exact h.N.R
    · exact h.N
  · exact h
theorem yOK.Ki {b : Nat → Nat} {len : Nat} {y : Nat → Nat} {d : rT} (h : yOK len y d) : yOK len (rdKi b len y d).2.1 (rdKi b len y d).2.2 := by
  unfold rdKi
  split
  · next h3 =>
    unfold rdTwo
    split
    · split
      · have h9 := (yOK.R (b := b) (lo := 0) (hi := 99) (h.R (b := b) (lo := 0) (hi := 9)))
        exact ⟨h9.1, h9.2.1, h9.2.2.1, h9.2.2.2.1, h9.2.2.2.2.1, h9.2.2.2.2.2.1, h9.2.2.2.2.2.2.1, h3, h9.2.2.2.2.2.2.2.2⟩
      · exact h.R.R
    · exact h.R
  · exact h
theorem yOK.La {b : Nat → Nat} {len : Nat} {y : Nat → Nat} {d : rT} (h : yOK len y d) : yOK len (rdLa b len y d).2.1 (rdLa b len y d).2.2 := by
  unfold rdLa
  split
  · next h3 =>
    unfold rdTwo
    split
    · split
      · have h9 := (yOK.R (b := b) (lo := 0) (hi := 9) (h.R (b := b) (lo := 1) (hi := 5)))
        exact ⟨h9.1, h9.2.1, h9.2.2.1, h9.2.2.2.1, h9.2.2.2.2.1, h9.2.2.2.2.2.1, h9.2.2.2.2.2.2.1, h9.2.2.2.2.2.2.2.1, h3, h9.2.2.2.2.2.2.2.2.2⟩
      · exact h.R.R
    · exact h.R
  · exact h
theorem yOK.Lo {b : Nat → Nat} {len : Nat} {y : Nat → Nat} {d : rT} (h : yOK len y d) : yOK len (rdOnce b len 5 1 9 4 y d).2.1 (rdOnce b len 5 1 9 4 y d).2.2 := by
  have h8 : yOK len (yset y 5 1) d := ⟨h.1, h.2.1, h.2.2.1, h.2.2.2.1, Nat.le_refl _, h.2.2.2.2.2⟩
  unfold rdOnce
  split
  · split
    · exact h8.R
    · exact h8.R
  · exact h
theorem yOK.Pr {b : Nat → Nat} {len : Nat} {y : Nat → Nat} {d : rT} (h : yOK len y d) : yOK len (rdOnce b len 6 0 99 5 y d).2.1 (rdOnce b len 6 0 99 5 y d).2.2 := by
  have h8 : yOK len (yset y 6 1) d := ⟨h.1, h.2.1, h.2.2.1, h.2.2.2.1, h.2.2.2.2.1, Nat.le_refl _, h.2.2.2.2.2.2⟩
  unfold rdOnce
  split
  · split
    · exact h8.R
    · exact h8.R
  · exact h
theorem yOK.Br {b : Nat → Nat} {len : Nat} {y : Nat → Nat} {d : rT} (h : yOK len y d) : yOK len (rdBr b len y d).2.1 (rdBr b len y d).2.2 := by
  unfold rdBr
  split
  · next h1 =>
    split
    · exact h.R
    · have h9 := (yOK.R (b := b) (lo := 0) (hi := 2) h)
      have h8 := rdN_3 h1
      exact ⟨h9.1, h9.2.1, h9.2.2.1, ws_lt _ h9.2.2.2.1 _ (by omega), h9.2.2.2.2⟩
  · exact h.R
theorem yOK_fin {b : Nat → Nat} {len : Nat} {p : Bool × pT} (h : yOK len p.2.1 p.2.2) : yOK len (fin b len p).2.1 (fin b len p).2.2 := by
  unfold fin
  split
  · exact h.S
  · exact h
theorem yOK.Li {b : Nat → Nat} {len : Nat} {y : Nat → Nat} {d : rT} (h : yOK len y d) : yOK len (rdLi b len y d).2.1 (rdLi b len y d).2.2 := by
  unfold rdLi
  repeat' split
  · exact yOK_fin h.Ha
  · exact yOK_fin h.Ki
  · exact yOK_fin h.La
  · exact yOK_fin h.Lo
  · exact yOK_fin h.Pr
  · exact yOK_fin h.Br
  · exact h
set_option maxRecDepth 100000 in
set_option maxHeartbeats 4000000 in
theorem mX1_readLine (b : Nat → Nat) (len : Nat) (d : rT) (hb : ∀ j, b j < 128) (hl : len ≤ 160) (y : Nat → Nat) (hy : yOK len y d) : J KX1_readLine 10 (fun o B => o = some (.int (jB ((rdLi b len y d).1 = true))) ∧ B = wX b len (rdLi b len y d).2.2 (rdLi b len y d).2.1) 0 [some (.ref 0)] [] (wX b len d y) 0 0 := by
  refine J.aload_n dX1_readLine_0 rfl rfl ?_
  refine J.ldcS (j := 0) dX1_readLine_1 rfl (by decide) rfl ?_
  refine J.cv (as := [.ref (1000 + 0)]) (is := [0, 1, 2, 3, 4, 5, 6, 7, 8, 9]) (o := 0) okX1_spells jcX1_73 (mX1_spells b len d hb hl y 0 (by decide) ⟨hy.1, hy.2.1⟩ (by have := hy.2.2.1; omega)) dX1_readLine_3 rfl rfl rfl rfl rfl rfl rfl (fun r9 B9 hq => ?_)
  obtain ⟨rfl, rfl⟩ := hq
  refine ⟨rfl, ?_⟩
  show J _ _ _ _ _ (.int _ :: _) (wX b len d y) _ _
  refine J.if_eq (tgt := 29) dX1_readLine_6 (by decide) (fun c6 => ?_) (fun c6 => ?_)
  · refine J.aload_n dX1_readLine_29 rfl rfl ?_
    refine J.ldcS (j := 6) dX1_readLine_30 rfl (by decide) rfl ?_
    refine J.cv (as := [.ref (1000 + 6)]) (is := [0, 1, 2, 3, 4, 5, 6, 7, 8, 9]) (o := 0) okX1_spells jcX1_73 (mX1_spells b len d hb hl y 6 (by decide) ⟨hy.1, hy.2.1⟩ (by have := hy.2.2.1; omega)) dX1_readLine_32 rfl rfl rfl rfl rfl rfl rfl (fun r9 B9 hq => ?_)
    obtain ⟨rfl, rfl⟩ := hq
    refine ⟨rfl, ?_⟩
    show J _ _ _ _ _ (.int _ :: _) (wX b len d y) _ _
    refine J.if_eq (tgt := 58) dX1_readLine_35 (by decide) (fun c35 => ?_) (fun c35 => ?_)
    · refine J.aload_n dX1_readLine_58 rfl rfl ?_
      refine J.ldcS (j := 7) dX1_readLine_59 rfl (by decide) rfl ?_
      refine J.cv (as := [.ref (1000 + 7)]) (is := [0, 1, 2, 3, 4, 5, 6, 7, 8, 9]) (o := 0) okX1_spells jcX1_73 (mX1_spells b len d hb hl y 7 (by decide) ⟨hy.1, hy.2.1⟩ (by have := hy.2.2.1; omega)) dX1_readLine_61 rfl rfl rfl rfl rfl rfl rfl (fun r9 B9 hq => ?_)
      obtain ⟨rfl, rfl⟩ := hq
      refine ⟨rfl, ?_⟩
      show J _ _ _ _ _ (.int _ :: _) (wX b len d y) _ _
      refine J.if_eq (tgt := 87) dX1_readLine_64 (by decide) (fun c64 => ?_) (fun c64 => ?_)
      · refine J.aload_n dX1_readLine_87 rfl rfl ?_
        refine J.ldcS (j := 8) dX1_readLine_88 rfl (by decide) rfl ?_
        refine J.cv (as := [.ref (1000 + 8)]) (is := [0, 1, 2, 3, 4, 5, 6, 7, 8, 9]) (o := 0) okX1_spells jcX1_73 (mX1_spells b len d hb hl y 8 (by decide) ⟨hy.1, hy.2.1⟩ (by have := hy.2.2.1; omega)) dX1_readLine_90 rfl rfl rfl rfl rfl rfl rfl (fun r9 B9 hq => ?_)
        obtain ⟨rfl, rfl⟩ := hq
        refine ⟨rfl, ?_⟩
        show J _ _ _ _ _ (.int _ :: _) (wX b len d y) _ _
        refine J.if_eq (tgt := 116) dX1_readLine_93 (by decide) (fun c93 => ?_) (fun c93 => ?_)
        · refine J.aload_n dX1_readLine_116 rfl rfl ?_
          refine J.ldcS (j := 9) dX1_readLine_117 rfl (by decide) rfl ?_
          refine J.cv (as := [.ref (1000 + 9)]) (is := [0, 1, 2, 3, 4, 5, 6, 7, 8, 9]) (o := 0) okX1_spells jcX1_73 (mX1_spells b len d hb hl y 9 (by decide) ⟨hy.1, hy.2.1⟩ (by have := hy.2.2.1; omega)) dX1_readLine_119 rfl rfl rfl rfl rfl rfl rfl (fun r9 B9 hq => ?_)
          obtain ⟨rfl, rfl⟩ := hq
          refine ⟨rfl, ?_⟩
          show J _ _ _ _ _ (.int _ :: _) (wX b len d y) _ _
          refine J.if_eq (tgt := 145) dX1_readLine_122 (by decide) (fun c122 => ?_) (fun c122 => ?_)
          · refine J.aload_n dX1_readLine_145 rfl rfl ?_
            refine J.ldcS (j := 10) dX1_readLine_146 rfl (by decide) rfl ?_
            refine J.cv (as := [.ref (1000 + 10)]) (is := [0, 1, 2, 3, 4, 5, 6, 7, 8, 9]) (o := 0) okX1_spells jcX1_73 (mX1_spells b len d hb hl y 10 (by decide) ⟨hy.1, hy.2.1⟩ (by have := hy.2.2.1; omega)) dX1_readLine_148 rfl rfl rfl rfl rfl rfl rfl (fun r9 B9 hq => ?_)
            obtain ⟨rfl, rfl⟩ := hq
            refine ⟨rfl, ?_⟩
            show J _ _ _ _ _ (.int _ :: _) (wX b len d y) _ _
            refine J.if_eq (tgt := 174) dX1_readLine_151 (by decide) (fun c151 => ?_) (fun c151 => ?_)
            · refine J.aload_n dX1_readLine_174 rfl rfl ?_
              refine J.iconst (2) dX1_readLine_175 (by decide) ?_
              refine J.aload_n dX1_readLine_176 rfl rfl ?_
              refine J.getfield dX1_readLine_177 jFX1_107 rfl rfl ?_
              refine J.cv (as := [.int (nI 2), .int _]) (is := [0, 1, 2, 3, 4, 5, 6, 7, 8, 9]) (o := 0) okX1_fail jcX1_61 (mX1_fail b len d y 2 (y 1)) dX1_readLine_180 rfl rfl rfl rfl rfl rfl rfl (fun r9 B9 hq => ?_)
              obtain ⟨rfl, rfl⟩ := hq
              refine ⟨rfl, ?_⟩
              show J _ _ _ _ _ (.int 0 :: _) (wX b len d (yF y 2 (y 1))) _ _
              have e9 : rdLi b len y d = (false, (yF y 2 (y 1), d)) := (by (unfold rdLi; rw [if_neg ((jB_0 _).mp c6), if_neg ((jB_0 _).mp c35), if_neg ((jB_0 _).mp c64), if_neg ((jB_0 _).mp c93), if_neg ((jB_0 _).mp c122), if_neg ((jB_0 _).mp c151)]))
              exact J.iret dX1_readLine_183 rfl (by decide) (Nat.le_refl _) (Nat.le_refl _) ⟨by rw [e9] <;> rfl, by rw [e9] <;> rfl⟩
            · refine J.aload_n dX1_readLine_154 rfl rfl ?_
              refine J.cv (as := []) (is := [0, 1, 2, 3, 4, 5, 6, 7, 8, 9]) (o := 0) okX1_readBroken jcX1_104 (mX1_readBroken b len d hb hl y hy.2.1 hy.2.2.2.1) dX1_readLine_155 rfl rfl rfl rfl rfl rfl rfl (fun r9 B9 hq => ?_)
              obtain ⟨rfl, rfl⟩ := hq
              refine ⟨rfl, ?_⟩
              show J _ _ _ _ _ (.int _ :: _) (wX b len (rdBr b len y d).2.2 (rdBr b len y d).2.1) _ _
              refine J.if_eq (tgt := 172) dX1_readLine_158 (by decide) (fun c158 => ?_) (fun c158 => ?_)
              · refine J.iconst (0) dX1_readLine_172 (by decide) ?_
                first | (have e9 : rdLi b len y d = (true, ((rdS b len (rdBr b len y d).2.1).2, (rdBr b len y d).2.2)) := (by (unfold rdLi; rw [if_neg ((jB_0 _).mp c6), if_neg ((jB_0 _).mp c35), if_neg ((jB_0 _).mp c64), if_neg ((jB_0 _).mp c93), if_neg ((jB_0 _).mp c122), if_pos (Decidable.not_not.mp (fun h => c151 ((jB_0 _).mpr h)))]; unfold fin; rw [if_pos (Decidable.not_not.mp (fun h => c158 ((jB_0 _).mpr h))), show (rdS b len (rdBr b len y d).2.1).1 = true from (Decidable.not_not.mp (fun h => c165 ((jB_0 _).mpr h)))])); exact J.iret dX1_readLine_173 rfl (by decide) (Nat.le_refl _) (Nat.le_refl _) ⟨by rw [e9] <;> rfl, by rw [e9] <;> rfl⟩) | (have e9 : rdLi b len y d = (false, ((rdS b len (rdBr b len y d).2.1).2, (rdBr b len y d).2.2)) := (by (unfold rdLi; rw [if_neg ((jB_0 _).mp c6), if_neg ((jB_0 _).mp c35), if_neg ((jB_0 _).mp c64), if_neg ((jB_0 _).mp c93), if_neg ((jB_0 _).mp c122), if_pos (Decidable.not_not.mp (fun h => c151 ((jB_0 _).mpr h)))]; unfold fin; rw [if_pos (Decidable.not_not.mp (fun h => c158 ((jB_0 _).mpr h))), show (rdS b len (rdBr b len y d).2.1).1 = false from Bool.eq_false_iff.mpr ((jB_0 _).mp c165)])); exact J.iret dX1_readLine_173 rfl (by decide) (Nat.le_refl _) (Nat.le_refl _) ⟨by rw [e9] <;> rfl, by rw [e9] <;> rfl⟩) | (have e9 : rdLi b len y d = (false, (rdBr b len y d).2) := (by (unfold rdLi; rw [if_neg ((jB_0 _).mp c6), if_neg ((jB_0 _).mp c35), if_neg ((jB_0 _).mp c64), if_neg ((jB_0 _).mp c93), if_neg ((jB_0 _).mp c122), if_pos (Decidable.not_not.mp (fun h => c151 ((jB_0 _).mpr h)))]; unfold fin; rw [if_neg ((jB_0 _).mp c158)])); exact J.iret dX1_readLine_173 rfl (by decide) (Nat.le_refl _) (Nat.le_refl _) ⟨by rw [e9] <;> rfl, by rw [e9] <;> rfl⟩)
              · refine J.aload_n dX1_readLine_161 rfl rfl ?_
                refine J.cv (as := []) (is := [0, 1, 2, 3, 4, 5, 6, 7, 8, 9]) (o := 0) okX1_readStop jcX1_80 (mX1_readStop b len (rdBr b len y d).2.2 hb hl (rdBr b len y d).2.1 (yOK.Br hy).2.1) dX1_readLine_162 rfl rfl rfl rfl rfl rfl rfl (fun r9 B9 hq => ?_)
                obtain ⟨rfl, rfl⟩ := hq
                refine ⟨rfl, ?_⟩
                show J _ _ _ _ _ (.int _ :: _) (wX b len (rdBr b len y d).2.2 (rdS b len (rdBr b len y d).2.1).2) _ _
                refine J.if_eq (tgt := 172) dX1_readLine_165 (by decide) (fun c165 => ?_) (fun c165 => ?_)
                · refine J.iconst (0) dX1_readLine_172 (by decide) ?_
                  first | (have e9 : rdLi b len y d = (true, ((rdS b len (rdBr b len y d).2.1).2, (rdBr b len y d).2.2)) := (by (unfold rdLi; rw [if_neg ((jB_0 _).mp c6), if_neg ((jB_0 _).mp c35), if_neg ((jB_0 _).mp c64), if_neg ((jB_0 _).mp c93), if_neg ((jB_0 _).mp c122), if_pos (Decidable.not_not.mp (fun h => c151 ((jB_0 _).mpr h)))]; unfold fin; rw [if_pos (Decidable.not_not.mp (fun h => c158 ((jB_0 _).mpr h))), show (rdS b len (rdBr b len y d).2.1).1 = true from (Decidable.not_not.mp (fun h => c165 ((jB_0 _).mpr h)))])); exact J.iret dX1_readLine_173 rfl (by decide) (Nat.le_refl _) (Nat.le_refl _) ⟨by rw [e9] <;> rfl, by rw [e9] <;> rfl⟩) | (have e9 : rdLi b len y d = (false, ((rdS b len (rdBr b len y d).2.1).2, (rdBr b len y d).2.2)) := (by (unfold rdLi; rw [if_neg ((jB_0 _).mp c6), if_neg ((jB_0 _).mp c35), if_neg ((jB_0 _).mp c64), if_neg ((jB_0 _).mp c93), if_neg ((jB_0 _).mp c122), if_pos (Decidable.not_not.mp (fun h => c151 ((jB_0 _).mpr h)))]; unfold fin; rw [if_pos (Decidable.not_not.mp (fun h => c158 ((jB_0 _).mpr h))), show (rdS b len (rdBr b len y d).2.1).1 = false from Bool.eq_false_iff.mpr ((jB_0 _).mp c165)])); exact J.iret dX1_readLine_173 rfl (by decide) (Nat.le_refl _) (Nat.le_refl _) ⟨by rw [e9] <;> rfl, by rw [e9] <;> rfl⟩) | (have e9 : rdLi b len y d = (false, (rdBr b len y d).2) := (by (unfold rdLi; rw [if_neg ((jB_0 _).mp c6), if_neg ((jB_0 _).mp c35), if_neg ((jB_0 _).mp c64), if_neg ((jB_0 _).mp c93), if_neg ((jB_0 _).mp c122), if_pos (Decidable.not_not.mp (fun h => c151 ((jB_0 _).mpr h)))]; unfold fin; rw [if_neg ((jB_0 _).mp c158)])); exact J.iret dX1_readLine_173 rfl (by decide) (Nat.le_refl _) (Nat.le_refl _) ⟨by rw [e9] <;> rfl, by rw [e9] <;> rfl⟩)
                · refine J.iconst (1) dX1_readLine_168 (by decide) ?_
                  refine J.goto (tgt := 173) dX1_readLine_169 (by decide) ?_
                  first | (have e9 : rdLi b len y d = (true, ((rdS b len (rdBr b len y d).2.1).2, (rdBr b len y d).2.2)) := (by (unfold rdLi; rw [if_neg ((jB_0 _).mp c6), if_neg ((jB_0 _).mp c35), if_neg ((jB_0 _).mp c64), if_neg ((jB_0 _).mp c93), if_neg ((jB_0 _).mp c122), if_pos (Decidable.not_not.mp (fun h => c151 ((jB_0 _).mpr h)))]; unfold fin; rw [if_pos (Decidable.not_not.mp (fun h => c158 ((jB_0 _).mpr h))), show (rdS b len (rdBr b len y d).2.1).1 = true from (Decidable.not_not.mp (fun h => c165 ((jB_0 _).mpr h)))])); exact J.iret dX1_readLine_173 rfl (by decide) (Nat.le_refl _) (Nat.le_refl _) ⟨by rw [e9] <;> rfl, by rw [e9] <;> rfl⟩) | (have e9 : rdLi b len y d = (false, ((rdS b len (rdBr b len y d).2.1).2, (rdBr b len y d).2.2)) := (by (unfold rdLi; rw [if_neg ((jB_0 _).mp c6), if_neg ((jB_0 _).mp c35), if_neg ((jB_0 _).mp c64), if_neg ((jB_0 _).mp c93), if_neg ((jB_0 _).mp c122), if_pos (Decidable.not_not.mp (fun h => c151 ((jB_0 _).mpr h)))]; unfold fin; rw [if_pos (Decidable.not_not.mp (fun h => c158 ((jB_0 _).mpr h))), show (rdS b len (rdBr b len y d).2.1).1 = false from Bool.eq_false_iff.mpr ((jB_0 _).mp c165)])); exact J.iret dX1_readLine_173 rfl (by decide) (Nat.le_refl _) (Nat.le_refl _) ⟨by rw [e9] <;> rfl, by rw [e9] <;> rfl⟩) | (have e9 : rdLi b len y d = (false, (rdBr b len y d).2) := (by (unfold rdLi; rw [if_neg ((jB_0 _).mp c6), if_neg ((jB_0 _).mp c35), if_neg ((jB_0 _).mp c64), if_neg ((jB_0 _).mp c93), if_neg ((jB_0 _).mp c122), if_pos (Decidable.not_not.mp (fun h => c151 ((jB_0 _).mpr h)))]; unfold fin; rw [if_neg ((jB_0 _).mp c158)])); exact J.iret dX1_readLine_173 rfl (by decide) (Nat.le_refl _) (Nat.le_refl _) ⟨by rw [e9] <;> rfl, by rw [e9] <;> rfl⟩)
          · refine J.aload_n dX1_readLine_125 rfl rfl ?_
            refine J.cv (as := []) (is := [0, 1, 2, 3, 4, 5, 6, 7, 8, 9]) (o := 0) okX1_readPrize jcX1_100 (mX1_readPrize b len d hb hl y hy.2.1 (by have := hy.2.2.2.2.2.1; omega)) dX1_readLine_126 rfl rfl rfl rfl rfl rfl rfl (fun r9 B9 hq => ?_)
            obtain ⟨rfl, rfl⟩ := hq
            refine ⟨rfl, ?_⟩
            show J _ _ _ _ _ (.int _ :: _) (wX b len (rdOnce b len 6 0 99 5 y d).2.2 (rdOnce b len 6 0 99 5 y d).2.1) _ _
            refine J.if_eq (tgt := 143) dX1_readLine_129 (by decide) (fun c129 => ?_) (fun c129 => ?_)
            · refine J.iconst (0) dX1_readLine_143 (by decide) ?_
              first | (have e9 : rdLi b len y d = (true, ((rdS b len (rdOnce b len 6 0 99 5 y d).2.1).2, (rdOnce b len 6 0 99 5 y d).2.2)) := (by (unfold rdLi; rw [if_neg ((jB_0 _).mp c6), if_neg ((jB_0 _).mp c35), if_neg ((jB_0 _).mp c64), if_neg ((jB_0 _).mp c93), if_pos (Decidable.not_not.mp (fun h => c122 ((jB_0 _).mpr h)))]; unfold fin; rw [if_pos (Decidable.not_not.mp (fun h => c129 ((jB_0 _).mpr h))), show (rdS b len (rdOnce b len 6 0 99 5 y d).2.1).1 = true from (Decidable.not_not.mp (fun h => c136 ((jB_0 _).mpr h)))])); exact J.iret dX1_readLine_144 rfl (by decide) (Nat.le_refl _) (Nat.le_refl _) ⟨by rw [e9] <;> rfl, by rw [e9] <;> rfl⟩) | (have e9 : rdLi b len y d = (false, ((rdS b len (rdOnce b len 6 0 99 5 y d).2.1).2, (rdOnce b len 6 0 99 5 y d).2.2)) := (by (unfold rdLi; rw [if_neg ((jB_0 _).mp c6), if_neg ((jB_0 _).mp c35), if_neg ((jB_0 _).mp c64), if_neg ((jB_0 _).mp c93), if_pos (Decidable.not_not.mp (fun h => c122 ((jB_0 _).mpr h)))]; unfold fin; rw [if_pos (Decidable.not_not.mp (fun h => c129 ((jB_0 _).mpr h))), show (rdS b len (rdOnce b len 6 0 99 5 y d).2.1).1 = false from Bool.eq_false_iff.mpr ((jB_0 _).mp c136)])); exact J.iret dX1_readLine_144 rfl (by decide) (Nat.le_refl _) (Nat.le_refl _) ⟨by rw [e9] <;> rfl, by rw [e9] <;> rfl⟩) | (have e9 : rdLi b len y d = (false, (rdOnce b len 6 0 99 5 y d).2) := (by (unfold rdLi; rw [if_neg ((jB_0 _).mp c6), if_neg ((jB_0 _).mp c35), if_neg ((jB_0 _).mp c64), if_neg ((jB_0 _).mp c93), if_pos (Decidable.not_not.mp (fun h => c122 ((jB_0 _).mpr h)))]; unfold fin; rw [if_neg ((jB_0 _).mp c129)])); exact J.iret dX1_readLine_144 rfl (by decide) (Nat.le_refl _) (Nat.le_refl _) ⟨by rw [e9] <;> rfl, by rw [e9] <;> rfl⟩)
            · refine J.aload_n dX1_readLine_132 rfl rfl ?_
              refine J.cv (as := []) (is := [0, 1, 2, 3, 4, 5, 6, 7, 8, 9]) (o := 0) okX1_readStop jcX1_80 (mX1_readStop b len (rdOnce b len 6 0 99 5 y d).2.2 hb hl (rdOnce b len 6 0 99 5 y d).2.1 (yOK.Pr hy).2.1) dX1_readLine_133 rfl rfl rfl rfl rfl rfl rfl (fun r9 B9 hq => ?_)
              obtain ⟨rfl, rfl⟩ := hq
              refine ⟨rfl, ?_⟩
              show J _ _ _ _ _ (.int _ :: _) (wX b len (rdOnce b len 6 0 99 5 y d).2.2 (rdS b len (rdOnce b len 6 0 99 5 y d).2.1).2) _ _
              refine J.if_eq (tgt := 143) dX1_readLine_136 (by decide) (fun c136 => ?_) (fun c136 => ?_)
              · refine J.iconst (0) dX1_readLine_143 (by decide) ?_
                first | (have e9 : rdLi b len y d = (true, ((rdS b len (rdOnce b len 6 0 99 5 y d).2.1).2, (rdOnce b len 6 0 99 5 y d).2.2)) := (by (unfold rdLi; rw [if_neg ((jB_0 _).mp c6), if_neg ((jB_0 _).mp c35), if_neg ((jB_0 _).mp c64), if_neg ((jB_0 _).mp c93), if_pos (Decidable.not_not.mp (fun h => c122 ((jB_0 _).mpr h)))]; unfold fin; rw [if_pos (Decidable.not_not.mp (fun h => c129 ((jB_0 _).mpr h))), show (rdS b len (rdOnce b len 6 0 99 5 y d).2.1).1 = true from (Decidable.not_not.mp (fun h => c136 ((jB_0 _).mpr h)))])); exact J.iret dX1_readLine_144 rfl (by decide) (Nat.le_refl _) (Nat.le_refl _) ⟨by rw [e9] <;> rfl, by rw [e9] <;> rfl⟩) | (have e9 : rdLi b len y d = (false, ((rdS b len (rdOnce b len 6 0 99 5 y d).2.1).2, (rdOnce b len 6 0 99 5 y d).2.2)) := (by (unfold rdLi; rw [if_neg ((jB_0 _).mp c6), if_neg ((jB_0 _).mp c35), if_neg ((jB_0 _).mp c64), if_neg ((jB_0 _).mp c93), if_pos (Decidable.not_not.mp (fun h => c122 ((jB_0 _).mpr h)))]; unfold fin; rw [if_pos (Decidable.not_not.mp (fun h => c129 ((jB_0 _).mpr h))), show (rdS b len (rdOnce b len 6 0 99 5 y d).2.1).1 = false from Bool.eq_false_iff.mpr ((jB_0 _).mp c136)])); exact J.iret dX1_readLine_144 rfl (by decide) (Nat.le_refl _) (Nat.le_refl _) ⟨by rw [e9] <;> rfl, by rw [e9] <;> rfl⟩) | (have e9 : rdLi b len y d = (false, (rdOnce b len 6 0 99 5 y d).2) := (by (unfold rdLi; rw [if_neg ((jB_0 _).mp c6), if_neg ((jB_0 _).mp c35), if_neg ((jB_0 _).mp c64), if_neg ((jB_0 _).mp c93), if_pos (Decidable.not_not.mp (fun h => c122 ((jB_0 _).mpr h)))]; unfold fin; rw [if_neg ((jB_0 _).mp c129)])); exact J.iret dX1_readLine_144 rfl (by decide) (Nat.le_refl _) (Nat.le_refl _) ⟨by rw [e9] <;> rfl, by rw [e9] <;> rfl⟩)
              · refine J.iconst (1) dX1_readLine_139 (by decide) ?_
                refine J.goto (tgt := 144) dX1_readLine_140 (by decide) ?_
                first | (have e9 : rdLi b len y d = (true, ((rdS b len (rdOnce b len 6 0 99 5 y d).2.1).2, (rdOnce b len 6 0 99 5 y d).2.2)) := (by (unfold rdLi; rw [if_neg ((jB_0 _).mp c6), if_neg ((jB_0 _).mp c35), if_neg ((jB_0 _).mp c64), if_neg ((jB_0 _).mp c93), if_pos (Decidable.not_not.mp (fun h => c122 ((jB_0 _).mpr h)))]; unfold fin; rw [if_pos (Decidable.not_not.mp (fun h => c129 ((jB_0 _).mpr h))), show (rdS b len (rdOnce b len 6 0 99 5 y d).2.1).1 = true from (Decidable.not_not.mp (fun h => c136 ((jB_0 _).mpr h)))])); exact J.iret dX1_readLine_144 rfl (by decide) (Nat.le_refl _) (Nat.le_refl _) ⟨by rw [e9] <;> rfl, by rw [e9] <;> rfl⟩) | (have e9 : rdLi b len y d = (false, ((rdS b len (rdOnce b len 6 0 99 5 y d).2.1).2, (rdOnce b len 6 0 99 5 y d).2.2)) := (by (unfold rdLi; rw [if_neg ((jB_0 _).mp c6), if_neg ((jB_0 _).mp c35), if_neg ((jB_0 _).mp c64), if_neg ((jB_0 _).mp c93), if_pos (Decidable.not_not.mp (fun h => c122 ((jB_0 _).mpr h)))]; unfold fin; rw [if_pos (Decidable.not_not.mp (fun h => c129 ((jB_0 _).mpr h))), show (rdS b len (rdOnce b len 6 0 99 5 y d).2.1).1 = false from Bool.eq_false_iff.mpr ((jB_0 _).mp c136)])); exact J.iret dX1_readLine_144 rfl (by decide) (Nat.le_refl _) (Nat.le_refl _) ⟨by rw [e9] <;> rfl, by rw [e9] <;> rfl⟩) | (have e9 : rdLi b len y d = (false, (rdOnce b len 6 0 99 5 y d).2) := (by (unfold rdLi; rw [if_neg ((jB_0 _).mp c6), if_neg ((jB_0 _).mp c35), if_neg ((jB_0 _).mp c64), if_neg ((jB_0 _).mp c93), if_pos (Decidable.not_not.mp (fun h => c122 ((jB_0 _).mpr h)))]; unfold fin; rw [if_neg ((jB_0 _).mp c129)])); exact J.iret dX1_readLine_144 rfl (by decide) (Nat.le_refl _) (Nat.le_refl _) ⟨by rw [e9] <;> rfl, by rw [e9] <;> rfl⟩)
        · refine J.aload_n dX1_readLine_96 rfl rfl ?_
          refine J.cv (as := []) (is := [0, 1, 2, 3, 4, 5, 6, 7, 8, 9]) (o := 0) okX1_readLoad jcX1_95 (mX1_readLoad b len d hb hl y hy.2.1 (by have := hy.2.2.2.2.1; omega)) dX1_readLine_97 rfl rfl rfl rfl rfl rfl rfl (fun r9 B9 hq => ?_)
          obtain ⟨rfl, rfl⟩ := hq
          refine ⟨rfl, ?_⟩
          show J _ _ _ _ _ (.int _ :: _) (wX b len (rdOnce b len 5 1 9 4 y d).2.2 (rdOnce b len 5 1 9 4 y d).2.1) _ _
          refine J.if_eq (tgt := 114) dX1_readLine_100 (by decide) (fun c100 => ?_) (fun c100 => ?_)
          · refine J.iconst (0) dX1_readLine_114 (by decide) ?_
            first | (have e9 : rdLi b len y d = (true, ((rdS b len (rdOnce b len 5 1 9 4 y d).2.1).2, (rdOnce b len 5 1 9 4 y d).2.2)) := (by (unfold rdLi; rw [if_neg ((jB_0 _).mp c6), if_neg ((jB_0 _).mp c35), if_neg ((jB_0 _).mp c64), if_pos (Decidable.not_not.mp (fun h => c93 ((jB_0 _).mpr h)))]; unfold fin; rw [if_pos (Decidable.not_not.mp (fun h => c100 ((jB_0 _).mpr h))), show (rdS b len (rdOnce b len 5 1 9 4 y d).2.1).1 = true from (Decidable.not_not.mp (fun h => c107 ((jB_0 _).mpr h)))])); exact J.iret dX1_readLine_115 rfl (by decide) (Nat.le_refl _) (Nat.le_refl _) ⟨by rw [e9] <;> rfl, by rw [e9] <;> rfl⟩) | (have e9 : rdLi b len y d = (false, ((rdS b len (rdOnce b len 5 1 9 4 y d).2.1).2, (rdOnce b len 5 1 9 4 y d).2.2)) := (by (unfold rdLi; rw [if_neg ((jB_0 _).mp c6), if_neg ((jB_0 _).mp c35), if_neg ((jB_0 _).mp c64), if_pos (Decidable.not_not.mp (fun h => c93 ((jB_0 _).mpr h)))]; unfold fin; rw [if_pos (Decidable.not_not.mp (fun h => c100 ((jB_0 _).mpr h))), show (rdS b len (rdOnce b len 5 1 9 4 y d).2.1).1 = false from Bool.eq_false_iff.mpr ((jB_0 _).mp c107)])); exact J.iret dX1_readLine_115 rfl (by decide) (Nat.le_refl _) (Nat.le_refl _) ⟨by rw [e9] <;> rfl, by rw [e9] <;> rfl⟩) | (have e9 : rdLi b len y d = (false, (rdOnce b len 5 1 9 4 y d).2) := (by (unfold rdLi; rw [if_neg ((jB_0 _).mp c6), if_neg ((jB_0 _).mp c35), if_neg ((jB_0 _).mp c64), if_pos (Decidable.not_not.mp (fun h => c93 ((jB_0 _).mpr h)))]; unfold fin; rw [if_neg ((jB_0 _).mp c100)])); exact J.iret dX1_readLine_115 rfl (by decide) (Nat.le_refl _) (Nat.le_refl _) ⟨by rw [e9] <;> rfl, by rw [e9] <;> rfl⟩)
          · refine J.aload_n dX1_readLine_103 rfl rfl ?_
            refine J.cv (as := []) (is := [0, 1, 2, 3, 4, 5, 6, 7, 8, 9]) (o := 0) okX1_readStop jcX1_80 (mX1_readStop b len (rdOnce b len 5 1 9 4 y d).2.2 hb hl (rdOnce b len 5 1 9 4 y d).2.1 (yOK.Lo hy).2.1) dX1_readLine_104 rfl rfl rfl rfl rfl rfl rfl (fun r9 B9 hq => ?_)
            obtain ⟨rfl, rfl⟩ := hq
            refine ⟨rfl, ?_⟩
            show J _ _ _ _ _ (.int _ :: _) (wX b len (rdOnce b len 5 1 9 4 y d).2.2 (rdS b len (rdOnce b len 5 1 9 4 y d).2.1).2) _ _
            refine J.if_eq (tgt := 114) dX1_readLine_107 (by decide) (fun c107 => ?_) (fun c107 => ?_)
            · refine J.iconst (0) dX1_readLine_114 (by decide) ?_
              first | (have e9 : rdLi b len y d = (true, ((rdS b len (rdOnce b len 5 1 9 4 y d).2.1).2, (rdOnce b len 5 1 9 4 y d).2.2)) := (by (unfold rdLi; rw [if_neg ((jB_0 _).mp c6), if_neg ((jB_0 _).mp c35), if_neg ((jB_0 _).mp c64), if_pos (Decidable.not_not.mp (fun h => c93 ((jB_0 _).mpr h)))]; unfold fin; rw [if_pos (Decidable.not_not.mp (fun h => c100 ((jB_0 _).mpr h))), show (rdS b len (rdOnce b len 5 1 9 4 y d).2.1).1 = true from (Decidable.not_not.mp (fun h => c107 ((jB_0 _).mpr h)))])); exact J.iret dX1_readLine_115 rfl (by decide) (Nat.le_refl _) (Nat.le_refl _) ⟨by rw [e9] <;> rfl, by rw [e9] <;> rfl⟩) | (have e9 : rdLi b len y d = (false, ((rdS b len (rdOnce b len 5 1 9 4 y d).2.1).2, (rdOnce b len 5 1 9 4 y d).2.2)) := (by (unfold rdLi; rw [if_neg ((jB_0 _).mp c6), if_neg ((jB_0 _).mp c35), if_neg ((jB_0 _).mp c64), if_pos (Decidable.not_not.mp (fun h => c93 ((jB_0 _).mpr h)))]; unfold fin; rw [if_pos (Decidable.not_not.mp (fun h => c100 ((jB_0 _).mpr h))), show (rdS b len (rdOnce b len 5 1 9 4 y d).2.1).1 = false from Bool.eq_false_iff.mpr ((jB_0 _).mp c107)])); exact J.iret dX1_readLine_115 rfl (by decide) (Nat.le_refl _) (Nat.le_refl _) ⟨by rw [e9] <;> rfl, by rw [e9] <;> rfl⟩) | (have e9 : rdLi b len y d = (false, (rdOnce b len 5 1 9 4 y d).2) := (by (unfold rdLi; rw [if_neg ((jB_0 _).mp c6), if_neg ((jB_0 _).mp c35), if_neg ((jB_0 _).mp c64), if_pos (Decidable.not_not.mp (fun h => c93 ((jB_0 _).mpr h)))]; unfold fin; rw [if_neg ((jB_0 _).mp c100)])); exact J.iret dX1_readLine_115 rfl (by decide) (Nat.le_refl _) (Nat.le_refl _) ⟨by rw [e9] <;> rfl, by rw [e9] <;> rfl⟩)
            · refine J.iconst (1) dX1_readLine_110 (by decide) ?_
              refine J.goto (tgt := 115) dX1_readLine_111 (by decide) ?_
              first | (have e9 : rdLi b len y d = (true, ((rdS b len (rdOnce b len 5 1 9 4 y d).2.1).2, (rdOnce b len 5 1 9 4 y d).2.2)) := (by (unfold rdLi; rw [if_neg ((jB_0 _).mp c6), if_neg ((jB_0 _).mp c35), if_neg ((jB_0 _).mp c64), if_pos (Decidable.not_not.mp (fun h => c93 ((jB_0 _).mpr h)))]; unfold fin; rw [if_pos (Decidable.not_not.mp (fun h => c100 ((jB_0 _).mpr h))), show (rdS b len (rdOnce b len 5 1 9 4 y d).2.1).1 = true from (Decidable.not_not.mp (fun h => c107 ((jB_0 _).mpr h)))])); exact J.iret dX1_readLine_115 rfl (by decide) (Nat.le_refl _) (Nat.le_refl _) ⟨by rw [e9] <;> rfl, by rw [e9] <;> rfl⟩) | (have e9 : rdLi b len y d = (false, ((rdS b len (rdOnce b len 5 1 9 4 y d).2.1).2, (rdOnce b len 5 1 9 4 y d).2.2)) := (by (unfold rdLi; rw [if_neg ((jB_0 _).mp c6), if_neg ((jB_0 _).mp c35), if_neg ((jB_0 _).mp c64), if_pos (Decidable.not_not.mp (fun h => c93 ((jB_0 _).mpr h)))]; unfold fin; rw [if_pos (Decidable.not_not.mp (fun h => c100 ((jB_0 _).mpr h))), show (rdS b len (rdOnce b len 5 1 9 4 y d).2.1).1 = false from Bool.eq_false_iff.mpr ((jB_0 _).mp c107)])); exact J.iret dX1_readLine_115 rfl (by decide) (Nat.le_refl _) (Nat.le_refl _) ⟨by rw [e9] <;> rfl, by rw [e9] <;> rfl⟩) | (have e9 : rdLi b len y d = (false, (rdOnce b len 5 1 9 4 y d).2) := (by (unfold rdLi; rw [if_neg ((jB_0 _).mp c6), if_neg ((jB_0 _).mp c35), if_neg ((jB_0 _).mp c64), if_pos (Decidable.not_not.mp (fun h => c93 ((jB_0 _).mpr h)))]; unfold fin; rw [if_neg ((jB_0 _).mp c100)])); exact J.iret dX1_readLine_115 rfl (by decide) (Nat.le_refl _) (Nat.le_refl _) ⟨by rw [e9] <;> rfl, by rw [e9] <;> rfl⟩)
      · refine J.aload_n dX1_readLine_67 rfl rfl ?_
        refine J.cv (as := []) (is := [0, 1, 2, 3, 4, 5, 6, 7, 8, 9]) (o := 0) okX1_readLaw jcX1_90 (mX1_readLaw b len d hb hl y hy.2.1 hy.2.2.2.2.2.2.2.2.1) dX1_readLine_68 rfl rfl rfl rfl rfl rfl rfl (fun r9 B9 hq => ?_)
        obtain ⟨rfl, rfl⟩ := hq
        refine ⟨rfl, ?_⟩
        show J _ _ _ _ _ (.int _ :: _) (wX b len (rdLa b len y d).2.2 (rdLa b len y d).2.1) _ _
        refine J.if_eq (tgt := 85) dX1_readLine_71 (by decide) (fun c71 => ?_) (fun c71 => ?_)
        · refine J.iconst (0) dX1_readLine_85 (by decide) ?_
          first | (have e9 : rdLi b len y d = (true, ((rdS b len (rdLa b len y d).2.1).2, (rdLa b len y d).2.2)) := (by (unfold rdLi; rw [if_neg ((jB_0 _).mp c6), if_neg ((jB_0 _).mp c35), if_pos (Decidable.not_not.mp (fun h => c64 ((jB_0 _).mpr h)))]; unfold fin; rw [if_pos (Decidable.not_not.mp (fun h => c71 ((jB_0 _).mpr h))), show (rdS b len (rdLa b len y d).2.1).1 = true from (Decidable.not_not.mp (fun h => c78 ((jB_0 _).mpr h)))])); exact J.iret dX1_readLine_86 rfl (by decide) (Nat.le_refl _) (Nat.le_refl _) ⟨by rw [e9] <;> rfl, by rw [e9] <;> rfl⟩) | (have e9 : rdLi b len y d = (false, ((rdS b len (rdLa b len y d).2.1).2, (rdLa b len y d).2.2)) := (by (unfold rdLi; rw [if_neg ((jB_0 _).mp c6), if_neg ((jB_0 _).mp c35), if_pos (Decidable.not_not.mp (fun h => c64 ((jB_0 _).mpr h)))]; unfold fin; rw [if_pos (Decidable.not_not.mp (fun h => c71 ((jB_0 _).mpr h))), show (rdS b len (rdLa b len y d).2.1).1 = false from Bool.eq_false_iff.mpr ((jB_0 _).mp c78)])); exact J.iret dX1_readLine_86 rfl (by decide) (Nat.le_refl _) (Nat.le_refl _) ⟨by rw [e9] <;> rfl, by rw [e9] <;> rfl⟩) | (have e9 : rdLi b len y d = (false, (rdLa b len y d).2) := (by (unfold rdLi; rw [if_neg ((jB_0 _).mp c6), if_neg ((jB_0 _).mp c35), if_pos (Decidable.not_not.mp (fun h => c64 ((jB_0 _).mpr h)))]; unfold fin; rw [if_neg ((jB_0 _).mp c71)])); exact J.iret dX1_readLine_86 rfl (by decide) (Nat.le_refl _) (Nat.le_refl _) ⟨by rw [e9] <;> rfl, by rw [e9] <;> rfl⟩)
        · refine J.aload_n dX1_readLine_74 rfl rfl ?_
          refine J.cv (as := []) (is := [0, 1, 2, 3, 4, 5, 6, 7, 8, 9]) (o := 0) okX1_readStop jcX1_80 (mX1_readStop b len (rdLa b len y d).2.2 hb hl (rdLa b len y d).2.1 (yOK.La hy).2.1) dX1_readLine_75 rfl rfl rfl rfl rfl rfl rfl (fun r9 B9 hq => ?_)
          obtain ⟨rfl, rfl⟩ := hq
          refine ⟨rfl, ?_⟩
          show J _ _ _ _ _ (.int _ :: _) (wX b len (rdLa b len y d).2.2 (rdS b len (rdLa b len y d).2.1).2) _ _
          refine J.if_eq (tgt := 85) dX1_readLine_78 (by decide) (fun c78 => ?_) (fun c78 => ?_)
          · refine J.iconst (0) dX1_readLine_85 (by decide) ?_
            first | (have e9 : rdLi b len y d = (true, ((rdS b len (rdLa b len y d).2.1).2, (rdLa b len y d).2.2)) := (by (unfold rdLi; rw [if_neg ((jB_0 _).mp c6), if_neg ((jB_0 _).mp c35), if_pos (Decidable.not_not.mp (fun h => c64 ((jB_0 _).mpr h)))]; unfold fin; rw [if_pos (Decidable.not_not.mp (fun h => c71 ((jB_0 _).mpr h))), show (rdS b len (rdLa b len y d).2.1).1 = true from (Decidable.not_not.mp (fun h => c78 ((jB_0 _).mpr h)))])); exact J.iret dX1_readLine_86 rfl (by decide) (Nat.le_refl _) (Nat.le_refl _) ⟨by rw [e9] <;> rfl, by rw [e9] <;> rfl⟩) | (have e9 : rdLi b len y d = (false, ((rdS b len (rdLa b len y d).2.1).2, (rdLa b len y d).2.2)) := (by (unfold rdLi; rw [if_neg ((jB_0 _).mp c6), if_neg ((jB_0 _).mp c35), if_pos (Decidable.not_not.mp (fun h => c64 ((jB_0 _).mpr h)))]; unfold fin; rw [if_pos (Decidable.not_not.mp (fun h => c71 ((jB_0 _).mpr h))), show (rdS b len (rdLa b len y d).2.1).1 = false from Bool.eq_false_iff.mpr ((jB_0 _).mp c78)])); exact J.iret dX1_readLine_86 rfl (by decide) (Nat.le_refl _) (Nat.le_refl _) ⟨by rw [e9] <;> rfl, by rw [e9] <;> rfl⟩) | (have e9 : rdLi b len y d = (false, (rdLa b len y d).2) := (by (unfold rdLi; rw [if_neg ((jB_0 _).mp c6), if_neg ((jB_0 _).mp c35), if_pos (Decidable.not_not.mp (fun h => c64 ((jB_0 _).mpr h)))]; unfold fin; rw [if_neg ((jB_0 _).mp c71)])); exact J.iret dX1_readLine_86 rfl (by decide) (Nat.le_refl _) (Nat.le_refl _) ⟨by rw [e9] <;> rfl, by rw [e9] <;> rfl⟩)
          · refine J.iconst (1) dX1_readLine_81 (by decide) ?_
            refine J.goto (tgt := 86) dX1_readLine_82 (by decide) ?_
            first | (have e9 : rdLi b len y d = (true, ((rdS b len (rdLa b len y d).2.1).2, (rdLa b len y d).2.2)) := (by (unfold rdLi; rw [if_neg ((jB_0 _).mp c6), if_neg ((jB_0 _).mp c35), if_pos (Decidable.not_not.mp (fun h => c64 ((jB_0 _).mpr h)))]; unfold fin; rw [if_pos (Decidable.not_not.mp (fun h => c71 ((jB_0 _).mpr h))), show (rdS b len (rdLa b len y d).2.1).1 = true from (Decidable.not_not.mp (fun h => c78 ((jB_0 _).mpr h)))])); exact J.iret dX1_readLine_86 rfl (by decide) (Nat.le_refl _) (Nat.le_refl _) ⟨by rw [e9] <;> rfl, by rw [e9] <;> rfl⟩) | (have e9 : rdLi b len y d = (false, ((rdS b len (rdLa b len y d).2.1).2, (rdLa b len y d).2.2)) := (by (unfold rdLi; rw [if_neg ((jB_0 _).mp c6), if_neg ((jB_0 _).mp c35), if_pos (Decidable.not_not.mp (fun h => c64 ((jB_0 _).mpr h)))]; unfold fin; rw [if_pos (Decidable.not_not.mp (fun h => c71 ((jB_0 _).mpr h))), show (rdS b len (rdLa b len y d).2.1).1 = false from Bool.eq_false_iff.mpr ((jB_0 _).mp c78)])); exact J.iret dX1_readLine_86 rfl (by decide) (Nat.le_refl _) (Nat.le_refl _) ⟨by rw [e9] <;> rfl, by rw [e9] <;> rfl⟩) | (have e9 : rdLi b len y d = (false, (rdLa b len y d).2) := (by (unfold rdLi; rw [if_neg ((jB_0 _).mp c6), if_neg ((jB_0 _).mp c35), if_pos (Decidable.not_not.mp (fun h => c64 ((jB_0 _).mpr h)))]; unfold fin; rw [if_neg ((jB_0 _).mp c71)])); exact J.iret dX1_readLine_86 rfl (by decide) (Nat.le_refl _) (Nat.le_refl _) ⟨by rw [e9] <;> rfl, by rw [e9] <;> rfl⟩)
    · refine J.aload_n dX1_readLine_38 rfl rfl ?_
      refine J.cv (as := []) (is := [0, 1, 2, 3, 4, 5, 6, 7, 8, 9]) (o := 0) okX1_readKing jcX1_85 (mX1_readKing b len d hb hl y hy.2.1 hy.2.2.2.2.2.2.2.1) dX1_readLine_39 rfl rfl rfl rfl rfl rfl rfl (fun r9 B9 hq => ?_)
      obtain ⟨rfl, rfl⟩ := hq
      refine ⟨rfl, ?_⟩
      show J _ _ _ _ _ (.int _ :: _) (wX b len (rdKi b len y d).2.2 (rdKi b len y d).2.1) _ _
      refine J.if_eq (tgt := 56) dX1_readLine_42 (by decide) (fun c42 => ?_) (fun c42 => ?_)
      · refine J.iconst (0) dX1_readLine_56 (by decide) ?_
        first | (have e9 : rdLi b len y d = (true, ((rdS b len (rdKi b len y d).2.1).2, (rdKi b len y d).2.2)) := (by (unfold rdLi; rw [if_neg ((jB_0 _).mp c6), if_pos (Decidable.not_not.mp (fun h => c35 ((jB_0 _).mpr h)))]; unfold fin; rw [if_pos (Decidable.not_not.mp (fun h => c42 ((jB_0 _).mpr h))), show (rdS b len (rdKi b len y d).2.1).1 = true from (Decidable.not_not.mp (fun h => c49 ((jB_0 _).mpr h)))])); exact J.iret dX1_readLine_57 rfl (by decide) (Nat.le_refl _) (Nat.le_refl _) ⟨by rw [e9] <;> rfl, by rw [e9] <;> rfl⟩) | (have e9 : rdLi b len y d = (false, ((rdS b len (rdKi b len y d).2.1).2, (rdKi b len y d).2.2)) := (by (unfold rdLi; rw [if_neg ((jB_0 _).mp c6), if_pos (Decidable.not_not.mp (fun h => c35 ((jB_0 _).mpr h)))]; unfold fin; rw [if_pos (Decidable.not_not.mp (fun h => c42 ((jB_0 _).mpr h))), show (rdS b len (rdKi b len y d).2.1).1 = false from Bool.eq_false_iff.mpr ((jB_0 _).mp c49)])); exact J.iret dX1_readLine_57 rfl (by decide) (Nat.le_refl _) (Nat.le_refl _) ⟨by rw [e9] <;> rfl, by rw [e9] <;> rfl⟩) | (have e9 : rdLi b len y d = (false, (rdKi b len y d).2) := (by (unfold rdLi; rw [if_neg ((jB_0 _).mp c6), if_pos (Decidable.not_not.mp (fun h => c35 ((jB_0 _).mpr h)))]; unfold fin; rw [if_neg ((jB_0 _).mp c42)])); exact J.iret dX1_readLine_57 rfl (by decide) (Nat.le_refl _) (Nat.le_refl _) ⟨by rw [e9] <;> rfl, by rw [e9] <;> rfl⟩)
      · refine J.aload_n dX1_readLine_45 rfl rfl ?_
        refine J.cv (as := []) (is := [0, 1, 2, 3, 4, 5, 6, 7, 8, 9]) (o := 0) okX1_readStop jcX1_80 (mX1_readStop b len (rdKi b len y d).2.2 hb hl (rdKi b len y d).2.1 (yOK.Ki hy).2.1) dX1_readLine_46 rfl rfl rfl rfl rfl rfl rfl (fun r9 B9 hq => ?_)
        obtain ⟨rfl, rfl⟩ := hq
        refine ⟨rfl, ?_⟩
        show J _ _ _ _ _ (.int _ :: _) (wX b len (rdKi b len y d).2.2 (rdS b len (rdKi b len y d).2.1).2) _ _
        refine J.if_eq (tgt := 56) dX1_readLine_49 (by decide) (fun c49 => ?_) (fun c49 => ?_)
        · refine J.iconst (0) dX1_readLine_56 (by decide) ?_
          first | (have e9 : rdLi b len y d = (true, ((rdS b len (rdKi b len y d).2.1).2, (rdKi b len y d).2.2)) := (by (unfold rdLi; rw [if_neg ((jB_0 _).mp c6), if_pos (Decidable.not_not.mp (fun h => c35 ((jB_0 _).mpr h)))]; unfold fin; rw [if_pos (Decidable.not_not.mp (fun h => c42 ((jB_0 _).mpr h))), show (rdS b len (rdKi b len y d).2.1).1 = true from (Decidable.not_not.mp (fun h => c49 ((jB_0 _).mpr h)))])); exact J.iret dX1_readLine_57 rfl (by decide) (Nat.le_refl _) (Nat.le_refl _) ⟨by rw [e9] <;> rfl, by rw [e9] <;> rfl⟩) | (have e9 : rdLi b len y d = (false, ((rdS b len (rdKi b len y d).2.1).2, (rdKi b len y d).2.2)) := (by (unfold rdLi; rw [if_neg ((jB_0 _).mp c6), if_pos (Decidable.not_not.mp (fun h => c35 ((jB_0 _).mpr h)))]; unfold fin; rw [if_pos (Decidable.not_not.mp (fun h => c42 ((jB_0 _).mpr h))), show (rdS b len (rdKi b len y d).2.1).1 = false from Bool.eq_false_iff.mpr ((jB_0 _).mp c49)])); exact J.iret dX1_readLine_57 rfl (by decide) (Nat.le_refl _) (Nat.le_refl _) ⟨by rw [e9] <;> rfl, by rw [e9] <;> rfl⟩) | (have e9 : rdLi b len y d = (false, (rdKi b len y d).2) := (by (unfold rdLi; rw [if_neg ((jB_0 _).mp c6), if_pos (Decidable.not_not.mp (fun h => c35 ((jB_0 _).mpr h)))]; unfold fin; rw [if_neg ((jB_0 _).mp c42)])); exact J.iret dX1_readLine_57 rfl (by decide) (Nat.le_refl _) (Nat.le_refl _) ⟨by rw [e9] <;> rfl, by rw [e9] <;> rfl⟩)
        · refine J.iconst (1) dX1_readLine_52 (by decide) ?_
          refine J.goto (tgt := 57) dX1_readLine_53 (by decide) ?_
          first | (have e9 : rdLi b len y d = (true, ((rdS b len (rdKi b len y d).2.1).2, (rdKi b len y d).2.2)) := (by (unfold rdLi; rw [if_neg ((jB_0 _).mp c6), if_pos (Decidable.not_not.mp (fun h => c35 ((jB_0 _).mpr h)))]; unfold fin; rw [if_pos (Decidable.not_not.mp (fun h => c42 ((jB_0 _).mpr h))), show (rdS b len (rdKi b len y d).2.1).1 = true from (Decidable.not_not.mp (fun h => c49 ((jB_0 _).mpr h)))])); exact J.iret dX1_readLine_57 rfl (by decide) (Nat.le_refl _) (Nat.le_refl _) ⟨by rw [e9] <;> rfl, by rw [e9] <;> rfl⟩) | (have e9 : rdLi b len y d = (false, ((rdS b len (rdKi b len y d).2.1).2, (rdKi b len y d).2.2)) := (by (unfold rdLi; rw [if_neg ((jB_0 _).mp c6), if_pos (Decidable.not_not.mp (fun h => c35 ((jB_0 _).mpr h)))]; unfold fin; rw [if_pos (Decidable.not_not.mp (fun h => c42 ((jB_0 _).mpr h))), show (rdS b len (rdKi b len y d).2.1).1 = false from Bool.eq_false_iff.mpr ((jB_0 _).mp c49)])); exact J.iret dX1_readLine_57 rfl (by decide) (Nat.le_refl _) (Nat.le_refl _) ⟨by rw [e9] <;> rfl, by rw [e9] <;> rfl⟩) | (have e9 : rdLi b len y d = (false, (rdKi b len y d).2) := (by (unfold rdLi; rw [if_neg ((jB_0 _).mp c6), if_pos (Decidable.not_not.mp (fun h => c35 ((jB_0 _).mpr h)))]; unfold fin; rw [if_neg ((jB_0 _).mp c42)])); exact J.iret dX1_readLine_57 rfl (by decide) (Nat.le_refl _) (Nat.le_refl _) ⟨by rw [e9] <;> rfl, by rw [e9] <;> rfl⟩)
  · refine J.aload_n dX1_readLine_9 rfl rfl ?_
    refine J.cv (as := []) (is := [0, 1, 2, 3, 4, 5, 6, 7, 8, 9]) (o := 0) okX1_readHair jcX1_77 (mX1_readHair b len d hb hl y hy.2.1 hy.2.2.2.2.2.2.1 hy.2.2.2.2.2.2.2.2.2) dX1_readLine_10 rfl rfl rfl rfl rfl rfl rfl (fun r9 B9 hq => ?_)
    obtain ⟨rfl, rfl⟩ := hq
    refine ⟨rfl, ?_⟩
    show J _ _ _ _ _ (.int _ :: _) (wX b len (rdHa b len y d).2.2 (rdHa b len y d).2.1) _ _
    refine J.if_eq (tgt := 27) dX1_readLine_13 (by decide) (fun c13 => ?_) (fun c13 => ?_)
    · refine J.iconst (0) dX1_readLine_27 (by decide) ?_
      first | (have e9 : rdLi b len y d = (true, ((rdS b len (rdHa b len y d).2.1).2, (rdHa b len y d).2.2)) := (by (unfold rdLi; rw [if_pos (Decidable.not_not.mp (fun h => c6 ((jB_0 _).mpr h)))]; unfold fin; rw [if_pos (Decidable.not_not.mp (fun h => c13 ((jB_0 _).mpr h))), show (rdS b len (rdHa b len y d).2.1).1 = true from (Decidable.not_not.mp (fun h => c20 ((jB_0 _).mpr h)))])); exact J.iret dX1_readLine_28 rfl (by decide) (Nat.le_refl _) (Nat.le_refl _) ⟨by rw [e9] <;> rfl, by rw [e9] <;> rfl⟩) | (have e9 : rdLi b len y d = (false, ((rdS b len (rdHa b len y d).2.1).2, (rdHa b len y d).2.2)) := (by (unfold rdLi; rw [if_pos (Decidable.not_not.mp (fun h => c6 ((jB_0 _).mpr h)))]; unfold fin; rw [if_pos (Decidable.not_not.mp (fun h => c13 ((jB_0 _).mpr h))), show (rdS b len (rdHa b len y d).2.1).1 = false from Bool.eq_false_iff.mpr ((jB_0 _).mp c20)])); exact J.iret dX1_readLine_28 rfl (by decide) (Nat.le_refl _) (Nat.le_refl _) ⟨by rw [e9] <;> rfl, by rw [e9] <;> rfl⟩) | (have e9 : rdLi b len y d = (false, (rdHa b len y d).2) := (by (unfold rdLi; rw [if_pos (Decidable.not_not.mp (fun h => c6 ((jB_0 _).mpr h)))]; unfold fin; rw [if_neg ((jB_0 _).mp c13)])); exact J.iret dX1_readLine_28 rfl (by decide) (Nat.le_refl _) (Nat.le_refl _) ⟨by rw [e9] <;> rfl, by rw [e9] <;> rfl⟩)
    · refine J.aload_n dX1_readLine_16 rfl rfl ?_
      refine J.cv (as := []) (is := [0, 1, 2, 3, 4, 5, 6, 7, 8, 9]) (o := 0) okX1_readStop jcX1_80 (mX1_readStop b len (rdHa b len y d).2.2 hb hl (rdHa b len y d).2.1 (yOK.Ha hy).2.1) dX1_readLine_17 rfl rfl rfl rfl rfl rfl rfl (fun r9 B9 hq => ?_)
      obtain ⟨rfl, rfl⟩ := hq
      refine ⟨rfl, ?_⟩
      show J _ _ _ _ _ (.int _ :: _) (wX b len (rdHa b len y d).2.2 (rdS b len (rdHa b len y d).2.1).2) _ _
      refine J.if_eq (tgt := 27) dX1_readLine_20 (by decide) (fun c20 => ?_) (fun c20 => ?_)
      · refine J.iconst (0) dX1_readLine_27 (by decide) ?_
        first | (have e9 : rdLi b len y d = (true, ((rdS b len (rdHa b len y d).2.1).2, (rdHa b len y d).2.2)) := (by (unfold rdLi; rw [if_pos (Decidable.not_not.mp (fun h => c6 ((jB_0 _).mpr h)))]; unfold fin; rw [if_pos (Decidable.not_not.mp (fun h => c13 ((jB_0 _).mpr h))), show (rdS b len (rdHa b len y d).2.1).1 = true from (Decidable.not_not.mp (fun h => c20 ((jB_0 _).mpr h)))])); exact J.iret dX1_readLine_28 rfl (by decide) (Nat.le_refl _) (Nat.le_refl _) ⟨by rw [e9] <;> rfl, by rw [e9] <;> rfl⟩) | (have e9 : rdLi b len y d = (false, ((rdS b len (rdHa b len y d).2.1).2, (rdHa b len y d).2.2)) := (by (unfold rdLi; rw [if_pos (Decidable.not_not.mp (fun h => c6 ((jB_0 _).mpr h)))]; unfold fin; rw [if_pos (Decidable.not_not.mp (fun h => c13 ((jB_0 _).mpr h))), show (rdS b len (rdHa b len y d).2.1).1 = false from Bool.eq_false_iff.mpr ((jB_0 _).mp c20)])); exact J.iret dX1_readLine_28 rfl (by decide) (Nat.le_refl _) (Nat.le_refl _) ⟨by rw [e9] <;> rfl, by rw [e9] <;> rfl⟩) | (have e9 : rdLi b len y d = (false, (rdHa b len y d).2) := (by (unfold rdLi; rw [if_pos (Decidable.not_not.mp (fun h => c6 ((jB_0 _).mpr h)))]; unfold fin; rw [if_neg ((jB_0 _).mp c13)])); exact J.iret dX1_readLine_28 rfl (by decide) (Nat.le_refl _) (Nat.le_refl _) ⟨by rw [e9] <;> rfl, by rw [e9] <;> rfl⟩)
      · refine J.iconst (1) dX1_readLine_23 (by decide) ?_
        refine J.goto (tgt := 28) dX1_readLine_24 (by decide) ?_
        first | (have e9 : rdLi b len y d = (true, ((rdS b len (rdHa b len y d).2.1).2, (rdHa b len y d).2.2)) := (by (unfold rdLi; rw [if_pos (Decidable.not_not.mp (fun h => c6 ((jB_0 _).mpr h)))]; unfold fin; rw [if_pos (Decidable.not_not.mp (fun h => c13 ((jB_0 _).mpr h))), show (rdS b len (rdHa b len y d).2.1).1 = true from (Decidable.not_not.mp (fun h => c20 ((jB_0 _).mpr h)))])); exact J.iret dX1_readLine_28 rfl (by decide) (Nat.le_refl _) (Nat.le_refl _) ⟨by rw [e9] <;> rfl, by rw [e9] <;> rfl⟩) | (have e9 : rdLi b len y d = (false, ((rdS b len (rdHa b len y d).2.1).2, (rdHa b len y d).2.2)) := (by (unfold rdLi; rw [if_pos (Decidable.not_not.mp (fun h => c6 ((jB_0 _).mpr h)))]; unfold fin; rw [if_pos (Decidable.not_not.mp (fun h => c13 ((jB_0 _).mpr h))), show (rdS b len (rdHa b len y d).2.1).1 = false from Bool.eq_false_iff.mpr ((jB_0 _).mp c20)])); exact J.iret dX1_readLine_28 rfl (by decide) (Nat.le_refl _) (Nat.le_refl _) ⟨by rw [e9] <;> rfl, by rw [e9] <;> rfl⟩) | (have e9 : rdLi b len y d = (false, (rdHa b len y d).2) := (by (unfold rdLi; rw [if_pos (Decidable.not_not.mp (fun h => c6 ((jB_0 _).mpr h)))]; unfold fin; rw [if_neg ((jB_0 _).mp c13)])); exact J.iret dX1_readLine_28 rfl (by decide) (Nat.le_refl _) (Nat.le_refl _) ⟨by rw [e9] <;> rfl, by rw [e9] <;> rfl⟩)
/-- the lines, up to the first FAULT: how many, and what is left; k the most that may come -/
def rdA (b : Nat → Nat) (len : Nat) : Nat → Nat → (Nat → Nat) → rT → Nat × pT
  | 0, l, y, d => (l, (y, d))
  | k + 1, l, y, d => if ntoB b len (y 2) = true then (if yN b len y 0 = 0 then (l, (yN b len y, d)) else if (rdLi b len (yN b len y) d).1 = true then rdA b len k (l + 1) (rdLi b len (yN b len y) d).2.1 (rdLi b len (yN b len y) d).2.2 else (l, (rdLi b len (yN b len y) d).2)) else (l, (yN b len y, d))
/-- ... ahead of a TOKEN -/
def zOK (len : Nat) (y : Nat → Nat) (d : rT) : Prop := y 2 ≤ len ∧ y 4 < 8 ∧ y 5 ≤ 1 ∧ y 6 ≤ 1 ∧ d 6 0 ≤ 3 ∧ d 6 1 ≤ 4 ∧ d 6 2 ≤ 3 ∧ d 6 3 < 8
theorem yOK.z {len : Nat} {y : Nat → Nat} {d : rT} (h : yOK len y d) : zOK len y d := ⟨h.2.1, h.2.2.2⟩
theorem zOK.N {b : Nat → Nat} {len : Nat} {y : Nat → Nat} {d : rT} (h : zOK len y d) : yOK len (yN b len y) d := ⟨(yN_2 h.1).1, (yN_2 h.1).2, yN_0 b len y, h.2⟩
theorem zOK.A {b : Nat → Nat} {len : Nat} : ∀ (k l : Nat) (y : Nat → Nat) (d : rT), zOK len y d → zOK len (rdA b len k l y d).2.1 (rdA b len k l y d).2.2
  | 0, l, y, d, h => h
  | k + 1, l, y, d, h => by
    simp only [rdA]
    split
    · split
      · exact h.N.z
      · split
        · exact zOK.A k (l + 1) _ _ h.N.Li.z
        · exact h.N.Li.z
    · exact h.N.z
theorem rdA_l {b : Nat → Nat} {len : Nat} : ∀ (k l : Nat) (y : Nat → Nat) (d : rT), (rdA b len k l y d).1 ≤ l + k
  | 0, l, y, d => Nat.le_refl _
  | k + 1, l, y, d => by
    simp only [rdA]
    split
    · split
      · exact Nat.le_add_right _ _
      · split
        · have := rdA_l (b := b) (len := len) k (l + 1) (rdLi b len (yN b len y) d).2.1 (rdLi b len (yN b len y) d).2.2
          omega
        · exact Nat.le_add_right _ _
    · exact Nat.le_add_right _ _
/-- behind the lines: a broken HAIR that there is not; what is WHOLE -/
def yE (len : Nat) (y : Nat → Nat) (d : rT) : Nat → Nat := if nI (y 7) = 0 ∧ ¬ y 4 / 2 ^ d 6 0 = 0 then yF y 6 len else y
def yA0 (y : Nat → Nat) : Nat → Nat := yset (yset (yset (yset (yset y 2 0) 4 0) 5 0) 6 0) 7 0
def ansA (l : Nat) (y : Nat → Nat) : Int32 := if nI (y 7) = 0 then nI l else -10 - nI (y 8)
theorem shr_eval : ∀ w, w < 8 → ∀ i, i < 4 → nI w >>> (nI i &&& 31) = nI (w / 2 ^ i) := by decide +kernel
set_option maxRecDepth 100000 in
set_option maxHeartbeats 4000000 in
theorem mX1_readAll_e (b : Nat → Nat) (len : Nat) (hb : ∀ j, b j < 128) (hl : len ≤ 160) (p : Nat → Nat) (e : rT) (l : Nat) (z : Option Value) (hp : zOK len p e) : J KX1_readAll 10 (fun o B => o = some (.int (ansA l (yE len p e))) ∧ B = wX b len (rset e 6 3 (e 6 3 &&& (7 - p 4))) (yE len p e)) 73 [some (.ref 0), some (.int (nI l)), z] [] (wX b len e p) 0 0 := by
  refine J.aload_n dX1_readAll_73 rfl rfl ?_
  refine J.getfield dX1_readAll_74 jFX1_25 rfl rfl ?_
  refine J.if_ne (tgt := 109) dX1_readAll_77 (by decide) (fun c77 => ?_) (fun c77 => ?_)
  · have e9 : yE len p e = p := if_neg (fun h => c77 h.1)
    refine J.aload_n dX1_readAll_109 rfl rfl ?_
    refine J.getfield dX1_readAll_110 jFX1_21 rfl rfl ?_
    refine J.dup dX1_readAll_113 rfl ?_
    refine J.getfield dX1_readAll_114 jFX1_65 rfl rfl ?_
    refine J.aload_n dX1_readAll_117 rfl rfl ?_
    refine J.getfield dX1_readAll_118 jFX1_35 rfl rfl ?_
    refine J.iconst (-1) dX1_readAll_121 (by decide) ?_
    refine J.ixor dX1_readAll_122 ?_
    refine J.iand dX1_readAll_123 ?_
    first | rw [wo_eval _ hp.2.2.2.2.2.2.2 _ hp.2.1] | rw [show nI (yF p 6 len 4) = nI (p 4) from rfl, wo_eval _ hp.2.2.2.2.2.2.2 _ hp.2.1]
    refine J.putfield dX1_readAll_124 jFX1_65 jP2_9 rfl rfl rfl (Nat.le_of_ble_eq_true rfl) ?_
    try dsimp only [List.set, wX]
    refine J.aload_n dX1_readAll_127 rfl rfl ?_
    refine J.getfield dX1_readAll_128 jFX1_25 rfl rfl ?_
    refine J.if_ne (tgt := 138) dX1_readAll_131 (by decide) (fun c131 => ?_) (fun c131 => ?_)
    · refine J.bipush (-10) dX1_readAll_138 (by decide) ?_
      refine J.aload_n dX1_readAll_140 rfl rfl ?_
      refine J.getfield dX1_readAll_141 jFX1_68 rfl rfl ?_
      refine J.isub dX1_readAll_144 ?_
      refine J.iret dX1_readAll_145 rfl rfl (Nat.le_refl _) (Nat.le_refl _) ⟨congrArg (fun x => some (Value.int x)) ?_, by rw [e9] <;> rfl⟩
      rw [e9]
      unfold ansA
      first | rw [if_pos c131] | rw [if_neg c131]
    · refine J.iload_n dX1_readAll_134 rfl rfl ?_
      refine J.goto (tgt := 145) dX1_readAll_135 (by decide) ?_
      refine J.iret dX1_readAll_145 rfl rfl (Nat.le_refl _) (Nat.le_refl _) ⟨congrArg (fun x => some (Value.int x)) ?_, by rw [e9] <;> rfl⟩
      rw [e9]
      unfold ansA
      first | rw [if_pos c131] | rw [if_neg c131]
  · refine J.aload_n dX1_readAll_80 rfl rfl ?_
    refine J.getfield dX1_readAll_81 jFX1_35 rfl rfl ?_
    refine J.aload_n dX1_readAll_84 rfl rfl ?_
    refine J.getfield dX1_readAll_85 jFX1_21 rfl rfl ?_
    refine J.getfield dX1_readAll_88 jFX1_55 rfl rfl ?_
    refine J.ishr dX1_readAll_91 ?_
    rw [shr_eval _ hp.2.1 _ (by have := hp.2.2.2.2.1; omega)]
    refine J.if_eq (tgt := 109) dX1_readAll_92 (by decide) (fun c92 => ?_) (fun c92 => ?_)
    · have e9 : yE len p e = p := if_neg (fun h => h.2 ((nI_eqi (b := 0) (Nat.lt_of_le_of_lt (Nat.div_le_self _ _) (by have := hp.2.1; omega)) (by decide)).mp c92))
      refine J.aload_n dX1_readAll_109 rfl rfl ?_
      refine J.getfield dX1_readAll_110 jFX1_21 rfl rfl ?_
      refine J.dup dX1_readAll_113 rfl ?_
      refine J.getfield dX1_readAll_114 jFX1_65 rfl rfl ?_
      refine J.aload_n dX1_readAll_117 rfl rfl ?_
      refine J.getfield dX1_readAll_118 jFX1_35 rfl rfl ?_
      refine J.iconst (-1) dX1_readAll_121 (by decide) ?_
      refine J.ixor dX1_readAll_122 ?_
      refine J.iand dX1_readAll_123 ?_
      first | rw [wo_eval _ hp.2.2.2.2.2.2.2 _ hp.2.1] | rw [show nI (yF p 6 len 4) = nI (p 4) from rfl, wo_eval _ hp.2.2.2.2.2.2.2 _ hp.2.1]
      refine J.putfield dX1_readAll_124 jFX1_65 jP2_9 rfl rfl rfl (Nat.le_of_ble_eq_true rfl) ?_
      try dsimp only [List.set, wX]
      refine J.aload_n dX1_readAll_127 rfl rfl ?_
      refine J.getfield dX1_readAll_128 jFX1_25 rfl rfl ?_
      refine J.if_ne (tgt := 138) dX1_readAll_131 (by decide) (fun c131 => ?_) (fun c131 => ?_)
      · refine J.bipush (-10) dX1_readAll_138 (by decide) ?_
        refine J.aload_n dX1_readAll_140 rfl rfl ?_
        refine J.getfield dX1_readAll_141 jFX1_68 rfl rfl ?_
        refine J.isub dX1_readAll_144 ?_
        refine J.iret dX1_readAll_145 rfl rfl (Nat.le_refl _) (Nat.le_refl _) ⟨congrArg (fun x => some (Value.int x)) ?_, by rw [e9] <;> rfl⟩
        rw [e9]
        unfold ansA
        first | rw [if_pos c131] | rw [if_neg c131]
      · refine J.iload_n dX1_readAll_134 rfl rfl ?_
        refine J.goto (tgt := 145) dX1_readAll_135 (by decide) ?_
        refine J.iret dX1_readAll_145 rfl rfl (Nat.le_refl _) (Nat.le_refl _) ⟨congrArg (fun x => some (Value.int x)) ?_, by rw [e9] <;> rfl⟩
        rw [e9]
        unfold ansA
        first | rw [if_pos c131] | rw [if_neg c131]
    · refine J.aload_n dX1_readAll_95 rfl rfl ?_
      refine J.bipush (6) dX1_readAll_96 (by decide) ?_
      refine J.aload_n dX1_readAll_98 rfl rfl ?_
      refine J.getfield dX1_readAll_99 jFX1_12 rfl rfl ?_
      refine J.getfield dX1_readAll_102 jFX1_58 rfl rfl ?_
      refine J.cv (as := [.int (nI 6), .int _]) (is := [0, 1, 2, 3, 4, 5, 6, 7, 8, 9]) (o := 0) okX1_fail jcX1_61 (mX1_fail b len e p 6 len) dX1_readAll_105 rfl rfl rfl rfl rfl rfl rfl (fun r9 B9 hq => ?_)
      obtain ⟨rfl, rfl⟩ := hq
      refine ⟨rfl, ?_⟩
      show J _ _ _ _ _ (.int 0 :: _) (wX b len e (yF p 6 len)) _ _
      refine J.pop dX1_readAll_108 rfl ?_
      have e9 : yE len p e = (yF p 6 len) := if_pos ⟨c77, fun h => c92 (congrArg nI h)⟩
      refine J.aload_n dX1_readAll_109 rfl rfl ?_
      refine J.getfield dX1_readAll_110 jFX1_21 rfl rfl ?_
      refine J.dup dX1_readAll_113 rfl ?_
      refine J.getfield dX1_readAll_114 jFX1_65 rfl rfl ?_
      refine J.aload_n dX1_readAll_117 rfl rfl ?_
      refine J.getfield dX1_readAll_118 jFX1_35 rfl rfl ?_
      refine J.iconst (-1) dX1_readAll_121 (by decide) ?_
      refine J.ixor dX1_readAll_122 ?_
      refine J.iand dX1_readAll_123 ?_
      first | rw [wo_eval _ hp.2.2.2.2.2.2.2 _ hp.2.1] | rw [show nI (yF p 6 len 4) = nI (p 4) from rfl, wo_eval _ hp.2.2.2.2.2.2.2 _ hp.2.1]
      refine J.putfield dX1_readAll_124 jFX1_65 jP2_9 rfl rfl rfl (Nat.le_of_ble_eq_true rfl) ?_
      try dsimp only [List.set, wX]
      refine J.aload_n dX1_readAll_127 rfl rfl ?_
      refine J.getfield dX1_readAll_128 jFX1_25 rfl rfl ?_
      refine J.if_ne (tgt := 138) dX1_readAll_131 (by decide) (fun c131 => ?_) (fun c131 => ?_)
      · refine J.bipush (-10) dX1_readAll_138 (by decide) ?_
        refine J.aload_n dX1_readAll_140 rfl rfl ?_
        refine J.getfield dX1_readAll_141 jFX1_68 rfl rfl ?_
        refine J.isub dX1_readAll_144 ?_
        refine J.iret dX1_readAll_145 rfl rfl (Nat.le_refl _) (Nat.le_refl _) ⟨congrArg (fun x => some (Value.int x)) ?_, by rw [e9] <;> rfl⟩
        rw [e9]
        unfold ansA
        first | rw [if_pos c131] | rw [if_neg c131]
      · refine J.iload_n dX1_readAll_134 rfl rfl ?_
        refine J.goto (tgt := 145) dX1_readAll_135 (by decide) ?_
        refine J.iret dX1_readAll_145 rfl rfl (Nat.le_refl _) (Nat.le_refl _) ⟨congrArg (fun x => some (Value.int x)) ?_, by rw [e9] <;> rfl⟩
        rw [e9]
        unfold ansA
        first | rw [if_pos c131] | rw [if_neg c131]
set_option maxRecDepth 100000 in
set_option maxHeartbeats 4000000 in
theorem mX1_readAll_l (b : Nat → Nat) (len : Nat) (hb : ∀ j, b j < 128) (hl : len ≤ 160) : ∀ (k l i : Nat) (y : Nat → Nat) (d : rT), i + k = 161 → zOK len y d → J KX1_readAll 10 (fun o B => o = some (.int (ansA (rdA b len k l y d).1 (yE len (rdA b len k l y d).2.1 (rdA b len k l y d).2.2))) ∧ B = wX b len (rset (rdA b len k l y d).2.2 6 3 ((rdA b len k l y d).2.2 6 3 &&& (7 - (rdA b len k l y d).2.1 4))) (yE len (rdA b len k l y d).2.1 (rdA b len k l y d).2.2)) 36 [some (.ref 0), some (.int (nI l)), some (.int (nI i))] [] (wX b len d y) 0 0 := by
  intro k
  induction k with
  | zero =>
    intro l i y d hi hy
    refine J.iload_n dX1_readAll_36 rfl rfl ?_
    refine J.sipush (160) dX1_readAll_37 (by decide) ?_
    refine J.icmp_gt (tgt := 73) dX1_readAll_40 (by decide) (fun c40 => ?_) (fun c40 => absurd c40 (fun h => h ((nI_lti (a := 160) (by decide) (by omega)).mpr (by omega))))
    exact mX1_readAll_e b len hb hl y d l _ hy
  | succ k ih =>
    intro l i y d hi hy
    refine J.iload_n dX1_readAll_36 rfl rfl ?_
    refine J.sipush (160) dX1_readAll_37 (by decide) ?_
    refine J.icmp_gt (tgt := 73) dX1_readAll_40 (by decide) (fun c40 => absurd c40 (fun h => absurd ((nI_lti (a := 160) (by decide) (by omega)).mp h) (by omega))) (fun c40 => ?_)
    refine J.aload_n dX1_readAll_43 rfl rfl ?_
    refine J.cv (as := []) (is := [0, 1, 2, 3, 4, 5, 6, 7, 8, 9]) (o := 0) okX1_nextToken jcX1_45 (mX1_next b len d hb hl y hy.1) dX1_readAll_44 rfl rfl rfl rfl rfl rfl rfl (fun r9 B9 hq => ?_)
    obtain ⟨rfl, rfl⟩ := hq
    refine ⟨rfl, ?_⟩
    show J _ _ _ _ _ (.int _ :: _) (wX b len d (yN b len y)) _ _
    refine J.if_eq (tgt := 73) dX1_readAll_47 (by decide) (fun c47 => ?_) (fun c47 => ?_)
    · first | (have e9 : rdA b len (k + 1) l y d = (l, ((yN b len y), d)) := (by (simp only [rdA]; rw [if_neg ((jB_0 _).mp c47)])); rw [e9]; exact mX1_readAll_e b len hb hl (yN b len y) d l _ hy.N.z) | (have e9 : rdA b len (k + 1) l y d = (l, ((yN b len y), d)) := (by (simp only [rdA]; rw [if_pos (Decidable.not_not.mp (fun h => c47 ((jB_0 _).mpr h))), if_pos ((nI_eqi (b := 0) (by have := yN_0 b len y; omega) (by decide)).mp c54)])); rw [e9]; exact mX1_readAll_e b len hb hl (yN b len y) d l _ hy.N.z) | (have e9 : rdA b len (k + 1) l y d = (l, (rdLi b len (yN b len y) d).2) := (by (simp only [rdA]; rw [if_pos (Decidable.not_not.mp (fun h => c47 ((jB_0 _).mpr h))), if_neg (fun h => c54 (congrArg nI h)), if_neg ((jB_0 _).mp c61)])); rw [e9]; exact mX1_readAll_e b len hb hl (rdLi b len (yN b len y) d).2.1 (rdLi b len (yN b len y) d).2.2 l _ hy.N.Li.z)
    · refine J.aload_n dX1_readAll_50 rfl rfl ?_
      refine J.getfield dX1_readAll_51 jFX1_49 rfl rfl ?_
      refine J.if_eq (tgt := 73) dX1_readAll_54 (by decide) (fun c54 => ?_) (fun c54 => ?_)
      · first | (have e9 : rdA b len (k + 1) l y d = (l, ((yN b len y), d)) := (by (simp only [rdA]; rw [if_neg ((jB_0 _).mp c47)])); rw [e9]; exact mX1_readAll_e b len hb hl (yN b len y) d l _ hy.N.z) | (have e9 : rdA b len (k + 1) l y d = (l, ((yN b len y), d)) := (by (simp only [rdA]; rw [if_pos (Decidable.not_not.mp (fun h => c47 ((jB_0 _).mpr h))), if_pos ((nI_eqi (b := 0) (by have := yN_0 b len y; omega) (by decide)).mp c54)])); rw [e9]; exact mX1_readAll_e b len hb hl (yN b len y) d l _ hy.N.z) | (have e9 : rdA b len (k + 1) l y d = (l, (rdLi b len (yN b len y) d).2) := (by (simp only [rdA]; rw [if_pos (Decidable.not_not.mp (fun h => c47 ((jB_0 _).mpr h))), if_neg (fun h => c54 (congrArg nI h)), if_neg ((jB_0 _).mp c61)])); rw [e9]; exact mX1_readAll_e b len hb hl (rdLi b len (yN b len y) d).2.1 (rdLi b len (yN b len y) d).2.2 l _ hy.N.Li.z)
      · refine J.aload_n dX1_readAll_57 rfl rfl ?_
        refine J.cv (as := []) (is := [0, 1, 2, 3, 4, 5, 6, 7, 8, 9]) (o := 0) okX1_readLine jcX1_52 (mX1_readLine b len d hb hl (yN b len y) hy.N) dX1_readAll_58 rfl rfl rfl rfl rfl rfl rfl (fun r9 B9 hq => ?_)
        obtain ⟨rfl, rfl⟩ := hq
        refine ⟨rfl, ?_⟩
        show J _ _ _ _ _ (.int _ :: _) (wX b len (rdLi b len (yN b len y) d).2.2 (rdLi b len (yN b len y) d).2.1) _ _
        refine J.if_eq (tgt := 73) dX1_readAll_61 (by decide) (fun c61 => ?_) (fun c61 => ?_)
        · first | (have e9 : rdA b len (k + 1) l y d = (l, ((yN b len y), d)) := (by (simp only [rdA]; rw [if_neg ((jB_0 _).mp c47)])); rw [e9]; exact mX1_readAll_e b len hb hl (yN b len y) d l _ hy.N.z) | (have e9 : rdA b len (k + 1) l y d = (l, ((yN b len y), d)) := (by (simp only [rdA]; rw [if_pos (Decidable.not_not.mp (fun h => c47 ((jB_0 _).mpr h))), if_pos ((nI_eqi (b := 0) (by have := yN_0 b len y; omega) (by decide)).mp c54)])); rw [e9]; exact mX1_readAll_e b len hb hl (yN b len y) d l _ hy.N.z) | (have e9 : rdA b len (k + 1) l y d = (l, (rdLi b len (yN b len y) d).2) := (by (simp only [rdA]; rw [if_pos (Decidable.not_not.mp (fun h => c47 ((jB_0 _).mpr h))), if_neg (fun h => c54 (congrArg nI h)), if_neg ((jB_0 _).mp c61)])); rw [e9]; exact mX1_readAll_e b len hb hl (rdLi b len (yN b len y) d).2.1 (rdLi b len (yN b len y) d).2.2 l _ hy.N.Li.z)
        · refine J.iinc (1) dX1_readAll_64 (by decide) rfl (by decide) rfl ?_
          try dsimp only [List.set, wX]
          refine J.iinc (1) dX1_readAll_67 (by decide) rfl (by decide) rfl ?_
          try dsimp only [List.set, wX]
          refine J.goto (tgt := 36) dX1_readAll_70 (by decide) ?_
          have e9 : rdA b len (k + 1) l y d = rdA b len k (l + 1) (rdLi b len (yN b len y) d).2.1 (rdLi b len (yN b len y) d).2.2 := (by (simp only [rdA]; rw [if_pos (Decidable.not_not.mp (fun h => c47 ((jB_0 _).mpr h))), if_neg (fun h => c54 (congrArg nI h)), if_pos (Decidable.not_not.mp (fun h => c61 ((jB_0 _).mpr h)))]))
          rw [e9]
          exact J.at (ih (l + 1) (i + 1) (rdLi b len (yN b len y) d).2.1 (rdLi b len (yN b len y) d).2.2 (by omega) hy.N.Li.z) (by rw [← nI_1, ← nI_1]) rfl rfl
set_option maxRecDepth 100000 in
set_option maxHeartbeats 4000000 in
theorem mX1_readAll (b : Nat → Nat) (len : Nat) (d : rT) (hb : ∀ j, b j < 128) (hl : len ≤ 160) (y : Nat → Nat) : J KX1_readAll 10 (fun o B => o = some (.int (ansA (rdA b len 161 0 (yA0 y) (rclear d)).1 (yE len ((rdA b len 161 0 (yA0 y) (rclear d)).2.1) ((rdA b len 161 0 (yA0 y) (rclear d)).2.2)))) ∧ B = wX b len (rset ((rdA b len 161 0 (yA0 y) (rclear d)).2.2) 6 3 (((rdA b len 161 0 (yA0 y) (rclear d)).2.2) 6 3 &&& (7 - ((rdA b len 161 0 (yA0 y) (rclear d)).2.1) 4))) (yE len ((rdA b len 161 0 (yA0 y) (rclear d)).2.1) ((rdA b len 161 0 (yA0 y) (rclear d)).2.2))) 0 [some (.ref 0), none, none] [] (wX b len d y) 0 0 := by
  refine J.aload_n dX1_readAll_0 rfl rfl ?_
  refine J.getfield dX1_readAll_1 jFX1_21 rfl rfl ?_
  refine J.cv (as := []) (is := [3, 4, 5, 6, 7, 8, 9]) (o := 0) okX2_clear jcX1_29 (mX2_clear d) dX1_readAll_4 rfl rfl rfl rfl rfl rfl rfl (fun r9 B9 hq => ?_)
  obtain ⟨rfl, rfl⟩ := hq
  refine ⟨rfl, ?_⟩
  show J _ _ _ _ _ [] (wX b len (rclear d) y) _ _
  refine J.aload_n dX1_readAll_7 rfl rfl ?_
  refine J.iconst (0) dX1_readAll_8 (by decide) ?_
  refine J.putfield dX1_readAll_9 jFX1_32 jP1_4 rfl rfl rfl (Nat.le_of_ble_eq_true rfl) ?_
  try dsimp only [List.set, wX]
  refine J.aload_n dX1_readAll_12 rfl rfl ?_
  refine J.iconst (0) dX1_readAll_13 (by decide) ?_
  refine J.putfield dX1_readAll_14 jFX1_35 jP1_6 rfl rfl rfl (Nat.le_of_ble_eq_true rfl) ?_
  try dsimp only [List.set, wX]
  refine J.aload_n dX1_readAll_17 rfl rfl ?_
  refine J.iconst (0) dX1_readAll_18 (by decide) ?_
  refine J.putfield dX1_readAll_19 jFX1_38 jP1_7 rfl (by decide) (by decide) (Nat.le_of_ble_eq_true rfl) ?_
  try dsimp only [List.set, wX]
  refine J.aload_n dX1_readAll_22 rfl rfl ?_
  refine J.iconst (0) dX1_readAll_23 (by decide) ?_
  refine J.putfield dX1_readAll_24 jFX1_42 jP1_8 rfl (by decide) (by decide) (Nat.le_of_ble_eq_true rfl) ?_
  try dsimp only [List.set, wX]
  refine J.aload_n dX1_readAll_27 rfl rfl ?_
  refine J.iconst (0) dX1_readAll_28 (by decide) ?_
  refine J.putfield dX1_readAll_29 jFX1_25 jP1_9 rfl rfl rfl (Nat.le_of_ble_eq_true rfl) ?_
  try dsimp only [List.set, wX]
  refine J.iconst (0) dX1_readAll_32 (by decide) ?_
  refine J.istore_n dX1_readAll_33 rfl (by decide) rfl ?_
  try dsimp only [List.set, wX]
  refine J.iconst (0) dX1_readAll_34 (by decide) ?_
  refine J.istore_n dX1_readAll_35 rfl (by decide) rfl ?_
  try dsimp only [List.set, wX]
  exact J.at (mX1_readAll_l b len hb hl 161 0 0 (yA0 y) (rclear d) (by decide) ⟨Nat.zero_le _, (by show 0 < 8; decide), (by show 0 ≤ 1; decide), (by show 0 ≤ 1; decide), (by show 0 ≤ 3; decide), (by show 0 ≤ 4; decide), (by show 0 ≤ 3; decide), (by show 0 < 8; decide)⟩) rfl rfl rfl
end
section
theorem dX6_common_0 : decode cX6_common 0 = .ok (.lload_n 0, 1) := by decide +kernel
theorem dX6_common_1 : decode cX6_common 1 = .ok (.lstore 4, 2) := by decide +kernel
theorem dX6_common_3 : decode cX6_common 3 = .ok (.lload_n 2, 1) := by decide +kernel
theorem dX6_common_4 : decode cX6_common 4 = .ok (.lstore 6, 2) := by decide +kernel
theorem dX6_common_6 : decode cX6_common 6 = .ok (.iconst 0, 1) := by decide +kernel
theorem dX6_common_7 : decode cX6_common 7 = .ok (.istore 8, 2) := by decide +kernel
theorem dX6_common_9 : decode cX6_common 9 = .ok (.iload 8, 2) := by decide +kernel
theorem dX6_common_11 : decode cX6_common 11 = .ok (.sipush 200, 3) := by decide +kernel
theorem dX6_common_14 : decode cX6_common 14 = .ok (.if_icmp .ge 31, 3) := by decide +kernel
theorem dX6_common_17 : decode cX6_common 17 = .ok (.lload 6, 2) := by decide +kernel
theorem dX6_common_19 : decode cX6_common 19 = .ok (.lconst 0, 1) := by decide +kernel
theorem dX6_common_20 : decode cX6_common 20 = .ok (.lcmp, 1) := by decide +kernel
theorem dX6_common_21 : decode cX6_common 21 = .ok (.ifCond .eq 24, 3) := by decide +kernel
theorem dX6_common_24 : decode cX6_common 24 = .ok (.lload 4, 2) := by decide +kernel
theorem dX6_common_26 : decode cX6_common 26 = .ok (.lload 6, 2) := by decide +kernel
theorem dX6_common_28 : decode cX6_common 28 = .ok (.lrem, 1) := by decide +kernel
theorem dX6_common_29 : decode cX6_common 29 = .ok (.lstore 9, 2) := by decide +kernel
theorem dX6_common_31 : decode cX6_common 31 = .ok (.lload 6, 2) := by decide +kernel
theorem dX6_common_33 : decode cX6_common 33 = .ok (.lstore 4, 2) := by decide +kernel
theorem dX6_common_35 : decode cX6_common 35 = .ok (.lload 9, 2) := by decide +kernel
theorem dX6_common_37 : decode cX6_common 37 = .ok (.lstore 6, 2) := by decide +kernel
theorem dX6_common_39 : decode cX6_common 39 = .ok (.iinc 8 1, 3) := by decide +kernel
theorem dX6_common_42 : decode cX6_common 42 = .ok (.goto (-33), 3) := by decide +kernel
theorem dX6_common_45 : decode cX6_common 45 = .ok (.lload 4, 2) := by decide +kernel
theorem dX6_common_47 : decode cX6_common 47 = .ok (.lreturn, 1) := by decide +kernel
theorem dX6_part_0 : decode cX6_part 0 = .ok (.lload_n 0, 1) := by decide +kernel
theorem dX6_part_1 : decode cX6_part 1 = .ok (.invokestatic 255, 3) := by decide +kernel
theorem dX6_part_4 : decode cX6_part 4 = .ok (.lload_n 2, 1) := by decide +kernel
theorem dX6_part_5 : decode cX6_part 5 = .ok (.invokestatic 261, 3) := by decide +kernel
theorem dX6_part_8 : decode cX6_part 8 = .ok (.lstore 5, 2) := by decide +kernel
theorem dX6_part_10 : decode cX6_part 10 = .ok (.lload 5, 2) := by decide +kernel
theorem dX6_part_12 : decode cX6_part 12 = .ok (.lconst 0, 1) := by decide +kernel
theorem dX6_part_13 : decode cX6_part 13 = .ok (.lcmp, 1) := by decide +kernel
theorem dX6_part_14 : decode cX6_part 14 = .ok (.ifCond .gt 7, 3) := by decide +kernel
theorem dX6_part_17 : decode cX6_part 17 = .ok (.iload 4, 2) := by decide +kernel
theorem dX6_part_19 : decode cX6_part 19 = .ok (.i2l, 1) := by decide +kernel
theorem dX6_part_20 : decode cX6_part 20 = .ok (.lreturn, 1) := by decide +kernel
theorem dX6_part_21 : decode cX6_part 21 = .ok (.iload 4, 2) := by decide +kernel
theorem dX6_part_23 : decode cX6_part 23 = .ok (.ifCond .ne 10, 3) := by decide +kernel
theorem dX6_part_26 : decode cX6_part 26 = .ok (.lload_n 0, 1) := by decide +kernel
theorem dX6_part_27 : decode cX6_part 27 = .ok (.lload 5, 2) := by decide +kernel
theorem dX6_part_29 : decode cX6_part 29 = .ok (.ldiv, 1) := by decide +kernel
theorem dX6_part_30 : decode cX6_part 30 = .ok (.goto 7, 3) := by decide +kernel
theorem dX6_part_33 : decode cX6_part 33 = .ok (.lload_n 2, 1) := by decide +kernel
theorem dX6_part_34 : decode cX6_part 34 = .ok (.lload 5, 2) := by decide +kernel
theorem dX6_part_36 : decode cX6_part 36 = .ok (.ldiv, 1) := by decide +kernel
theorem dX6_part_37 : decode cX6_part 37 = .ok (.lreturn, 1) := by decide +kernel
/-! ===== the lowest terms ===== -/
def lI (z : Int) : Int64 := Int64.ofInt z
theorem lI_toInt {z : Int} (h1 : -(2 ^ 63) ≤ z) (h2 : z < 2 ^ 63) : (lI z).toInt = z := by
  unfold lI
  rw [Int64.toInt_ofInt, show Int64.size = 18446744073709551616 from rfl]
  exact Int.bmod_eq_of_le (by omega) (by omega)
theorem lI_nat (n : Nat) : lI (n : Int) = lN n := by
  apply Int64.toInt_inj.mp
  unfold lI lN
  rw [Int64.toInt_ofInt, Int64.toInt_ofNat']
theorem lI_add (a b : Int) : lI a + lI b = lI (a + b) := by
  apply Int64.toInt_inj.mp
  unfold lI
  rw [Int64.toInt_add, Int64.toInt_ofInt, Int64.toInt_ofInt, Int64.toInt_ofInt]
  simp
theorem lI_mul (a b : Int) : lI a * lI b = lI (a * b) := by
  apply Int64.toInt_inj.mp
  unfold lI
  rw [Int64.toInt_mul, Int64.toInt_ofInt, Int64.toInt_ofInt, Int64.toInt_ofInt]
  simp
theorem lI_neg (a : Int) : -lI a = lI (-a) := by
  apply Int64.toInt_inj.mp
  unfold lI
  rw [Int64.toInt_neg, Int64.toInt_ofInt, Int64.toInt_ofInt]
  simp
theorem half_mod {x y : Nat} (h0 : 0 < y) (h : y ≤ x) : 2 * (x % y) ≤ x := by
  have h1 := Nat.mod_lt x h0
  by_cases h2 : 2 * y ≤ x
  · omega
  · have h3 : x / y = 1 := Nat.div_eq_of_lt_le (by omega) (by omega)
    have h4 := Nat.div_add_mod x y
    rw [h3] at h4
    omega
theorem pow_pred {a e : Nat} (h : 2 * a < 2 ^ e) : a < 2 ^ (e - 1) := by
  cases e with
  | zero => simp at h; omega
  | succ e => rw [Nat.pow_succ] at h; simp only [Nat.add_sub_cancel]; omega
theorem pow_pos1 {a e : Nat} (h : a < 2 ^ e) (h1 : 1 ≤ a) : 1 ≤ e := by
  cases e with
  | zero => simp at h; omega
  | succ e => omega
theorem fb_y0 {y : Nat} (h : y < 2 ^ 63) (h1 : lN y = 0) : y = 0 := by
  have := lN_ti63 h
  rw [h1] at this
  have h2 : (0 : Int64).toInt = 0 := rfl
  omega
theorem gcd_swap (x y : Nat) : Nat.gcd y (x % y) = Nat.gcd y x := by
  rw [Nat.gcd_comm y (x % y), Nat.gcd_comm y x, Nat.gcd_comm x y]
  exact (Nat.gcd_rec y x).symm
set_option maxRecDepth 100000 in
set_option maxHeartbeats 4000000 in
theorem mX6_common_l (a0 b0 : Nat) (A B : Int64) : ∀ (m i x y e : Nat) (r : Option Value), e + (if x < y then 1 else 0) ≤ m → i + m ≤ 198 → x * y < 2 ^ e → x < 2 ^ 63 → y < 2 ^ 63 → Nat.gcd x y = Nat.gcd a0 b0 → J KX6_common 0 (fun o B => o = some (.long (lN (Nat.gcd a0 b0))) ∧ B = []) 9 [some (.long A), none, some (.long B), none, some (.long (lN x)), none, some (.long (lN y)), none, some (.int (nI i)), r, none] [] [] 0 0 := by
  intro m
  induction m with
  | zero =>
    intro i x y e r he hi hxy hx hy hg
    have hy0 : y = 0 := by
      by_cases h : x < y
      · rw [if_pos h] at he; omega
      · rw [if_neg h] at he
        obtain rfl : e = 0 := by omega
        have h1 : x * y = 0 := by simpa using hxy
        rcases Nat.mul_eq_zero.mp h1 with h2 | h2 <;> omega
    refine J.iload dX6_common_9 rfl ?_
    refine J.sipush (200) dX6_common_11 (by decide) ?_
    refine J.icmp_ge (tgt := 45) dX6_common_14 (by decide) (fun c14 => absurd c14 (fun h => absurd ((nI_lei (a := 200) (by decide) (by omega)).mp h) (by omega))) (fun c14 => ?_)
    refine J.lload dX6_common_17 rfl ?_
    refine J.lconst 0 dX6_common_19 (by decide) ?_
    refine J.lcmp dX6_common_20 ?_
    refine J.if_eq (tgt := 45) dX6_common_21 (by decide) (fun c21 => ?_) (fun c21 => absurd c21 (fun h => h ((lg_cmp_eq _ _).mpr (by rw [hy0]; rfl))))
    refine J.lload dX6_common_45 rfl ?_
    exact J.lret dX6_common_47 rfl (Nat.le_refl _) (Nat.le_refl _) ⟨by rw [← hg, show y = 0 from hy0, Nat.gcd_zero_right], rfl⟩
  | succ m ih =>
    intro i x y e r he hi hxy hx hy hg
    refine J.iload dX6_common_9 rfl ?_
    refine J.sipush (200) dX6_common_11 (by decide) ?_
    refine J.icmp_ge (tgt := 45) dX6_common_14 (by decide) (fun c14 => absurd c14 (fun h => absurd ((nI_lei (a := 200) (by decide) (by omega)).mp h) (by omega))) (fun c14 => ?_)
    refine J.lload dX6_common_17 rfl ?_
    refine J.lconst 0 dX6_common_19 (by decide) ?_
    refine J.lcmp dX6_common_20 ?_
    refine J.if_eq (tgt := 45) dX6_common_21 (by decide) (fun c21 => ?_) (fun c21 => ?_)
    · refine J.lload dX6_common_45 rfl ?_
      exact J.lret dX6_common_47 rfl (Nat.le_refl _) (Nat.le_refl _) ⟨by rw [← hg, show y = 0 from (fb_y0 hy ((lg_cmp_eq _ _).mp c21)), Nat.gcd_zero_right], rfl⟩
    · have hy0 : 0 < y := Nat.pos_of_ne_zero (fun h => c21 ((lg_cmp_eq _ _).mpr (by rw [h]; rfl)))
      refine J.lload dX6_common_24 rfl ?_
      refine J.lload dX6_common_26 rfl ?_
      refine J.lrem dX6_common_28 (fun h => c21 ((lg_cmp_eq _ _).mpr h)) ?_
      rw [pk_lRem hx hy0 hy]
      refine J.lstore dX6_common_29 (by decide) rfl ?_
      dsimp only [List.set]
      refine J.lload dX6_common_31 rfl ?_
      refine J.lstore dX6_common_33 (by decide) rfl ?_
      dsimp only [List.set]
      refine J.lload dX6_common_35 rfl ?_
      refine J.lstore dX6_common_37 (by decide) rfl ?_
      dsimp only [List.set]
      refine J.iinc (1) dX6_common_39 (by decide) rfl (by decide) rfl ?_
      dsimp only [List.set]
      refine J.goto (tgt := 9) dX6_common_42 (by decide) ?_
      have h9 := Nat.mod_lt x hy0
      refine J.at (ih (i + 1) y (x % y) (if x < y then e else e - 1) (some (.long (lN (x % y)))) ?_ (by omega) ?_ hy (by omega) ?_) (by rw [← nI_1]) rfl rfl
      · rw [if_neg (show ¬ y < x % y by omega)]
        by_cases h8 : x < y
        · rw [if_pos h8] at he ⊢; omega
        · rw [if_neg h8] at he ⊢; have := pow_pos1 hxy (Nat.mul_pos (by omega) hy0); omega
      · by_cases h8 : x < y
        · rw [if_pos h8, Nat.mod_eq_of_lt h8, Nat.mul_comm]; exact hxy
        · rw [if_neg h8]; refine pow_pred (Nat.lt_of_le_of_lt ?_ hxy); rw [← Nat.mul_assoc, Nat.mul_comm 2 y, Nat.mul_assoc, Nat.mul_comm x y]; exact Nat.mul_le_mul_left y (half_mod hy0 (by omega))
      · rw [← hg, Nat.gcd_comm x y, gcd_swap x y]
set_option maxRecDepth 100000 in
set_option maxHeartbeats 4000000 in
theorem mX6_common (a0 b0 : Nat) (ha : a0 < 2 ^ 63) (hb : b0 < 2 ^ 63) : J KX6_common 0 (fun o B => o = some (.long (lN (Nat.gcd a0 b0))) ∧ B = []) 0 [some (.long (lN a0)), none, some (.long (lN b0)), none, none, none, none, none, none, none, none] [] [] 0 0 := by
  refine J.lload_n dX6_common_0 rfl rfl ?_
  refine J.lstore dX6_common_1 (by decide) rfl ?_
  dsimp only [List.set]
  refine J.lload_n dX6_common_3 rfl rfl ?_
  refine J.lstore dX6_common_4 (by decide) rfl ?_
  dsimp only [List.set]
  refine J.iconst (0) dX6_common_6 (by decide) ?_
  refine J.istore dX6_common_7 (by decide) rfl ?_
  dsimp only [List.set]
  refine mX6_common_l a0 b0 _ _ 127 0 a0 b0 126 none (by split <;> omega) (by omega) ?_ ha hb rfl
  rw [show (2 : Nat) ^ 126 = 2 ^ 63 * 2 ^ 63 from by decide]
  exact Nat.mul_lt_mul'' ha hb
/-- the numerator (0) or denominator of z / m in lowest terms -/
def lowT (z : Int) (m : Nat) (which : Int32) : Int64 := if which = 0 then lI (z.tdiv (Nat.gcd z.natAbs m : Nat)) else lN (m / Nat.gcd z.natAbs m)
theorem abs_lI {z : Int} (h1 : -(2 ^ 63) < z) (h2 : z < 2 ^ 63) : (if 0 < lI z then lI z else -lI z) = lN z.natAbs := by
  have h0 : (0 : Int64).toInt = 0 := rfl
  by_cases h : 0 < lI z
  · rw [if_pos h, ← lI_nat]
    rw [Int64.lt_iff_toInt_lt, lI_toInt (by omega) h2, h0] at h
    congr 1
    omega
  · rw [if_neg h, lI_neg, ← lI_nat]
    rw [Int64.lt_iff_toInt_lt, lI_toInt (by omega) h2, h0] at h
    congr 1
    omega
theorem div_lI {z : Int} {g : Nat} (h1 : -(2 ^ 63) < z) (h2 : z < 2 ^ 63) (h0 : 0 < g) (hg : g < 2 ^ 63) : lI z / lN g = lI (z.tdiv g) := by
  apply Int64.toInt_inj.mp
  rw [Int64.toInt_div, lI_toInt (by omega) h2, lN_ti63 hg]
  unfold lI
  rw [Int64.toInt_ofInt]
set_option maxRecDepth 100000 in
set_option maxHeartbeats 4000000 in
theorem mX6_part (z : Int) (m : Nat) (wh : Int32) (h1 : -(2 ^ 63) < z) (h2 : z < 2 ^ 63) (hm0 : 0 < m) (hm : m < 2 ^ 63) : J KX6_part 0 (fun o B => o = some (.long (lowT z m wh)) ∧ B = []) 0 [some (.long (lI z)), none, some (.long (lN m)), none, some (.int wh), none, none] [] [] 0 0 := by
  refine J.lload_n dX6_part_0 rfl rfl ?_
  refine J.mabsL dX6_part_1 (jt 571 rfl rfl) rfl ?_
  rw [abs_lI h1 h2]
  refine J.lload_n dX6_part_4 rfl rfl ?_
  refine J.cs (as := [.long _, .long _]) (is := []) okX6_common jcX6_261 (mX6_common z.natAbs m (by omega) hm) dX6_part_5 rfl rfl rfl rfl rfl rfl (fun r9 B9 hq => ?_)
  obtain ⟨rfl, rfl⟩ := hq
  refine ⟨rfl, ?_⟩
  show J _ _ _ _ _ (.long _ :: _) [] _ _
  refine J.lstore dX6_part_8 (by decide) rfl ?_
  dsimp only [List.set]
  refine J.lload dX6_part_10 rfl ?_
  refine J.lconst 0 dX6_part_12 (by decide) ?_
  refine J.lcmp dX6_part_13 ?_
  refine J.if_gt (tgt := 21) dX6_part_14 (by decide) (fun c14 => ?_) (fun c14 => absurd c14 (fun h => h ((lg_cmp_gt _ _).mpr ((lN_lt63 (a := 0) (by decide) (Nat.lt_of_le_of_lt (Nat.le_of_dvd hm0 (Nat.gcd_dvd_right _ _)) hm)).mpr (Nat.gcd_pos_of_pos_right _ hm0)))))
  have hne : ¬ lN (Nat.gcd z.natAbs m) = 0 := fun h => absurd (fb_y0 (Nat.lt_of_le_of_lt (Nat.le_of_dvd hm0 (Nat.gcd_dvd_right _ _)) hm) h) (Nat.ne_of_gt (Nat.gcd_pos_of_pos_right _ hm0))
  refine J.iload dX6_part_21 rfl ?_
  refine J.if_ne (tgt := 33) dX6_part_23 (by decide) (fun c23 => ?_) (fun c23 => ?_)
  · refine J.lload_n dX6_part_33 rfl rfl ?_
    refine J.lload dX6_part_34 rfl ?_
    refine J.ldiv dX6_part_36 (hne) ?_
    first | exact J.lret dX6_part_37 rfl (Nat.le_refl _) (Nat.le_refl _) ⟨congrArg (fun x => some (Value.long x)) (by rw [lowT, if_pos c23, div_lI h1 h2 (Nat.gcd_pos_of_pos_right _ hm0) (Nat.lt_of_le_of_lt (Nat.le_of_dvd hm0 (Nat.gcd_dvd_right _ _)) hm)]), rfl⟩ | exact J.lret dX6_part_37 rfl (Nat.le_refl _) (Nat.le_refl _) ⟨congrArg (fun x => some (Value.long x)) (by rw [lowT, if_neg c23, pk_lDiv hm (Nat.gcd_pos_of_pos_right _ hm0) (Nat.lt_of_le_of_lt (Nat.le_of_dvd hm0 (Nat.gcd_dvd_right _ _)) hm)]), rfl⟩
  · refine J.lload_n dX6_part_26 rfl rfl ?_
    refine J.lload dX6_part_27 rfl ?_
    refine J.ldiv dX6_part_29 (hne) ?_
    refine J.goto (tgt := 37) dX6_part_30 (by decide) ?_
    first | exact J.lret dX6_part_37 rfl (Nat.le_refl _) (Nat.le_refl _) ⟨congrArg (fun x => some (Value.long x)) (by rw [lowT, if_pos c23, div_lI h1 h2 (Nat.gcd_pos_of_pos_right _ hm0) (Nat.lt_of_le_of_lt (Nat.le_of_dvd hm0 (Nat.gcd_dvd_right _ _)) hm)]), rfl⟩ | exact J.lret dX6_part_37 rfl (Nat.le_refl _) (Nat.le_refl _) ⟨congrArg (fun x => some (Value.long x)) (by rw [lowT, if_neg c23, pk_lDiv hm (Nat.gcd_pos_of_pos_right _ hm0) (Nat.lt_of_le_of_lt (Nat.le_of_dvd hm0 (Nat.gcd_dvd_right _ _)) hm)]), rfl⟩
theorem sub_of {x : Int32} {w : Nat} (hw : w < 8) (h : x &&& (nI w ^^^ -1) = 0) : ∃ b, b < 8 ∧ x = nI b := by
  have h1 : x.toBitVec &&& ~~~(nI w).toBitVec = 0#32 := by
    have := congrArg Int32.toBitVec h
    simpa using this
  refine ⟨x.toBitVec.toNat, ?_, ?_⟩
  · have h2 : x.toBitVec &&& (nI w).toBitVec = x.toBitVec := by
      apply BitVec.eq_of_getElem_eq
      intro i hi
      have h3 := congrArg (fun v => v[i]'hi) h1
      simp only [BitVec.getElem_and, BitVec.getElem_not, BitVec.getElem_zero] at h3
      rw [BitVec.getElem_and]
      revert h3
      cases x.toBitVec[i] <;> cases (nI w).toBitVec[i] <;> simp
    have h5 := congrArg BitVec.toNat h2
    rw [BitVec.toNat_and] at h5
    have h6 : (nI w).toBitVec.toNat = w := by
      show (BitVec.ofNat 32 w).toNat = w
      rw [BitVec.toNat_ofNat]
      exact Nat.mod_eq_of_lt (by omega)
    rw [h6] at h5
    have : x.toBitVec.toNat &&& w ≤ w := Nat.and_le_right
    omega
  · apply Int32.toBitVec_inj.mp
    show _ = BitVec.ofNat 32 _
    simp
/-- an HOUR told: what it answers, what it leaves -/
def tryB (r : rT) (x : Int32) : Prop := x < 0 ∨ ¬ x &&& (nI (r 6 3) ^^^ -1) = 0
def tryA (r : rT) (x : Int32) : Int32 := if x < 0 ∨ ¬ x &&& (nI (r 6 3) ^^^ -1) = 0 then -1 else if r 6 3 = 0 then -2 else if 99 ≤ r 6 6 then -3 else nI (pc3 (r 6 3 &&& (7 - x.toNatClampNeg)))
def tryR (r : rT) (x : Int32) : rT := if x < 0 ∨ ¬ x &&& (nI (r 6 3) ^^^ -1) = 0 then r else if r 6 3 = 0 then r else if 99 ≤ r 6 6 then r else rpass r x.toNatClampNeg
set_option maxRecDepth 100000 in
set_option maxHeartbeats 4000000 in
theorem mX2_tryHour (r : rT) (x : Int32) (hr : rOK r) : J KX2_tryHour 7 (fun o B => o = some (.int (tryA r x)) ∧ B = wR (tryR r x)) 0 [some (.ref 0), some (.int x)] [] (wR r) 0 0 := by
  refine J.iload_n dX2_tryHour_0 rfl rfl ?_
  refine J.if_lt (tgt := 15) dX2_tryHour_1 (by decide) (fun c1 => ?_) (fun c1 => ?_)
  · refine J.iconst (-1) dX2_tryHour_15 (by decide) ?_
    first | (have e8 : tryA r x = _ := (if_pos (Or.inl c1)); have e9 : tryR r x = _ := (if_pos (Or.inl c1)); exact J.iret dX2_tryHour_16 rfl (by first | decide | rfl) (Nat.le_refl _) (Nat.le_refl _) ⟨by rw [e8] <;> rfl, by rw [e9] <;> rfl⟩) | (have e8 : tryA r x = _ := (if_pos (Or.inr c12)); have e9 : tryR r x = _ := (if_pos (Or.inr c12)); exact J.iret dX2_tryHour_16 rfl (by first | decide | rfl) (Nat.le_refl _) (Nat.le_refl _) ⟨by rw [e8] <;> rfl, by rw [e9] <;> rfl⟩)
  · refine J.iload_n dX2_tryHour_4 rfl rfl ?_
    refine J.aload_n dX2_tryHour_5 rfl rfl ?_
    refine J.getfield dX2_tryHour_6 jFX2_43 rfl rfl ?_
    refine J.iconst (-1) dX2_tryHour_9 (by decide) ?_
    refine J.ixor dX2_tryHour_10 ?_
    refine J.iand dX2_tryHour_11 ?_
    refine J.if_eq (tgt := 17) dX2_tryHour_12 (by decide) (fun c12 => ?_) (fun c12 => ?_)
    · refine J.aload_n dX2_tryHour_17 rfl rfl ?_
      refine J.getfield dX2_tryHour_18 jFX2_43 rfl rfl ?_
      refine J.if_ne (tgt := 27) dX2_tryHour_21 (by decide) (fun c21 => ?_) (fun c21 => ?_)
      · refine J.aload_n dX2_tryHour_27 rfl rfl ?_
        refine J.getfield dX2_tryHour_28 jFX2_52 rfl rfl ?_
        refine J.bipush (99) dX2_tryHour_31 (by decide) ?_
        refine J.icmp_lt (tgt := 39) dX2_tryHour_33 (by decide) (fun c33 => ?_) (fun c33 => ?_)
        · refine J.aload_n dX2_tryHour_39 rfl rfl ?_
          refine J.iload_n dX2_tryHour_40 rfl rfl ?_
          obtain ⟨b9, hb9, rfl⟩ := sub_of hr.w c12
          refine J.cv (as := [.int _]) (is := [0, 1, 2, 3, 4, 5, 6]) (o := 0) okX2_passHour jcX2_72 (mX2_passHour r b9 hr.1 hr.2.2.2.2.2.2.2.2.2.1 hr.w hb9) dX2_tryHour_41 rfl rfl rfl rfl rfl rfl rfl (fun r9 B9 hq => ?_)
          obtain ⟨rfl, rfl⟩ := hq
          refine ⟨rfl, ?_⟩
          show J _ _ _ _ _ [] (wR (rpass r b9)) _ _
          refine J.aload_n dX2_tryHour_44 rfl rfl ?_
          refine J.getfield dX2_tryHour_45 jFX2_43 rfl rfl ?_
          refine J.cs (as := [.int _]) (is := []) okJ6_bitCount_0f7a4 jcX2_63 (mJ6_bitCount_0f7a4 (r 6 3 &&& (7 - b9)) wo_7) dX2_tryHour_48 rfl rfl rfl rfl rfl rfl (fun r9 B9 hq => ?_)
          obtain ⟨rfl, rfl⟩ := hq
          refine ⟨rfl, ?_⟩
          show J _ _ _ _ _ (.int _ :: _) (wR (rpass r b9)) _ _
          have h99 : ¬ 99 ≤ r 6 6 := fun h => absurd ((nI_lti (b := 99) (by have := hr.2.2.2.2.2.2.2.1; omega) (by decide)).mp c33) (by omega)
          have e8 : tryA r (nI b9) = _ := (if_neg (fun h => h.elim c1 (fun h9 => h9 c12))).trans ((if_neg (fun h => c21 (congrArg nI h))).trans ((if_neg h99).trans (by rw [nI_clamp (show b9 < 2 ^ 31 by omega)])))
          have e9 : tryR r (nI b9) = _ := (if_neg (fun h => h.elim c1 (fun h9 => h9 c12))).trans ((if_neg (fun h => c21 (congrArg nI h))).trans ((if_neg h99).trans (by rw [nI_clamp (show b9 < 2 ^ 31 by omega)])))
          exact J.iret dX2_tryHour_51 rfl (by first | decide | rfl) (Nat.le_refl _) (Nat.le_refl _) ⟨by rw [e8] <;> rfl, by rw [e9] <;> rfl⟩
        · have h99 : 99 ≤ r 6 6 := Nat.not_lt.mp (fun h => c33 ((nI_lti (b := 99) (by omega) (by decide)).mpr h))
          refine J.bipush (-3) dX2_tryHour_36 (by decide) ?_
          have e8 : tryA r x = _ := (if_neg (fun h => h.elim c1 (fun h9 => h9 c12))).trans ((if_neg (fun h => c21 (congrArg nI h))).trans (if_pos h99))
          have e9 : tryR r x = _ := (if_neg (fun h => h.elim c1 (fun h9 => h9 c12))).trans ((if_neg (fun h => c21 (congrArg nI h))).trans (if_pos h99))
          exact J.iret dX2_tryHour_38 rfl (by first | decide | rfl) (Nat.le_refl _) (Nat.le_refl _) ⟨by rw [e8] <;> rfl, by rw [e9] <;> rfl⟩
      · refine J.bipush (-2) dX2_tryHour_24 (by decide) ?_
        have e8 : tryA r x = _ := (if_neg (fun h => h.elim c1 (fun h9 => h9 c12))).trans (if_pos ((nI_eqi (b := 0) (by have := hr.w; omega) (by decide)).mp c21))
        have e9 : tryR r x = _ := (if_neg (fun h => h.elim c1 (fun h9 => h9 c12))).trans (if_pos ((nI_eqi (b := 0) (by have := hr.w; omega) (by decide)).mp c21))
        exact J.iret dX2_tryHour_26 rfl (by first | decide | rfl) (Nat.le_refl _) (Nat.le_refl _) ⟨by rw [e8] <;> rfl, by rw [e9] <;> rfl⟩
    · refine J.iconst (-1) dX2_tryHour_15 (by decide) ?_
      first | (have e8 : tryA r x = _ := (if_pos (Or.inl c1)); have e9 : tryR r x = _ := (if_pos (Or.inl c1)); exact J.iret dX2_tryHour_16 rfl (by first | decide | rfl) (Nat.le_refl _) (Nat.le_refl _) ⟨by rw [e8] <;> rfl, by rw [e9] <;> rfl⟩) | (have e8 : tryA r x = _ := (if_pos (Or.inr c12)); have e9 : tryR r x = _ := (if_pos (Or.inr c12)); exact J.iret dX2_tryHour_16 rfl (by first | decide | rfl) (Nat.le_refl _) (Nat.le_refl _) ⟨by rw [e8] <;> rfl, by rw [e9] <;> rfl⟩)
end
section
theorem dX6_rule_0 : decode cX6_rule 0 = .ok (.iload_n 1, 1) := by decide +kernel
theorem dX6_rule_1 : decode cX6_rule 1 = .ok (.tableswitch 119 0 7 #[47, 55, 63, 71, 79, 87, 95, 103], 47) := by decide +kernel
theorem dX6_rule_48 : decode cX6_rule 48 = .ok (.aload_n 0, 1) := by decide +kernel
theorem dX6_rule_49 : decode cX6_rule 49 = .ok (.getfield 12, 3) := by decide +kernel
theorem dX6_rule_52 : decode cX6_rule 52 = .ok (.getfield 93, 3) := by decide +kernel
theorem dX6_rule_55 : decode cX6_rule 55 = .ok (.ireturn, 1) := by decide +kernel
theorem dX6_rule_56 : decode cX6_rule 56 = .ok (.aload_n 0, 1) := by decide +kernel
theorem dX6_rule_57 : decode cX6_rule 57 = .ok (.getfield 12, 3) := by decide +kernel
theorem dX6_rule_60 : decode cX6_rule 60 = .ok (.getfield 96, 3) := by decide +kernel
theorem dX6_rule_63 : decode cX6_rule 63 = .ok (.ireturn, 1) := by decide +kernel
theorem dX6_rule_64 : decode cX6_rule 64 = .ok (.aload_n 0, 1) := by decide +kernel
theorem dX6_rule_65 : decode cX6_rule 65 = .ok (.getfield 12, 3) := by decide +kernel
theorem dX6_rule_68 : decode cX6_rule 68 = .ok (.getfield 99, 3) := by decide +kernel
theorem dX6_rule_71 : decode cX6_rule 71 = .ok (.ireturn, 1) := by decide +kernel
theorem dX6_rule_72 : decode cX6_rule 72 = .ok (.aload_n 0, 1) := by decide +kernel
theorem dX6_rule_73 : decode cX6_rule 73 = .ok (.getfield 12, 3) := by decide +kernel
theorem dX6_rule_76 : decode cX6_rule 76 = .ok (.getfield 102, 3) := by decide +kernel
theorem dX6_rule_79 : decode cX6_rule 79 = .ok (.ireturn, 1) := by decide +kernel
theorem dX6_rule_80 : decode cX6_rule 80 = .ok (.aload_n 0, 1) := by decide +kernel
theorem dX6_rule_81 : decode cX6_rule 81 = .ok (.getfield 12, 3) := by decide +kernel
theorem dX6_rule_84 : decode cX6_rule 84 = .ok (.getfield 105, 3) := by decide +kernel
theorem dX6_rule_87 : decode cX6_rule 87 = .ok (.ireturn, 1) := by decide +kernel
theorem dX6_rule_88 : decode cX6_rule 88 = .ok (.aload_n 0, 1) := by decide +kernel
theorem dX6_rule_89 : decode cX6_rule 89 = .ok (.getfield 12, 3) := by decide +kernel
theorem dX6_rule_92 : decode cX6_rule 92 = .ok (.getfield 108, 3) := by decide +kernel
theorem dX6_rule_95 : decode cX6_rule 95 = .ok (.ireturn, 1) := by decide +kernel
theorem dX6_rule_96 : decode cX6_rule 96 = .ok (.aload_n 0, 1) := by decide +kernel
theorem dX6_rule_97 : decode cX6_rule 97 = .ok (.getfield 12, 3) := by decide +kernel
theorem dX6_rule_100 : decode cX6_rule 100 = .ok (.getfield 111, 3) := by decide +kernel
theorem dX6_rule_103 : decode cX6_rule 103 = .ok (.ireturn, 1) := by decide +kernel
theorem dX6_rule_104 : decode cX6_rule 104 = .ok (.aload_n 0, 1) := by decide +kernel
theorem dX6_rule_105 : decode cX6_rule 105 = .ok (.getfield 12, 3) := by decide +kernel
theorem dX6_rule_108 : decode cX6_rule 108 = .ok (.getfield 111, 3) := by decide +kernel
theorem dX6_rule_111 : decode cX6_rule 111 = .ok (.ifCond .ne 7, 3) := by decide +kernel
theorem dX6_rule_114 : decode cX6_rule 114 = .ok (.iconst 1, 1) := by decide +kernel
theorem dX6_rule_115 : decode cX6_rule 115 = .ok (.goto 4, 3) := by decide +kernel
theorem dX6_rule_118 : decode cX6_rule 118 = .ok (.iconst 0, 1) := by decide +kernel
theorem dX6_rule_119 : decode cX6_rule 119 = .ok (.ireturn, 1) := by decide +kernel
theorem dX6_rule_120 : decode cX6_rule 120 = .ok (.iconst (-1), 1) := by decide +kernel
theorem dX6_rule_121 : decode cX6_rule 121 = .ok (.ireturn, 1) := by decide +kernel
theorem dX6_hair_0 : decode cX6_hair 0 = .ok (.iload_n 1, 1) := by decide +kernel
theorem dX6_hair_1 : decode cX6_hair 1 = .ok (.iconst 0, 1) := by decide +kernel
theorem dX6_hair_2 : decode cX6_hair 2 = .ok (.aload_n 0, 1) := by decide +kernel
theorem dX6_hair_3 : decode cX6_hair 3 = .ok (.getfield 12, 3) := by decide +kernel
theorem dX6_hair_6 : decode cX6_hair 6 = .ok (.getfield 93, 3) := by decide +kernel
theorem dX6_hair_9 : decode cX6_hair 9 = .ok (.iconst 1, 1) := by decide +kernel
theorem dX6_hair_10 : decode cX6_hair 10 = .ok (.isub, 1) := by decide +kernel
theorem dX6_hair_11 : decode cX6_hair 11 = .ok (.invokestatic 59, 3) := by decide +kernel
theorem dX6_hair_14 : decode cX6_hair 14 = .ok (.ifCond .ne 5, 3) := by decide +kernel
theorem dX6_hair_17 : decode cX6_hair 17 = .ok (.iconst (-1), 1) := by decide +kernel
theorem dX6_hair_18 : decode cX6_hair 18 = .ok (.ireturn, 1) := by decide +kernel
theorem dX6_hair_19 : decode cX6_hair 19 = .ok (.iload_n 2, 1) := by decide +kernel
theorem dX6_hair_20 : decode cX6_hair 20 = .ok (.tableswitch 70 0 3 #[32, 42, 52, 61], 32) := by decide +kernel
theorem dX6_hair_52 : decode cX6_hair 52 = .ok (.aload_n 0, 1) := by decide +kernel
theorem dX6_hair_53 : decode cX6_hair 53 = .ok (.getfield 12, 3) := by decide +kernel
theorem dX6_hair_56 : decode cX6_hair 56 = .ok (.getfield 114, 3) := by decide +kernel
theorem dX6_hair_59 : decode cX6_hair 59 = .ok (.iload_n 1, 1) := by decide +kernel
theorem dX6_hair_60 : decode cX6_hair 60 = .ok (.iaload, 1) := by decide +kernel
theorem dX6_hair_61 : decode cX6_hair 61 = .ok (.ireturn, 1) := by decide +kernel
theorem dX6_hair_62 : decode cX6_hair 62 = .ok (.aload_n 0, 1) := by decide +kernel
theorem dX6_hair_63 : decode cX6_hair 63 = .ok (.getfield 12, 3) := by decide +kernel
theorem dX6_hair_66 : decode cX6_hair 66 = .ok (.getfield 118, 3) := by decide +kernel
theorem dX6_hair_69 : decode cX6_hair 69 = .ok (.iload_n 1, 1) := by decide +kernel
theorem dX6_hair_70 : decode cX6_hair 70 = .ok (.iaload, 1) := by decide +kernel
theorem dX6_hair_71 : decode cX6_hair 71 = .ok (.ireturn, 1) := by decide +kernel
theorem dX6_hair_72 : decode cX6_hair 72 = .ok (.aload_n 0, 1) := by decide +kernel
theorem dX6_hair_73 : decode cX6_hair 73 = .ok (.getfield 12, 3) := by decide +kernel
theorem dX6_hair_76 : decode cX6_hair 76 = .ok (.iload_n 1, 1) := by decide +kernel
theorem dX6_hair_77 : decode cX6_hair 77 = .ok (.invokevirtual 121, 3) := by decide +kernel
theorem dX6_hair_80 : decode cX6_hair 80 = .ok (.ireturn, 1) := by decide +kernel
theorem dX6_hair_81 : decode cX6_hair 81 = .ok (.aload_n 0, 1) := by decide +kernel
theorem dX6_hair_82 : decode cX6_hair 82 = .ok (.getfield 12, 3) := by decide +kernel
theorem dX6_hair_85 : decode cX6_hair 85 = .ok (.iload_n 1, 1) := by decide +kernel
theorem dX6_hair_86 : decode cX6_hair 86 = .ok (.invokevirtual 125, 3) := by decide +kernel
theorem dX6_hair_89 : decode cX6_hair 89 = .ok (.ireturn, 1) := by decide +kernel
theorem dX6_hair_90 : decode cX6_hair 90 = .ok (.iconst (-1), 1) := by decide +kernel
theorem dX6_hair_91 : decode cX6_hair 91 = .ok (.ireturn, 1) := by decide +kernel
theorem dX6_king_0 : decode cX6_king 0 = .ok (.iload_n 1, 1) := by decide +kernel
theorem dX6_king_1 : decode cX6_king 1 = .ok (.iconst 0, 1) := by decide +kernel
theorem dX6_king_2 : decode cX6_king 2 = .ok (.aload_n 0, 1) := by decide +kernel
theorem dX6_king_3 : decode cX6_king 3 = .ok (.getfield 12, 3) := by decide +kernel
theorem dX6_king_6 : decode cX6_king 6 = .ok (.getfield 96, 3) := by decide +kernel
theorem dX6_king_9 : decode cX6_king 9 = .ok (.iconst 1, 1) := by decide +kernel
theorem dX6_king_10 : decode cX6_king 10 = .ok (.isub, 1) := by decide +kernel
theorem dX6_king_11 : decode cX6_king 11 = .ok (.invokestatic 59, 3) := by decide +kernel
theorem dX6_king_14 : decode cX6_king 14 = .ok (.ifCond .eq 12, 3) := by decide +kernel
theorem dX6_king_17 : decode cX6_king 17 = .ok (.iload_n 2, 1) := by decide +kernel
theorem dX6_king_18 : decode cX6_king 18 = .ok (.iconst 0, 1) := by decide +kernel
theorem dX6_king_19 : decode cX6_king 19 = .ok (.iconst 1, 1) := by decide +kernel
theorem dX6_king_20 : decode cX6_king 20 = .ok (.invokestatic 59, 3) := by decide +kernel
theorem dX6_king_23 : decode cX6_king 23 = .ok (.ifCond .ne 5, 3) := by decide +kernel
theorem dX6_king_26 : decode cX6_king 26 = .ok (.iconst (-1), 1) := by decide +kernel
theorem dX6_king_27 : decode cX6_king 27 = .ok (.ireturn, 1) := by decide +kernel
theorem dX6_king_28 : decode cX6_king 28 = .ok (.iload_n 2, 1) := by decide +kernel
theorem dX6_king_29 : decode cX6_king 29 = .ok (.ifCond .ne 15, 3) := by decide +kernel
theorem dX6_king_32 : decode cX6_king 32 = .ok (.aload_n 0, 1) := by decide +kernel
theorem dX6_king_33 : decode cX6_king 33 = .ok (.getfield 12, 3) := by decide +kernel
theorem dX6_king_36 : decode cX6_king 36 = .ok (.getfield 128, 3) := by decide +kernel
theorem dX6_king_39 : decode cX6_king 39 = .ok (.iload_n 1, 1) := by decide +kernel
theorem dX6_king_40 : decode cX6_king 40 = .ok (.iaload, 1) := by decide +kernel
theorem dX6_king_41 : decode cX6_king 41 = .ok (.goto 12, 3) := by decide +kernel
theorem dX6_king_44 : decode cX6_king 44 = .ok (.aload_n 0, 1) := by decide +kernel
theorem dX6_king_45 : decode cX6_king 45 = .ok (.getfield 12, 3) := by decide +kernel
theorem dX6_king_48 : decode cX6_king 48 = .ok (.getfield 131, 3) := by decide +kernel
theorem dX6_king_51 : decode cX6_king 51 = .ok (.iload_n 1, 1) := by decide +kernel
theorem dX6_king_52 : decode cX6_king 52 = .ok (.iaload, 1) := by decide +kernel
theorem dX6_king_53 : decode cX6_king 53 = .ok (.ireturn, 1) := by decide +kernel
theorem dX6_law_0 : decode cX6_law 0 = .ok (.iload_n 1, 1) := by decide +kernel
theorem dX6_law_1 : decode cX6_law 1 = .ok (.iconst 0, 1) := by decide +kernel
theorem dX6_law_2 : decode cX6_law 2 = .ok (.aload_n 0, 1) := by decide +kernel
theorem dX6_law_3 : decode cX6_law 3 = .ok (.getfield 12, 3) := by decide +kernel
theorem dX6_law_6 : decode cX6_law 6 = .ok (.getfield 99, 3) := by decide +kernel
theorem dX6_law_9 : decode cX6_law 9 = .ok (.iconst 1, 1) := by decide +kernel
theorem dX6_law_10 : decode cX6_law 10 = .ok (.isub, 1) := by decide +kernel
theorem dX6_law_11 : decode cX6_law 11 = .ok (.invokestatic 59, 3) := by decide +kernel
theorem dX6_law_14 : decode cX6_law 14 = .ok (.ifCond .eq 12, 3) := by decide +kernel
theorem dX6_law_17 : decode cX6_law 17 = .ok (.iload_n 2, 1) := by decide +kernel
theorem dX6_law_18 : decode cX6_law 18 = .ok (.iconst 0, 1) := by decide +kernel
theorem dX6_law_19 : decode cX6_law 19 = .ok (.iconst 1, 1) := by decide +kernel
theorem dX6_law_20 : decode cX6_law 20 = .ok (.invokestatic 59, 3) := by decide +kernel
theorem dX6_law_23 : decode cX6_law 23 = .ok (.ifCond .ne 5, 3) := by decide +kernel
theorem dX6_law_26 : decode cX6_law 26 = .ok (.iconst (-1), 1) := by decide +kernel
theorem dX6_law_27 : decode cX6_law 27 = .ok (.ireturn, 1) := by decide +kernel
theorem dX6_law_28 : decode cX6_law 28 = .ok (.iload_n 2, 1) := by decide +kernel
theorem dX6_law_29 : decode cX6_law 29 = .ok (.ifCond .ne 15, 3) := by decide +kernel
theorem dX6_law_32 : decode cX6_law 32 = .ok (.aload_n 0, 1) := by decide +kernel
theorem dX6_law_33 : decode cX6_law 33 = .ok (.getfield 12, 3) := by decide +kernel
theorem dX6_law_36 : decode cX6_law 36 = .ok (.getfield 134, 3) := by decide +kernel
theorem dX6_law_39 : decode cX6_law 39 = .ok (.iload_n 1, 1) := by decide +kernel
theorem dX6_law_40 : decode cX6_law 40 = .ok (.iaload, 1) := by decide +kernel
theorem dX6_law_41 : decode cX6_law 41 = .ok (.goto 12, 3) := by decide +kernel
theorem dX6_law_44 : decode cX6_law 44 = .ok (.aload_n 0, 1) := by decide +kernel
theorem dX6_law_45 : decode cX6_law 45 = .ok (.getfield 12, 3) := by decide +kernel
theorem dX6_law_48 : decode cX6_law 48 = .ok (.getfield 137, 3) := by decide +kernel
theorem dX6_law_51 : decode cX6_law 51 = .ok (.iload_n 1, 1) := by decide +kernel
theorem dX6_law_52 : decode cX6_law 52 = .ok (.iaload, 1) := by decide +kernel
theorem dX6_law_53 : decode cX6_law 53 = .ok (.ireturn, 1) := by decide +kernel
theorem dX6_set_0 : decode cX6_set 0 = .ok (.iload_n 1, 1) := by decide +kernel
theorem dX6_set_1 : decode cX6_set 1 = .ok (.ifCond .ne 31, 3) := by decide +kernel
theorem dX6_set_4 : decode cX6_set 4 = .ok (.iload_n 2, 1) := by decide +kernel
theorem dX6_set_5 : decode cX6_set 5 = .ok (.iconst 1, 1) := by decide +kernel
theorem dX6_set_6 : decode cX6_set 6 = .ok (.bipush 9, 2) := by decide +kernel
theorem dX6_set_8 : decode cX6_set 8 = .ok (.invokestatic 59, 3) := by decide +kernel
theorem dX6_set_11 : decode cX6_set 11 = .ok (.ifCond .eq 21, 3) := by decide +kernel
theorem dX6_set_14 : decode cX6_set 14 = .ok (.aload_n 0, 1) := by decide +kernel
theorem dX6_set_15 : decode cX6_set 15 = .ok (.getfield 12, 3) := by decide +kernel
theorem dX6_set_18 : decode cX6_set 18 = .ok (.getfield 102, 3) := by decide +kernel
theorem dX6_set_21 : decode cX6_set 21 = .ok (.istore_n 3, 1) := by decide +kernel
theorem dX6_set_22 : decode cX6_set 22 = .ok (.aload_n 0, 1) := by decide +kernel
theorem dX6_set_23 : decode cX6_set 23 = .ok (.getfield 12, 3) := by decide +kernel
theorem dX6_set_26 : decode cX6_set 26 = .ok (.iload_n 2, 1) := by decide +kernel
theorem dX6_set_27 : decode cX6_set 27 = .ok (.putfield 102, 3) := by decide +kernel
theorem dX6_set_30 : decode cX6_set 30 = .ok (.iload_n 3, 1) := by decide +kernel
theorem dX6_set_31 : decode cX6_set 31 = .ok (.ireturn, 1) := by decide +kernel
theorem dX6_set_32 : decode cX6_set 32 = .ok (.iload_n 1, 1) := by decide +kernel
theorem dX6_set_33 : decode cX6_set 33 = .ok (.iconst 1, 1) := by decide +kernel
theorem dX6_set_34 : decode cX6_set 34 = .ok (.if_icmp .ne 31, 3) := by decide +kernel
theorem dX6_set_37 : decode cX6_set 37 = .ok (.iload_n 2, 1) := by decide +kernel
theorem dX6_set_38 : decode cX6_set 38 = .ok (.iconst 0, 1) := by decide +kernel
theorem dX6_set_39 : decode cX6_set 39 = .ok (.bipush 99, 2) := by decide +kernel
theorem dX6_set_41 : decode cX6_set 41 = .ok (.invokestatic 59, 3) := by decide +kernel
theorem dX6_set_44 : decode cX6_set 44 = .ok (.ifCond .eq 21, 3) := by decide +kernel
theorem dX6_set_47 : decode cX6_set 47 = .ok (.aload_n 0, 1) := by decide +kernel
theorem dX6_set_48 : decode cX6_set 48 = .ok (.getfield 12, 3) := by decide +kernel
theorem dX6_set_51 : decode cX6_set 51 = .ok (.getfield 105, 3) := by decide +kernel
theorem dX6_set_54 : decode cX6_set 54 = .ok (.istore_n 3, 1) := by decide +kernel
theorem dX6_set_55 : decode cX6_set 55 = .ok (.aload_n 0, 1) := by decide +kernel
theorem dX6_set_56 : decode cX6_set 56 = .ok (.getfield 12, 3) := by decide +kernel
theorem dX6_set_59 : decode cX6_set 59 = .ok (.iload_n 2, 1) := by decide +kernel
theorem dX6_set_60 : decode cX6_set 60 = .ok (.putfield 105, 3) := by decide +kernel
theorem dX6_set_63 : decode cX6_set 63 = .ok (.iload_n 3, 1) := by decide +kernel
theorem dX6_set_64 : decode cX6_set 64 = .ok (.ireturn, 1) := by decide +kernel
theorem dX6_set_65 : decode cX6_set 65 = .ok (.iconst (-1), 1) := by decide +kernel
theorem dX6_set_66 : decode cX6_set 66 = .ok (.ireturn, 1) := by decide +kernel
theorem dX6_age_0 : decode cX6_age 0 = .ok (.iload_n 1, 1) := by decide +kernel
theorem dX6_age_1 : decode cX6_age 1 = .ok (.iconst 0, 1) := by decide +kernel
theorem dX6_age_2 : decode cX6_age 2 = .ok (.aload_n 0, 1) := by decide +kernel
theorem dX6_age_3 : decode cX6_age 3 = .ok (.getfield 12, 3) := by decide +kernel
theorem dX6_age_6 : decode cX6_age 6 = .ok (.getfield 93, 3) := by decide +kernel
theorem dX6_age_9 : decode cX6_age 9 = .ok (.iconst 1, 1) := by decide +kernel
theorem dX6_age_10 : decode cX6_age 10 = .ok (.isub, 1) := by decide +kernel
theorem dX6_age_11 : decode cX6_age 11 = .ok (.invokestatic 59, 3) := by decide +kernel
theorem dX6_age_14 : decode cX6_age 14 = .ok (.ifCond .eq 13, 3) := by decide +kernel
theorem dX6_age_17 : decode cX6_age 17 = .ok (.iload_n 2, 1) := by decide +kernel
theorem dX6_age_18 : decode cX6_age 18 = .ok (.iconst 0, 1) := by decide +kernel
theorem dX6_age_19 : decode cX6_age 19 = .ok (.bipush 9, 2) := by decide +kernel
theorem dX6_age_21 : decode cX6_age 21 = .ok (.invokestatic 59, 3) := by decide +kernel
theorem dX6_age_24 : decode cX6_age 24 = .ok (.ifCond .ne 5, 3) := by decide +kernel
theorem dX6_age_27 : decode cX6_age 27 = .ok (.iconst (-1), 1) := by decide +kernel
theorem dX6_age_28 : decode cX6_age 28 = .ok (.ireturn, 1) := by decide +kernel
theorem dX6_age_29 : decode cX6_age 29 = .ok (.aload_n 0, 1) := by decide +kernel
theorem dX6_age_30 : decode cX6_age 30 = .ok (.getfield 12, 3) := by decide +kernel
theorem dX6_age_33 : decode cX6_age 33 = .ok (.getfield 118, 3) := by decide +kernel
theorem dX6_age_36 : decode cX6_age 36 = .ok (.iload_n 1, 1) := by decide +kernel
theorem dX6_age_37 : decode cX6_age 37 = .ok (.iaload, 1) := by decide +kernel
theorem dX6_age_38 : decode cX6_age 38 = .ok (.istore_n 3, 1) := by decide +kernel
theorem dX6_age_39 : decode cX6_age 39 = .ok (.aload_n 0, 1) := by decide +kernel
theorem dX6_age_40 : decode cX6_age 40 = .ok (.getfield 12, 3) := by decide +kernel
theorem dX6_age_43 : decode cX6_age 43 = .ok (.getfield 118, 3) := by decide +kernel
theorem dX6_age_46 : decode cX6_age 46 = .ok (.iload_n 1, 1) := by decide +kernel
theorem dX6_age_47 : decode cX6_age 47 = .ok (.iload_n 2, 1) := by decide +kernel
theorem dX6_age_48 : decode cX6_age 48 = .ok (.iastore, 1) := by decide +kernel
theorem dX6_age_49 : decode cX6_age 49 = .ok (.iload_n 3, 1) := by decide +kernel
theorem dX6_age_50 : decode cX6_age 50 = .ok (.ireturn, 1) := by decide +kernel
theorem dX6_dye_0 : decode cX6_dye 0 = .ok (.iload_n 1, 1) := by decide +kernel
theorem dX6_dye_1 : decode cX6_dye 1 = .ok (.iconst 0, 1) := by decide +kernel
theorem dX6_dye_2 : decode cX6_dye 2 = .ok (.aload_n 0, 1) := by decide +kernel
theorem dX6_dye_3 : decode cX6_dye 3 = .ok (.getfield 12, 3) := by decide +kernel
theorem dX6_dye_6 : decode cX6_dye 6 = .ok (.getfield 93, 3) := by decide +kernel
theorem dX6_dye_9 : decode cX6_dye 9 = .ok (.iconst 1, 1) := by decide +kernel
theorem dX6_dye_10 : decode cX6_dye 10 = .ok (.isub, 1) := by decide +kernel
theorem dX6_dye_11 : decode cX6_dye 11 = .ok (.invokestatic 59, 3) := by decide +kernel
theorem dX6_dye_14 : decode cX6_dye 14 = .ok (.ifCond .eq 12, 3) := by decide +kernel
theorem dX6_dye_17 : decode cX6_dye 17 = .ok (.iload_n 2, 1) := by decide +kernel
theorem dX6_dye_18 : decode cX6_dye 18 = .ok (.iconst 0, 1) := by decide +kernel
theorem dX6_dye_19 : decode cX6_dye 19 = .ok (.iconst 4, 1) := by decide +kernel
theorem dX6_dye_20 : decode cX6_dye 20 = .ok (.invokestatic 59, 3) := by decide +kernel
theorem dX6_dye_23 : decode cX6_dye 23 = .ok (.ifCond .ne 5, 3) := by decide +kernel
theorem dX6_dye_26 : decode cX6_dye 26 = .ok (.iconst (-1), 1) := by decide +kernel
theorem dX6_dye_27 : decode cX6_dye 27 = .ok (.ireturn, 1) := by decide +kernel
theorem dX6_dye_28 : decode cX6_dye 28 = .ok (.aload_n 0, 1) := by decide +kernel
theorem dX6_dye_29 : decode cX6_dye 29 = .ok (.getfield 12, 3) := by decide +kernel
theorem dX6_dye_32 : decode cX6_dye 32 = .ok (.getfield 114, 3) := by decide +kernel
theorem dX6_dye_35 : decode cX6_dye 35 = .ok (.iload_n 1, 1) := by decide +kernel
theorem dX6_dye_36 : decode cX6_dye 36 = .ok (.iaload, 1) := by decide +kernel
theorem dX6_dye_37 : decode cX6_dye 37 = .ok (.istore_n 3, 1) := by decide +kernel
theorem dX6_dye_38 : decode cX6_dye 38 = .ok (.aload_n 0, 1) := by decide +kernel
theorem dX6_dye_39 : decode cX6_dye 39 = .ok (.getfield 12, 3) := by decide +kernel
theorem dX6_dye_42 : decode cX6_dye 42 = .ok (.getfield 114, 3) := by decide +kernel
theorem dX6_dye_45 : decode cX6_dye 45 = .ok (.iload_n 1, 1) := by decide +kernel
theorem dX6_dye_46 : decode cX6_dye 46 = .ok (.iload_n 2, 1) := by decide +kernel
theorem dX6_dye_47 : decode cX6_dye 47 = .ok (.iastore, 1) := by decide +kernel
theorem dX6_dye_48 : decode cX6_dye 48 = .ok (.iload_n 3, 1) := by decide +kernel
theorem dX6_dye_49 : decode cX6_dye 49 = .ok (.ireturn, 1) := by decide +kernel
theorem dX6_knot_0 : decode cX6_knot 0 = .ok (.iload_n 1, 1) := by decide +kernel
theorem dX6_knot_1 : decode cX6_knot 1 = .ok (.iconst 0, 1) := by decide +kernel
theorem dX6_knot_2 : decode cX6_knot 2 = .ok (.aload_n 0, 1) := by decide +kernel
theorem dX6_knot_3 : decode cX6_knot 3 = .ok (.getfield 12, 3) := by decide +kernel
theorem dX6_knot_6 : decode cX6_knot 6 = .ok (.getfield 93, 3) := by decide +kernel
theorem dX6_knot_9 : decode cX6_knot 9 = .ok (.iconst 1, 1) := by decide +kernel
theorem dX6_knot_10 : decode cX6_knot 10 = .ok (.isub, 1) := by decide +kernel
theorem dX6_knot_11 : decode cX6_knot 11 = .ok (.invokestatic 59, 3) := by decide +kernel
theorem dX6_knot_14 : decode cX6_knot 14 = .ok (.ifCond .ne 5, 3) := by decide +kernel
theorem dX6_knot_17 : decode cX6_knot 17 = .ok (.iconst (-1), 1) := by decide +kernel
theorem dX6_knot_18 : decode cX6_knot 18 = .ok (.ireturn, 1) := by decide +kernel
theorem dX6_knot_19 : decode cX6_knot 19 = .ok (.aload_n 0, 1) := by decide +kernel
theorem dX6_knot_20 : decode cX6_knot 20 = .ok (.getfield 12, 3) := by decide +kernel
theorem dX6_knot_23 : decode cX6_knot 23 = .ok (.iload_n 1, 1) := by decide +kernel
theorem dX6_knot_24 : decode cX6_knot 24 = .ok (.invokevirtual 121, 3) := by decide +kernel
theorem dX6_knot_27 : decode cX6_knot 27 = .ok (.istore_n 3, 1) := by decide +kernel
theorem dX6_knot_28 : decode cX6_knot 28 = .ok (.iload_n 2, 1) := by decide +kernel
theorem dX6_knot_29 : decode cX6_knot 29 = .ok (.ifCond .eq 31, 3) := by decide +kernel
theorem dX6_knot_32 : decode cX6_knot 32 = .ok (.aload_n 0, 1) := by decide +kernel
theorem dX6_knot_33 : decode cX6_knot 33 = .ok (.getfield 12, 3) := by decide +kernel
theorem dX6_knot_36 : decode cX6_knot 36 = .ok (.dup, 1) := by decide +kernel
theorem dX6_knot_37 : decode cX6_knot 37 = .ok (.getfield 111, 3) := by decide +kernel
theorem dX6_knot_40 : decode cX6_knot 40 = .ok (.iconst 1, 1) := by decide +kernel
theorem dX6_knot_41 : decode cX6_knot 41 = .ok (.iload_n 1, 1) := by decide +kernel
theorem dX6_knot_42 : decode cX6_knot 42 = .ok (.ishl, 1) := by decide +kernel
theorem dX6_knot_43 : decode cX6_knot 43 = .ok (.ior, 1) := by decide +kernel
theorem dX6_knot_44 : decode cX6_knot 44 = .ok (.putfield 111, 3) := by decide +kernel
theorem dX6_knot_47 : decode cX6_knot 47 = .ok (.aload_n 0, 1) := by decide +kernel
theorem dX6_knot_48 : decode cX6_knot 48 = .ok (.getfield 12, 3) := by decide +kernel
theorem dX6_knot_51 : decode cX6_knot 51 = .ok (.getfield 118, 3) := by decide +kernel
theorem dX6_knot_54 : decode cX6_knot 54 = .ok (.iload_n 1, 1) := by decide +kernel
theorem dX6_knot_55 : decode cX6_knot 55 = .ok (.iconst 0, 1) := by decide +kernel
theorem dX6_knot_56 : decode cX6_knot 56 = .ok (.iastore, 1) := by decide +kernel
theorem dX6_knot_57 : decode cX6_knot 57 = .ok (.goto 20, 3) := by decide +kernel
theorem dX6_knot_60 : decode cX6_knot 60 = .ok (.aload_n 0, 1) := by decide +kernel
theorem dX6_knot_61 : decode cX6_knot 61 = .ok (.getfield 12, 3) := by decide +kernel
theorem dX6_knot_64 : decode cX6_knot 64 = .ok (.dup, 1) := by decide +kernel
theorem dX6_knot_65 : decode cX6_knot 65 = .ok (.getfield 111, 3) := by decide +kernel
theorem dX6_knot_68 : decode cX6_knot 68 = .ok (.iconst 1, 1) := by decide +kernel
theorem dX6_knot_69 : decode cX6_knot 69 = .ok (.iload_n 1, 1) := by decide +kernel
theorem dX6_knot_70 : decode cX6_knot 70 = .ok (.ishl, 1) := by decide +kernel
theorem dX6_knot_71 : decode cX6_knot 71 = .ok (.iconst (-1), 1) := by decide +kernel
theorem dX6_knot_72 : decode cX6_knot 72 = .ok (.ixor, 1) := by decide +kernel
theorem dX6_knot_73 : decode cX6_knot 73 = .ok (.iand, 1) := by decide +kernel
theorem dX6_knot_74 : decode cX6_knot 74 = .ok (.putfield 111, 3) := by decide +kernel
theorem dX6_knot_77 : decode cX6_knot 77 = .ok (.iload_n 3, 1) := by decide +kernel
theorem dX6_knot_78 : decode cX6_knot 78 = .ok (.ireturn, 1) := by decide +kernel
theorem dX6_pay_0 : decode cX6_pay 0 = .ok (.iload_n 1, 1) := by decide +kernel
theorem dX6_pay_1 : decode cX6_pay 1 = .ok (.iconst 0, 1) := by decide +kernel
theorem dX6_pay_2 : decode cX6_pay 2 = .ok (.aload_n 0, 1) := by decide +kernel
theorem dX6_pay_3 : decode cX6_pay 3 = .ok (.getfield 12, 3) := by decide +kernel
theorem dX6_pay_6 : decode cX6_pay 6 = .ok (.getfield 96, 3) := by decide +kernel
theorem dX6_pay_9 : decode cX6_pay 9 = .ok (.iconst 1, 1) := by decide +kernel
theorem dX6_pay_10 : decode cX6_pay 10 = .ok (.isub, 1) := by decide +kernel
theorem dX6_pay_11 : decode cX6_pay 11 = .ok (.invokestatic 59, 3) := by decide +kernel
theorem dX6_pay_14 : decode cX6_pay 14 = .ok (.ifCond .ne 5, 3) := by decide +kernel
theorem dX6_pay_17 : decode cX6_pay 17 = .ok (.iconst (-1), 1) := by decide +kernel
theorem dX6_pay_18 : decode cX6_pay 18 = .ok (.ireturn, 1) := by decide +kernel
theorem dX6_pay_19 : decode cX6_pay 19 = .ok (.iload_n 2, 1) := by decide +kernel
theorem dX6_pay_20 : decode cX6_pay 20 = .ok (.ifCond .ne 37, 3) := by decide +kernel
theorem dX6_pay_23 : decode cX6_pay 23 = .ok (.iload_n 3, 1) := by decide +kernel
theorem dX6_pay_24 : decode cX6_pay 24 = .ok (.iconst 0, 1) := by decide +kernel
theorem dX6_pay_25 : decode cX6_pay 25 = .ok (.bipush 9, 2) := by decide +kernel
theorem dX6_pay_27 : decode cX6_pay 27 = .ok (.invokestatic 59, 3) := by decide +kernel
theorem dX6_pay_30 : decode cX6_pay 30 = .ok (.ifCond .eq 27, 3) := by decide +kernel
theorem dX6_pay_33 : decode cX6_pay 33 = .ok (.aload_n 0, 1) := by decide +kernel
theorem dX6_pay_34 : decode cX6_pay 34 = .ok (.getfield 12, 3) := by decide +kernel
theorem dX6_pay_37 : decode cX6_pay 37 = .ok (.getfield 128, 3) := by decide +kernel
theorem dX6_pay_40 : decode cX6_pay 40 = .ok (.iload_n 1, 1) := by decide +kernel
theorem dX6_pay_41 : decode cX6_pay 41 = .ok (.iaload, 1) := by decide +kernel
theorem dX6_pay_42 : decode cX6_pay 42 = .ok (.istore 4, 2) := by decide +kernel
theorem dX6_pay_44 : decode cX6_pay 44 = .ok (.aload_n 0, 1) := by decide +kernel
theorem dX6_pay_45 : decode cX6_pay 45 = .ok (.getfield 12, 3) := by decide +kernel
theorem dX6_pay_48 : decode cX6_pay 48 = .ok (.getfield 128, 3) := by decide +kernel
theorem dX6_pay_51 : decode cX6_pay 51 = .ok (.iload_n 1, 1) := by decide +kernel
theorem dX6_pay_52 : decode cX6_pay 52 = .ok (.iload_n 3, 1) := by decide +kernel
theorem dX6_pay_53 : decode cX6_pay 53 = .ok (.iastore, 1) := by decide +kernel
theorem dX6_pay_54 : decode cX6_pay 54 = .ok (.iload 4, 2) := by decide +kernel
theorem dX6_pay_56 : decode cX6_pay 56 = .ok (.ireturn, 1) := by decide +kernel
theorem dX6_pay_57 : decode cX6_pay 57 = .ok (.iload_n 2, 1) := by decide +kernel
theorem dX6_pay_58 : decode cX6_pay 58 = .ok (.iconst 1, 1) := by decide +kernel
theorem dX6_pay_59 : decode cX6_pay 59 = .ok (.if_icmp .ne 37, 3) := by decide +kernel
theorem dX6_pay_62 : decode cX6_pay 62 = .ok (.iload_n 3, 1) := by decide +kernel
theorem dX6_pay_63 : decode cX6_pay 63 = .ok (.iconst 0, 1) := by decide +kernel
theorem dX6_pay_64 : decode cX6_pay 64 = .ok (.bipush 99, 2) := by decide +kernel
theorem dX6_pay_66 : decode cX6_pay 66 = .ok (.invokestatic 59, 3) := by decide +kernel
theorem dX6_pay_69 : decode cX6_pay 69 = .ok (.ifCond .eq 27, 3) := by decide +kernel
theorem dX6_pay_72 : decode cX6_pay 72 = .ok (.aload_n 0, 1) := by decide +kernel
theorem dX6_pay_73 : decode cX6_pay 73 = .ok (.getfield 12, 3) := by decide +kernel
theorem dX6_pay_76 : decode cX6_pay 76 = .ok (.getfield 131, 3) := by decide +kernel
theorem dX6_pay_79 : decode cX6_pay 79 = .ok (.iload_n 1, 1) := by decide +kernel
theorem dX6_pay_80 : decode cX6_pay 80 = .ok (.iaload, 1) := by decide +kernel
theorem dX6_pay_81 : decode cX6_pay 81 = .ok (.istore 4, 2) := by decide +kernel
theorem dX6_pay_83 : decode cX6_pay 83 = .ok (.aload_n 0, 1) := by decide +kernel
theorem dX6_pay_84 : decode cX6_pay 84 = .ok (.getfield 12, 3) := by decide +kernel
theorem dX6_pay_87 : decode cX6_pay 87 = .ok (.getfield 131, 3) := by decide +kernel
theorem dX6_pay_90 : decode cX6_pay 90 = .ok (.iload_n 1, 1) := by decide +kernel
theorem dX6_pay_91 : decode cX6_pay 91 = .ok (.iload_n 3, 1) := by decide +kernel
theorem dX6_pay_92 : decode cX6_pay 92 = .ok (.iastore, 1) := by decide +kernel
theorem dX6_pay_93 : decode cX6_pay 93 = .ok (.iload 4, 2) := by decide +kernel
theorem dX6_pay_95 : decode cX6_pay 95 = .ok (.ireturn, 1) := by decide +kernel
theorem dX6_pay_96 : decode cX6_pay 96 = .ok (.iconst (-1), 1) := by decide +kernel
theorem dX6_pay_97 : decode cX6_pay 97 = .ok (.ireturn, 1) := by decide +kernel
theorem dX6_hour_0 : decode cX6_hour 0 = .ok (.aload_n 0, 1) := by decide +kernel
theorem dX6_hour_1 : decode cX6_hour 1 = .ok (.getfield 12, 3) := by decide +kernel
theorem dX6_hour_4 : decode cX6_hour 4 = .ok (.iload_n 1, 1) := by decide +kernel
theorem dX6_hour_5 : decode cX6_hour 5 = .ok (.invokevirtual 140, 3) := by decide +kernel
theorem dX6_hour_8 : decode cX6_hour 8 = .ok (.ireturn, 1) := by decide +kernel
theorem dX6_fault_0 : decode cX6_fault 0 = .ok (.aload_n 0, 1) := by decide +kernel
theorem dX6_fault_1 : decode cX6_fault 1 = .ok (.getfield 30, 3) := by decide +kernel
theorem dX6_fault_4 : decode cX6_fault 4 = .ok (.getfield 80, 3) := by decide +kernel
theorem dX6_fault_7 : decode cX6_fault 7 = .ok (.ireturn, 1) := by decide +kernel
theorem dX6_torn_0 : decode cX6_torn 0 = .ok (.aload_n 0, 1) := by decide +kernel
theorem dX6_torn_1 : decode cX6_torn 1 = .ok (.getfield 54, 3) := by decide +kernel
theorem dX6_torn_4 : decode cX6_torn 4 = .ok (.ireturn, 1) := by decide +kernel
theorem dX6_see_0 : decode cX6_see 0 = .ok (.iload_n 1, 1) := by decide +kernel
theorem dX6_see_1 : decode cX6_see 1 = .ok (.invokestatic 143, 3) := by decide +kernel
theorem dX6_see_4 : decode cX6_see 4 = .ok (.ifCond .eq 12, 3) := by decide +kernel
theorem dX6_see_7 : decode cX6_see 7 = .ok (.iload_n 2, 1) := by decide +kernel
theorem dX6_see_8 : decode cX6_see 8 = .ok (.iconst 0, 1) := by decide +kernel
theorem dX6_see_9 : decode cX6_see 9 = .ok (.iconst 3, 1) := by decide +kernel
theorem dX6_see_10 : decode cX6_see 10 = .ok (.invokestatic 59, 3) := by decide +kernel
theorem dX6_see_13 : decode cX6_see 13 = .ok (.ifCond .ne 5, 3) := by decide +kernel
theorem dX6_see_16 : decode cX6_see 16 = .ok (.iconst (-1), 1) := by decide +kernel
theorem dX6_see_17 : decode cX6_see 17 = .ok (.ireturn, 1) := by decide +kernel
theorem dX6_see_18 : decode cX6_see 18 = .ok (.aload_n 0, 1) := by decide +kernel
theorem dX6_see_19 : decode cX6_see 19 = .ok (.getfield 44, 3) := by decide +kernel
theorem dX6_see_22 : decode cX6_see 22 = .ok (.iload_n 1, 1) := by decide +kernel
theorem dX6_see_23 : decode cX6_see 23 = .ok (.iload_n 2, 1) := by decide +kernel
theorem dX6_see_24 : decode cX6_see 24 = .ok (.invokevirtual 215, 3) := by decide +kernel
theorem dX6_see_27 : decode cX6_see 27 = .ok (.ifCond .eq 13, 3) := by decide +kernel
theorem dX6_see_30 : decode cX6_see 30 = .ok (.aload_n 0, 1) := by decide +kernel
theorem dX6_see_31 : decode cX6_see 31 = .ok (.getfield 44, 3) := by decide +kernel
theorem dX6_see_34 : decode cX6_see 34 = .ok (.getfield 90, 3) := by decide +kernel
theorem dX6_see_37 : decode cX6_see 37 = .ok (.goto 5, 3) := by decide +kernel
theorem dX6_see_40 : decode cX6_see 40 = .ok (.bipush (-3), 2) := by decide +kernel
theorem dX6_see_42 : decode cX6_see 42 = .ok (.ireturn, 1) := by decide +kernel
theorem dX6_forget_0 : decode cX6_forget 0 = .ok (.iload_n 1, 1) := by decide +kernel
theorem dX6_forget_1 : decode cX6_forget 1 = .ok (.iconst 0, 1) := by decide +kernel
theorem dX6_forget_2 : decode cX6_forget 2 = .ok (.aload_n 0, 1) := by decide +kernel
theorem dX6_forget_3 : decode cX6_forget 3 = .ok (.getfield 44, 3) := by decide +kernel
theorem dX6_forget_6 : decode cX6_forget 6 = .ok (.getfield 90, 3) := by decide +kernel
theorem dX6_forget_9 : decode cX6_forget 9 = .ok (.invokestatic 59, 3) := by decide +kernel
theorem dX6_forget_12 : decode cX6_forget 12 = .ok (.ifCond .ne 5, 3) := by decide +kernel
theorem dX6_forget_15 : decode cX6_forget 15 = .ok (.iconst (-1), 1) := by decide +kernel
theorem dX6_forget_16 : decode cX6_forget 16 = .ok (.ireturn, 1) := by decide +kernel
theorem dX6_forget_17 : decode cX6_forget 17 = .ok (.aload_n 0, 1) := by decide +kernel
theorem dX6_forget_18 : decode cX6_forget 18 = .ok (.getfield 44, 3) := by decide +kernel
theorem dX6_forget_21 : decode cX6_forget 21 = .ok (.getfield 90, 3) := by decide +kernel
theorem dX6_forget_24 : decode cX6_forget 24 = .ok (.istore_n 2, 1) := by decide +kernel
theorem dX6_forget_25 : decode cX6_forget 25 = .ok (.aload_n 0, 1) := by decide +kernel
theorem dX6_forget_26 : decode cX6_forget 26 = .ok (.getfield 44, 3) := by decide +kernel
theorem dX6_forget_29 : decode cX6_forget 29 = .ok (.iload_n 1, 1) := by decide +kernel
theorem dX6_forget_30 : decode cX6_forget 30 = .ok (.putfield 90, 3) := by decide +kernel
theorem dX6_forget_33 : decode cX6_forget 33 = .ok (.iload_n 2, 1) := by decide +kernel
theorem dX6_forget_34 : decode cX6_forget 34 = .ok (.ireturn, 1) := by decide +kernel
theorem dX6_feed_0 : decode cX6_feed 0 = .ok (.iload_n 1, 1) := by decide +kernel
theorem dX6_feed_1 : decode cX6_feed 1 = .ok (.iconst 0, 1) := by decide +kernel
theorem dX6_feed_2 : decode cX6_feed 2 = .ok (.bipush 127, 2) := by decide +kernel
theorem dX6_feed_4 : decode cX6_feed 4 = .ok (.invokestatic 59, 3) := by decide +kernel
theorem dX6_feed_7 : decode cX6_feed 7 = .ok (.ifCond .ne 5, 3) := by decide +kernel
theorem dX6_feed_10 : decode cX6_feed 10 = .ok (.iconst (-1), 1) := by decide +kernel
theorem dX6_feed_11 : decode cX6_feed 11 = .ok (.ireturn, 1) := by decide +kernel
theorem dX6_feed_12 : decode cX6_feed 12 = .ok (.aload_n 0, 1) := by decide +kernel
theorem dX6_feed_13 : decode cX6_feed 13 = .ok (.getfield 30, 3) := by decide +kernel
theorem dX6_feed_16 : decode cX6_feed 16 = .ok (.getfield 63, 3) := by decide +kernel
theorem dX6_feed_19 : decode cX6_feed 19 = .ok (.iload_n 1, 1) := by decide +kernel
theorem dX6_feed_20 : decode cX6_feed 20 = .ok (.invokevirtual 67, 3) := by decide +kernel
theorem dX6_feed_23 : decode cX6_feed 23 = .ok (.ifCond .eq 16, 3) := by decide +kernel
theorem dX6_feed_26 : decode cX6_feed 26 = .ok (.aload_n 0, 1) := by decide +kernel
theorem dX6_feed_27 : decode cX6_feed 27 = .ok (.getfield 30, 3) := by decide +kernel
theorem dX6_feed_30 : decode cX6_feed 30 = .ok (.getfield 63, 3) := by decide +kernel
theorem dX6_feed_33 : decode cX6_feed 33 = .ok (.getfield 73, 3) := by decide +kernel
theorem dX6_feed_36 : decode cX6_feed 36 = .ok (.goto 5, 3) := by decide +kernel
theorem dX6_feed_39 : decode cX6_feed 39 = .ok (.bipush (-3), 2) := by decide +kernel
theorem dX6_feed_41 : decode cX6_feed 41 = .ok (.ireturn, 1) := by decide +kernel
theorem dX6_end_0 : decode cX6_end 0 = .ok (.iload_n 1, 1) := by decide +kernel
theorem dX6_end_1 : decode cX6_end 1 = .ok (.iconst 0, 1) := by decide +kernel
theorem dX6_end_2 : decode cX6_end 2 = .ok (.aload_n 0, 1) := by decide +kernel
theorem dX6_end_3 : decode cX6_end 3 = .ok (.getfield 30, 3) := by decide +kernel
theorem dX6_end_6 : decode cX6_end 6 = .ok (.getfield 63, 3) := by decide +kernel
theorem dX6_end_9 : decode cX6_end 9 = .ok (.getfield 73, 3) := by decide +kernel
theorem dX6_end_12 : decode cX6_end 12 = .ok (.invokestatic 59, 3) := by decide +kernel
theorem dX6_end_15 : decode cX6_end 15 = .ok (.ifCond .ne 5, 3) := by decide +kernel
theorem dX6_end_18 : decode cX6_end 18 = .ok (.iconst (-1), 1) := by decide +kernel
theorem dX6_end_19 : decode cX6_end 19 = .ok (.ireturn, 1) := by decide +kernel
theorem dX6_end_20 : decode cX6_end 20 = .ok (.aload_n 0, 1) := by decide +kernel
theorem dX6_end_21 : decode cX6_end 21 = .ok (.getfield 30, 3) := by decide +kernel
theorem dX6_end_24 : decode cX6_end 24 = .ok (.getfield 63, 3) := by decide +kernel
theorem dX6_end_27 : decode cX6_end 27 = .ok (.getfield 73, 3) := by decide +kernel
theorem dX6_end_30 : decode cX6_end 30 = .ok (.istore_n 2, 1) := by decide +kernel
theorem dX6_end_31 : decode cX6_end 31 = .ok (.aload_n 0, 1) := by decide +kernel
theorem dX6_end_32 : decode cX6_end 32 = .ok (.getfield 30, 3) := by decide +kernel
theorem dX6_end_35 : decode cX6_end 35 = .ok (.getfield 63, 3) := by decide +kernel
theorem dX6_end_38 : decode cX6_end 38 = .ok (.iload_n 1, 1) := by decide +kernel
theorem dX6_end_39 : decode cX6_end 39 = .ok (.putfield 73, 3) := by decide +kernel
theorem dX6_end_42 : decode cX6_end 42 = .ok (.iload_n 2, 1) := by decide +kernel
theorem dX6_end_43 : decode cX6_end 43 = .ok (.ireturn, 1) := by decide +kernel
/-! ===== the class: rs 0 to 4 its realms (now, trial, images, draft); v's rows: kept, the tape, SEEN (hours, whole), numbers (tape's length, SEEN's, the SHEETS'), the reader's; Odds' q, x, n, u; c, l the SHEETS' cells and lanes ===== -/
abbrev rsT : Type := Nat → rT
abbrev vT : Type := Nat → Nat → Nat
def wC (rs : Nat → rT) (v : Nat → Nat → Nat) (q : rT) (x : Nat → Nat) (n : Nat → Int64) (u : uT) (c : Nat → Nat → Int32) (l : Nat → Int32) (tn : Int32) : jW := [.inr (6, [.ref 1, .ref 8, .ref 15, .ref 16, .ref 17, .ref 27, .ref 36, .ref 39, .int tn]),
  .inr (2, [.ref 2, .ref 3, .ref 4, .ref 5, .ref 6, .ref 7, .int (nI (rs 0 6 0)), .int (nI (rs 0 6 1)), .int (nI (rs 0 6 2)), .int (nI (rs 0 6 3)), .int (nI (rs 0 6 4)), .int (nI (rs 0 6 5)), .int (nI (rs 0 6 6))]),
  .inl (0, 3, .inl (fun j => nI (rs 0 0 j))),
  .inl (0, 3, .inl (fun j => nI (rs 0 1 j))),
  .inl (0, 4, .inl (fun j => nI (rs 0 2 j))),
  .inl (0, 4, .inl (fun j => nI (rs 0 3 j))),
  .inl (0, 3, .inl (fun j => nI (rs 0 4 j))),
  .inl (0, 3, .inl (fun j => nI (rs 0 5 j))),
  .inr (2, [.ref 9, .ref 10, .ref 11, .ref 12, .ref 13, .ref 14, .int (nI (rs 1 6 0)), .int (nI (rs 1 6 1)), .int (nI (rs 1 6 2)), .int (nI (rs 1 6 3)), .int (nI (rs 1 6 4)), .int (nI (rs 1 6 5)), .int (nI (rs 1 6 6))]),
  .inl (0, 3, .inl (fun j => nI (rs 1 0 j))),
  .inl (0, 3, .inl (fun j => nI (rs 1 1 j))),
  .inl (0, 4, .inl (fun j => nI (rs 1 2 j))),
  .inl (0, 4, .inl (fun j => nI (rs 1 3 j))),
  .inl (0, 3, .inl (fun j => nI (rs 1 4 j))),
  .inl (0, 3, .inl (fun j => nI (rs 1 5 j))),
  .inl (4, 2, .inr (.inr (.inr (.inr (fun j => if j = 0 then some 40 else some 47))))),
  .inl (3, 2, .inl (fun j => nI (v 0 j))),
  .inr (1, [.ref 18, .ref 20, .int (nI (v 5 0)), .int (nI (v 5 1)), .int (nI (v 5 2)), .int (nI (v 5 3)), .int (nI (v 5 4)), .int (nI (v 5 5)), .int (nI (v 5 6)), .int (nI (v 5 7)), .int (nI (v 5 8))]),
  .inr (5, [.ref 19, .int (nI (v 4 0))]),
  .inl (2, 160, .inl (fun j => nI (v 1 j))),
  .inr (2, [.ref 21, .ref 22, .ref 23, .ref 24, .ref 25, .ref 26, .int (nI (rs 4 6 0)), .int (nI (rs 4 6 1)), .int (nI (rs 4 6 2)), .int (nI (rs 4 6 3)), .int (nI (rs 4 6 4)), .int (nI (rs 4 6 5)), .int (nI (rs 4 6 6))]),
  .inl (0, 3, .inl (fun j => nI (rs 4 0 j))),
  .inl (0, 3, .inl (fun j => nI (rs 4 1 j))),
  .inl (0, 4, .inl (fun j => nI (rs 4 2 j))),
  .inl (0, 4, .inl (fun j => nI (rs 4 3 j))),
  .inl (0, 3, .inl (fun j => nI (rs 4 4 j))),
  .inl (0, 3, .inl (fun j => nI (rs 4 5 j))),
  .inr (0, [.ref 28, .ref 29, .ref 30, .int (nI (q 6 0)), .int (nI (q 6 1)), .ref 31, .ref 32, .ref 33, .ref 34, .ref 35, .long (u 3 0), .long (u 3 1)]),
  .inl (0, 3, .inl (fun j => nI (q 0 j))),
  .inl (0, 3, .inl (fun j => nI (q 1 j))),
  .inl (0, 3, .inl (fun j => nI (q 2 j))),
  .inl (1, 8, .inr (.inl (fun j => lN (x j)))),
  .inl (1, 8, .inr (.inl n)),
  .inl (1, 8, .inr (.inl (u 0))),
  .inl (1, 8, .inr (.inl (u 1))),
  .inl (1, 6, .inr (.inl (u 2))),
  .inr (3, [.ref 37, .ref 38, .int (nI (v 4 1))]),
  .inl (0, 6, .inl (fun j => nI (v 2 j))),
  .inl (0, 6, .inl (fun j => nI (v 3 j))),
  .inl (5, 4, .inr (.inr (.inr (.inr (fun j => if j = 0 then some 54 else if j = 1 then some 56 else if j = 2 then some 58 else some 60))))),
  .inr (2, [.ref 41, .ref 42, .ref 43, .ref 44, .ref 45, .ref 46, .int (nI (rs 2 6 0)), .int (nI (rs 2 6 1)), .int (nI (rs 2 6 2)), .int (nI (rs 2 6 3)), .int (nI (rs 2 6 4)), .int (nI (rs 2 6 5)), .int (nI (rs 2 6 6))]),
  .inl (0, 3, .inl (fun j => nI (rs 2 0 j))),
  .inl (0, 3, .inl (fun j => nI (rs 2 1 j))),
  .inl (0, 4, .inl (fun j => nI (rs 2 2 j))),
  .inl (0, 4, .inl (fun j => nI (rs 2 3 j))),
  .inl (0, 3, .inl (fun j => nI (rs 2 4 j))),
  .inl (0, 3, .inl (fun j => nI (rs 2 5 j))),
  .inr (2, [.ref 48, .ref 49, .ref 50, .ref 51, .ref 52, .ref 53, .int (nI (rs 3 6 0)), .int (nI (rs 3 6 1)), .int (nI (rs 3 6 2)), .int (nI (rs 3 6 3)), .int (nI (rs 3 6 4)), .int (nI (rs 3 6 5)), .int (nI (rs 3 6 6))]),
  .inl (0, 3, .inl (fun j => nI (rs 3 0 j))),
  .inl (0, 3, .inl (fun j => nI (rs 3 1 j))),
  .inl (0, 4, .inl (fun j => nI (rs 3 2 j))),
  .inl (0, 4, .inl (fun j => nI (rs 3 3 j))),
  .inl (0, 3, .inl (fun j => nI (rs 3 4 j))),
  .inl (0, 3, .inl (fun j => nI (rs 3 5 j))),
  .inr (4, [.ref 55, .int (l 0), .int (nI (v 4 2))]),
  .inl (0, 40, .inl (c 0)),
  .inr (4, [.ref 57, .int (l 1), .int (nI (v 4 3))]),
  .inl (0, 40, .inl (c 1)),
  .inr (4, [.ref 59, .int (l 2), .int (nI (v 4 4))]),
  .inl (0, 40, .inl (c 2)),
  .inr (4, [.ref 61, .int (l 3), .int (nI (v 4 5))]),
  .inl (0, 40, .inl (c 3))]
def rsN (rs : Nat → rT) (i : Nat) (r : rT) : Nat → rT := fun k => if k = i then r else rs k
def vset (v : vT) (a i z : Nat) : vT := fun y => if y = a then (fun j => if j = i then z else v a j) else v y
set_option maxRecDepth 100000 in
set_option maxHeartbeats 4000000 in
theorem mX6_fault (rs : Nat → rT) (v : Nat → Nat → Nat) (q : rT) (x : Nat → Nat) (n : Nat → Int64) (u : uT) (c : Nat → Nat → Int32) (l : Nat → Int32) (tn : Int32) : J KX6_fault 62 (fun o B => o = some (.int (nI (v 5 7))) ∧ B = (wC rs v q x n u c l tn)) 0 [some (.ref 0)] [] (wC rs v q x n u c l tn) 0 0 := by
  refine J.aload_n dX6_fault_0 rfl rfl ?_
  refine J.getfield dX6_fault_1 jFX6_30 rfl rfl ?_
  refine J.getfield dX6_fault_4 jFX6_80 rfl rfl ?_
  exact J.iret dX6_fault_7 rfl rfl (Nat.le_refl _) (Nat.le_refl _) ⟨rfl, rfl⟩
set_option maxRecDepth 100000 in
set_option maxHeartbeats 4000000 in
theorem mX6_torn (rs : Nat → rT) (v : Nat → Nat → Nat) (q : rT) (x : Nat → Nat) (n : Nat → Int64) (u : uT) (c : Nat → Nat → Int32) (l : Nat → Int32) (tn : Int32) : J KX6_torn 62 (fun o B => o = some (.int tn) ∧ B = (wC rs v q x n u c l tn)) 0 [some (.ref 0)] [] (wC rs v q x n u c l tn) 0 0 := by
  refine J.aload_n dX6_torn_0 rfl rfl ?_
  refine J.getfield dX6_torn_1 jFX6_54 rfl rfl ?_
  exact J.iret dX6_torn_4 rfl rfl (Nat.le_refl _) (Nat.le_refl _) ⟨rfl, rfl⟩
set_option maxRecDepth 100000 in
set_option maxHeartbeats 4000000 in
theorem mX6_hour (rs : Nat → rT) (v : Nat → Nat → Nat) (q : rT) (x : Nat → Nat) (n : Nat → Int64) (u : uT) (c : Nat → Nat → Int32) (l : Nat → Int32) (tn : Int32) (z : Int32) (hr : rOK (rs 0)) : J KX6_hour 62 (fun o B => o = some (.int (tryA (rs 0) z)) ∧ B = (wC (rsN rs 0 (tryR (rs 0) z)) v q x n u c l tn)) 0 [some (.ref 0), some (.int z)] [] (wC rs v q x n u c l tn) 0 0 := by
  refine J.aload_n dX6_hour_0 rfl rfl ?_
  refine J.getfield dX6_hour_1 jFX6_12 rfl rfl ?_
  refine J.iload_n dX6_hour_4 rfl rfl ?_
  refine J.cv (as := [.int _]) (is := [1, 2, 3, 4, 5, 6, 7]) (o := 0) okX2_tryHour jcX6_140 (mX2_tryHour (rs 0) z hr) dX6_hour_5 rfl rfl rfl rfl rfl rfl rfl (fun r9 B9 hq => ?_)
  obtain ⟨rfl, rfl⟩ := hq
  refine ⟨rfl, ?_⟩
  show J _ _ _ _ _ (.int _ :: _) (wC (rsN rs 0 (tryR (rs 0) z)) v q x n u c l tn) _ _
  exact J.iret dX6_hour_8 rfl rfl (Nat.le_refl _) (Nat.le_refl _) ⟨rfl, rfl⟩
end
