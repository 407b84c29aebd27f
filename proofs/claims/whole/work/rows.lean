section
-- ===== PART A: goes FIRST, ahead of the names: the tables' words, and 'selects' of the private methods out of them =====
/-- a private method of a class that the tables say can be made, by its rows of tables_1 -/
def lw_okq (q : MethodName × Nat) : Prop := (q.1.cls ≠ "java/lang/invoke/MethodHandle" ∧ q.1.cls ≠ "java/lang/invoke/VarHandle") ∧ Cond.instantiable q.1.cls q.2 ∈ tables_1 ∧ Cond.privateMethod q.1 ∈ tables_1 ∧ Cond.instanceMethod q.1 ∈ tables_1
theorem lw_p0 : lw_okq (⟨"SwordSeat$Realm", "clear", "()V"⟩, 13) := ⟨⟨by decide +kernel, by decide +kernel⟩, List.mem_of_getElem? (i := 24) (by decide +kernel), List.mem_of_getElem? (i := 30) (by decide +kernel), List.mem_of_getElem? (i := 31) (by decide +kernel)⟩
theorem lw_p1 : lw_okq (⟨"SwordSeat$Tape", "append", "(I)Z"⟩, 2) := ⟨⟨by decide +kernel, by decide +kernel⟩, List.mem_of_getElem? (i := 108) (by decide +kernel), List.mem_of_getElem? (i := 286) (by decide +kernel), List.mem_of_getElem? (i := 287) (by decide +kernel)⟩
theorem lw_p2 : lw_okq (⟨"SwordSeat$Reader", "readAll", "()I"⟩, 11) := ⟨⟨by decide +kernel, by decide +kernel⟩, List.mem_of_getElem? (i := 102) (by decide +kernel), List.mem_of_getElem? (i := 298) (by decide +kernel), List.mem_of_getElem? (i := 299) (by decide +kernel)⟩
theorem lw_p3 : lw_okq (⟨"SwordSeat$Reader", "nextToken", "()Z"⟩, 11) := ⟨⟨by decide +kernel, by decide +kernel⟩, List.mem_of_getElem? (i := 102) (by decide +kernel), List.mem_of_getElem? (i := 303) (by decide +kernel), List.mem_of_getElem? (i := 304) (by decide +kernel)⟩
theorem lw_p4 : lw_okq (⟨"SwordSeat$Tape", "byteAt", "(I)I"⟩, 2) := ⟨⟨by decide +kernel, by decide +kernel⟩, List.mem_of_getElem? (i := 108) (by decide +kernel), List.mem_of_getElem? (i := 307) (by decide +kernel), List.mem_of_getElem? (i := 308) (by decide +kernel)⟩
theorem lw_p5 : lw_okq (⟨"SwordSeat$Reader", "fail", "(II)Z"⟩, 11) := ⟨⟨by decide +kernel, by decide +kernel⟩, List.mem_of_getElem? (i := 102) (by decide +kernel), List.mem_of_getElem? (i := 314) (by decide +kernel), List.mem_of_getElem? (i := 315) (by decide +kernel)⟩
theorem lw_p6 : lw_okq (⟨"SwordSeat$Reader", "readLine", "()Z"⟩, 11) := ⟨⟨by decide +kernel, by decide +kernel⟩, List.mem_of_getElem? (i := 102) (by decide +kernel), List.mem_of_getElem? (i := 318) (by decide +kernel), List.mem_of_getElem? (i := 319) (by decide +kernel)⟩
theorem lw_p7 : lw_okq (⟨"SwordSeat$Reader", "spells", "(Ljava/lang/String;)Z"⟩, 11) := ⟨⟨by decide +kernel, by decide +kernel⟩, List.mem_of_getElem? (i := 102) (by decide +kernel), List.mem_of_getElem? (i := 323) (by decide +kernel), List.mem_of_getElem? (i := 324) (by decide +kernel)⟩
theorem lw_p8 : lw_okq (⟨"SwordSeat$Reader", "readHair", "()Z"⟩, 11) := ⟨⟨by decide +kernel, by decide +kernel⟩, List.mem_of_getElem? (i := 102) (by decide +kernel), List.mem_of_getElem? (i := 375) (by decide +kernel), List.mem_of_getElem? (i := 376) (by decide +kernel)⟩
theorem lw_p9 : lw_okq (⟨"SwordSeat$Reader", "spelledKind", "()I"⟩, 11) := ⟨⟨by decide +kernel, by decide +kernel⟩, List.mem_of_getElem? (i := 102) (by decide +kernel), List.mem_of_getElem? (i := 379) (by decide +kernel), List.mem_of_getElem? (i := 380) (by decide +kernel)⟩
theorem lw_p10 : lw_okq (⟨"SwordSeat$Reader", "readNumber", "(II)Z"⟩, 11) := ⟨⟨by decide +kernel, by decide +kernel⟩, List.mem_of_getElem? (i := 102) (by decide +kernel), List.mem_of_getElem? (i := 388) (by decide +kernel), List.mem_of_getElem? (i := 389) (by decide +kernel)⟩
theorem lw_p11 : lw_okq (⟨"SwordSeat$Realm", "addHair", "(II)Z"⟩, 13) := ⟨⟨by decide +kernel, by decide +kernel⟩, List.mem_of_getElem? (i := 24) (by decide +kernel), List.mem_of_getElem? (i := 393) (by decide +kernel), List.mem_of_getElem? (i := 394) (by decide +kernel)⟩
theorem lw_p12 : lw_okq (⟨"SwordSeat$Reader", "readStop", "()Z"⟩, 11) := ⟨⟨by decide +kernel, by decide +kernel⟩, List.mem_of_getElem? (i := 102) (by decide +kernel), List.mem_of_getElem? (i := 397) (by decide +kernel), List.mem_of_getElem? (i := 398) (by decide +kernel)⟩
theorem lw_p13 : lw_okq (⟨"SwordSeat$Reader", "readKing", "()Z"⟩, 11) := ⟨⟨by decide +kernel, by decide +kernel⟩, List.mem_of_getElem? (i := 102) (by decide +kernel), List.mem_of_getElem? (i := 402) (by decide +kernel), List.mem_of_getElem? (i := 403) (by decide +kernel)⟩
theorem lw_p14 : lw_okq (⟨"SwordSeat$Realm", "addKing", "(II)Z"⟩, 13) := ⟨⟨by decide +kernel, by decide +kernel⟩, List.mem_of_getElem? (i := 24) (by decide +kernel), List.mem_of_getElem? (i := 406) (by decide +kernel), List.mem_of_getElem? (i := 407) (by decide +kernel)⟩
theorem lw_p15 : lw_okq (⟨"SwordSeat$Reader", "readLaw", "()Z"⟩, 11) := ⟨⟨by decide +kernel, by decide +kernel⟩, List.mem_of_getElem? (i := 102) (by decide +kernel), List.mem_of_getElem? (i := 411) (by decide +kernel), List.mem_of_getElem? (i := 412) (by decide +kernel)⟩
def lw_privs_1 : List (MethodName × Nat) := [(⟨"SwordSeat$Realm", "clear", "()V"⟩, 13), (⟨"SwordSeat$Tape", "append", "(I)Z"⟩, 2), (⟨"SwordSeat$Reader", "readAll", "()I"⟩, 11), (⟨"SwordSeat$Reader", "nextToken", "()Z"⟩, 11), (⟨"SwordSeat$Tape", "byteAt", "(I)I"⟩, 2), (⟨"SwordSeat$Reader", "fail", "(II)Z"⟩, 11), (⟨"SwordSeat$Reader", "readLine", "()Z"⟩, 11), (⟨"SwordSeat$Reader", "spells", "(Ljava/lang/String;)Z"⟩, 11), (⟨"SwordSeat$Reader", "readHair", "()Z"⟩, 11), (⟨"SwordSeat$Reader", "spelledKind", "()I"⟩, 11), (⟨"SwordSeat$Reader", "readNumber", "(II)Z"⟩, 11), (⟨"SwordSeat$Realm", "addHair", "(II)Z"⟩, 13), (⟨"SwordSeat$Reader", "readStop", "()Z"⟩, 11), (⟨"SwordSeat$Reader", "readKing", "()Z"⟩, 11), (⟨"SwordSeat$Realm", "addKing", "(II)Z"⟩, 13), (⟨"SwordSeat$Reader", "readLaw", "()Z"⟩, 11)]
theorem lw_r1 : ∀ q ∈ lw_privs_1, lw_okq q := List.forall_mem_cons.mpr ⟨lw_p0, List.forall_mem_cons.mpr ⟨lw_p1, List.forall_mem_cons.mpr ⟨lw_p2, List.forall_mem_cons.mpr ⟨lw_p3, List.forall_mem_cons.mpr ⟨lw_p4, List.forall_mem_cons.mpr ⟨lw_p5, List.forall_mem_cons.mpr ⟨lw_p6, List.forall_mem_cons.mpr ⟨lw_p7, List.forall_mem_cons.mpr ⟨lw_p8, List.forall_mem_cons.mpr ⟨lw_p9, List.forall_mem_cons.mpr ⟨lw_p10, List.forall_mem_cons.mpr ⟨lw_p11, List.forall_mem_cons.mpr ⟨lw_p12, List.forall_mem_cons.mpr ⟨lw_p13, List.forall_mem_cons.mpr ⟨lw_p14, List.forall_mem_cons.mpr ⟨lw_p15, fun _ h => absurd h List.not_mem_nil⟩⟩⟩⟩⟩⟩⟩⟩⟩⟩⟩⟩⟩⟩⟩⟩
theorem lw_p16 : lw_okq (⟨"SwordSeat$Realm", "addLaw", "(II)Z"⟩, 13) := ⟨⟨by decide +kernel, by decide +kernel⟩, List.mem_of_getElem? (i := 24) (by decide +kernel), List.mem_of_getElem? (i := 415) (by decide +kernel), List.mem_of_getElem? (i := 416) (by decide +kernel)⟩
theorem lw_p17 : lw_okq (⟨"SwordSeat$Reader", "readLoad", "()Z"⟩, 11) := ⟨⟨by decide +kernel, by decide +kernel⟩, List.mem_of_getElem? (i := 102) (by decide +kernel), List.mem_of_getElem? (i := 420) (by decide +kernel), List.mem_of_getElem? (i := 421) (by decide +kernel)⟩
theorem lw_p18 : lw_okq (⟨"SwordSeat$Reader", "readPrize", "()Z"⟩, 11) := ⟨⟨by decide +kernel, by decide +kernel⟩, List.mem_of_getElem? (i := 102) (by decide +kernel), List.mem_of_getElem? (i := 425) (by decide +kernel), List.mem_of_getElem? (i := 426) (by decide +kernel)⟩
theorem lw_p19 : lw_okq (⟨"SwordSeat$Reader", "readBroken", "()Z"⟩, 11) := ⟨⟨by decide +kernel, by decide +kernel⟩, List.mem_of_getElem? (i := 102) (by decide +kernel), List.mem_of_getElem? (i := 430) (by decide +kernel), List.mem_of_getElem? (i := 431) (by decide +kernel)⟩
theorem lw_p20 : lw_okq (⟨"SwordSeat$Realm", "copy", "(LSwordSeat$Realm;)V"⟩, 13) := ⟨⟨by decide +kernel, by decide +kernel⟩, List.mem_of_getElem? (i := 24) (by decide +kernel), List.mem_of_getElem? (i := 434) (by decide +kernel), List.mem_of_getElem? (i := 435) (by decide +kernel)⟩
theorem lw_p21 : lw_okq (⟨"SwordSeat$Realm", "wholeBit", "(I)I"⟩, 13) := ⟨⟨by decide +kernel, by decide +kernel⟩, List.mem_of_getElem? (i := 24) (by decide +kernel), List.mem_of_getElem? (i := 453) (by decide +kernel), List.mem_of_getElem? (i := 454) (by decide +kernel)⟩
theorem lw_p22 : lw_okq (⟨"SwordSeat$Realm", "breaks", "(I)I"⟩, 13) := ⟨⟨by decide +kernel, by decide +kernel⟩, List.mem_of_getElem? (i := 24) (by decide +kernel), List.mem_of_getElem? (i := 457) (by decide +kernel), List.mem_of_getElem? (i := 458) (by decide +kernel)⟩
theorem lw_p23 : lw_okq (⟨"SwordSeat$Realm", "tryHour", "(I)I"⟩, 13) := ⟨⟨by decide +kernel, by decide +kernel⟩, List.mem_of_getElem? (i := 24) (by decide +kernel), List.mem_of_getElem? (i := 512) (by decide +kernel), List.mem_of_getElem? (i := 513) (by decide +kernel)⟩
theorem lw_p24 : lw_okq (⟨"SwordSeat$Realm", "passHour", "(I)V"⟩, 13) := ⟨⟨by decide +kernel, by decide +kernel⟩, List.mem_of_getElem? (i := 24) (by decide +kernel), List.mem_of_getElem? (i := 516) (by decide +kernel), List.mem_of_getElem? (i := 517) (by decide +kernel)⟩
theorem lw_p25 : lw_okq (⟨"SwordSeat", "heldFromNow", "(I)J"⟩, 9) := ⟨⟨by decide +kernel, by decide +kernel⟩, List.mem_of_getElem? (i := 16) (by decide +kernel), List.mem_of_getElem? (i := 533) (by decide +kernel), List.mem_of_getElem? (i := 534) (by decide +kernel)⟩
theorem lw_p26 : lw_okq (⟨"SwordSeat$Odds", "take", "(LSwordSeat$Realm;)V"⟩, 12) := ⟨⟨by decide +kernel, by decide +kernel⟩, List.mem_of_getElem? (i := 164) (by decide +kernel), List.mem_of_getElem? (i := 537) (by decide +kernel), List.mem_of_getElem? (i := 538) (by decide +kernel)⟩
theorem lw_p27 : lw_okq (⟨"SwordSeat$Odds", "begin", "(I)V"⟩, 12) := ⟨⟨by decide +kernel, by decide +kernel⟩, List.mem_of_getElem? (i := 164) (by decide +kernel), List.mem_of_getElem? (i := 541) (by decide +kernel), List.mem_of_getElem? (i := 542) (by decide +kernel)⟩
theorem lw_p28 : lw_okq (⟨"SwordSeat$Odds", "passHours", "(I)V"⟩, 12) := ⟨⟨by decide +kernel, by decide +kernel⟩, List.mem_of_getElem? (i := 164) (by decide +kernel), List.mem_of_getElem? (i := 545) (by decide +kernel), List.mem_of_getElem? (i := 546) (by decide +kernel)⟩
theorem lw_p29 : lw_okq (⟨"SwordSeat$Odds", "passHour", "(I)V"⟩, 12) := ⟨⟨by decide +kernel, by decide +kernel⟩, List.mem_of_getElem? (i := 164) (by decide +kernel), List.mem_of_getElem? (i := 549) (by decide +kernel), List.mem_of_getElem? (i := 550) (by decide +kernel)⟩
theorem lw_p30 : lw_okq (⟨"SwordSeat$Odds", "weigh", "(II)V"⟩, 12) := ⟨⟨by decide +kernel, by decide +kernel⟩, List.mem_of_getElem? (i := 164) (by decide +kernel), List.mem_of_getElem? (i := 553) (by decide +kernel), List.mem_of_getElem? (i := 554) (by decide +kernel)⟩
theorem lw_p31 : lw_okq (⟨"SwordSeat$Odds", "weight", "(II)J"⟩, 12) := ⟨⟨by decide +kernel, by decide +kernel⟩, List.mem_of_getElem? (i := 164) (by decide +kernel), List.mem_of_getElem? (i := 560) (by decide +kernel), List.mem_of_getElem? (i := 561) (by decide +kernel)⟩
def lw_privs_2 : List (MethodName × Nat) := [(⟨"SwordSeat$Realm", "addLaw", "(II)Z"⟩, 13), (⟨"SwordSeat$Reader", "readLoad", "()Z"⟩, 11), (⟨"SwordSeat$Reader", "readPrize", "()Z"⟩, 11), (⟨"SwordSeat$Reader", "readBroken", "()Z"⟩, 11), (⟨"SwordSeat$Realm", "copy", "(LSwordSeat$Realm;)V"⟩, 13), (⟨"SwordSeat$Realm", "wholeBit", "(I)I"⟩, 13), (⟨"SwordSeat$Realm", "breaks", "(I)I"⟩, 13), (⟨"SwordSeat$Realm", "tryHour", "(I)I"⟩, 13), (⟨"SwordSeat$Realm", "passHour", "(I)V"⟩, 13), (⟨"SwordSeat", "heldFromNow", "(I)J"⟩, 9), (⟨"SwordSeat$Odds", "take", "(LSwordSeat$Realm;)V"⟩, 12), (⟨"SwordSeat$Odds", "begin", "(I)V"⟩, 12), (⟨"SwordSeat$Odds", "passHours", "(I)V"⟩, 12), (⟨"SwordSeat$Odds", "passHour", "(I)V"⟩, 12), (⟨"SwordSeat$Odds", "weigh", "(II)V"⟩, 12), (⟨"SwordSeat$Odds", "weight", "(II)J"⟩, 12)]
theorem lw_r2 : ∀ q ∈ lw_privs_2, lw_okq q := List.forall_mem_cons.mpr ⟨lw_p16, List.forall_mem_cons.mpr ⟨lw_p17, List.forall_mem_cons.mpr ⟨lw_p18, List.forall_mem_cons.mpr ⟨lw_p19, List.forall_mem_cons.mpr ⟨lw_p20, List.forall_mem_cons.mpr ⟨lw_p21, List.forall_mem_cons.mpr ⟨lw_p22, List.forall_mem_cons.mpr ⟨lw_p23, List.forall_mem_cons.mpr ⟨lw_p24, List.forall_mem_cons.mpr ⟨lw_p25, List.forall_mem_cons.mpr ⟨lw_p26, List.forall_mem_cons.mpr ⟨lw_p27, List.forall_mem_cons.mpr ⟨lw_p28, List.forall_mem_cons.mpr ⟨lw_p29, List.forall_mem_cons.mpr ⟨lw_p30, List.forall_mem_cons.mpr ⟨lw_p31, fun _ h => absurd h List.not_mem_nil⟩⟩⟩⟩⟩⟩⟩⟩⟩⟩⟩⟩⟩⟩⟩⟩
theorem lw_p32 : lw_okq (⟨"SwordSeat$Odds", "held", "()J"⟩, 12) := ⟨⟨by decide +kernel, by decide +kernel⟩, List.mem_of_getElem? (i := 164) (by decide +kernel), List.mem_of_getElem? (i := 565) (by decide +kernel), List.mem_of_getElem? (i := 566) (by decide +kernel)⟩
theorem lw_p33 : lw_okq (⟨"SwordSeat$Odds", "justWhole", "(I)J"⟩, 12) := ⟨⟨by decide +kernel, by decide +kernel⟩, List.mem_of_getElem? (i := 164) (by decide +kernel), List.mem_of_getElem? (i := 582) (by decide +kernel), List.mem_of_getElem? (i := 583) (by decide +kernel)⟩
theorem lw_p34 : lw_okq (⟨"SwordSeat$Odds", "sitting", "(IIIZ)J"⟩, 12) := ⟨⟨by decide +kernel, by decide +kernel⟩, List.mem_of_getElem? (i := 164) (by decide +kernel), List.mem_of_getElem? (i := 594) (by decide +kernel), List.mem_of_getElem? (i := 595) (by decide +kernel)⟩
theorem lw_p35 : lw_okq (⟨"SwordSeat", "seeingGain", "(II)J"⟩, 9) := ⟨⟨by decide +kernel, by decide +kernel⟩, List.mem_of_getElem? (i := 16) (by decide +kernel), List.mem_of_getElem? (i := 606) (by decide +kernel), List.mem_of_getElem? (i := 607) (by decide +kernel)⟩
theorem lw_p36 : lw_okq (⟨"SwordSeat$Odds", "takeNew", "(III)V"⟩, 12) := ⟨⟨by decide +kernel, by decide +kernel⟩, List.mem_of_getElem? (i := 164) (by decide +kernel), List.mem_of_getElem? (i := 619) (by decide +kernel), List.mem_of_getElem? (i := 620) (by decide +kernel)⟩
theorem lw_p37 : lw_okq (⟨"SwordSeat$Odds", "holdsBy", "(II)Z"⟩, 12) := ⟨⟨by decide +kernel, by decide +kernel⟩, List.mem_of_getElem? (i := 164) (by decide +kernel), List.mem_of_getElem? (i := 623) (by decide +kernel), List.mem_of_getElem? (i := 624) (by decide +kernel)⟩
theorem lw_p38 : lw_okq (⟨"SwordSeat$Odds", "renew", "(I)V"⟩, 12) := ⟨⟨by decide +kernel, by decide +kernel⟩, List.mem_of_getElem? (i := 164) (by decide +kernel), List.mem_of_getElem? (i := 636) (by decide +kernel), List.mem_of_getElem? (i := 637) (by decide +kernel)⟩
theorem lw_p39 : lw_okq (⟨"SwordSeat$Odds", "contest", "(LSwordSeat$Realm;III)V"⟩, 12) := ⟨⟨by decide +kernel, by decide +kernel⟩, List.mem_of_getElem? (i := 164) (by decide +kernel), List.mem_of_getElem? (i := 645) (by decide +kernel), List.mem_of_getElem? (i := 646) (by decide +kernel)⟩
theorem lw_p40 : lw_okq (⟨"SwordSeat$Odds", "duelHour", "(IJJJ[J[J)V"⟩, 12) := ⟨⟨by decide +kernel, by decide +kernel⟩, List.mem_of_getElem? (i := 164) (by decide +kernel), List.mem_of_getElem? (i := 649) (by decide +kernel), List.mem_of_getElem? (i := 650) (by decide +kernel)⟩
theorem lw_p41 : lw_okq (⟨"SwordSeat$Odds", "foresee", "()V"⟩, 12) := ⟨⟨by decide +kernel, by decide +kernel⟩, List.mem_of_getElem? (i := 164) (by decide +kernel), List.mem_of_getElem? (i := 666) (by decide +kernel), List.mem_of_getElem? (i := 667) (by decide +kernel)⟩
theorem lw_p42 : lw_okq (⟨"SwordSeat", "worthOfLaws", "(I)J"⟩, 9) := ⟨⟨by decide +kernel, by decide +kernel⟩, List.mem_of_getElem? (i := 16) (by decide +kernel), List.mem_of_getElem? (i := 670) (by decide +kernel), List.mem_of_getElem? (i := 671) (by decide +kernel)⟩
theorem lw_p43 : lw_okq (⟨"SwordSeat$Seen", "append", "(II)Z"⟩, 3) := ⟨⟨by decide +kernel, by decide +kernel⟩, List.mem_of_getElem? (i := 212) (by decide +kernel), List.mem_of_getElem? (i := 682) (by decide +kernel), List.mem_of_getElem? (i := 683) (by decide +kernel)⟩
theorem lw_p44 : lw_okq (⟨"SwordSeat", "likelihood", "(II)J"⟩, 9) := ⟨⟨by decide +kernel, by decide +kernel⟩, List.mem_of_getElem? (i := 16) (by decide +kernel), List.mem_of_getElem? (i := 694) (by decide +kernel), List.mem_of_getElem? (i := 695) (by decide +kernel)⟩
theorem lw_p45 : lw_okq (⟨"SwordSeat$Seen", "lastHour", "()I"⟩, 3) := ⟨⟨by decide +kernel, by decide +kernel⟩, List.mem_of_getElem? (i := 212) (by decide +kernel), List.mem_of_getElem? (i := 698) (by decide +kernel), List.mem_of_getElem? (i := 699) (by decide +kernel)⟩
theorem lw_p46 : lw_okq (⟨"SwordSeat$Odds", "keepOnly", "(I)V"⟩, 12) := ⟨⟨by decide +kernel, by decide +kernel⟩, List.mem_of_getElem? (i := 164) (by decide +kernel), List.mem_of_getElem? (i := 703) (by decide +kernel), List.mem_of_getElem? (i := 704) (by decide +kernel)⟩
theorem lw_p47 : lw_okq (⟨"SwordSeat$Odds", "all", "()J"⟩, 12) := ⟨⟨by decide +kernel, by decide +kernel⟩, List.mem_of_getElem? (i := 164) (by decide +kernel), List.mem_of_getElem? (i := 707) (by decide +kernel), List.mem_of_getElem? (i := 708) (by decide +kernel)⟩
def lw_privs_3 : List (MethodName × Nat) := [(⟨"SwordSeat$Odds", "held", "()J"⟩, 12), (⟨"SwordSeat$Odds", "justWhole", "(I)J"⟩, 12), (⟨"SwordSeat$Odds", "sitting", "(IIIZ)J"⟩, 12), (⟨"SwordSeat", "seeingGain", "(II)J"⟩, 9), (⟨"SwordSeat$Odds", "takeNew", "(III)V"⟩, 12), (⟨"SwordSeat$Odds", "holdsBy", "(II)Z"⟩, 12), (⟨"SwordSeat$Odds", "renew", "(I)V"⟩, 12), (⟨"SwordSeat$Odds", "contest", "(LSwordSeat$Realm;III)V"⟩, 12), (⟨"SwordSeat$Odds", "duelHour", "(IJJJ[J[J)V"⟩, 12), (⟨"SwordSeat$Odds", "foresee", "()V"⟩, 12), (⟨"SwordSeat", "worthOfLaws", "(I)J"⟩, 9), (⟨"SwordSeat$Seen", "append", "(II)Z"⟩, 3), (⟨"SwordSeat", "likelihood", "(II)J"⟩, 9), (⟨"SwordSeat$Seen", "lastHour", "()I"⟩, 3), (⟨"SwordSeat$Odds", "keepOnly", "(I)V"⟩, 12), (⟨"SwordSeat$Odds", "all", "()J"⟩, 12)]
theorem lw_r3 : ∀ q ∈ lw_privs_3, lw_okq q := List.forall_mem_cons.mpr ⟨lw_p32, List.forall_mem_cons.mpr ⟨lw_p33, List.forall_mem_cons.mpr ⟨lw_p34, List.forall_mem_cons.mpr ⟨lw_p35, List.forall_mem_cons.mpr ⟨lw_p36, List.forall_mem_cons.mpr ⟨lw_p37, List.forall_mem_cons.mpr ⟨lw_p38, List.forall_mem_cons.mpr ⟨lw_p39, List.forall_mem_cons.mpr ⟨lw_p40, List.forall_mem_cons.mpr ⟨lw_p41, List.forall_mem_cons.mpr ⟨lw_p42, List.forall_mem_cons.mpr ⟨lw_p43, List.forall_mem_cons.mpr ⟨lw_p44, List.forall_mem_cons.mpr ⟨lw_p45, List.forall_mem_cons.mpr ⟨lw_p46, List.forall_mem_cons.mpr ⟨lw_p47, fun _ h => absurd h List.not_mem_nil⟩⟩⟩⟩⟩⟩⟩⟩⟩⟩⟩⟩⟩⟩⟩⟩
theorem lw_p48 : lw_okq (⟨"SwordSeat$Sheet", "renew", "(II)V"⟩, 3) := ⟨⟨by decide +kernel, by decide +kernel⟩, List.mem_of_getElem? (i := 232) (by decide +kernel), List.mem_of_getElem? (i := 733) (by decide +kernel), List.mem_of_getElem? (i := 734) (by decide +kernel)⟩
theorem lw_p49 : lw_okq (⟨"SwordSeat$Sheet", "faultAt", "(I)I"⟩, 3) := ⟨⟨by decide +kernel, by decide +kernel⟩, List.mem_of_getElem? (i := 232) (by decide +kernel), List.mem_of_getElem? (i := 742) (by decide +kernel), List.mem_of_getElem? (i := 743) (by decide +kernel)⟩
theorem lw_p50 : lw_okq (⟨"SwordSeat$Sheet", "write", "(II)V"⟩, 3) := ⟨⟨by decide +kernel, by decide +kernel⟩, List.mem_of_getElem? (i := 232) (by decide +kernel), List.mem_of_getElem? (i := 747) (by decide +kernel), List.mem_of_getElem? (i := 748) (by decide +kernel)⟩
theorem lw_p51 : lw_okq (⟨"SwordSeat$Sheet", "faultAs", "(II)I"⟩, 3) := ⟨⟨by decide +kernel, by decide +kernel⟩, List.mem_of_getElem? (i := 232) (by decide +kernel), List.mem_of_getElem? (i := 755) (by decide +kernel), List.mem_of_getElem? (i := 756) (by decide +kernel)⟩
theorem lw_p52 : lw_okq (⟨"SwordSeat$Realm", "allAges", "()I"⟩, 13) := ⟨⟨by decide +kernel, by decide +kernel⟩, List.mem_of_getElem? (i := 24) (by decide +kernel), List.mem_of_getElem? (i := 769) (by decide +kernel), List.mem_of_getElem? (i := 770) (by decide +kernel)⟩
theorem lw_p53 : lw_okq (⟨"SwordSeatModel", "step", "()V"⟩, 42) := ⟨⟨by decide +kernel, by decide +kernel⟩, List.mem_of_getElem? (i := 773) (by decide +kernel), List.mem_of_getElem? (i := 922) (by decide +kernel), List.mem_of_getElem? (i := 923) (by decide +kernel)⟩
theorem lw_p54 : lw_okq (⟨"SwordSeatModel", "byteAt", "(I)I"⟩, 42) := ⟨⟨by decide +kernel, by decide +kernel⟩, List.mem_of_getElem? (i := 773) (by decide +kernel), List.mem_of_getElem? (i := 926) (by decide +kernel), List.mem_of_getElem? (i := 927) (by decide +kernel)⟩
theorem lw_p55 : lw_okq (⟨"SwordSeatModel", "fails", "(I)V"⟩, 42) := ⟨⟨by decide +kernel, by decide +kernel⟩, List.mem_of_getElem? (i := 773) (by decide +kernel), List.mem_of_getElem? (i := 934) (by decide +kernel), List.mem_of_getElem? (i := 935) (by decide +kernel)⟩
theorem lw_p56 : lw_okq (⟨"SwordSeatModel", "readLine", "()V"⟩, 42) := ⟨⟨by decide +kernel, by decide +kernel⟩, List.mem_of_getElem? (i := 773) (by decide +kernel), List.mem_of_getElem? (i := 938) (by decide +kernel), List.mem_of_getElem? (i := 939) (by decide +kernel)⟩
theorem lw_p57 : lw_okq (⟨"SwordSeatModel", "nameHere", "()I"⟩, 42) := ⟨⟨by decide +kernel, by decide +kernel⟩, List.mem_of_getElem? (i := 773) (by decide +kernel), List.mem_of_getElem? (i := 942) (by decide +kernel), List.mem_of_getElem? (i := 943) (by decide +kernel)⟩
theorem lw_p58 : lw_okq (⟨"SwordSeatModel", "readMore", "(I)V"⟩, 42) := ⟨⟨by decide +kernel, by decide +kernel⟩, List.mem_of_getElem? (i := 773) (by decide +kernel), List.mem_of_getElem? (i := 949) (by decide +kernel), List.mem_of_getElem? (i := 950) (by decide +kernel)⟩
theorem lw_p59 : lw_okq (⟨"SwordSeatModel", "number", "(II)I"⟩, 42) := ⟨⟨by decide +kernel, by decide +kernel⟩, List.mem_of_getElem? (i := 773) (by decide +kernel), List.mem_of_getElem? (i := 953) (by decide +kernel), List.mem_of_getElem? (i := 954) (by decide +kernel)⟩
theorem lw_p60 : lw_okq (⟨"SwordSeatModel", "load", "()I"⟩, 42) := ⟨⟨by decide +kernel, by decide +kernel⟩, List.mem_of_getElem? (i := 773) (by decide +kernel), List.mem_of_getElem? (i := 966) (by decide +kernel), List.mem_of_getElem? (i := 967) (by decide +kernel)⟩
theorem lw_p61 : lw_okq (⟨"SwordSeatModel", "prize", "()I"⟩, 42) := ⟨⟨by decide +kernel, by decide +kernel⟩, List.mem_of_getElem? (i := 773) (by decide +kernel), List.mem_of_getElem? (i := 970) (by decide +kernel), List.mem_of_getElem? (i := 971) (by decide +kernel)⟩
theorem lw_p62 : lw_okq (⟨"SwordSeatModel", "wholeNow", "()I"⟩, 42) := ⟨⟨by decide +kernel, by decide +kernel⟩, List.mem_of_getElem? (i := 773) (by decide +kernel), List.mem_of_getElem? (i := 974) (by decide +kernel), List.mem_of_getElem? (i := 975) (by decide +kernel)⟩
theorem lw_p63 : lw_okq (⟨"SwordSeatModel", "isHair", "(I)Z"⟩, 42) := ⟨⟨by decide +kernel, by decide +kernel⟩, List.mem_of_getElem? (i := 773) (by decide +kernel), List.mem_of_getElem? (i := 982) (by decide +kernel), List.mem_of_getElem? (i := 983) (by decide +kernel)⟩
def lw_privs_4 : List (MethodName × Nat) := [(⟨"SwordSeat$Sheet", "renew", "(II)V"⟩, 3), (⟨"SwordSeat$Sheet", "faultAt", "(I)I"⟩, 3), (⟨"SwordSeat$Sheet", "write", "(II)V"⟩, 3), (⟨"SwordSeat$Sheet", "faultAs", "(II)I"⟩, 3), (⟨"SwordSeat$Realm", "allAges", "()I"⟩, 13), (⟨"SwordSeatModel", "step", "()V"⟩, 42), (⟨"SwordSeatModel", "byteAt", "(I)I"⟩, 42), (⟨"SwordSeatModel", "fails", "(I)V"⟩, 42), (⟨"SwordSeatModel", "readLine", "()V"⟩, 42), (⟨"SwordSeatModel", "nameHere", "()I"⟩, 42), (⟨"SwordSeatModel", "readMore", "(I)V"⟩, 42), (⟨"SwordSeatModel", "number", "(II)I"⟩, 42), (⟨"SwordSeatModel", "load", "()I"⟩, 42), (⟨"SwordSeatModel", "prize", "()I"⟩, 42), (⟨"SwordSeatModel", "wholeNow", "()I"⟩, 42), (⟨"SwordSeatModel", "isHair", "(I)Z"⟩, 42)]
theorem lw_r4 : ∀ q ∈ lw_privs_4, lw_okq q := List.forall_mem_cons.mpr ⟨lw_p48, List.forall_mem_cons.mpr ⟨lw_p49, List.forall_mem_cons.mpr ⟨lw_p50, List.forall_mem_cons.mpr ⟨lw_p51, List.forall_mem_cons.mpr ⟨lw_p52, List.forall_mem_cons.mpr ⟨lw_p53, List.forall_mem_cons.mpr ⟨lw_p54, List.forall_mem_cons.mpr ⟨lw_p55, List.forall_mem_cons.mpr ⟨lw_p56, List.forall_mem_cons.mpr ⟨lw_p57, List.forall_mem_cons.mpr ⟨lw_p58, List.forall_mem_cons.mpr ⟨lw_p59, List.forall_mem_cons.mpr ⟨lw_p60, List.forall_mem_cons.mpr ⟨lw_p61, List.forall_mem_cons.mpr ⟨lw_p62, List.forall_mem_cons.mpr ⟨lw_p63, fun _ h => absurd h List.not_mem_nil⟩⟩⟩⟩⟩⟩⟩⟩⟩⟩⟩⟩⟩⟩⟩⟩
theorem lw_p64 : lw_okq (⟨"SwordSeatModel", "lays", "()V"⟩, 42) := ⟨⟨by decide +kernel, by decide +kernel⟩, List.mem_of_getElem? (i := 773) (by decide +kernel), List.mem_of_getElem? (i := 986) (by decide +kernel), List.mem_of_getElem? (i := 987) (by decide +kernel)⟩
theorem lw_p65 : lw_okq (⟨"SwordSeatModel", "breaksOf", "(III)I"⟩, 42) := ⟨⟨by decide +kernel, by decide +kernel⟩, List.mem_of_getElem? (i := 773) (by decide +kernel), List.mem_of_getElem? (i := 990) (by decide +kernel), List.mem_of_getElem? (i := 991) (by decide +kernel)⟩
theorem lw_p66 : lw_okq (⟨"SwordSeatModel", "isKing", "(I)Z"⟩, 42) := ⟨⟨by decide +kernel, by decide +kernel⟩, List.mem_of_getElem? (i := 773) (by decide +kernel), List.mem_of_getElem? (i := 1001) (by decide +kernel), List.mem_of_getElem? (i := 1002) (by decide +kernel)⟩
theorem lw_p67 : lw_okq (⟨"SwordSeatModel", "puts", "(ZIII)I"⟩, 42) := ⟨⟨by decide +kernel, by decide +kernel⟩, List.mem_of_getElem? (i := 773) (by decide +kernel), List.mem_of_getElem? (i := 1014) (by decide +kernel), List.mem_of_getElem? (i := 1015) (by decide +kernel)⟩
theorem lw_p68 : lw_okq (⟨"SwordSeatModel", "hours", "(I)I"⟩, 42) := ⟨⟨by decide +kernel, by decide +kernel⟩, List.mem_of_getElem? (i := 773) (by decide +kernel), List.mem_of_getElem? (i := 1039) (by decide +kernel), List.mem_of_getElem? (i := 1040) (by decide +kernel)⟩
theorem lw_p69 : lw_okq (⟨"SwordSeatModel", "holds", "(I)J"⟩, 42) := ⟨⟨by decide +kernel, by decide +kernel⟩, List.mem_of_getElem? (i := 773) (by decide +kernel), List.mem_of_getElem? (i := 1055) (by decide +kernel), List.mem_of_getElem? (i := 1056) (by decide +kernel)⟩
theorem lw_p70 : lw_okq (⟨"SwordSeatModel", "hoursOn", "(I)V"⟩, 42) := ⟨⟨by decide +kernel, by decide +kernel⟩, List.mem_of_getElem? (i := 773) (by decide +kernel), List.mem_of_getElem? (i := 1059) (by decide +kernel), List.mem_of_getElem? (i := 1060) (by decide +kernel)⟩
theorem lw_p71 : lw_okq (⟨"SwordSeatModel", "begins", "()V"⟩, 42) := ⟨⟨by decide +kernel, by decide +kernel⟩, List.mem_of_getElem? (i := 773) (by decide +kernel), List.mem_of_getElem? (i := 1063) (by decide +kernel), List.mem_of_getElem? (i := 1064) (by decide +kernel)⟩
theorem lw_p72 : lw_okq (⟨"SwordSeatModel", "hourOn", "(I)V"⟩, 42) := ⟨⟨by decide +kernel, by decide +kernel⟩, List.mem_of_getElem? (i := 773) (by decide +kernel), List.mem_of_getElem? (i := 1067) (by decide +kernel), List.mem_of_getElem? (i := 1068) (by decide +kernel)⟩
theorem lw_p73 : lw_okq (⟨"SwordSeatModel", "wayOf", "(III)J"⟩, 42) := ⟨⟨by decide +kernel, by decide +kernel⟩, List.mem_of_getElem? (i := 773) (by decide +kernel), List.mem_of_getElem? (i := 1071) (by decide +kernel), List.mem_of_getElem? (i := 1072) (by decide +kernel)⟩
theorem lw_p74 : lw_okq (⟨"SwordSeatModel", "bestOf", "(II)J"⟩, 42) := ⟨⟨by decide +kernel, by decide +kernel⟩, List.mem_of_getElem? (i := 773) (by decide +kernel), List.mem_of_getElem? (i := 1094) (by decide +kernel), List.mem_of_getElem? (i := 1095) (by decide +kernel)⟩
theorem lw_p75 : lw_okq (⟨"SwordSeatModel", "laysNew", "(II)V"⟩, 42) := ⟨⟨by decide +kernel, by decide +kernel⟩, List.mem_of_getElem? (i := 773) (by decide +kernel), List.mem_of_getElem? (i := 1106) (by decide +kernel), List.mem_of_getElem? (i := 1107) (by decide +kernel)⟩
theorem lw_p76 : lw_okq (⟨"SwordSeatModel", "holdsBy", "(II)Z"⟩, 42) := ⟨⟨by decide +kernel, by decide +kernel⟩, List.mem_of_getElem? (i := 773) (by decide +kernel), List.mem_of_getElem? (i := 1110) (by decide +kernel), List.mem_of_getElem? (i := 1111) (by decide +kernel)⟩
theorem lw_p77 : lw_okq (⟨"SwordSeatModel", "duels", "(III)V"⟩, 42) := ⟨⟨by decide +kernel, by decide +kernel⟩, List.mem_of_getElem? (i := 773) (by decide +kernel), List.mem_of_getElem? (i := 1126) (by decide +kernel), List.mem_of_getElem? (i := 1127) (by decide +kernel)⟩
theorem lw_p78 : lw_okq (⟨"SwordSeatModel", "readOf", "(I)J"⟩, 42) := ⟨⟨by decide +kernel, by decide +kernel⟩, List.mem_of_getElem? (i := 773) (by decide +kernel), List.mem_of_getElem? (i := 1139) (by decide +kernel), List.mem_of_getElem? (i := 1140) (by decide +kernel)⟩
theorem lw_p79 : lw_okq (⟨"SwordSeatModel", "likeliness", "(II)J"⟩, 42) := ⟨⟨by decide +kernel, by decide +kernel⟩, List.mem_of_getElem? (i := 773) (by decide +kernel), List.mem_of_getElem? (i := 1159) (by decide +kernel), List.mem_of_getElem? (i := 1160) (by decide +kernel)⟩
def lw_privs_5 : List (MethodName × Nat) := [(⟨"SwordSeatModel", "lays", "()V"⟩, 42), (⟨"SwordSeatModel", "breaksOf", "(III)I"⟩, 42), (⟨"SwordSeatModel", "isKing", "(I)Z"⟩, 42), (⟨"SwordSeatModel", "puts", "(ZIII)I"⟩, 42), (⟨"SwordSeatModel", "hours", "(I)I"⟩, 42), (⟨"SwordSeatModel", "holds", "(I)J"⟩, 42), (⟨"SwordSeatModel", "hoursOn", "(I)V"⟩, 42), (⟨"SwordSeatModel", "begins", "()V"⟩, 42), (⟨"SwordSeatModel", "hourOn", "(I)V"⟩, 42), (⟨"SwordSeatModel", "wayOf", "(III)J"⟩, 42), (⟨"SwordSeatModel", "bestOf", "(II)J"⟩, 42), (⟨"SwordSeatModel", "laysNew", "(II)V"⟩, 42), (⟨"SwordSeatModel", "holdsBy", "(II)Z"⟩, 42), (⟨"SwordSeatModel", "duels", "(III)V"⟩, 42), (⟨"SwordSeatModel", "readOf", "(I)J"⟩, 42), (⟨"SwordSeatModel", "likeliness", "(II)J"⟩, 42)]
theorem lw_r5 : ∀ q ∈ lw_privs_5, lw_okq q := List.forall_mem_cons.mpr ⟨lw_p64, List.forall_mem_cons.mpr ⟨lw_p65, List.forall_mem_cons.mpr ⟨lw_p66, List.forall_mem_cons.mpr ⟨lw_p67, List.forall_mem_cons.mpr ⟨lw_p68, List.forall_mem_cons.mpr ⟨lw_p69, List.forall_mem_cons.mpr ⟨lw_p70, List.forall_mem_cons.mpr ⟨lw_p71, List.forall_mem_cons.mpr ⟨lw_p72, List.forall_mem_cons.mpr ⟨lw_p73, List.forall_mem_cons.mpr ⟨lw_p74, List.forall_mem_cons.mpr ⟨lw_p75, List.forall_mem_cons.mpr ⟨lw_p76, List.forall_mem_cons.mpr ⟨lw_p77, List.forall_mem_cons.mpr ⟨lw_p78, List.forall_mem_cons.mpr ⟨lw_p79, fun _ h => absurd h List.not_mem_nil⟩⟩⟩⟩⟩⟩⟩⟩⟩⟩⟩⟩⟩⟩⟩⟩
theorem lw_p80 : lw_okq (⟨"SwordSeatModel", "sifts", "(I)V"⟩, 42) := ⟨⟨by decide +kernel, by decide +kernel⟩, List.mem_of_getElem? (i := 773) (by decide +kernel), List.mem_of_getElem? (i := 1163) (by decide +kernel), List.mem_of_getElem? (i := 1164) (by decide +kernel)⟩
theorem lw_p81 : lw_okq (⟨"SwordSeatModel", "copies", "(II)V"⟩, 42) := ⟨⟨by decide +kernel, by decide +kernel⟩, List.mem_of_getElem? (i := 773) (by decide +kernel), List.mem_of_getElem? (i := 1181) (by decide +kernel), List.mem_of_getElem? (i := 1182) (by decide +kernel)⟩
def lw_privs_6 : List (MethodName × Nat) := [(⟨"SwordSeatModel", "sifts", "(I)V"⟩, 42), (⟨"SwordSeatModel", "copies", "(II)V"⟩, 42)]
theorem lw_r6 : ∀ q ∈ lw_privs_6, lw_okq q := List.forall_mem_cons.mpr ⟨lw_p80, List.forall_mem_cons.mpr ⟨lw_p81, fun _ h => absurd h List.not_mem_nil⟩⟩
def lw_privs : List (MethodName × Nat) := lw_privs_1 ++ (lw_privs_2 ++ (lw_privs_3 ++ (lw_privs_4 ++ (lw_privs_5 ++ (lw_privs_6)))))
def lw_tbl : List Cond := k2_sels lw_privs ++ tables_1
theorem lw_privs_ok : ∀ q ∈ lw_privs, lw_okq q := by
  show ∀ q ∈ lw_privs_1 ++ (lw_privs_2 ++ (lw_privs_3 ++ (lw_privs_4 ++ (lw_privs_5 ++ (lw_privs_6))))), lw_okq q
  exact List.forall_mem_append.mpr ⟨lw_r1, List.forall_mem_append.mpr ⟨lw_r2, List.forall_mem_append.mpr ⟨lw_r3, List.forall_mem_append.mpr ⟨lw_r4, List.forall_mem_append.mpr ⟨lw_r5, lw_r6⟩⟩⟩⟩⟩
end
section
def RX0 : String := "SwordSeat$Odds"
def TX0 : u_T := fun k => match k with
  | 0 => ("SwordSeat$Odds", "kind", "[I", true)
  | 1 => ("SwordSeat$Odds", "age", "[I", true)
  | 2 => ("SwordSeat$Odds", "tenths", "[I", true)
  | 3 => ("SwordSeat$Odds", "whole", "I", false)
  | 4 => ("SwordSeat$Odds", "load", "I", false)
  | 5 => ("SwordSeat$Odds", "shares", "[J", true)
  | 6 => ("SwordSeat$Odds", "next", "[J", true)
  | 7 => ("SwordSeat$Odds", "firstGains", "[J", true)
  | 8 => ("SwordSeat$Odds", "secondGains", "[J", true)
  | 9 => ("SwordSeat$Odds", "heldBehind", "[J", true)
  | 10 => ("SwordSeat$Odds", "firstGain", "J", false)
  | _ => ("SwordSeat$Odds", "secondGain", "J", false)
def tyX0 : Nat → FieldType := fun k => match k with
  | 0 => .array .int
  | 1 => .array .int
  | 2 => .array .int
  | 3 => .int
  | 4 => .int
  | 5 => .array .long
  | 6 => .array .long
  | 7 => .array .long
  | 8 => .array .long
  | 9 => .array .long
  | 10 => .long
  | _ => .long
abbrev wsX00 : List Cond := u_ws RX0 TX0 12
theorem nmX0 : ∀ a, a < 12 → ∀ b, b < 12 → a ≠ b → (TX0 a).2.1 ≠ (TX0 b).2.1 := by decide +kernel
theorem tyX0_ok : ∀ k, k < 12 → parseFieldDescriptor (TX0 k).2.2.1 = some (tyX0 k) := by decide +kernel
abbrev cX0_init : ByteArray := prog_2_method_1_code
def yX0_init : MethodName := ⟨RX0, "<init>", "()V"⟩
abbrev cX0_take : ByteArray := prog_2_method_2_code
def yX0_take : MethodName := ⟨RX0, "take", "(LSwordSeat$Realm;)V"⟩
abbrev cX0_takeNew : ByteArray := prog_2_method_3_code
def yX0_takeNew : MethodName := ⟨RX0, "takeNew", "(III)V"⟩
abbrev cX0_renew : ByteArray := prog_2_method_4_code
def yX0_renew : MethodName := ⟨RX0, "renew", "(I)V"⟩
abbrev cX0_begin : ByteArray := prog_2_method_5_code
def yX0_begin : MethodName := ⟨RX0, "begin", "(I)V"⟩
abbrev cX0_passHours : ByteArray := prog_2_method_6_code
def yX0_passHours : MethodName := ⟨RX0, "passHours", "(I)V"⟩
abbrev cX0_passHour : ByteArray := prog_2_method_7_code
def yX0_passHour : MethodName := ⟨RX0, "passHour", "(I)V"⟩
abbrev cX0_weigh : ByteArray := prog_2_method_8_code
def yX0_weigh : MethodName := ⟨RX0, "weigh", "(II)V"⟩
abbrev cX0_weight : ByteArray := prog_2_method_9_code
def yX0_weight : MethodName := ⟨RX0, "weight", "(II)J"⟩
abbrev cX0_all : ByteArray := prog_2_method_10_code
def yX0_all : MethodName := ⟨RX0, "all", "()J"⟩
abbrev cX0_held : ByteArray := prog_2_method_11_code
def yX0_held : MethodName := ⟨RX0, "held", "()J"⟩
abbrev cX0_justWhole : ByteArray := prog_2_method_12_code
def yX0_justWhole : MethodName := ⟨RX0, "justWhole", "(I)J"⟩
abbrev cX0_keepOnly : ByteArray := prog_2_method_13_code
def yX0_keepOnly : MethodName := ⟨RX0, "keepOnly", "(I)V"⟩
abbrev cX0_holdsBy : ByteArray := prog_2_method_14_code
def yX0_holdsBy : MethodName := ⟨RX0, "holdsBy", "(II)Z"⟩
abbrev cX0_foresee : ByteArray := prog_2_method_15_code
def yX0_foresee : MethodName := ⟨RX0, "foresee", "()V"⟩
abbrev cX0_sitting : ByteArray := prog_2_method_16_code
def yX0_sitting : MethodName := ⟨RX0, "sitting", "(IIIZ)J"⟩
abbrev cX0_contest : ByteArray := prog_2_method_17_code
def yX0_contest : MethodName := ⟨RX0, "contest", "(LSwordSeat$Realm;III)V"⟩
abbrev cX0_duelHour : ByteArray := prog_2_method_18_code
def yX0_duelHour : MethodName := ⟨RX0, "duelHour", "(IJJJ[J[J)V"⟩
abbrev cX0_clearGains : ByteArray := prog_2_method_19_code
def yX0_clearGains : MethodName := ⟨RX0, "clearGains", "([J)V"⟩
def RX1 : String := "SwordSeat$Reader"
def TX1 : u_T := fun k => match k with
  | 0 => ("SwordSeat$Reader", "tape", "LSwordSeat$Tape;", true)
  | 1 => ("SwordSeat$Reader", "draft", "LSwordSeat$Realm;", true)
  | 2 => ("SwordSeat$Reader", "sort", "I", false)
  | 3 => ("SwordSeat$Reader", "from", "I", false)
  | 4 => ("SwordSeat$Reader", "to", "I", false)
  | 5 => ("SwordSeat$Reader", "value", "I", false)
  | 6 => ("SwordSeat$Reader", "broken", "I", false)
  | 7 => ("SwordSeat$Reader", "loadTold", "Z", false)
  | 8 => ("SwordSeat$Reader", "prizeTold", "Z", false)
  | 9 => ("SwordSeat$Reader", "fault", "I", false)
  | _ => ("SwordSeat$Reader", "place", "I", false)
def tyX1 : Nat → FieldType := fun k => match k with
  | 0 => .object "SwordSeat$Tape"
  | 1 => .object "SwordSeat$Realm"
  | 2 => .int
  | 3 => .int
  | 4 => .int
  | 5 => .int
  | 6 => .int
  | 7 => .boolean
  | 8 => .boolean
  | 9 => .int
  | _ => .int
abbrev wsX10 : List Cond := u_ws RX1 TX1 11
theorem nmX1 : ∀ a, a < 11 → ∀ b, b < 11 → a ≠ b → (TX1 a).2.1 ≠ (TX1 b).2.1 := by decide +kernel
theorem tyX1_ok : ∀ k, k < 11 → parseFieldDescriptor (TX1 k).2.2.1 = some (tyX1 k) := by decide +kernel
abbrev cX1_init : ByteArray := prog_3_method_1_code
def yX1_init : MethodName := ⟨RX1, "<init>", "()V"⟩
abbrev cX1_readAll : ByteArray := prog_3_method_2_code
def yX1_readAll : MethodName := ⟨RX1, "readAll", "()I"⟩
abbrev cX1_readLine : ByteArray := prog_3_method_3_code
def yX1_readLine : MethodName := ⟨RX1, "readLine", "()Z"⟩
abbrev cX1_readHair : ByteArray := prog_3_method_4_code
def yX1_readHair : MethodName := ⟨RX1, "readHair", "()Z"⟩
abbrev cX1_readKing : ByteArray := prog_3_method_5_code
def yX1_readKing : MethodName := ⟨RX1, "readKing", "()Z"⟩
abbrev cX1_readLaw : ByteArray := prog_3_method_6_code
def yX1_readLaw : MethodName := ⟨RX1, "readLaw", "()Z"⟩
abbrev cX1_readLoad : ByteArray := prog_3_method_7_code
def yX1_readLoad : MethodName := ⟨RX1, "readLoad", "()Z"⟩
abbrev cX1_readPrize : ByteArray := prog_3_method_8_code
def yX1_readPrize : MethodName := ⟨RX1, "readPrize", "()Z"⟩
abbrev cX1_readBroken : ByteArray := prog_3_method_9_code
def yX1_readBroken : MethodName := ⟨RX1, "readBroken", "()Z"⟩
abbrev cX1_readNumber : ByteArray := prog_3_method_10_code
def yX1_readNumber : MethodName := ⟨RX1, "readNumber", "(II)Z"⟩
abbrev cX1_readStop : ByteArray := prog_3_method_11_code
def yX1_readStop : MethodName := ⟨RX1, "readStop", "()Z"⟩
abbrev cX1_spelledKind : ByteArray := prog_3_method_12_code
def yX1_spelledKind : MethodName := ⟨RX1, "spelledKind", "()I"⟩
abbrev cX1_spells : ByteArray := prog_3_method_13_code
def yX1_spells : MethodName := ⟨RX1, "spells", "(Ljava/lang/String;)Z"⟩
abbrev cX1_nextToken : ByteArray := prog_3_method_14_code
def yX1_nextToken : MethodName := ⟨RX1, "nextToken", "()Z"⟩
abbrev cX1_sortOf : ByteArray := prog_3_method_15_code
def yX1_sortOf : MethodName := ⟨RX1, "sortOf", "(I)I"⟩
abbrev cX1_fail : ByteArray := prog_3_method_16_code
def yX1_fail : MethodName := ⟨RX1, "fail", "(II)Z"⟩
def RX2 : String := "SwordSeat$Realm"
def TX2 : u_T := fun k => match k with
  | 0 => ("SwordSeat$Realm", "kind", "[I", true)
  | 1 => ("SwordSeat$Realm", "age", "[I", true)
  | 2 => ("SwordSeat$Realm", "worth", "[I", true)
  | 3 => ("SwordSeat$Realm", "life", "[I", true)
  | 4 => ("SwordSeat$Realm", "lawHours", "[I", true)
  | 5 => ("SwordSeat$Realm", "lawWorth", "[I", true)
  | 6 => ("SwordSeat$Realm", "hairs", "I", false)
  | 7 => ("SwordSeat$Realm", "kings", "I", false)
  | 8 => ("SwordSeat$Realm", "laws", "I", false)
  | 9 => ("SwordSeat$Realm", "whole", "I", false)
  | 10 => ("SwordSeat$Realm", "load", "I", false)
  | 11 => ("SwordSeat$Realm", "prize", "I", false)
  | _ => ("SwordSeat$Realm", "hour", "I", false)
def tyX2 : Nat → FieldType := fun k => match k with
  | 0 => .array .int
  | 1 => .array .int
  | 2 => .array .int
  | 3 => .array .int
  | 4 => .array .int
  | 5 => .array .int
  | 6 => .int
  | 7 => .int
  | 8 => .int
  | 9 => .int
  | 10 => .int
  | 11 => .int
  | _ => .int
abbrev wsX20 : List Cond := u_ws RX2 TX2 13
theorem nmX2 : ∀ a, a < 13 → ∀ b, b < 13 → a ≠ b → (TX2 a).2.1 ≠ (TX2 b).2.1 := by decide +kernel
theorem tyX2_ok : ∀ k, k < 13 → parseFieldDescriptor (TX2 k).2.2.1 = some (tyX2 k) := by decide +kernel
abbrev cX2_init : ByteArray := prog_4_method_1_code
def yX2_init : MethodName := ⟨RX2, "<init>", "()V"⟩
abbrev cX2_clear : ByteArray := prog_4_method_2_code
def yX2_clear : MethodName := ⟨RX2, "clear", "()V"⟩
abbrev cX2_copy : ByteArray := prog_4_method_3_code
def yX2_copy : MethodName := ⟨RX2, "copy", "(LSwordSeat$Realm;)V"⟩
abbrev cX2_copyRow : ByteArray := prog_4_method_4_code
def yX2_copyRow : MethodName := ⟨RX2, "copyRow", "([I[I)V"⟩
abbrev cX2_addHair : ByteArray := prog_4_method_5_code
def yX2_addHair : MethodName := ⟨RX2, "addHair", "(II)Z"⟩
abbrev cX2_addKing : ByteArray := prog_4_method_6_code
def yX2_addKing : MethodName := ⟨RX2, "addKing", "(II)Z"⟩
abbrev cX2_addLaw : ByteArray := prog_4_method_7_code
def yX2_addLaw : MethodName := ⟨RX2, "addLaw", "(II)Z"⟩
abbrev cX2_wholeBit : ByteArray := prog_4_method_8_code
def yX2_wholeBit : MethodName := ⟨RX2, "wholeBit", "(I)I"⟩
abbrev cX2_breaks : ByteArray := prog_4_method_9_code
def yX2_breaks : MethodName := ⟨RX2, "breaks", "(I)I"⟩
abbrev cX2_tryHour : ByteArray := prog_4_method_10_code
def yX2_tryHour : MethodName := ⟨RX2, "tryHour", "(I)I"⟩
abbrev cX2_passHour : ByteArray := prog_4_method_11_code
def yX2_passHour : MethodName := ⟨RX2, "passHour", "(I)V"⟩
abbrev cX2_allAges : ByteArray := prog_4_method_12_code
def yX2_allAges : MethodName := ⟨RX2, "allAges", "()I"⟩
def RX3 : String := "SwordSeat$Seen"
def TX3 : u_T := fun k => match k with
  | 0 => ("SwordSeat$Seen", "hours", "[I", true)
  | 1 => ("SwordSeat$Seen", "whole", "[I", true)
  | _ => ("SwordSeat$Seen", "many", "I", false)
def tyX3 : Nat → FieldType := fun k => match k with
  | 0 => .array .int
  | 1 => .array .int
  | _ => .int
abbrev wsX30 : List Cond := u_ws RX3 TX3 3
theorem nmX3 : ∀ a, a < 3 → ∀ b, b < 3 → a ≠ b → (TX3 a).2.1 ≠ (TX3 b).2.1 := by decide +kernel
theorem tyX3_ok : ∀ k, k < 3 → parseFieldDescriptor (TX3 k).2.2.1 = some (tyX3 k) := by decide +kernel
abbrev cX3_init : ByteArray := prog_5_method_1_code
def yX3_init : MethodName := ⟨RX3, "<init>", "()V"⟩
abbrev cX3_append : ByteArray := prog_5_method_2_code
def yX3_append : MethodName := ⟨RX3, "append", "(II)Z"⟩
abbrev cX3_lastHour : ByteArray := prog_5_method_3_code
def yX3_lastHour : MethodName := ⟨RX3, "lastHour", "()I"⟩
def RX4 : String := "SwordSeat$Sheet"
def TX4 : u_T := fun k => match k with
  | 0 => ("SwordSeat$Sheet", "cells", "[I", true)
  | 1 => ("SwordSeat$Sheet", "lane", "I", false)
  | _ => ("SwordSeat$Sheet", "length", "I", false)
def tyX4 : Nat → FieldType := fun k => match k with
  | 0 => .array .int
  | 1 => .int
  | _ => .int
abbrev wsX40 : List Cond := u_ws RX4 TX4 3
theorem nmX4 : ∀ a, a < 3 → ∀ b, b < 3 → a ≠ b → (TX4 a).2.1 ≠ (TX4 b).2.1 := by decide +kernel
theorem tyX4_ok : ∀ k, k < 3 → parseFieldDescriptor (TX4 k).2.2.1 = some (tyX4 k) := by decide +kernel
abbrev cX4_init : ByteArray := prog_6_method_1_code
def yX4_init : MethodName := ⟨RX4, "<init>", "()V"⟩
abbrev cX4_renew : ByteArray := prog_6_method_2_code
def yX4_renew : MethodName := ⟨RX4, "renew", "(II)V"⟩
abbrev cX4_faultAt : ByteArray := prog_6_method_3_code
def yX4_faultAt : MethodName := ⟨RX4, "faultAt", "(I)I"⟩
abbrev cX4_faultAs : ByteArray := prog_6_method_4_code
def yX4_faultAs : MethodName := ⟨RX4, "faultAs", "(II)I"⟩
abbrev cX4_write : ByteArray := prog_6_method_5_code
def yX4_write : MethodName := ⟨RX4, "write", "(II)V"⟩
def RX5 : String := "SwordSeat$Tape"
def TX5 : u_T := fun k => match k with
  | 0 => ("SwordSeat$Tape", "bytes", "[B", true)
  | _ => ("SwordSeat$Tape", "length", "I", false)
def tyX5 : Nat → FieldType := fun k => match k with
  | 0 => .array .byte
  | _ => .int
abbrev wsX50 : List Cond := u_ws RX5 TX5 2
theorem nmX5 : ∀ a, a < 2 → ∀ b, b < 2 → a ≠ b → (TX5 a).2.1 ≠ (TX5 b).2.1 := by decide +kernel
theorem tyX5_ok : ∀ k, k < 2 → parseFieldDescriptor (TX5 k).2.2.1 = some (tyX5 k) := by decide +kernel
abbrev cX5_init : ByteArray := prog_7_method_1_code
def yX5_init : MethodName := ⟨RX5, "<init>", "()V"⟩
abbrev cX5_append : ByteArray := prog_7_method_2_code
def yX5_append : MethodName := ⟨RX5, "append", "(I)Z"⟩
abbrev cX5_byteAt : ByteArray := prog_7_method_3_code
def yX5_byteAt : MethodName := ⟨RX5, "byteAt", "(I)I"⟩
def RX6 : String := "SwordSeat"
def TX6 : u_T := fun k => match k with
  | 0 => ("SwordSeat", "now", "LSwordSeat$Realm;", true)
  | 1 => ("SwordSeat", "trial", "LSwordSeat$Realm;", true)
  | 2 => ("SwordSeat", "images", "[LSwordSeat$Realm;", true)
  | 3 => ("SwordSeat", "kept", "[Z", true)
  | 4 => ("SwordSeat", "reader", "LSwordSeat$Reader;", true)
  | 5 => ("SwordSeat", "odds", "LSwordSeat$Odds;", true)
  | 6 => ("SwordSeat", "seen", "LSwordSeat$Seen;", true)
  | 7 => ("SwordSeat", "sheets", "[LSwordSeat$Sheet;", true)
  | _ => ("SwordSeat", "torn", "I", false)
def tyX6 : Nat → FieldType := fun k => match k with
  | 0 => .object "SwordSeat$Realm"
  | 1 => .object "SwordSeat$Realm"
  | 2 => .array (.object "SwordSeat$Realm")
  | 3 => .array .boolean
  | 4 => .object "SwordSeat$Reader"
  | 5 => .object "SwordSeat$Odds"
  | 6 => .object "SwordSeat$Seen"
  | 7 => .array (.object "SwordSeat$Sheet")
  | _ => .int
abbrev wsX60 : List Cond := u_ws RX6 TX6 9
theorem nmX6 : ∀ a, a < 9 → ∀ b, b < 9 → a ≠ b → (TX6 a).2.1 ≠ (TX6 b).2.1 := by decide +kernel
theorem tyX6_ok : ∀ k, k < 9 → parseFieldDescriptor (TX6 k).2.2.1 = some (tyX6 k) := by decide +kernel
abbrev cX6_init : ByteArray := prog_1_method_1_code
def yX6_init : MethodName := ⟨RX6, "<init>", "()V"⟩
abbrev cX6_feed : ByteArray := prog_1_method_2_code
def yX6_feed : MethodName := ⟨RX6, "feed", "(I)I"⟩
abbrev cX6_end : ByteArray := prog_1_method_3_code
def yX6_end : MethodName := ⟨RX6, "end", "(I)I"⟩
abbrev cX6_text : ByteArray := prog_1_method_4_code
def yX6_text : MethodName := ⟨RX6, "text", "()I"⟩
abbrev cX6_fault : ByteArray := prog_1_method_5_code
def yX6_fault : MethodName := ⟨RX6, "fault", "()I"⟩
abbrev cX6_rule : ByteArray := prog_1_method_6_code
def yX6_rule : MethodName := ⟨RX6, "rule", "(I)I"⟩
abbrev cX6_hair : ByteArray := prog_1_method_7_code
def yX6_hair : MethodName := ⟨RX6, "hair", "(II)I"⟩
abbrev cX6_king : ByteArray := prog_1_method_8_code
def yX6_king : MethodName := ⟨RX6, "king", "(II)I"⟩
abbrev cX6_law : ByteArray := prog_1_method_9_code
def yX6_law : MethodName := ⟨RX6, "law", "(II)I"⟩
abbrev cX6_set : ByteArray := prog_1_method_10_code
def yX6_set : MethodName := ⟨RX6, "set", "(II)I"⟩
abbrev cX6_age : ByteArray := prog_1_method_11_code
def yX6_age : MethodName := ⟨RX6, "age", "(II)I"⟩
abbrev cX6_dye : ByteArray := prog_1_method_12_code
def yX6_dye : MethodName := ⟨RX6, "dye", "(II)I"⟩
abbrev cX6_knot : ByteArray := prog_1_method_13_code
def yX6_knot : MethodName := ⟨RX6, "knot", "(IZ)I"⟩
abbrev cX6_pay : ByteArray := prog_1_method_14_code
def yX6_pay : MethodName := ⟨RX6, "pay", "(III)I"⟩
abbrev cX6_hour : ByteArray := prog_1_method_15_code
def yX6_hour : MethodName := ⟨RX6, "hour", "(I)I"⟩
abbrev cX6_falls : ByteArray := prog_1_method_16_code
def yX6_falls : MethodName := ⟨RX6, "falls", "(II)J"⟩
abbrev cX6_left : ByteArray := prog_1_method_17_code
def yX6_left : MethodName := ⟨RX6, "left", "(III)J"⟩
abbrev cX6_mean : ByteArray := prog_1_method_18_code
def yX6_mean : MethodName := ⟨RX6, "mean", "(II)J"⟩
abbrev cX6_sits : ByteArray := prog_1_method_19_code
def yX6_sits : MethodName := ⟨RX6, "sits", "(III)J"⟩
abbrev cX6_best : ByteArray := prog_1_method_20_code
def yX6_best : MethodName := ⟨RX6, "best", "(III)J"⟩
abbrev cX6_test : ByteArray := prog_1_method_21_code
def yX6_test : MethodName := ⟨RX6, "test", "(III)J"⟩
abbrev cX6_plait : ByteArray := prog_1_method_22_code
def yX6_plait : MethodName := ⟨RX6, "plait", "(III)I"⟩
abbrev cX6_bears : ByteArray := prog_1_method_23_code
def yX6_bears : MethodName := ⟨RX6, "bears", "(II)I"⟩
abbrev cX6_mend : ByteArray := prog_1_method_24_code
def yX6_mend : MethodName := ⟨RX6, "mend", "(II)J"⟩
abbrev cX6_duel : ByteArray := prog_1_method_25_code
def yX6_duel : MethodName := ⟨RX6, "duel", "(IIII)J"⟩
abbrev cX6_crown : ByteArray := prog_1_method_26_code
def yX6_crown : MethodName := ⟨RX6, "crown", "(II)J"⟩
abbrev cX6_reads : ByteArray := prog_1_method_27_code
def yX6_reads : MethodName := ⟨RX6, "reads", "(II)J"⟩
abbrev cX6_laws : ByteArray := prog_1_method_28_code
def yX6_laws : MethodName := ⟨RX6, "laws", "(I)J"⟩
abbrev cX6_see : ByteArray := prog_1_method_29_code
def yX6_see : MethodName := ⟨RX6, "see", "(II)I"⟩
abbrev cX6_forget : ByteArray := prog_1_method_30_code
def yX6_forget : MethodName := ⟨RX6, "forget", "(I)I"⟩
abbrev cX6_likely : ByteArray := prog_1_method_31_code
def yX6_likely : MethodName := ⟨RX6, "likely", "(III)J"⟩
abbrev cX6_guess : ByteArray := prog_1_method_32_code
def yX6_guess : MethodName := ⟨RX6, "guess", "(I)J"⟩
abbrev cX6_drift : ByteArray := prog_1_method_33_code
def yX6_drift : MethodName := ⟨RX6, "drift", "(III)I"⟩
abbrev cX6_keep : ByteArray := prog_1_method_34_code
def yX6_keep : MethodName := ⟨RX6, "keep", "(I)I"⟩
abbrev cX6_back : ByteArray := prog_1_method_35_code
def yX6_back : MethodName := ⟨RX6, "back", "(I)I"⟩
abbrev cX6_sheet : ByteArray := prog_1_method_36_code
def yX6_sheet : MethodName := ⟨RX6, "sheet", "(III)I"⟩
abbrev cX6_lay : ByteArray := prog_1_method_37_code
def yX6_lay : MethodName := ⟨RX6, "lay", "(III)I"⟩
abbrev cX6_read : ByteArray := prog_1_method_38_code
def yX6_read : MethodName := ⟨RX6, "read", "(IIII)I"⟩
abbrev cX6_torn : ByteArray := prog_1_method_39_code
def yX6_torn : MethodName := ⟨RX6, "torn", "()I"⟩
abbrev cX6_count : ByteArray := prog_1_method_40_code
def yX6_count : MethodName := ⟨RX6, "count", "(I)I"⟩
abbrev cX6_within : ByteArray := prog_1_method_41_code
def yX6_within : MethodName := ⟨RX6, "within", "(III)Z"⟩
abbrev cX6_foreseen : ByteArray := prog_1_method_42_code
def yX6_foreseen : MethodName := ⟨RX6, "foreseen", "(I)Z"⟩
abbrev cX6_thousands : ByteArray := prog_1_method_43_code
def yX6_thousands : MethodName := ⟨RX6, "thousands", "(I)J"⟩
abbrev cX6_part : ByteArray := prog_1_method_44_code
def yX6_part : MethodName := ⟨RX6, "part", "(JJI)J"⟩
abbrev cX6_common : ByteArray := prog_1_method_45_code
def yX6_common : MethodName := ⟨RX6, "common", "(JJ)J"⟩
abbrev cX6_breaksOf : ByteArray := prog_1_method_46_code
def yX6_breaksOf : MethodName := ⟨RX6, "breaksOf", "(IIII)I"⟩
abbrev cX6_baseOf : ByteArray := prog_1_method_47_code
def yX6_baseOf : MethodName := ⟨RX6, "baseOf", "(II)I"⟩
abbrev cX6_heldFromNow : ByteArray := prog_1_method_48_code
def yX6_heldFromNow : MethodName := ⟨RX6, "heldFromNow", "(I)J"⟩
abbrev cX6_seeingGain : ByteArray := prog_1_method_49_code
def yX6_seeingGain : MethodName := ⟨RX6, "seeingGain", "(II)J"⟩
abbrev cX6_worthOfLaws : ByteArray := prog_1_method_50_code
def yX6_worthOfLaws : MethodName := ⟨RX6, "worthOfLaws", "(I)J"⟩
abbrev cX6_likelihood : ByteArray := prog_1_method_51_code
def yX6_likelihood : MethodName := ⟨RX6, "likelihood", "(II)J"⟩
def RX7 : String := "SwordSeatModel"
def TX7 : u_T := fun k => match k with
  | 0 => ("SwordSeatModel", "state", "[I", true)
  | 1 => ("SwordSeatModel", "hairMany", "I", false)
  | 2 => ("SwordSeatModel", "kingMany", "I", false)
  | 3 => ("SwordSeatModel", "laws", "[I", true)
  | 4 => ("SwordSeatModel", "lawMany", "I", false)
  | 5 => ("SwordSeatModel", "readPage", "[I", true)
  | 6 => ("SwordSeatModel", "readLaws", "[I", true)
  | 7 => ("SwordSeatModel", "readHairs", "I", false)
  | 8 => ("SwordSeatModel", "readKings", "I", false)
  | 9 => ("SwordSeatModel", "readLawMany", "I", false)
  | 10 => ("SwordSeatModel", "toldOnce", "I", false)
  | 11 => ("SwordSeatModel", "brokenTold", "I", false)
  | 12 => ("SwordSeatModel", "tape", "[I", true)
  | 13 => ("SwordSeatModel", "taped", "I", false)
  | 14 => ("SwordSeatModel", "fault", "I", false)
  | 15 => ("SwordSeatModel", "broken", "I", false)
  | 16 => ("SwordSeatModel", "brokenAt", "I", false)
  | 17 => ("SwordSeatModel", "spot", "I", false)
  | 18 => ("SwordSeatModel", "here", "I", false)
  | 19 => ("SwordSeatModel", "token", "I", false)
  | 20 => ("SwordSeatModel", "value", "I", false)
  | 21 => ("SwordSeatModel", "cuts", "[I", true)
  | 22 => ("SwordSeatModel", "letters", "[I", true)
  | 23 => ("SwordSeatModel", "kinds", "[I", true)
  | 24 => ("SwordSeatModel", "ages", "[I", true)
  | 25 => ("SwordSeatModel", "many", "I", false)
  | 26 => ("SwordSeatModel", "whole", "I", false)
  | 27 => ("SwordSeatModel", "bearing", "I", false)
  | 28 => ("SwordSeatModel", "odds", "[J", true)
  | 29 => ("SwordSeatModel", "then", "[J", true)
  | 30 => ("SwordSeatModel", "worths", "[J", true)
  | 31 => ("SwordSeatModel", "worthsThen", "[J", true)
  | 32 => ("SwordSeatModel", "isSitting", "Z", false)
  | 33 => ("SwordSeatModel", "firsts", "[J", true)
  | 34 => ("SwordSeatModel", "seconds", "[J", true)
  | 35 => ("SwordSeatModel", "seen", "[I", true)
  | 36 => ("SwordSeatModel", "seenMany", "I", false)
  | 37 => ("SwordSeatModel", "isKept", "[Z", true)
  | 38 => ("SwordSeatModel", "lanes", "[I", true)
  | 39 => ("SwordSeatModel", "lengths", "[I", true)
  | 40 => ("SwordSeatModel", "cells", "[I", true)
  | _ => ("SwordSeatModel", "torn", "I", false)
def tyX7 : Nat → FieldType := fun k => match k with
  | 0 => .array .int
  | 1 => .int
  | 2 => .int
  | 3 => .array .int
  | 4 => .int
  | 5 => .array .int
  | 6 => .array .int
  | 7 => .int
  | 8 => .int
  | 9 => .int
  | 10 => .int
  | 11 => .int
  | 12 => .array .int
  | 13 => .int
  | 14 => .int
  | 15 => .int
  | 16 => .int
  | 17 => .int
  | 18 => .int
  | 19 => .int
  | 20 => .int
  | 21 => .array .int
  | 22 => .array .int
  | 23 => .array .int
  | 24 => .array .int
  | 25 => .int
  | 26 => .int
  | 27 => .int
  | 28 => .array .long
  | 29 => .array .long
  | 30 => .array .long
  | 31 => .array .long
  | 32 => .boolean
  | 33 => .array .long
  | 34 => .array .long
  | 35 => .array .int
  | 36 => .int
  | 37 => .array .boolean
  | 38 => .array .int
  | 39 => .array .int
  | 40 => .array .int
  | _ => .int
abbrev wsX70 : List Cond := u_ws RX7 TX7 42
theorem nmX7 : ∀ a, a < 42 → ∀ b, b < 42 → a ≠ b → (TX7 a).2.1 ≠ (TX7 b).2.1 := by decide +kernel
theorem tyX7_ok : ∀ k, k < 42 → parseFieldDescriptor (TX7 k).2.2.1 = some (tyX7 k) := by decide +kernel
abbrev cX7_init : ByteArray := prog_9_method_1_code
def yX7_init : MethodName := ⟨RX7, "<init>", "()V"⟩
abbrev cX7_in : ByteArray := prog_9_method_3_code
def yX7_in : MethodName := ⟨RX7, "in", "(JJJ)Z"⟩
abbrev cX7_feed : ByteArray := prog_9_method_4_code
def yX7_feed : MethodName := ⟨RX7, "feed", "(I)I"⟩
abbrev cX7_end : ByteArray := prog_9_method_5_code
def yX7_end : MethodName := ⟨RX7, "end", "(I)I"⟩
abbrev cX7_byteAt : ByteArray := prog_9_method_6_code
def yX7_byteAt : MethodName := ⟨RX7, "byteAt", "(I)I"⟩
abbrev cX7_fails : ByteArray := prog_9_method_7_code
def yX7_fails : MethodName := ⟨RX7, "fails", "(I)V"⟩
abbrev cX7_nameHere : ByteArray := prog_9_method_8_code
def yX7_nameHere : MethodName := ⟨RX7, "nameHere", "()I"⟩
abbrev cX7_step : ByteArray := prog_9_method_9_code
def yX7_step : MethodName := ⟨RX7, "step", "()V"⟩
abbrev cX7_number : ByteArray := prog_9_method_10_code
def yX7_number : MethodName := ⟨RX7, "number", "(II)I"⟩
abbrev cX7_readMore : ByteArray := prog_9_method_11_code
def yX7_readMore : MethodName := ⟨RX7, "readMore", "(I)V"⟩
abbrev cX7_readLine : ByteArray := prog_9_method_12_code
def yX7_readLine : MethodName := ⟨RX7, "readLine", "()V"⟩
abbrev cX7_text : ByteArray := prog_9_method_13_code
def yX7_text : MethodName := ⟨RX7, "text", "()I"⟩
abbrev cX7_fault : ByteArray := prog_9_method_14_code
def yX7_fault : MethodName := ⟨RX7, "fault", "()I"⟩
abbrev cX7_isHair : ByteArray := prog_9_method_15_code
def yX7_isHair : MethodName := ⟨RX7, "isHair", "(I)Z"⟩
abbrev cX7_isKing : ByteArray := prog_9_method_16_code
def yX7_isKing : MethodName := ⟨RX7, "isKing", "(I)Z"⟩
abbrev cX7_load : ByteArray := prog_9_method_17_code
def yX7_load : MethodName := ⟨RX7, "load", "()I"⟩
abbrev cX7_prize : ByteArray := prog_9_method_18_code
def yX7_prize : MethodName := ⟨RX7, "prize", "()I"⟩
abbrev cX7_wholeNow : ByteArray := prog_9_method_19_code
def yX7_wholeNow : MethodName := ⟨RX7, "wholeNow", "()I"⟩
abbrev cX7_rule : ByteArray := prog_9_method_20_code
def yX7_rule : MethodName := ⟨RX7, "rule", "(I)I"⟩
abbrev cX7_lays : ByteArray := prog_9_method_21_code
def yX7_lays : MethodName := ⟨RX7, "lays", "()V"⟩
abbrev cX7_laysNew : ByteArray := prog_9_method_22_code
def yX7_laysNew : MethodName := ⟨RX7, "laysNew", "(II)V"⟩
abbrev cX7_bitsOf : ByteArray := prog_9_method_23_code
def yX7_bitsOf : MethodName := ⟨RX7, "bitsOf", "(I)I"⟩
abbrev cX7_breaksOf : ByteArray := prog_9_method_24_code
def yX7_breaksOf : MethodName := ⟨RX7, "breaksOf", "(III)I"⟩
abbrev cX7_hair : ByteArray := prog_9_method_25_code
def yX7_hair : MethodName := ⟨RX7, "hair", "(II)I"⟩
abbrev cX7_king : ByteArray := prog_9_method_26_code
def yX7_king : MethodName := ⟨RX7, "king", "(II)I"⟩
abbrev cX7_law : ByteArray := prog_9_method_27_code
def yX7_law : MethodName := ⟨RX7, "law", "(II)I"⟩
abbrev cX7_puts : ByteArray := prog_9_method_28_code
def yX7_puts : MethodName := ⟨RX7, "puts", "(ZIII)I"⟩
abbrev cX7_set : ByteArray := prog_9_method_29_code
def yX7_set : MethodName := ⟨RX7, "set", "(II)I"⟩
abbrev cX7_age : ByteArray := prog_9_method_30_code
def yX7_age : MethodName := ⟨RX7, "age", "(II)I"⟩
abbrev cX7_dye : ByteArray := prog_9_method_31_code
def yX7_dye : MethodName := ⟨RX7, "dye", "(II)I"⟩
abbrev cX7_knot : ByteArray := prog_9_method_32_code
def yX7_knot : MethodName := ⟨RX7, "knot", "(IZ)I"⟩
abbrev cX7_pay : ByteArray := prog_9_method_33_code
def yX7_pay : MethodName := ⟨RX7, "pay", "(III)I"⟩
abbrev cX7_hours : ByteArray := prog_9_method_34_code
def yX7_hours : MethodName := ⟨RX7, "hours", "(I)I"⟩
abbrev cX7_hour : ByteArray := prog_9_method_35_code
def yX7_hour : MethodName := ⟨RX7, "hour", "(I)I"⟩
abbrev cX7_wayOf : ByteArray := prog_9_method_36_code
def yX7_wayOf : MethodName := ⟨RX7, "wayOf", "(III)J"⟩
abbrev cX7_begins : ByteArray := prog_9_method_37_code
def yX7_begins : MethodName := ⟨RX7, "begins", "()V"⟩
abbrev cX7_hourOn : ByteArray := prog_9_method_38_code
def yX7_hourOn : MethodName := ⟨RX7, "hourOn", "(I)V"⟩
abbrev cX7_hoursOn : ByteArray := prog_9_method_39_code
def yX7_hoursOn : MethodName := ⟨RX7, "hoursOn", "(I)V"⟩
abbrev cX7_tens : ByteArray := prog_9_method_40_code
def yX7_tens : MethodName := ⟨RX7, "tens", "(I)J"⟩
abbrev cX7_lowest : ByteArray := prog_9_method_41_code
def yX7_lowest : MethodName := ⟨RX7, "lowest", "(JJI)J"⟩
abbrev cX7_holds : ByteArray := prog_9_method_42_code
def yX7_holds : MethodName := ⟨RX7, "holds", "(I)J"⟩
abbrev cX7_isLong : ByteArray := prog_9_method_43_code
def yX7_isLong : MethodName := ⟨RX7, "isLong", "(I)Z"⟩
abbrev cX7_falls : ByteArray := prog_9_method_44_code
def yX7_falls : MethodName := ⟨RX7, "falls", "(II)J"⟩
abbrev cX7_left : ByteArray := prog_9_method_45_code
def yX7_left : MethodName := ⟨RX7, "left", "(III)J"⟩
abbrev cX7_mean : ByteArray := prog_9_method_46_code
def yX7_mean : MethodName := ⟨RX7, "mean", "(II)J"⟩
abbrev cX7_sits : ByteArray := prog_9_method_47_code
def yX7_sits : MethodName := ⟨RX7, "sits", "(III)J"⟩
abbrev cX7_bestOf : ByteArray := prog_9_method_48_code
def yX7_bestOf : MethodName := ⟨RX7, "bestOf", "(II)J"⟩
abbrev cX7_best : ByteArray := prog_9_method_49_code
def yX7_best : MethodName := ⟨RX7, "best", "(III)J"⟩
abbrev cX7_test : ByteArray := prog_9_method_50_code
def yX7_test : MethodName := ⟨RX7, "test", "(III)J"⟩
abbrev cX7_holdsBy : ByteArray := prog_9_method_51_code
def yX7_holdsBy : MethodName := ⟨RX7, "holdsBy", "(II)Z"⟩
abbrev cX7_plait : ByteArray := prog_9_method_52_code
def yX7_plait : MethodName := ⟨RX7, "plait", "(III)I"⟩
abbrev cX7_bears : ByteArray := prog_9_method_53_code
def yX7_bears : MethodName := ⟨RX7, "bears", "(II)I"⟩
abbrev cX7_mend : ByteArray := prog_9_method_54_code
def yX7_mend : MethodName := ⟨RX7, "mend", "(II)J"⟩
abbrev cX7_duels : ByteArray := prog_9_method_55_code
def yX7_duels : MethodName := ⟨RX7, "duels", "(III)V"⟩
abbrev cX7_duel : ByteArray := prog_9_method_56_code
def yX7_duel : MethodName := ⟨RX7, "duel", "(IIII)J"⟩
abbrev cX7_crown : ByteArray := prog_9_method_57_code
def yX7_crown : MethodName := ⟨RX7, "crown", "(II)J"⟩
abbrev cX7_readOf : ByteArray := prog_9_method_58_code
def yX7_readOf : MethodName := ⟨RX7, "readOf", "(I)J"⟩
abbrev cX7_reads : ByteArray := prog_9_method_59_code
def yX7_reads : MethodName := ⟨RX7, "reads", "(II)J"⟩
abbrev cX7_laws : ByteArray := prog_9_method_60_code
def yX7_laws : MethodName := ⟨RX7, "laws", "(I)J"⟩
abbrev cX7_see : ByteArray := prog_9_method_61_code
def yX7_see : MethodName := ⟨RX7, "see", "(II)I"⟩
abbrev cX7_forget : ByteArray := prog_9_method_62_code
def yX7_forget : MethodName := ⟨RX7, "forget", "(I)I"⟩
abbrev cX7_sifts : ByteArray := prog_9_method_63_code
def yX7_sifts : MethodName := ⟨RX7, "sifts", "(I)V"⟩
abbrev cX7_likeliness : ByteArray := prog_9_method_64_code
def yX7_likeliness : MethodName := ⟨RX7, "likeliness", "(II)J"⟩
abbrev cX7_likely : ByteArray := prog_9_method_65_code
def yX7_likely : MethodName := ⟨RX7, "likely", "(III)J"⟩
abbrev cX7_guess : ByteArray := prog_9_method_66_code
def yX7_guess : MethodName := ⟨RX7, "guess", "(I)J"⟩
abbrev cX7_drift : ByteArray := prog_9_method_67_code
def yX7_drift : MethodName := ⟨RX7, "drift", "(III)I"⟩
abbrev cX7_copies : ByteArray := prog_9_method_68_code
def yX7_copies : MethodName := ⟨RX7, "copies", "(II)V"⟩
abbrev cX7_keep : ByteArray := prog_9_method_69_code
def yX7_keep : MethodName := ⟨RX7, "keep", "(I)I"⟩
abbrev cX7_back : ByteArray := prog_9_method_70_code
def yX7_back : MethodName := ⟨RX7, "back", "(I)I"⟩
abbrev cX7_sheet : ByteArray := prog_9_method_71_code
def yX7_sheet : MethodName := ⟨RX7, "sheet", "(III)I"⟩
abbrev cX7_lay : ByteArray := prog_9_method_72_code
def yX7_lay : MethodName := ⟨RX7, "lay", "(III)I"⟩
abbrev cX7_read : ByteArray := prog_9_method_73_code
def yX7_read : MethodName := ⟨RX7, "read", "(IIII)I"⟩
abbrev cX7_torn : ByteArray := prog_9_method_74_code
def yX7_torn : MethodName := ⟨RX7, "torn", "()I"⟩
abbrev cX7_count : ByteArray := prog_9_method_75_code
def yX7_count : MethodName := ⟨RX7, "count", "(I)I"⟩
def RJ6 : String := "java/lang/Integer"
def TJ6 : u_T := fun k => match k with
  | _ => ("", "", "", false)
def tyJ6 : Nat → FieldType := fun k => match k with
  | _ => .int
abbrev wsJ60 : List Cond := u_ws RJ6 TJ6 0
theorem nmJ6 : ∀ a, a < 0 → ∀ b, b < 0 → a ≠ b → (TJ6 a).2.1 ≠ (TJ6 b).2.1 := by decide +kernel
theorem tyJ6_ok : ∀ k, k < 0 → parseFieldDescriptor (TJ6 k).2.2.1 = some (tyJ6 k) := by decide +kernel
abbrev cJ6_bitCount_0f7a4 : ByteArray := prog_10_method_49_code
def yJ6_bitCount_0f7a4 : MethodName := ⟨RJ6, "bitCount", "(I)I"⟩
def RJ9 : String := "java/lang/Math"
def TJ9 : u_T := fun k => match k with
  | _ => ("", "", "", false)
def tyJ9 : Nat → FieldType := fun k => match k with
  | _ => .int
abbrev wsJ90 : List Cond := u_ws RJ9 TJ9 0
theorem nmJ9 : ∀ a, a < 0 → ∀ b, b < 0 → a ≠ b → (TJ9 a).2.1 ≠ (TJ9 b).2.1 := by decide +kernel
theorem tyJ9_ok : ∀ k, k < 0 → parseFieldDescriptor (TJ9 k).2.2.1 = some (tyJ9 k) := by decide +kernel
abbrev cJ9_abs_067f4 : ByteArray := prog_11_method_61_code
def yJ9_abs_067f4 : MethodName := ⟨RJ9, "abs", "(J)J"⟩
abbrev cJ9_max_7cf53 : ByteArray := prog_11_method_65_code
def yJ9_max_7cf53 : MethodName := ⟨RJ9, "max", "(II)I"⟩
abbrev cJ9_max_f86c9 : ByteArray := prog_11_method_66_code
def yJ9_max_f86c9 : MethodName := ⟨RJ9, "max", "(JJ)J"⟩
abbrev cJ9_min_7cf53 : ByteArray := prog_11_method_69_code
def yJ9_min_7cf53 : MethodName := ⟨RJ9, "min", "(II)I"⟩
def RJ0 : String := "java/lang/String"
def TJ0 : u_T := fun k => match k with
  | _ => ("", "", "", false)
def tyJ0 : Nat → FieldType := fun k => match k with
  | _ => .int
abbrev wsJ00 : List Cond := u_ws RJ0 TJ0 0
theorem nmJ0 : ∀ a, a < 0 → ∀ b, b < 0 → a ≠ b → (TJ0 a).2.1 ≠ (TJ0 b).2.1 := by decide +kernel
theorem tyJ0_ok : ∀ k, k < 0 → parseFieldDescriptor (TJ0 k).2.2.1 = some (tyJ0 k) := by decide +kernel
abbrev cJ0_length_8abf5 : ByteArray := prog_12_method_54_code
def yJ0_length_8abf5 : MethodName := ⟨RJ0, "length", "()I"⟩
abbrev cJ0_charAt_5068e : ByteArray := prog_12_method_56_code
def yJ0_charAt_5068e : MethodName := ⟨RJ0, "charAt", "(I)C"⟩
abbrev cJ0_coder_7d493 : ByteArray := prog_12_method_152_code
def yJ0_coder_7d493 : MethodName := ⟨RJ0, "coder", "()B"⟩
abbrev cJ0_isLatin1_aae02 : ByteArray := prog_12_method_154_code
def yJ0_isLatin1_aae02 : MethodName := ⟨RJ0, "isLatin1", "()Z"⟩
abbrev cJ0_checkIndex_df160 : ByteArray := prog_12_method_155_code
def yJ0_checkIndex_df160 : MethodName := ⟨RJ0, "checkIndex", "(II)V"⟩
def RJ1 : String := "java/lang/StringLatin1"
def TJ1 : u_T := fun k => match k with
  | _ => ("", "", "", false)
def tyJ1 : Nat → FieldType := fun k => match k with
  | _ => .int
abbrev wsJ10 : List Cond := u_ws RJ1 TJ1 0
theorem nmJ1 : ∀ a, a < 0 → ∀ b, b < 0 → a ≠ b → (TJ1 a).2.1 ≠ (TJ1 b).2.1 := by decide +kernel
theorem tyJ1_ok : ∀ k, k < 0 → parseFieldDescriptor (TJ1 k).2.2.1 = some (tyJ1 k) := by decide +kernel
abbrev cJ1_charAt_3b067 : ByteArray := prog_13_method_2_code
def yJ1_charAt_3b067 : MethodName := ⟨RJ1, "charAt", "([BI)C"⟩
def RJ2 : String := "java/lang/StringUTF16"
def TJ2 : u_T := fun k => match k with
  | _ => ("", "", "", false)
def tyJ2 : Nat → FieldType := fun k => match k with
  | _ => .int
abbrev wsJ20 : List Cond := u_ws RJ2 TJ2 0
theorem nmJ2 : ∀ a, a < 0 → ∀ b, b < 0 → a ≠ b → (TJ2 a).2.1 ≠ (TJ2 b).2.1 := by decide +kernel
theorem tyJ2_ok : ∀ k, k < 0 → parseFieldDescriptor (TJ2 k).2.2.1 = some (tyJ2 k) := by decide +kernel
abbrev cJ2_getChar_3b067 : ByteArray := prog_14_method_5_code
def yJ2_getChar_3b067 : MethodName := ⟨RJ2, "getChar", "([BI)C"⟩
abbrev cJ2_length_9d52b : ByteArray := prog_14_method_6_code
def yJ2_length_9d52b : MethodName := ⟨RJ2, "length", "([B)I"⟩
abbrev cJ2_charAt_3b067 : ByteArray := prog_14_method_83_code
def yJ2_charAt_3b067 : MethodName := ⟨RJ2, "charAt", "([BI)C"⟩
abbrev cJ2_checkIndex_2214a : ByteArray := prog_14_method_91_code
def yJ2_checkIndex_2214a : MethodName := ⟨RJ2, "checkIndex", "(I[B)V"⟩
def RJ3 : String := "jdk/internal/util/Preconditions"
def TJ3 : u_T := fun k => match k with
  | _ => ("", "", "", false)
def tyJ3 : Nat → FieldType := fun k => match k with
  | _ => .int
abbrev wsJ30 : List Cond := u_ws RJ3 TJ3 0
theorem nmJ3 : ∀ a, a < 0 → ∀ b, b < 0 → a ≠ b → (TJ3 a).2.1 ≠ (TJ3 b).2.1 := by decide +kernel
theorem tyJ3_ok : ∀ k, k < 0 → parseFieldDescriptor (TJ3 k).2.2.1 = some (tyJ3 k) := by decide +kernel
abbrev cJ3_checkIndex_8e157 : ByteArray := prog_15_method_11_code
def yJ3_checkIndex_8e157 : MethodName := ⟨RJ3, "checkIndex", "(IILjava/util/function/BiFunction;)I"⟩
def RL : String := "SwordSeatLaw"
abbrev cL_law : ByteArray := code
end
section
/-! ===== the logic: runs of a method over a world whose cells are numbered; a reference is a cell's number ===== -/
abbrev jE : Type := (Nat × vp_A) ⊕ (Nat × List Value)
abbrev jW : Type := List jE
def jg (ad : Nat → Nat) (v : Value) : Value := match v with
  | .ref k => .ref (ad k)
  | v => v
def jgA (ad : Nat → Nat) (a : vp_A) : vp_A := (a.1, match a.2 with
  | .inr (.inr (.inr (.inr f))) => .inr (.inr (.inr (.inr (fun j => (f j).map ad))))
  | x => x)
def jgE (cy : Nat → ClassId) (ad : Nat → Nat) (x : jE) : va_E := match x with
  | .inl (t, a) => .inl (cy t, jgA ad a)
  | .inr (c, fs) => .inr (c, fs.map (jg ad))
/-- a cell whose references are numbered anew -/
def jrE (ro : Nat → Nat) (x : jE) : jE := match x with
  | .inl (t, a) => .inl (t, jgA ro a)
  | .inr (c, fs) => .inr (c, fs.map (jg ro))
def jgW (cy : Nat → ClassId) (ad : Nat → Nat) (A : jW) : va_W := A.mapIdx (fun k x => (ad k, jgE cy ad x))
theorem jgW_get {cy : Nat → ClassId} {ad : Nat → Nat} {A : jW} {k : Nat} {x : jE} (h : A[k]? = some x) : (jgW cy ad A)[k]? = some (ad k, jgE cy ad x) := by
  simp [jgW, h]
theorem jgW_of {cy : Nat → ClassId} {ad : Nat → Nat} {A : jW} {k : Nat} {q : Nat × va_E} (h : (jgW cy ad A)[k]? = some q) : ∃ x, A[k]? = some x ∧ q = (ad k, jgE cy ad x) := by
  simp only [jgW, List.getElem?_mapIdx, Option.map_eq_some_iff] at h
  obtain ⟨x, h1, h2⟩ := h
  exact ⟨x, h1, h2.symm⟩
theorem jgW_set {cy : Nat → ClassId} {ad : Nat → Nat} {A : jW} {k : Nat} {x : jE} : (jgW cy ad A).set k (ad k, jgE cy ad x) = jgW cy ad (A.set k x) := by
  apply List.ext_getElem?
  intro i
  simp only [jgW, List.getElem?_set, List.getElem?_mapIdx, List.length_mapIdx]
  by_cases h : k = i
  · subst h
    by_cases h2 : k < A.length <;> simp [h2]
  · simp [h]
theorem jgW_len {cy : Nat → ClassId} {ad : Nat → Nat} {A : jW} : (jgW cy ad A).length = A.length := by simp [jgW]
theorem jg_comp (ad ro : Nat → Nat) (v : Value) : jg (fun k => ad (ro k)) v = jg ad (jg ro v) := by cases v <;> rfl
theorem jgA_comp (ad ro : Nat → Nat) (a : vp_A) : jgA (fun k => ad (ro k)) a = jgA ad (jgA ro a) := by
  obtain ⟨n, f | f | f | f | f⟩ := a <;> first | rfl | (simp only [jgA, Option.map_map]; rfl)
theorem jgE_comp (cy : Nat → ClassId) (ad ro : Nat → Nat) (x : jE) : jgE cy (fun k => ad (ro k)) x = jgE cy ad (jrE ro x) := by
  obtain ⟨t, a⟩ | ⟨c, fs⟩ := x
  · simp only [jgE, jrE, jgA_comp]
  · simp only [jgE, jrE, List.map_map]
    congr 2
    apply List.map_congr_left
    intro v _
    exact jg_comp ad ro v
theorem jg_cat (ad : Nat → Nat) (v : Value) : (jg ad v).category = v.category := by cases v <;> rfl
/-- words, classes, kinds of array -/
def jTs : List Cond := lw_tbl.filter goodWord
def jNb (c : Cond) : Bool := match c with
  | .fieldLinkNest .. => true
  | .methodLinkNest .. => true
  | _ => false
def jNs : List Cond := tables_1.filter jNb
abbrev jCl : List vw_C := [(RX0, TX0, 12), (RX1, TX1, 11), (RX2, TX2, 13), (RX3, TX3, 3), (RX4, TX4, 3), (RX5, TX5, 2), (RX6, TX6, 9), (RX7, TX7, 42)]
abbrev jTys (cy : Nat → ClassId) : List (ClassId × FieldType) := [(cy 0, .int), (cy 1, .long), (cy 2, .byte), (cy 3, .boolean), (cy 4, .object RX2), (cy 5, .object RX4)]
/-- the String constants of the class Reader: their lengths, bytes, places in its pool, texts -/
def jlen : List Nat := [4, 5, 4, 4, 7, 4, 4, 3, 4, 5, 6]
def jbyt : List (List Int32) := [[104, 97, 105, 114], [112, 108, 97, 105, 110], [100, 97, 109, 112], [100, 121, 101, 100], [100, 111, 117, 98, 108, 101, 100], [115, 117, 110, 103], [107, 105, 110, 103], [108, 97, 119], [108, 111, 97, 100], [112, 114, 105, 122, 101], [98, 114, 111, 107, 101, 110]]
def jidx : List Nat := [71, 147, 149, 151, 153, 155, 83, 88, 93, 98, 103]
def jtx : List String := ["hair", "plain", "damp", "dyed", "doubled", "sung", "king", "law", "load", "prize", "broken"]
def jS (ad : Nat → Nat) (A0 : Nat → Prop) (s : State) (H : Heap) : Prop :=
  vk_S 11 jlen jbyt (fun i => ad (1000 + i)) (fun i => ad (2000 + i)) A0 s H ∧ (∀ i, i < 11 → vk_R RX1 (jidx.getD i 0) (jtx.getD i "") (ad (1000 + i)) s) ∧
  va_Z "java/lang/String" "COMPACT_STRINGS" "Z" (.int 1) A0 s H ∧ va_Zq "jdk/internal/util/Preconditions" "SIOOBE_FORMATTER" "Ljava/util/function/BiFunction;" A0 s H
/-- what holds of the tables in every state -/
def jU (dC : Nat → ClassId) (dI : Nat → Nat → Nat) (cy : Nat → ClassId) (s : State) : Prop :=
  (∀ w ∈ jNs, va_Nw w s) ∧ va_K (dC, dI) jCl (jTys cy) s ∧ va_AO RX2 s ∧ va_AO RX4 s
theorem jU.warm {dC : Nat → ClassId} {dI : Nat → Nat → Nat} {cy : Nat → ClassId} {s U : State} (h : jU dC dI cy s) (hW : s.WarmedH U.vm) : jU dC dI cy U := by
  refine ⟨fun w hw => ?_, va_K.moved hW.alike h.2.1, va_AO.moved hW.alike h.2.2.1, va_AO.moved hW.alike h.2.2.2⟩
  have h1 := h.1 w hw
  have h2 := (List.mem_filter.mp hw).2
  cases w <;> first | exact va_Nw.warmF hW h1 | exact va_Nw.warmM hW h1 | (exfalso; revert h2; simp [jNb])
theorem jU.same {dC : Nat → ClassId} {dI : Nat → Nat → Nat} {cy : Nat → ClassId} {s U : State} (h : jU dC dI cy s) (hv : s.vm = U.vm) : jU dC dI cy U := by
  have ha : s.vm.Alike U.vm := by rw [← hv]; exact Vm.Alike.refl s.vm
  refine ⟨fun w hw => ?_, va_K.moved ha h.2.1, va_AO.moved ha h.2.2.1, va_AO.moved ha h.2.2.2⟩
  have h1 := h.1 w hw
  have h2 := (List.mem_filter.mp hw).2
  cases w <;> first | exact va_Nw.same rfl hv h1 | (exfalso; revert h2; simp [jNb])
theorem jS.step {ad : Nat → Nat} {A0 A1 : Nat → Prop} {s U : State} {H0 H : Heap} (h : jS ad A0 s H0) (hW : s.WarmedH U.vm) (hq : ∀ a : Nat, a < H0.size → ¬ A0 a → H[a]? = H0[a]?) (hA : ∀ q, A1 q → A0 q) : jS ad A1 U H :=
  ⟨((vk_S.moved hW.alike h.1).kept hq).narrow hA, fun i hi => vk_R.warm hW (h.2.1 i hi), ((va_Z.moved hW.alike h.2.2.1).kept hq).narrow hA, ((va_Zq.moved hW.alike h.2.2.2).kept hq).narrow hA⟩
theorem jS.same {ad : Nat → Nat} {A0 : Nat → Prop} {s U : State} {H : Heap} (h : jS ad A0 s H) (hv : s.vm = U.vm) : jS ad A0 U H := by
  have ha : s.vm.Alike U.vm := by rw [← hv]; exact Vm.Alike.refl s.vm
  exact ⟨vk_S.moved ha h.1, fun i hi => vk_R.same hv.symm (h.2.1 i hi), va_Z.moved ha h.2.2.1, va_Zq.moved ha h.2.2.2⟩
theorem jS.ad {ad ad' : Nat → Nat} {A0 : Nat → Prop} {s : State} {H : Heap} (h : jS ad A0 s H) (he : ∀ k, 1000 ≤ k → ad' k = ad k) : jS ad' A0 s H := by
  have e1 : (fun i => ad' (1000 + i)) = (fun i => ad (1000 + i)) := funext fun i => he _ (by omega)
  have e2 : (fun i => ad' (2000 + i)) = (fun i => ad (2000 + i)) := funext fun i => he _ (by omega)
  unfold jS
  rw [e1, e2]
  exact ⟨h.1, fun i hi => by rw [he _ (by omega)]; exact h.2.1 i hi, h.2.2⟩
/-- a method: its class, code, locals, name, answer's type, room -/
abbrev jM : Type := String × ByteArray × Nat × MethodName × Option FieldType × Room
def jL (ad : Nat → Nat) (ls : Array Slot) (n : Nat) (L : List (Option Value)) : Prop := ls.size = n ∧ lv_wf ls ∧ ∀ (i : Nat) (v : Value), L[i]? = some (some v) → ls[i]? = some (.val (jg ad v))
/-- where a method stands -/
def jX (K : jM) (n0 : Nat) (p : Program) (s : State) (m : MethodId) (args : Array Value) (meth : Method) (c : Code) (dC : Nat → ClassId) (dI : Nat → Nat → Nat) (cy : Nat → ClassId) (A0 : Nat → Prop) (ad0 ad : Nat → Nat) (H : Heap) (locs : List Loc) (ls : Array Slot) (L : List (Option Value)) (A : jW) : Prop :=
  (p.tables.exec = Jvm.exec ∧ c.code = K.2.1 ∧ meth.sig.returnType = K.2.2.2.2.1 ∧ c.maxLocals = K.2.2.1 ∧ s.vm.findClass K.1 = some m.cls ∧ (∀ w ∈ jTs, w.before args s = true) ∧ meth.locks = false ∧ meth.name = K.2.2.2.1.name ∧ jU dC dI cy s ∧ jS ad A0 s s.heap) ∧
  (∀ k, k < n0 ∨ A.length ≤ k → ad k = ad0 k) ∧ (∀ q, s.heap.size ≤ q → A0 q) ∧ va_P (dC, dI) jCl (jgW cy ad A) H ∧ va_D A0 (jgW cy ad A) ∧ va_S A0 s.heap H locs ∧ jL ad ls K.2.2.1 L
def jQ (Q : Option Value → jW → Prop) (dC : Nat → ClassId) (dI : Nat → Nat → Nat) (cy : Nat → ClassId) (A0 : Nat → Prop) (n0 : Nat) (ad0 : Nat → Nat) : Array Value → State → Outcome → State → Prop := fun _ st oc t =>
  (∃ (r : Option Value) (A' : jW) (ad' : Nat → Nat), oc = .returned (r.map (jg ad')) ∧ Q r A' ∧ (∀ k, k < n0 ∨ A'.length ≤ k → ad' k = ad0 k) ∧ va_P (dC, dI) jCl (jgW cy ad' A') t.heap ∧ va_D A0 (jgW cy ad' A')) ∧ va_F A0 st t
/-- from this place on the method comes to its end, with Q of its answer and of the world -/
def J (K : jM) (n0 : Nat) (Q : Option Value → jW → Prop) (pc : Nat) (L : List (Option Value)) (st : List Value) (A : jW) (cells slots : Nat) : Prop :=
  ∀ (l : Launch) (p : Program) (e : Env) (s : State) (m : MethodId) (args : Array Value) (below : List Frame) (meth : Method) (c : Code) (dC : Nat → ClassId) (dI : Nat → Nat → Nat) (cy : Nat → ClassId) (A0 : Nat → Prop) (ad0 ad : Nat → Nat) (H : Heap) (locs : List Loc) (ls : Array Slot),
    jX K n0 p s m args meth c dC dI cy A0 ad0 ad H locs ls L A →
    W p l e K.2.2.2.2.2 s m args below meth c H locs cells slots (MQ below (jQ Q dC dI cy A0 n0 ad0) args s K.2.2.2.2.2.cells K.2.2.2.2.2.slots A0) (F0 m pc ls (st.map (jg ad)))
section JR
variable {K : jM} {n0 : Nat} {Q : Option Value → jW → Prop} {pc : Nat} {L : List (Option Value)} {st : List Value} {A : jW} {cells slots : Nat}
theorem J.weaken {Q' : Option Value → jW → Prop} (h : J K n0 Q pc L st A cells slots) (hQ : ∀ r A', Q r A' → Q' r A') : J K n0 Q' pc L st A cells slots := by
  intro l p e s m args below meth c dC dI cy A0 ad0 ad H locs ls hX T hT X
  obtain ⟨t, h1, o, h2, h3, ⟨⟨r, A', ad', e1, e2, e3⟩, e4⟩, h5⟩ := h l p e s m args below meth c dC dI cy A0 ad0 ad H locs ls hX T hT X
  exact ⟨t, h1, o, h2, h3, ⟨⟨r, A', ad', e1, hQ r A' e2, e3⟩, e4⟩, h5⟩
theorem J.at {L' : List (Option Value)} {st' : List Value} {A' : jW} (h : J K n0 Q pc L st A cells slots) (h1 : L = L') (h2 : st = st') (h3 : A = A') : J K n0 Q pc L' st' A' cells slots := by
  subst h1; subst h2; subst h3; exact h
/-- a world whose cells are the same cells -/
theorem J.world {A' : jW} (h : J K n0 Q pc L st A' cells slots) (hA : ∀ cy ad H dC dI, va_P (dC, dI) jCl (jgW cy ad A) H → va_P (dC, dI) jCl (jgW cy ad A') H) (hl : A'.length = A.length) : J K n0 Q pc L st A cells slots := by
  intro l p e s m args below meth c dC dI cy A0 ad0 ad H locs ls hX
  refine h l p e s m args below meth c dC dI cy A0 ad0 ad H locs ls ⟨hX.1, by rw [hl]; exact hX.2.1, hX.2.2.1, hA _ _ _ _ _ hX.2.2.2.1, ?_, hX.2.2.2.2.2⟩
  have hD := hX.2.2.2.2.1
  have key : ∀ (k : Nat) (q : Nat × va_E), (jgW cy ad A')[k]? = some q → ∃ q', (jgW cy ad A)[k]? = some q' ∧ q'.1 = q.1 := by
    intro k q hq
    obtain ⟨x, hx, rfl⟩ := jgW_of hq
    have hk : k < A.length := by rw [← hl]; exact (List.getElem?_eq_some_iff.mp hx).1
    exact ⟨_, jgW_get (List.getElem?_eq_getElem hk), rfl⟩
  refine ⟨fun i j x y hi hj hxy => ?_, fun k q hk => ?_⟩
  · obtain ⟨x', a1, a2⟩ := key i x hi
    obtain ⟨y', b1, b2⟩ := key j y hj
    exact hD.1 i j x' y' a1 b1 (by rw [a2, b2]; exact hxy)
  · obtain ⟨q', a1, a2⟩ := key k q hk
    rw [← a2]
    exact hD.2 k q' a1
/-- fewer locals are known -/
theorem J.locals {L' : List (Option Value)} (h : J K n0 Q pc L' st A cells slots) (hL : ∀ (i : Nat) (v : Value), L'[i]? = some (some v) → L[i]? = some (some v)) : J K n0 Q pc L st A cells slots := by
  intro l p e s m args below meth c dC dI cy A0 ad0 ad H locs ls hX
  exact h l p e s m args below meth c dC dI cy A0 ad0 ad H locs ls ⟨hX.1, hX.2.1, hX.2.2.1, hX.2.2.2.1, hX.2.2.2.2.1, hX.2.2.2.2.2.1, hX.2.2.2.2.2.2.1, hX.2.2.2.2.2.2.2.1, fun i v hv => hX.2.2.2.2.2.2.2.2 i v (hL i v hv)⟩
theorem J.iconst {n : Int} (v : Int32) (d : decode K.2.1 pc = .ok (.iconst n, 1)) (hv : Int32.ofInt n = v)
    (k : J K n0 Q (pc + 1) L (.int v :: st) A cells slots) : J K n0 Q pc L st A cells slots := by
  intro l p e s m args below meth c dC dI cy A0 ad0 ad H locs ls hX
  exact lv_iconst hX.1.1 hX.1.2.1 d hv (k l p e s m args below meth c dC dI cy A0 ad0 ad H locs ls hX)
theorem J.bipush {n : Int} (v : Int32) (d : decode K.2.1 pc = .ok (.bipush n, 2)) (hv : (Int8.ofInt n).toInt32 = v)
    (k : J K n0 Q (pc + 2) L (.int v :: st) A cells slots) : J K n0 Q pc L st A cells slots := by
  intro l p e s m args below meth c dC dI cy A0 ad0 ad H locs ls hX
  exact lv_bipush hX.1.1 hX.1.2.1 d hv (k l p e s m args below meth c dC dI cy A0 ad0 ad H locs ls hX)
theorem J.sipush {n : Int} (v : Int32) (d : decode K.2.1 pc = .ok (.sipush n, 3)) (hv : (Int16.ofInt n).toInt32 = v)
    (k : J K n0 Q (pc + 3) L (.int v :: st) A cells slots) : J K n0 Q pc L st A cells slots := by
  intro l p e s m args below meth c dC dI cy A0 ad0 ad H locs ls hX
  exact lv_sipush hX.1.1 hX.1.2.1 d hv (k l p e s m args below meth c dC dI cy A0 ad0 ad H locs ls hX)
theorem J.lconst {n : Fin 2} (v : Int64) (d : decode K.2.1 pc = .ok (.lconst n, 1)) (hv : Int64.ofNat (n : Nat) = v)
    (k : J K n0 Q (pc + 1) L (.long v :: st) A cells slots) : J K n0 Q pc L st A cells slots := by
  intro l p e s m args below meth c dC dI cy A0 ad0 ad H locs ls hX
  exact lv_lconst hX.1.1 hX.1.2.1 d hv (k l p e s m args below meth c dC dI cy A0 ad0 ad H locs ls hX)
theorem J.ldc {i : Nat} {v : Int32} (d : decode K.2.1 pc = .ok (.ldc i, 2)) (hw : Cond.constant K.1 i v ∈ jTs)
    (k : J K n0 Q (pc + 2) L (.int v :: st) A cells slots) : J K n0 Q pc L st A cells slots := by
  intro l p e s m args below meth c dC dI cy A0 ad0 ad H locs ls hX
  exact lv_ldc hX.1.1 hX.1.2.1 hX.1.2.2.2.2.1 (hX.1.2.2.2.2.2.1 _ hw) d (k l p e s m args below meth c dC dI cy A0 ad0 ad H locs ls hX)
theorem J.ldcw {i : Nat} {v : Int32} (d : decode K.2.1 pc = .ok (.ldc_w i, 3)) (hw : Cond.constant K.1 i v ∈ jTs)
    (k : J K n0 Q (pc + 3) L (.int v :: st) A cells slots) : J K n0 Q pc L st A cells slots := by
  intro l p e s m args below meth c dC dI cy A0 ad0 ad H locs ls hX
  exact lv_ldcw hX.1.1 hX.1.2.1 hX.1.2.2.2.2.1 (hX.1.2.2.2.2.2.1 _ hw) d (k l p e s m args below meth c dC dI cy A0 ad0 ad H locs ls hX)
theorem J.ldc2 {i : Nat} {v : Int64} (d : decode K.2.1 pc = .ok (.ldc2_w i, 3)) (hw : Cond.constantLong K.1 i v ∈ jTs)
    (k : J K n0 Q (pc + 3) L (.long v :: st) A cells slots) : J K n0 Q pc L st A cells slots := by
  intro l p e s m args below meth c dC dI cy A0 ad0 ad H locs ls hX
  exact lv_ldc2 hX.1.1 hX.1.2.1 hX.1.2.2.2.2.1 (hX.1.2.2.2.2.2.1 _ hw) d (k l p e s m args below meth c dC dI cy A0 ad0 ad H locs ls hX)
theorem J.iload_n {f : Fin 4} {i : Nat} {x : Int32} (d : decode K.2.1 pc = .ok (.iload_n f, 1)) (hi : (f : Nat) = i) (hl : L[i]? = some (some (.int x)))
    (k : J K n0 Q (pc + 1) L (.int x :: st) A cells slots) : J K n0 Q pc L st A cells slots := by
  intro l p e s m args below meth c dC dI cy A0 ad0 ad H locs ls hX
  exact lv_iload_n hX.1.1 hX.1.2.1 d hi (hX.2.2.2.2.2.2.2.2 i _ hl) (k l p e s m args below meth c dC dI cy A0 ad0 ad H locs ls hX)
theorem J.iload {i : Nat} {x : Int32} (d : decode K.2.1 pc = .ok (.iload i, 2)) (hl : L[i]? = some (some (.int x)))
    (k : J K n0 Q (pc + 2) L (.int x :: st) A cells slots) : J K n0 Q pc L st A cells slots := by
  intro l p e s m args below meth c dC dI cy A0 ad0 ad H locs ls hX
  exact lv_iload hX.1.1 hX.1.2.1 d (hX.2.2.2.2.2.2.2.2 i _ hl) (k l p e s m args below meth c dC dI cy A0 ad0 ad H locs ls hX)
theorem J.lload_n {f : Fin 4} {i : Nat} {x : Int64} (d : decode K.2.1 pc = .ok (.lload_n f, 1)) (hi : (f : Nat) = i) (hl : L[i]? = some (some (.long x)))
    (k : J K n0 Q (pc + 1) L (.long x :: st) A cells slots) : J K n0 Q pc L st A cells slots := by
  intro l p e s m args below meth c dC dI cy A0 ad0 ad H locs ls hX
  exact lv_lload_n hX.1.1 hX.1.2.1 d hi (hX.2.2.2.2.2.2.2.2 i _ hl) (k l p e s m args below meth c dC dI cy A0 ad0 ad H locs ls hX)
theorem J.lload {i : Nat} {x : Int64} (d : decode K.2.1 pc = .ok (.lload i, 2)) (hl : L[i]? = some (some (.long x)))
    (k : J K n0 Q (pc + 2) L (.long x :: st) A cells slots) : J K n0 Q pc L st A cells slots := by
  intro l p e s m args below meth c dC dI cy A0 ad0 ad H locs ls hX
  exact lv_lload hX.1.1 hX.1.2.1 d (hX.2.2.2.2.2.2.2.2 i _ hl) (k l p e s m args below meth c dC dI cy A0 ad0 ad H locs ls hX)
theorem J.aload_n {f : Fin 4} {i : Nat} {x : Nat} (d : decode K.2.1 pc = .ok (.aload_n f, 1)) (hi : (f : Nat) = i) (hl : L[i]? = some (some (.ref x)))
    (k : J K n0 Q (pc + 1) L (.ref x :: st) A cells slots) : J K n0 Q pc L st A cells slots := by
  intro l p e s m args below meth c dC dI cy A0 ad0 ad H locs ls hX
  exact lv_aload_n hX.1.1 hX.1.2.1 d hi (hX.2.2.2.2.2.2.2.2 i _ hl) (k l p e s m args below meth c dC dI cy A0 ad0 ad H locs ls hX)
theorem J.aload {i : Nat} {x : Nat} (d : decode K.2.1 pc = .ok (.aload i, 2)) (hl : L[i]? = some (some (.ref x)))
    (k : J K n0 Q (pc + 2) L (.ref x :: st) A cells slots) : J K n0 Q pc L st A cells slots := by
  intro l p e s m args below meth c dC dI cy A0 ad0 ad H locs ls hX
  exact lv_aload hX.1.1 hX.1.2.1 d (hX.2.2.2.2.2.2.2.2 i _ hl) (k l p e s m args below meth c dC dI cy A0 ad0 ad H locs ls hX)
theorem J.iadd {x y : Int32} (d : decode K.2.1 pc = .ok (.iadd, 1))
    (k : J K n0 Q (pc + 1) L (.int (x + y) :: st) A cells slots) : J K n0 Q pc L (.int y :: .int x :: st) A cells slots := by
  intro l p e s m args below meth c dC dI cy A0 ad0 ad H locs ls hX
  exact lv_iadd hX.1.1 hX.1.2.1 d (k l p e s m args below meth c dC dI cy A0 ad0 ad H locs ls hX)
theorem J.isub {x y : Int32} (d : decode K.2.1 pc = .ok (.isub, 1))
    (k : J K n0 Q (pc + 1) L (.int (x - y) :: st) A cells slots) : J K n0 Q pc L (.int y :: .int x :: st) A cells slots := by
  intro l p e s m args below meth c dC dI cy A0 ad0 ad H locs ls hX
  exact lv_isub hX.1.1 hX.1.2.1 d (k l p e s m args below meth c dC dI cy A0 ad0 ad H locs ls hX)
theorem J.imul {x y : Int32} (d : decode K.2.1 pc = .ok (.imul, 1))
    (k : J K n0 Q (pc + 1) L (.int (x * y) :: st) A cells slots) : J K n0 Q pc L (.int y :: .int x :: st) A cells slots := by
  intro l p e s m args below meth c dC dI cy A0 ad0 ad H locs ls hX
  exact lv_imul hX.1.1 hX.1.2.1 d (k l p e s m args below meth c dC dI cy A0 ad0 ad H locs ls hX)
theorem J.iand {x y : Int32} (d : decode K.2.1 pc = .ok (.iand, 1))
    (k : J K n0 Q (pc + 1) L (.int (x &&& y) :: st) A cells slots) : J K n0 Q pc L (.int y :: .int x :: st) A cells slots := by
  intro l p e s m args below meth c dC dI cy A0 ad0 ad H locs ls hX
  exact lv_iand hX.1.1 hX.1.2.1 d (k l p e s m args below meth c dC dI cy A0 ad0 ad H locs ls hX)
theorem J.ior {x y : Int32} (d : decode K.2.1 pc = .ok (.ior, 1))
    (k : J K n0 Q (pc + 1) L (.int (x ||| y) :: st) A cells slots) : J K n0 Q pc L (.int y :: .int x :: st) A cells slots := by
  intro l p e s m args below meth c dC dI cy A0 ad0 ad H locs ls hX
  exact lv_ior hX.1.1 hX.1.2.1 d (k l p e s m args below meth c dC dI cy A0 ad0 ad H locs ls hX)
theorem J.ixor {x y : Int32} (d : decode K.2.1 pc = .ok (.ixor, 1))
    (k : J K n0 Q (pc + 1) L (.int (x ^^^ y) :: st) A cells slots) : J K n0 Q pc L (.int y :: .int x :: st) A cells slots := by
  intro l p e s m args below meth c dC dI cy A0 ad0 ad H locs ls hX
  exact lv_ixor hX.1.1 hX.1.2.1 d (k l p e s m args below meth c dC dI cy A0 ad0 ad H locs ls hX)
theorem J.ishl {x y : Int32} (d : decode K.2.1 pc = .ok (.ishl, 1))
    (k : J K n0 Q (pc + 1) L (.int (x <<< (y &&& 31)) :: st) A cells slots) : J K n0 Q pc L (.int y :: .int x :: st) A cells slots := by
  intro l p e s m args below meth c dC dI cy A0 ad0 ad H locs ls hX
  exact lv_ishl hX.1.1 hX.1.2.1 d (k l p e s m args below meth c dC dI cy A0 ad0 ad H locs ls hX)
theorem J.ishr {x y : Int32} (d : decode K.2.1 pc = .ok (.ishr, 1))
    (k : J K n0 Q (pc + 1) L (.int (x >>> (y &&& 31)) :: st) A cells slots) : J K n0 Q pc L (.int y :: .int x :: st) A cells slots := by
  intro l p e s m args below meth c dC dI cy A0 ad0 ad H locs ls hX
  exact lv_ishr hX.1.1 hX.1.2.1 d (k l p e s m args below meth c dC dI cy A0 ad0 ad H locs ls hX)
theorem J.iushr {x y : Int32} (d : decode K.2.1 pc = .ok (.iushr, 1))
    (k : J K n0 Q (pc + 1) L (.int ((x.toUInt32 >>> (y.toUInt32 &&& Int32.toUInt32 31)).toInt32) :: st) A cells slots) : J K n0 Q pc L (.int y :: .int x :: st) A cells slots := by
  intro l p e s m args below meth c dC dI cy A0 ad0 ad H locs ls hX
  exact lv_iushr hX.1.1 hX.1.2.1 d rfl (k l p e s m args below meth c dC dI cy A0 ad0 ad H locs ls hX)
theorem J.ladd {x y : Int64} (d : decode K.2.1 pc = .ok (.ladd, 1))
    (k : J K n0 Q (pc + 1) L (.long (x + y) :: st) A cells slots) : J K n0 Q pc L (.long y :: .long x :: st) A cells slots := by
  intro l p e s m args below meth c dC dI cy A0 ad0 ad H locs ls hX
  exact lv_ladd hX.1.1 hX.1.2.1 d (k l p e s m args below meth c dC dI cy A0 ad0 ad H locs ls hX)
theorem J.lsub {x y : Int64} (d : decode K.2.1 pc = .ok (.lsub, 1))
    (k : J K n0 Q (pc + 1) L (.long (x - y) :: st) A cells slots) : J K n0 Q pc L (.long y :: .long x :: st) A cells slots := by
  intro l p e s m args below meth c dC dI cy A0 ad0 ad H locs ls hX
  exact lv_lsub hX.1.1 hX.1.2.1 d (k l p e s m args below meth c dC dI cy A0 ad0 ad H locs ls hX)
theorem J.lmul {x y : Int64} (d : decode K.2.1 pc = .ok (.lmul, 1))
    (k : J K n0 Q (pc + 1) L (.long (x * y) :: st) A cells slots) : J K n0 Q pc L (.long y :: .long x :: st) A cells slots := by
  intro l p e s m args below meth c dC dI cy A0 ad0 ad H locs ls hX
  exact lv_lmul hX.1.1 hX.1.2.1 d (k l p e s m args below meth c dC dI cy A0 ad0 ad H locs ls hX)
theorem J.idiv {x y : Int32} (d : decode K.2.1 pc = .ok (.idiv, 1)) (hne : ¬ y = 0)
    (k : J K n0 Q (pc + 1) L (.int (x / y) :: st) A cells slots) : J K n0 Q pc L (.int y :: .int x :: st) A cells slots := by
  intro l p e s m args below meth c dC dI cy A0 ad0 ad H locs ls hX
  exact lv_idiv hX.1.1 hX.1.2.1 d hne (k l p e s m args below meth c dC dI cy A0 ad0 ad H locs ls hX)
theorem J.irem {x y : Int32} (d : decode K.2.1 pc = .ok (.irem, 1)) (hne : ¬ y = 0)
    (k : J K n0 Q (pc + 1) L (.int (x - x / y * y) :: st) A cells slots) : J K n0 Q pc L (.int y :: .int x :: st) A cells slots := by
  intro l p e s m args below meth c dC dI cy A0 ad0 ad H locs ls hX
  exact lv_irem hX.1.1 hX.1.2.1 d hne (k l p e s m args below meth c dC dI cy A0 ad0 ad H locs ls hX)
theorem J.ldiv {x y : Int64} (d : decode K.2.1 pc = .ok (.ldiv, 1)) (hne : ¬ y = 0)
    (k : J K n0 Q (pc + 1) L (.long (x / y) :: st) A cells slots) : J K n0 Q pc L (.long y :: .long x :: st) A cells slots := by
  intro l p e s m args below meth c dC dI cy A0 ad0 ad H locs ls hX
  exact lv_ldiv hX.1.1 hX.1.2.1 d hne (k l p e s m args below meth c dC dI cy A0 ad0 ad H locs ls hX)
theorem J.lrem {x y : Int64} (d : decode K.2.1 pc = .ok (.lrem, 1)) (hne : ¬ y = 0)
    (k : J K n0 Q (pc + 1) L (.long (x - x / y * y) :: st) A cells slots) : J K n0 Q pc L (.long y :: .long x :: st) A cells slots := by
  intro l p e s m args below meth c dC dI cy A0 ad0 ad H locs ls hX
  exact lv_lrem hX.1.1 hX.1.2.1 d hne (k l p e s m args below meth c dC dI cy A0 ad0 ad H locs ls hX)
theorem J.ineg {x : Int32} (d : decode K.2.1 pc = .ok (.ineg, 1))
    (k : J K n0 Q (pc + 1) L (.int (-x) :: st) A cells slots) : J K n0 Q pc L (.int x :: st) A cells slots := by
  intro l p e s m args below meth c dC dI cy A0 ad0 ad H locs ls hX
  exact lv_ineg hX.1.1 hX.1.2.1 d (k l p e s m args below meth c dC dI cy A0 ad0 ad H locs ls hX)
theorem J.lneg {x : Int64} (d : decode K.2.1 pc = .ok (.lneg, 1))
    (k : J K n0 Q (pc + 1) L (.long (-x) :: st) A cells slots) : J K n0 Q pc L (.long x :: st) A cells slots := by
  intro l p e s m args below meth c dC dI cy A0 ad0 ad H locs ls hX
  exact lv_lneg hX.1.1 hX.1.2.1 d (k l p e s m args below meth c dC dI cy A0 ad0 ad H locs ls hX)
theorem J.i2l {x : Int32} (d : decode K.2.1 pc = .ok (.i2l, 1))
    (k : J K n0 Q (pc + 1) L (.long x.toInt64 :: st) A cells slots) : J K n0 Q pc L (.int x :: st) A cells slots := by
  intro l p e s m args below meth c dC dI cy A0 ad0 ad H locs ls hX
  exact lv_i2l hX.1.1 hX.1.2.1 d rfl (k l p e s m args below meth c dC dI cy A0 ad0 ad H locs ls hX)
theorem J.i2b {x : Int32} (d : decode K.2.1 pc = .ok (.i2b, 1))
    (k : J K n0 Q (pc + 1) L (.int x.toInt8.toInt32 :: st) A cells slots) : J K n0 Q pc L (.int x :: st) A cells slots := by
  intro l p e s m args below meth c dC dI cy A0 ad0 ad H locs ls hX
  exact lv_i2b hX.1.1 hX.1.2.1 d rfl (k l p e s m args below meth c dC dI cy A0 ad0 ad H locs ls hX)
theorem J.i2s {x : Int32} (d : decode K.2.1 pc = .ok (.i2s, 1))
    (k : J K n0 Q (pc + 1) L (.int x.toInt16.toInt32 :: st) A cells slots) : J K n0 Q pc L (.int x :: st) A cells slots := by
  intro l p e s m args below meth c dC dI cy A0 ad0 ad H locs ls hX
  exact lv_i2s hX.1.1 hX.1.2.1 d rfl (k l p e s m args below meth c dC dI cy A0 ad0 ad H locs ls hX)
theorem J.i2c {x : Int32} (d : decode K.2.1 pc = .ok (.i2c, 1))
    (k : J K n0 Q (pc + 1) L (.int x.toUInt32.toUInt16.toUInt32.toInt32 :: st) A cells slots) : J K n0 Q pc L (.int x :: st) A cells slots := by
  intro l p e s m args below meth c dC dI cy A0 ad0 ad H locs ls hX
  exact lv_i2c hX.1.1 hX.1.2.1 d rfl (k l p e s m args below meth c dC dI cy A0 ad0 ad H locs ls hX)
theorem J.lcmp {x y : Int64} (d : decode K.2.1 pc = .ok (.lcmp, 1))
    (k : J K n0 Q (pc + 1) L (.int (lg_cmp x y) :: st) A cells slots) : J K n0 Q pc L (.long y :: .long x :: st) A cells slots := by
  intro l p e s m args below meth c dC dI cy A0 ad0 ad H locs ls hX
  exact W.lcmp hX.1.1 hX.1.2.1 d (k l p e s m args below meth c dC dI cy A0 ad0 ad H locs ls hX)
theorem J.dup {v : Value} (d : decode K.2.1 pc = .ok (.dup, 1)) (hc : v.category = 1)
    (k : J K n0 Q (pc + 1) L (v :: v :: st) A cells slots) : J K n0 Q pc L (v :: st) A cells slots := by
  intro l p e s m args below meth c dC dI cy A0 ad0 ad H locs ls hX
  exact lv_dup hX.1.1 hX.1.2.1 d ((jg_cat ad v).trans hc) (k l p e s m args below meth c dC dI cy A0 ad0 ad H locs ls hX)
theorem J.pop {v : Value} (d : decode K.2.1 pc = .ok (.pop, 1)) (hc : v.category = 1)
    (k : J K n0 Q (pc + 1) L st A cells slots) : J K n0 Q pc L (v :: st) A cells slots := by
  intro l p e s m args below meth c dC dI cy A0 ad0 ad H locs ls hX
  exact lv_pop hX.1.1 hX.1.2.1 d ((jg_cat ad v).trans hc) (k l p e s m args below meth c dC dI cy A0 ad0 ad H locs ls hX)
theorem J.dup2 {v u : Value} (d : decode K.2.1 pc = .ok (.dup2, 1)) (hc : v.category = 1) (hu : u.category = 1)
    (k : J K n0 Q (pc + 1) L (v :: u :: v :: u :: st) A cells slots) : J K n0 Q pc L (v :: u :: st) A cells slots := by
  intro l p e s m args below meth c dC dI cy A0 ad0 ad H locs ls hX
  exact lv_dup2_11 hX.1.1 hX.1.2.1 d ((jg_cat ad v).trans hc) ((jg_cat ad u).trans hu) (k l p e s m args below meth c dC dI cy A0 ad0 ad H locs ls hX)
theorem J.dup2l {v : Value} (d : decode K.2.1 pc = .ok (.dup2, 1)) (hc : v.category = 2)
    (k : J K n0 Q (pc + 1) L (v :: v :: st) A cells slots) : J K n0 Q pc L (v :: st) A cells slots := by
  intro l p e s m args below meth c dC dI cy A0 ad0 ad H locs ls hX
  exact lv_dup2_2 hX.1.1 hX.1.2.1 d ((jg_cat ad v).trans hc) (k l p e s m args below meth c dC dI cy A0 ad0 ad H locs ls hX)
theorem J.if_eq {x : Int32} {off : Int} {tgt : Nat} (d : decode K.2.1 pc = .ok (.ifCond .eq off, 3)) (ht : (pc : Int) + off = (tgt : Int)) (kt : x = 0 → J K n0 Q tgt L st A cells slots) (kf : ¬ x = 0 → J K n0 Q (pc + 3) L st A cells slots) : J K n0 Q pc L (.int x :: st) A cells slots := by
  intro l p e s m args below meth c dC dI cy A0 ad0 ad H locs ls hX
  exact lv_if_eq hX.1.1 hX.1.2.1 d ht (fun h => kt h l p e s m args below meth c dC dI cy A0 ad0 ad H locs ls hX) (fun h => kf h l p e s m args below meth c dC dI cy A0 ad0 ad H locs ls hX)
theorem J.icmp_eq {x y : Int32} {off : Int} {tgt : Nat} (d : decode K.2.1 pc = .ok (.if_icmp .eq off, 3)) (ht : (pc : Int) + off = (tgt : Int)) (kt : x = y → J K n0 Q tgt L st A cells slots) (kf : ¬ x = y → J K n0 Q (pc + 3) L st A cells slots) : J K n0 Q pc L (.int y :: .int x :: st) A cells slots := by
  intro l p e s m args below meth c dC dI cy A0 ad0 ad H locs ls hX
  exact lv_icmp_eq hX.1.1 hX.1.2.1 d ht (fun h => kt h l p e s m args below meth c dC dI cy A0 ad0 ad H locs ls hX) (fun h => kf h l p e s m args below meth c dC dI cy A0 ad0 ad H locs ls hX)
theorem J.if_ne {x : Int32} {off : Int} {tgt : Nat} (d : decode K.2.1 pc = .ok (.ifCond .ne off, 3)) (ht : (pc : Int) + off = (tgt : Int)) (kt : ¬ x = 0 → J K n0 Q tgt L st A cells slots) (kf : x = 0 → J K n0 Q (pc + 3) L st A cells slots) : J K n0 Q pc L (.int x :: st) A cells slots := by
  intro l p e s m args below meth c dC dI cy A0 ad0 ad H locs ls hX
  exact lv_if_ne hX.1.1 hX.1.2.1 d ht (fun h => kt h l p e s m args below meth c dC dI cy A0 ad0 ad H locs ls hX) (fun h => kf h l p e s m args below meth c dC dI cy A0 ad0 ad H locs ls hX)
theorem J.icmp_ne {x y : Int32} {off : Int} {tgt : Nat} (d : decode K.2.1 pc = .ok (.if_icmp .ne off, 3)) (ht : (pc : Int) + off = (tgt : Int)) (kt : ¬ x = y → J K n0 Q tgt L st A cells slots) (kf : x = y → J K n0 Q (pc + 3) L st A cells slots) : J K n0 Q pc L (.int y :: .int x :: st) A cells slots := by
  intro l p e s m args below meth c dC dI cy A0 ad0 ad H locs ls hX
  exact lv_icmp_ne hX.1.1 hX.1.2.1 d ht (fun h => kt h l p e s m args below meth c dC dI cy A0 ad0 ad H locs ls hX) (fun h => kf h l p e s m args below meth c dC dI cy A0 ad0 ad H locs ls hX)
theorem J.if_lt {x : Int32} {off : Int} {tgt : Nat} (d : decode K.2.1 pc = .ok (.ifCond .lt off, 3)) (ht : (pc : Int) + off = (tgt : Int)) (kt : x < 0 → J K n0 Q tgt L st A cells slots) (kf : ¬ x < 0 → J K n0 Q (pc + 3) L st A cells slots) : J K n0 Q pc L (.int x :: st) A cells slots := by
  intro l p e s m args below meth c dC dI cy A0 ad0 ad H locs ls hX
  exact lv_if_lt hX.1.1 hX.1.2.1 d ht (fun h => kt h l p e s m args below meth c dC dI cy A0 ad0 ad H locs ls hX) (fun h => kf h l p e s m args below meth c dC dI cy A0 ad0 ad H locs ls hX)
theorem J.icmp_lt {x y : Int32} {off : Int} {tgt : Nat} (d : decode K.2.1 pc = .ok (.if_icmp .lt off, 3)) (ht : (pc : Int) + off = (tgt : Int)) (kt : x < y → J K n0 Q tgt L st A cells slots) (kf : ¬ x < y → J K n0 Q (pc + 3) L st A cells slots) : J K n0 Q pc L (.int y :: .int x :: st) A cells slots := by
  intro l p e s m args below meth c dC dI cy A0 ad0 ad H locs ls hX
  exact lv_icmp_lt hX.1.1 hX.1.2.1 d ht (fun h => kt h l p e s m args below meth c dC dI cy A0 ad0 ad H locs ls hX) (fun h => kf h l p e s m args below meth c dC dI cy A0 ad0 ad H locs ls hX)
theorem J.if_ge {x : Int32} {off : Int} {tgt : Nat} (d : decode K.2.1 pc = .ok (.ifCond .ge off, 3)) (ht : (pc : Int) + off = (tgt : Int)) (kt : 0 ≤ x → J K n0 Q tgt L st A cells slots) (kf : ¬ 0 ≤ x → J K n0 Q (pc + 3) L st A cells slots) : J K n0 Q pc L (.int x :: st) A cells slots := by
  intro l p e s m args below meth c dC dI cy A0 ad0 ad H locs ls hX
  exact lv_if_ge hX.1.1 hX.1.2.1 d ht (fun h => kt h l p e s m args below meth c dC dI cy A0 ad0 ad H locs ls hX) (fun h => kf h l p e s m args below meth c dC dI cy A0 ad0 ad H locs ls hX)
theorem J.icmp_ge {x y : Int32} {off : Int} {tgt : Nat} (d : decode K.2.1 pc = .ok (.if_icmp .ge off, 3)) (ht : (pc : Int) + off = (tgt : Int)) (kt : y ≤ x → J K n0 Q tgt L st A cells slots) (kf : ¬ y ≤ x → J K n0 Q (pc + 3) L st A cells slots) : J K n0 Q pc L (.int y :: .int x :: st) A cells slots := by
  intro l p e s m args below meth c dC dI cy A0 ad0 ad H locs ls hX
  exact lv_icmp_ge hX.1.1 hX.1.2.1 d ht (fun h => kt h l p e s m args below meth c dC dI cy A0 ad0 ad H locs ls hX) (fun h => kf h l p e s m args below meth c dC dI cy A0 ad0 ad H locs ls hX)
theorem J.if_gt {x : Int32} {off : Int} {tgt : Nat} (d : decode K.2.1 pc = .ok (.ifCond .gt off, 3)) (ht : (pc : Int) + off = (tgt : Int)) (kt : 0 < x → J K n0 Q tgt L st A cells slots) (kf : ¬ 0 < x → J K n0 Q (pc + 3) L st A cells slots) : J K n0 Q pc L (.int x :: st) A cells slots := by
  intro l p e s m args below meth c dC dI cy A0 ad0 ad H locs ls hX
  exact lv_if_gt hX.1.1 hX.1.2.1 d ht (fun h => kt h l p e s m args below meth c dC dI cy A0 ad0 ad H locs ls hX) (fun h => kf h l p e s m args below meth c dC dI cy A0 ad0 ad H locs ls hX)
theorem J.icmp_gt {x y : Int32} {off : Int} {tgt : Nat} (d : decode K.2.1 pc = .ok (.if_icmp .gt off, 3)) (ht : (pc : Int) + off = (tgt : Int)) (kt : y < x → J K n0 Q tgt L st A cells slots) (kf : ¬ y < x → J K n0 Q (pc + 3) L st A cells slots) : J K n0 Q pc L (.int y :: .int x :: st) A cells slots := by
  intro l p e s m args below meth c dC dI cy A0 ad0 ad H locs ls hX
  exact lv_icmp_gt hX.1.1 hX.1.2.1 d ht (fun h => kt h l p e s m args below meth c dC dI cy A0 ad0 ad H locs ls hX) (fun h => kf h l p e s m args below meth c dC dI cy A0 ad0 ad H locs ls hX)
theorem J.if_le {x : Int32} {off : Int} {tgt : Nat} (d : decode K.2.1 pc = .ok (.ifCond .le off, 3)) (ht : (pc : Int) + off = (tgt : Int)) (kt : x ≤ 0 → J K n0 Q tgt L st A cells slots) (kf : ¬ x ≤ 0 → J K n0 Q (pc + 3) L st A cells slots) : J K n0 Q pc L (.int x :: st) A cells slots := by
  intro l p e s m args below meth c dC dI cy A0 ad0 ad H locs ls hX
  exact lv_if_le hX.1.1 hX.1.2.1 d ht (fun h => kt h l p e s m args below meth c dC dI cy A0 ad0 ad H locs ls hX) (fun h => kf h l p e s m args below meth c dC dI cy A0 ad0 ad H locs ls hX)
theorem J.icmp_le {x y : Int32} {off : Int} {tgt : Nat} (d : decode K.2.1 pc = .ok (.if_icmp .le off, 3)) (ht : (pc : Int) + off = (tgt : Int)) (kt : x ≤ y → J K n0 Q tgt L st A cells slots) (kf : ¬ x ≤ y → J K n0 Q (pc + 3) L st A cells slots) : J K n0 Q pc L (.int y :: .int x :: st) A cells slots := by
  intro l p e s m args below meth c dC dI cy A0 ad0 ad H locs ls hX
  exact lv_icmp_le hX.1.1 hX.1.2.1 d ht (fun h => kt h l p e s m args below meth c dC dI cy A0 ad0 ad H locs ls hX) (fun h => kf h l p e s m args below meth c dC dI cy A0 ad0 ad H locs ls hX)
theorem J.goto {off : Int} {tgt : Nat} (d : decode K.2.1 pc = .ok (.goto off, 3)) (ht : (pc : Int) + off = (tgt : Int))
    (k : J K n0 Q tgt L st A cells slots) : J K n0 Q pc L st A cells slots := by
  intro l p e s m args below meth c dC dI cy A0 ad0 ad H locs ls hX
  exact lv_goto hX.1.1 hX.1.2.1 d ht (k l p e s m args below meth c dC dI cy A0 ad0 ad H locs ls hX)
theorem J.tableOut {dflt lo hi : Int} {offs : Array Int} {len : Nat} {x : Int32} {tgt : Nat} (d : decode K.2.1 pc = .ok (.tableswitch dflt lo hi offs, len)) (h : x.toInt < lo ∨ hi < x.toInt) (ht : (pc : Int) + dflt = (tgt : Int))
    (k : J K n0 Q tgt L st A cells slots) : J K n0 Q pc L (.int x :: st) A cells slots := by
  intro l p e s m args below meth c dC dI cy A0 ad0 ad H locs ls hX
  exact lv_tableOut hX.1.1 hX.1.2.1 d h ht (k l p e s m args below meth c dC dI cy A0 ad0 ad H locs ls hX)
theorem J.tableIn {dflt lo hi : Int} {offs : Array Int} {len : Nat} {x : Int32} {off : Int} {tgt : Nat} (d : decode K.2.1 pc = .ok (.tableswitch dflt lo hi offs, len)) (h1 : ¬ x.toInt < lo) (h2 : ¬ hi < x.toInt) (ho : offs[(x.toInt - lo).toNat]? = some off) (ht : (pc : Int) + off = (tgt : Int))
    (k : J K n0 Q tgt L st A cells slots) : J K n0 Q pc L (.int x :: st) A cells slots := by
  intro l p e s m args below meth c dC dI cy A0 ad0 ad H locs ls hX
  exact lv_tableIn hX.1.1 hX.1.2.1 d h1 h2 ho ht (k l p e s m args below meth c dC dI cy A0 ad0 ad H locs ls hX)
/-- no long stands just ahead of local i -/
def jno (L : List (Option Value)) (i : Nat) : Bool := match i with
  | 0 => true
  | i + 1 => match L[i]? with
    | some (some (.long _)) => false
    | some (some (.double _)) => false
    | _ => true
theorem jno_spec {L : List (Option Value)} {i j : Nat} {v : Value} (h : jno L i = true) (hj : j + 1 = i) (hv : L[j]? = some (some v)) : ¬ v.category = 2 := by
  subst hj
  simp only [jno, hv] at h
  cases v <;> simp_all [Value.category]
def jpairs (ad : Nat → Nat) (L : List (Option Value)) : List (Nat × Value) := (List.range L.length).filterMap (fun i => match L[i]? with
  | some (some v) => some (i, jg ad v)
  | _ => none)
theorem jpairs_has {ad : Nat → Nat} {ls : Array Slot} {n : Nat} {L : List (Option Value)} (h : jL ad ls n L) : lv_has ls n (jpairs ad L) := by
  refine ⟨h.1, h.2.1, fun q hq => ?_⟩
  simp only [jpairs, List.mem_filterMap, List.mem_range] at hq
  obtain ⟨i, -, hi⟩ := hq
  split at hi
  · next v hv =>
    cases hi
    exact h.2.2 i v hv
  · cases hi
theorem jpairs_mem {ad : Nat → Nat} {L : List (Option Value)} {i : Nat} {v : Value} (h : L[i]? = some (some v)) : (i, jg ad v) ∈ jpairs ad L := by
  simp only [jpairs, List.mem_filterMap, List.mem_range]
  exact ⟨i, (List.getElem?_eq_some_iff.mp h).1, by rw [h]⟩
theorem jst1 {ad : Nat → Nat} {ls' : Array Slot} {n i : Nat} {L : List (Option Value)} {v : Value} (hno : jno L i = true)
    (h : lv_has ls' n ((i, jg ad v) :: (jpairs ad L).filter (fun q => !(q.1 == i) && !(q.1 + 1 == i && q.2.category == 2)))) : jL ad ls' n (L.set i (some v)) := by
  refine ⟨h.1, h.2.1, fun j u hj => ?_⟩
  by_cases e : i = j
  · subst e
    have hl : i < L.length := by
      have := (List.getElem?_eq_some_iff.mp hj).1
      simpa using this
    rw [List.getElem?_set_self hl] at hj
    cases hj
    exact h.2.2 _ List.mem_cons_self
  · rw [List.getElem?_set_ne e] at hj
    refine h.2.2 (j, jg ad u) (List.mem_cons_of_mem _ (List.mem_filter.mpr ⟨jpairs_mem hj, ?_⟩))
    have e1 : (j == i) = false := by simpa using fun q => e q.symm
    by_cases e2 : j + 1 = i
    · have e3 := jno_spec hno e2 hj
      have e4 : ((jg ad u).category == 2) = false := by rw [jg_cat]; simpa using e3
      simp [e1, e4]
    · simp [e1, e2]
theorem jst2 {ad : Nat → Nat} {ls' : Array Slot} {n i : Nat} {L : List (Option Value)} {v : Value} (hno : jno L i = true)
    (h : lv_has ls' n ((i, jg ad v) :: (jpairs ad L).filter (fun q => !(q.1 == i) && (!(q.1 == i + 1) && !(q.1 + 1 == i && q.2.category == 2))))) : jL ad ls' n ((L.set i (some v)).set (i + 1) none) := by
  refine ⟨h.1, h.2.1, fun j u hj => ?_⟩
  by_cases e0 : i + 1 = j
  · subst e0
    have hl : i + 1 < (L.set i (some v)).length := by
      have := (List.getElem?_eq_some_iff.mp hj).1
      simpa using this
    rw [List.getElem?_set_self hl] at hj
    cases hj
  · rw [List.getElem?_set_ne e0] at hj
    by_cases e : i = j
    · subst e
      have hl : i < L.length := by
        have := (List.getElem?_eq_some_iff.mp hj).1
        simpa using this
      rw [List.getElem?_set_self hl] at hj
      cases hj
      exact h.2.2 _ List.mem_cons_self
    · rw [List.getElem?_set_ne e] at hj
      refine h.2.2 (j, jg ad u) (List.mem_cons_of_mem _ (List.mem_filter.mpr ⟨jpairs_mem hj, ?_⟩))
      have e1 : (j == i) = false := by simpa using fun q => e q.symm
      have e5 : (j == i + 1) = false := by simpa using fun q => e0 q.symm
      by_cases e2 : j + 1 = i
      · have e3 := jno_spec hno e2 hj
        have e4 : ((jg ad u).category == 2) = false := by rw [jg_cat]; simpa using e3
        simp [e1, e4, e5]
      · simp [e1, e2, e5]
theorem jX.loc {p : Program} {s : State} {m : MethodId} {args : Array Value} {meth : Method} {c : Code} {dC : Nat → ClassId} {dI : Nat → Nat → Nat} {cy : Nat → ClassId} {A0 : Nat → Prop} {ad0 ad : Nat → Nat} {H : Heap} {locs : List Loc} {ls ls' : Array Slot} {L' : List (Option Value)} (hX : jX K n0 p s m args meth c dC dI cy A0 ad0 ad H locs ls L A) (h : jL ad ls' K.2.2.1 L') : jX K n0 p s m args meth c dC dI cy A0 ad0 ad H locs ls' L' A :=
  ⟨hX.1, hX.2.1, hX.2.2.1, hX.2.2.2.1, hX.2.2.2.2.1, hX.2.2.2.2.2.1, h⟩
theorem jX.wor {p : Program} {s : State} {m : MethodId} {args : Array Value} {meth : Method} {c : Code} {dC : Nat → ClassId} {dI : Nat → Nat → Nat} {cy : Nat → ClassId} {A0 : Nat → Prop} {ad0 ad : Nat → Nat} {H H1 : Heap} {locs locs1 : List Loc} {ls : Array Slot} {A' : jW} (hX : jX K n0 p s m args meth c dC dI cy A0 ad0 ad H locs ls L A) (hz : A'.length = A.length) (hP : va_P (dC, dI) jCl (jgW cy ad A') H1) (hD : va_D A0 (jgW cy ad A')) (hS : va_S A0 s.heap H1 locs1) : jX K n0 p s m args meth c dC dI cy A0 ad0 ad H1 locs1 ls L A' :=
  ⟨hX.1, by rw [hz]; exact hX.2.1, hX.2.2.1, hP, hD, hS, hX.2.2.2.2.2.2⟩
theorem J.istore_n {f : Fin 4} {i : Nat} {x : Int32} (d : decode K.2.1 pc = .ok (.istore_n f, 1)) (hi : (f : Nat) = i) (hn : i < K.2.2.1) (hno : jno L i = true)
    (k : J K n0 Q (pc + 1) (L.set i (some (.int x))) st A cells slots) : J K n0 Q pc L (.int x :: st) A cells slots := by
  intro l p e s m args below meth c dC dI cy A0 ad0 ad H locs ls hX
  exact lv_istore_n hX.1.1 hX.1.2.1 d hi (jpairs_has hX.2.2.2.2.2.2) hn rfl (fun ls' h => k l p e s m args below meth c dC dI cy A0 ad0 ad H locs ls' (hX.loc (jst1 (v := .int x) hno h)))
theorem J.istore {i : Nat} {x : Int32} (d : decode K.2.1 pc = .ok (.istore i, 2)) (hn : i < K.2.2.1) (hno : jno L i = true)
    (k : J K n0 Q (pc + 2) (L.set i (some (.int x))) st A cells slots) : J K n0 Q pc L (.int x :: st) A cells slots := by
  intro l p e s m args below meth c dC dI cy A0 ad0 ad H locs ls hX
  exact lv_istore hX.1.1 hX.1.2.1 d (jpairs_has hX.2.2.2.2.2.2) hn rfl (fun ls' h => k l p e s m args below meth c dC dI cy A0 ad0 ad H locs ls' (hX.loc (jst1 (v := .int x) hno h)))
theorem J.lstore_n {f : Fin 4} {i : Nat} {x : Int64} (d : decode K.2.1 pc = .ok (.lstore_n f, 1)) (hi : (f : Nat) = i) (hn : i + 1 < K.2.2.1) (hno : jno L i = true)
    (k : J K n0 Q (pc + 1) ((L.set i (some (.long x))).set (i + 1) none) st A cells slots) : J K n0 Q pc L (.long x :: st) A cells slots := by
  intro l p e s m args below meth c dC dI cy A0 ad0 ad H locs ls hX
  exact lv_lstore_n hX.1.1 hX.1.2.1 d hi (jpairs_has hX.2.2.2.2.2.2) hn rfl (fun ls' h => k l p e s m args below meth c dC dI cy A0 ad0 ad H locs ls' (hX.loc (jst2 (v := .long x) hno h)))
theorem J.lstore {i : Nat} {x : Int64} (d : decode K.2.1 pc = .ok (.lstore i, 2)) (hn : i + 1 < K.2.2.1) (hno : jno L i = true)
    (k : J K n0 Q (pc + 2) ((L.set i (some (.long x))).set (i + 1) none) st A cells slots) : J K n0 Q pc L (.long x :: st) A cells slots := by
  intro l p e s m args below meth c dC dI cy A0 ad0 ad H locs ls hX
  exact lv_lstore hX.1.1 hX.1.2.1 d (jpairs_has hX.2.2.2.2.2.2) hn rfl (fun ls' h => k l p e s m args below meth c dC dI cy A0 ad0 ad H locs ls' (hX.loc (jst2 (v := .long x) hno h)))
theorem J.astore_n {f : Fin 4} {i : Nat} {x : Nat} (d : decode K.2.1 pc = .ok (.astore_n f, 1)) (hi : (f : Nat) = i) (hn : i < K.2.2.1) (hno : jno L i = true)
    (k : J K n0 Q (pc + 1) (L.set i (some (.ref x))) st A cells slots) : J K n0 Q pc L (.ref x :: st) A cells slots := by
  intro l p e s m args below meth c dC dI cy A0 ad0 ad H locs ls hX
  exact lv_astore_n hX.1.1 hX.1.2.1 d hi (jpairs_has hX.2.2.2.2.2.2) hn rfl (fun ls' h => k l p e s m args below meth c dC dI cy A0 ad0 ad H locs ls' (hX.loc (jst1 (v := .ref x) hno h)))
theorem J.astore {i : Nat} {x : Nat} (d : decode K.2.1 pc = .ok (.astore i, 2)) (hn : i < K.2.2.1) (hno : jno L i = true)
    (k : J K n0 Q (pc + 2) (L.set i (some (.ref x))) st A cells slots) : J K n0 Q pc L (.ref x :: st) A cells slots := by
  intro l p e s m args below meth c dC dI cy A0 ad0 ad H locs ls hX
  exact lv_astore hX.1.1 hX.1.2.1 d (jpairs_has hX.2.2.2.2.2.2) hn rfl (fun ls' h => k l p e s m args below meth c dC dI cy A0 ad0 ad H locs ls' (hX.loc (jst1 (v := .ref x) hno h)))
theorem J.iinc {i : Nat} {n : Int} {x : Int32} (v : Int32) (d : decode K.2.1 pc = .ok (.iinc i n, 3)) (hv : Int32.ofInt n = v) (hl : L[i]? = some (some (.int x))) (hn : i < K.2.2.1) (hno : jno L i = true)
    (k : J K n0 Q (pc + 3) (L.set i (some (.int (x + v)))) st A cells slots) : J K n0 Q pc L st A cells slots := by
  intro l p e s m args below meth c dC dI cy A0 ad0 ad H locs ls hX
  subst hv
  obtain ⟨j, hj⟩ := List.getElem?_of_mem (jpairs_mem (ad := ad) hl)
  exact lv_iinc hX.1.1 hX.1.2.1 d (jpairs_has hX.2.2.2.2.2.2) hj rfl hn rfl (fun ls' h => k l p e s m args below meth c dC dI cy A0 ad0 ad H locs ls' (hX.loc (jst1 (v := .int (x + Int32.ofInt n)) hno h)))
end JR
/-- a truth as 0 or 1 -/
def jB (b : Prop) [Decidable b] : Int32 := if b then 1 else 0
section JB
variable {b : Prop}
theorem jB_t (hd : Decidable b) (h : b) : jB b = 1 := if_pos h
theorem jB_f (hd : Decidable b) (h : ¬ b) : jB b = 0 := if_neg h
theorem jB_0 (hd : Decidable b) : jB b = 0 ↔ ¬ b := by
  unfold jB
  split <;> simp_all
theorem jB_1 (hd : Decidable b) : jB b = 1 ↔ b := by
  unfold jB
  split <;> simp_all
theorem jB_z (hd : Decidable b) : narrow .boolean (.int (jB b)) = .int (jB b) := by
  unfold jB
  split <;> decide
theorem jB_fit (hd : Decidable b) : fits .boolean (.int (jB b)) = true := by
  unfold jB
  split <;> decide
end JB
end
section
theorem jg_narrow {ty : FieldType} {v : Value} (ad : Nat → Nat) (h : narrow ty v = v) : narrow ty (jg ad v) = jg ad v := by
  cases v <;> first | exact h | (cases ty <;> rfl)
theorem jg_fits {ty : FieldType} {v : Value} (ad : Nat → Nat) (h : fits ty v = true) : fits ty (jg ad v) = true := by
  cases v <;> first | exact h | (cases ty <;> first | exact h | rfl)
theorem jg_rf (ad : Nat → Nat) (r : Option Nat) : jg ad (va_rf r) = va_rf (r.map ad) := by cases r <;> rfl
/-- a field that an entry of a class's pool means: number k of class ci -/
def jF (own : String) (idx ci k : Nat) : Prop := ∃ (C : String) (T : u_T) (N : Nat), jCl[ci]? = some (C, T, N) ∧ k < N ∧ (∀ w ∈ u_ws C T N, w ∈ jTs) ∧ (Cond.fieldLink own idx (T k).1 (T k).2.1 (T k).2.2.1 ∈ jTs ∨ ∃ host, Cond.fieldLinkNest own idx (T k).1 (T k).2.1 (T k).2.2.1 host ∈ jNs)
/-- ... and what may be stored in it -/
def jP (ci k : Nat) (fin : Bool) (ty : FieldType) : Prop := ∃ (C : String) (T : u_T) (N : Nat) (ty0 : Nat → FieldType), jCl[ci]? = some (C, T, N) ∧ (∀ k, k < N → parseFieldDescriptor (T k).2.2.1 = some (ty0 k)) ∧ (∀ a, a < N → ∀ b, b < N → a ≠ b → (T a).2.1 ≠ (T b).2.1) ∧ (T k).2.2.2 = fin ∧ parseFieldDescriptor (T k).2.2.1 = some ty ∧ (T k).1 = C
section JH
variable {K : jM} {n0 : Nat} {Q : Option Value → jW → Prop} {pc : Nat} {L : List (Option Value)} {st : List Value} {A : jW} {cells slots : Nat}
theorem J.getfield {i ci k r : Nat} {fs : List Value} {v : Value} (d : decode K.2.1 pc = .ok (.getfield i, 3)) (hF : jF K.1 i ci k) (hA : A[r]? = some (.inr (ci, fs))) (hv : fs[k]? = some v)
    (k9 : J K n0 Q (pc + 3) L (v :: st) A cells slots) : J K n0 Q pc L (.ref r :: st) A cells slots := by
  intro l p e s m args below meth c dC dI cy A0 ad0 ad H locs ls hX
  obtain ⟨C, T, N, h1, h2, h3, h4⟩ := hF
  have hv' : (fs.map (jg ad))[k]? = some (jg ad v) := by simp [hv]
  rcases h4 with h4 | ⟨host, h4⟩
  · exact va_get hX.1.1 hX.1.2.1 hX.1.2.2.2.2.2.1 h3 hX.1.2.2.2.2.1 hX.1.2.2.2.2.2.2.2.2.1.2.1 hX.2.2.2.1 r (jgW_get hA) h1 k h2 (hX.1.2.2.2.2.2.1 _ h4) (fun _ h => h) hv' d (k9 l p e s m args below meth c dC dI cy A0 ad0 ad H locs ls hX)
  · exact va_getN hX.1.1 hX.1.2.1 hX.1.2.2.2.2.2.1 h3 hX.1.2.2.2.2.1 hX.1.2.2.2.2.2.2.2.2.1.2.1 hX.2.2.2.1 r (jgW_get hA) h1 k h2 (va_Nw.use rfl (hX.1.2.2.2.2.2.2.2.2.1.1 _ h4)) (fun _ h => h) hv' d (k9 l p e s m args below meth c dC dI cy A0 ad0 ad H locs ls hX)
theorem J.putfield {i ci k r : Nat} {ty : FieldType} {fs : List Value} {v : Value} (d : decode K.2.1 pc = .ok (.putfield i, 3)) (hF : jF K.1 i ci k) (hG : jP ci k false ty) (hA : A[r]? = some (.inr (ci, fs))) (hn : narrow ty v = v) (hfit : fits ty v = true) (hl : k < fs.length)
    (k9 : J K n0 Q (pc + 3) L st (A.set r (.inr (ci, fs.set k v))) cells slots) : J K n0 Q pc L (v :: .ref r :: st) A cells slots := by
  intro l p e s m args below meth c dC dI cy A0 ad0 ad H locs ls hX
  obtain ⟨C, T, N, h1, h2, h3, h4⟩ := hF
  obtain ⟨C', T', N', ty0, g1, g2, g3, g4, g5, g6⟩ := hG
  have e8 : (C', T', N') = (C, T, N) := Option.some.inj (g1.symm.trans h1)
  cases e8
  have hz : (A.set r (Sum.inr (ci, fs.set k v) : jE)).length = A.length := by simp
  have go : ∀ (H1 : Heap) (locs1 : List Loc), va_P (dC, dI) jCl ((jgW cy ad A).set r (ad r, .inr (ci, (fs.map (jg ad)).set k (jg ad v)))) H1 → va_D A0 ((jgW cy ad A).set r (ad r, .inr (ci, (fs.map (jg ad)).set k (jg ad v)))) → va_S A0 s.heap H1 locs1 → W p l e K.2.2.2.2.2 s m args below meth c H1 locs1 cells slots (MQ below (jQ Q dC dI cy A0 n0 ad0) args s K.2.2.2.2.2.cells K.2.2.2.2.2.slots A0) (F0 m (pc + 3) ls (st.map (jg ad))) := by
    intro H1 locs1 a1 a2 a3
    have e9 : (jgW cy ad A).set r (ad r, .inr (ci, (fs.map (jg ad)).set k (jg ad v))) = jgW cy ad (A.set r (.inr (ci, fs.set k v))) := by
      rw [← jgW_set]
      simp only [jgE, List.map_set]
    rw [e9] at a1 a2
    exact k9 l p e s m args below meth c dC dI cy A0 ad0 ad H1 locs1 ls (hX.wor hz a1 a2 a3)
  rcases h4 with h4 | ⟨host, h4⟩
  · exact va_put hX.1.1 hX.1.2.1 hX.1.2.2.2.2.2.1 h3 ty0 g2 g3 hX.1.2.2.2.2.1 hX.1.2.2.2.2.2.2.2.2.1.2.1 hX.2.2.2.1 hX.2.2.2.2.1 hX.2.2.2.2.2.1 r (jgW_get hA) h1 k h2 (hX.1.2.2.2.2.2.1 _ h4) (fun _ h => h) g4 g5 (jg_narrow ad hn) (jg_fits ad hfit) (by simpa using hl) d go
  · exact va_putN hX.1.1 hX.1.2.1 hX.1.2.2.2.2.2.1 h3 ty0 g2 g3 hX.1.2.2.2.2.1 hX.1.2.2.2.2.2.2.2.2.1.2.1 hX.2.2.2.1 hX.2.2.2.2.1 hX.2.2.2.2.2.1 r (jgW_get hA) h1 k h2 (va_Nw.use rfl (hX.1.2.2.2.2.2.2.2.2.1.1 _ h4)) (fun _ h => h) g4 g5 (jg_narrow ad hn) (jg_fits ad hfit) (by simpa using hl) d go
theorem J.putfieldF {i ci k r : Nat} {ty : FieldType} {fs : List Value} {v : Value} (d : decode K.2.1 pc = .ok (.putfield i, 3)) (hF : jF K.1 i ci k) (hG : jP ci k true ty) (hI : K.2.2.2.1.name = "<init>") (hc : jCl[ci]?.map (fun q => q.1) = some K.1) (hno : ∀ host, ∀ C n e, Cond.fieldLinkNest K.1 i C n e host ∉ jNs) (hA : A[r]? = some (.inr (ci, fs))) (hn : narrow ty v = v) (hfit : fits ty v = true) (hl : k < fs.length)
    (k9 : J K n0 Q (pc + 3) L st (A.set r (.inr (ci, fs.set k v))) cells slots) : J K n0 Q pc L (v :: .ref r :: st) A cells slots := by
  intro l p e s m args below meth c dC dI cy A0 ad0 ad H locs ls hX
  obtain ⟨C, T, N, h1, h2, h3, h4⟩ := hF
  obtain ⟨C', T', N', ty0, g1, g2, g3, g4, g5, g6⟩ := hG
  have e8 : (C', T', N') = (C, T, N) := Option.some.inj (g1.symm.trans h1)
  cases e8
  have hC : C = K.1 := by rw [h1] at hc; exact Option.some.inj hc
  have hz : (A.set r (Sum.inr (ci, fs.set k v) : jE)).length = A.length := by simp
  have go : ∀ (H1 : Heap) (locs1 : List Loc), va_P (dC, dI) jCl ((jgW cy ad A).set r (ad r, .inr (ci, (fs.map (jg ad)).set k (jg ad v)))) H1 → va_D A0 ((jgW cy ad A).set r (ad r, .inr (ci, (fs.map (jg ad)).set k (jg ad v)))) → va_S A0 s.heap H1 locs1 → W p l e K.2.2.2.2.2 s m args below meth c H1 locs1 cells slots (MQ below (jQ Q dC dI cy A0 n0 ad0) args s K.2.2.2.2.2.cells K.2.2.2.2.2.slots A0) (F0 m (pc + 3) ls (st.map (jg ad))) := by
    intro H1 locs1 a1 a2 a3
    have e9 : (jgW cy ad A).set r (ad r, .inr (ci, (fs.map (jg ad)).set k (jg ad v))) = jgW cy ad (A.set r (.inr (ci, fs.set k v))) := by
      rw [← jgW_set]
      simp only [jgE, List.map_set]
    rw [e9] at a1 a2
    exact k9 l p e s m args below meth c dC dI cy A0 ad0 ad H1 locs1 ls (hX.wor hz a1 a2 a3)
  rcases h4 with h4 | ⟨host, h4⟩
  · exact va_putF hX.1.1 hX.1.2.1 hX.1.2.2.2.2.2.1 h3 ty0 g2 g3 hX.1.2.2.2.2.1 hX.1.2.2.2.2.2.2.2.2.1.2.1 hX.2.2.2.1 hX.2.2.2.2.1 hX.2.2.2.2.2.1 r (jgW_get hA) h1 k h2 (hX.1.2.2.2.2.2.1 _ h4) (fun _ h => h) g4 (by rw [hX.1.2.2.2.2.2.2.2.1]; exact hI) (by rw [g6]; exact hC) g5 (jg_narrow ad hn) (jg_fits ad hfit) (by simpa using hl) d go
  · exact absurd h4 (hno _ _ _ _)
theorem J.iaload {r n : Nat} {f : Nat → Int32} {i : Int32} (d : decode K.2.1 pc = .ok (.iaload, 1)) (hA : A[r]? = some (.inl (0, n, .inl f))) (hin : vp_in i n)
    (k9 : J K n0 Q (pc + 1) L (.int (f i.toNatClampNeg) :: st) A cells slots) : J K n0 Q pc L (.int i :: .ref r :: st) A cells slots := by
  intro l p e s m args below meth c dC dI cy A0 ad0 ad H locs ls hX
  exact va_iald hX.1.1 hX.1.2.1 hX.1.2.2.2.2.2.2.2.2.1.2.1 hX.2.2.2.1 r 0 (jgW_get hA) rfl hin d (k9 l p e s m args below meth c dC dI cy A0 ad0 ad H locs ls hX)
theorem J.baload {r n : Nat} {f : Nat → Int32} {i : Int32} (d : decode K.2.1 pc = .ok (.baload, 1)) (hA : A[r]? = some (.inl (2, n, .inl f))) (hin : vp_in i n)
    (k9 : J K n0 Q (pc + 1) L (.int (f i.toNatClampNeg) :: st) A cells slots) : J K n0 Q pc L (.int i :: .ref r :: st) A cells slots := by
  intro l p e s m args below meth c dC dI cy A0 ad0 ad H locs ls hX
  exact va_bald hX.1.1 hX.1.2.1 hX.1.2.2.2.2.2.2.2.2.1.2.1 hX.2.2.2.1 r 2 (jgW_get hA) rfl hin d (k9 l p e s m args below meth c dC dI cy A0 ad0 ad H locs ls hX)
theorem J.zaload {r n : Nat} {f : Nat → Int32} {i : Int32} (d : decode K.2.1 pc = .ok (.baload, 1)) (hA : A[r]? = some (.inl (3, n, .inl f))) (hin : vp_in i n)
    (k9 : J K n0 Q (pc + 1) L (.int (f i.toNatClampNeg) :: st) A cells slots) : J K n0 Q pc L (.int i :: .ref r :: st) A cells slots := by
  intro l p e s m args below meth c dC dI cy A0 ad0 ad H locs ls hX
  exact va_zald hX.1.1 hX.1.2.1 hX.1.2.2.2.2.2.2.2.2.1.2.1 hX.2.2.2.1 r 3 (jgW_get hA) rfl hin d (k9 l p e s m args below meth c dC dI cy A0 ad0 ad H locs ls hX)
theorem J.laload {r n : Nat} {f : Nat → Int64} {i : Int32} (d : decode K.2.1 pc = .ok (.laload, 1)) (hA : A[r]? = some (.inl (1, n, .inr (.inl f)))) (hin : vp_in i n)
    (k9 : J K n0 Q (pc + 1) L (.long (f i.toNatClampNeg) :: st) A cells slots) : J K n0 Q pc L (.int i :: .ref r :: st) A cells slots := by
  intro l p e s m args below meth c dC dI cy A0 ad0 ad H locs ls hX
  exact va_lald hX.1.1 hX.1.2.1 hX.1.2.2.2.2.2.2.2.2.1.2.1 hX.2.2.2.1 r 1 (jgW_get hA) rfl hin d (k9 l p e s m args below meth c dC dI cy A0 ad0 ad H locs ls hX)
theorem J.aaload4 {r n q : Nat} {f : Nat → Option Nat} {i : Int32} (d : decode K.2.1 pc = .ok (.aaload, 1)) (hA : A[r]? = some (.inl (4, n, .inr (.inr (.inr (.inr f)))))) (hin : vp_in i n) (hq : f i.toNatClampNeg = some q)
    (k9 : J K n0 Q (pc + 1) L (.ref q :: st) A cells slots) : J K n0 Q pc L (.int i :: .ref r :: st) A cells slots := by
  intro l p e s m args below meth c dC dI cy A0 ad0 ad H locs ls hX
  refine va_aldq (C := RX2) hX.1.1 hX.1.2.1 hX.1.2.2.2.2.2.2.2.2.1.2.1 hX.2.2.2.1 r 4 (jgW_get hA) rfl hin d ?_
  rw [hq]
  exact k9 l p e s m args below meth c dC dI cy A0 ad0 ad H locs ls hX
theorem J.aaload5 {r n q : Nat} {f : Nat → Option Nat} {i : Int32} (d : decode K.2.1 pc = .ok (.aaload, 1)) (hA : A[r]? = some (.inl (5, n, .inr (.inr (.inr (.inr f)))))) (hin : vp_in i n) (hq : f i.toNatClampNeg = some q)
    (k9 : J K n0 Q (pc + 1) L (.ref q :: st) A cells slots) : J K n0 Q pc L (.int i :: .ref r :: st) A cells slots := by
  intro l p e s m args below meth c dC dI cy A0 ad0 ad H locs ls hX
  refine va_aldq (C := RX4) hX.1.1 hX.1.2.1 hX.1.2.2.2.2.2.2.2.2.1.2.1 hX.2.2.2.1 r 5 (jgW_get hA) rfl hin d ?_
  rw [hq]
  exact k9 l p e s m args below meth c dC dI cy A0 ad0 ad H locs ls hX
theorem J.iastore {r n : Nat} {f : Nat → Int32} {i : Int32} {x : Int32} (d : decode K.2.1 pc = .ok (.iastore, 1)) (hA : A[r]? = some (.inl (0, n, .inl f))) (hin : vp_in i n)
    (k9 : J K n0 Q (pc + 1) L st (A.set r (.inl (0, n, .inl (upd f i.toNatClampNeg x)))) cells slots) : J K n0 Q pc L (.int x :: .int i :: .ref r :: st) A cells slots := by
  intro l p e s m args below meth c dC dI cy A0 ad0 ad H locs ls hX
  have hz : (A.set r (Sum.inl (0, n, .inl (upd f i.toNatClampNeg x)) : jE)).length = A.length := by simp
  refine va_iast hX.1.1 hX.1.2.1 hX.1.2.2.2.2.2.2.2.2.1.2.1 hX.2.2.2.1 hX.2.2.2.2.1 hX.2.2.2.2.2.1 r 0 (jgW_get hA) rfl hin d (fun H1 locs1 a1 a2 a3 => ?_)
  have e9 : (jgW cy ad A).set r (ad r, .inl (cy 0, n, .inl (upd f i.toNatClampNeg x))) = jgW cy ad (A.set r (.inl (0, n, .inl (upd f i.toNatClampNeg x)))) := by
    rw [← jgW_set]
    rfl
  rw [e9] at a1 a2
  exact k9 l p e s m args below meth c dC dI cy A0 ad0 ad H1 locs1 ls (hX.wor hz a1 a2 a3)
theorem J.bastore {r n : Nat} {f : Nat → Int32} {i : Int32} {x : Int32} (d : decode K.2.1 pc = .ok (.bastore, 1)) (hA : A[r]? = some (.inl (2, n, .inl f))) (hin : vp_in i n)
    (k9 : J K n0 Q (pc + 1) L st (A.set r (.inl (2, n, .inl (upd f i.toNatClampNeg (vp_nar .byte x))))) cells slots) : J K n0 Q pc L (.int x :: .int i :: .ref r :: st) A cells slots := by
  intro l p e s m args below meth c dC dI cy A0 ad0 ad H locs ls hX
  have hz : (A.set r (Sum.inl (2, n, .inl (upd f i.toNatClampNeg (vp_nar .byte x))) : jE)).length = A.length := by simp
  refine va_bast hX.1.1 hX.1.2.1 hX.1.2.2.2.2.2.2.2.2.1.2.1 hX.2.2.2.1 hX.2.2.2.2.1 hX.2.2.2.2.2.1 r 2 (jgW_get hA) rfl hin d (fun H1 locs1 a1 a2 a3 => ?_)
  have e9 : (jgW cy ad A).set r (ad r, .inl (cy 2, n, .inl (upd f i.toNatClampNeg (vp_nar .byte x)))) = jgW cy ad (A.set r (.inl (2, n, .inl (upd f i.toNatClampNeg (vp_nar .byte x))))) := by
    rw [← jgW_set]
    rfl
  rw [e9] at a1 a2
  exact k9 l p e s m args below meth c dC dI cy A0 ad0 ad H1 locs1 ls (hX.wor hz a1 a2 a3)
theorem J.zastore {r n : Nat} {f : Nat → Int32} {i : Int32} {x : Int32} (d : decode K.2.1 pc = .ok (.bastore, 1)) (hA : A[r]? = some (.inl (3, n, .inl f))) (hin : vp_in i n)
    (k9 : J K n0 Q (pc + 1) L st (A.set r (.inl (3, n, .inl (upd f i.toNatClampNeg (vp_nar .boolean x))))) cells slots) : J K n0 Q pc L (.int x :: .int i :: .ref r :: st) A cells slots := by
  intro l p e s m args below meth c dC dI cy A0 ad0 ad H locs ls hX
  have hz : (A.set r (Sum.inl (3, n, .inl (upd f i.toNatClampNeg (vp_nar .boolean x))) : jE)).length = A.length := by simp
  refine va_zast hX.1.1 hX.1.2.1 hX.1.2.2.2.2.2.2.2.2.1.2.1 hX.2.2.2.1 hX.2.2.2.2.1 hX.2.2.2.2.2.1 r 3 (jgW_get hA) rfl hin d (fun H1 locs1 a1 a2 a3 => ?_)
  have e9 : (jgW cy ad A).set r (ad r, .inl (cy 3, n, .inl (upd f i.toNatClampNeg (vp_nar .boolean x)))) = jgW cy ad (A.set r (.inl (3, n, .inl (upd f i.toNatClampNeg (vp_nar .boolean x))))) := by
    rw [← jgW_set]
    rfl
  rw [e9] at a1 a2
  exact k9 l p e s m args below meth c dC dI cy A0 ad0 ad H1 locs1 ls (hX.wor hz a1 a2 a3)
theorem J.lastore {r n : Nat} {f : Nat → Int64} {i : Int32} {x : Int64} (d : decode K.2.1 pc = .ok (.lastore, 1)) (hA : A[r]? = some (.inl (1, n, .inr (.inl f)))) (hin : vp_in i n)
    (k9 : J K n0 Q (pc + 1) L st (A.set r (.inl (1, n, .inr (.inl (vp_updL f i.toNatClampNeg x))))) cells slots) : J K n0 Q pc L (.long x :: .int i :: .ref r :: st) A cells slots := by
  intro l p e s m args below meth c dC dI cy A0 ad0 ad H locs ls hX
  have hz : (A.set r (Sum.inl (1, n, .inr (.inl (vp_updL f i.toNatClampNeg x))) : jE)).length = A.length := by simp
  refine va_last hX.1.1 hX.1.2.1 hX.1.2.2.2.2.2.2.2.2.1.2.1 hX.2.2.2.1 hX.2.2.2.2.1 hX.2.2.2.2.2.1 r 1 (jgW_get hA) rfl hin d (fun H1 locs1 a1 a2 a3 => ?_)
  have e9 : (jgW cy ad A).set r (ad r, .inl (cy 1, n, .inr (.inl (vp_updL f i.toNatClampNeg x)))) = jgW cy ad (A.set r (.inl (1, n, .inr (.inl (vp_updL f i.toNatClampNeg x))))) := by
    rw [← jgW_set]
    rfl
  rw [e9] at a1 a2
  exact k9 l p e s m args below meth c dC dI cy A0 ad0 ad H1 locs1 ls (hX.wor hz a1 a2 a3)
theorem J.arraylength {r t : Nat} {x : vp_A} (d : decode K.2.1 pc = .ok (.arraylength, 1)) (hA : A[r]? = some (.inl (t, x))) (ht : t < 6)
    (k9 : J K n0 Q (pc + 1) L (.int (Int32.ofNat x.1) :: st) A cells slots) : J K n0 Q pc L (.ref r :: st) A cells slots := by
  intro l p e s m args below meth c dC dI cy A0 ad0 ad H locs ls hX
  have h1 : ∃ ty, (jTys cy)[t]? = some (cy t, ty) := by
    match t, ht with
    | 0, _ => exact ⟨_, rfl⟩
    | 1, _ => exact ⟨_, rfl⟩
    | 2, _ => exact ⟨_, rfl⟩
    | 3, _ => exact ⟨_, rfl⟩
    | 4, _ => exact ⟨_, rfl⟩
    | 5, _ => exact ⟨_, rfl⟩
  obtain ⟨ty, h1⟩ := h1
  exact va_alen hX.1.1 hX.1.2.1 hX.1.2.2.2.2.2.2.2.2.1.2.1 hX.2.2.2.1 r t (jgW_get hA) h1 rfl d (k9 l p e s m args below meth c dC dI cy A0 ad0 ad H locs ls hX)
theorem J.iret {ty : FieldType} {v : Int32} (d : decode K.2.1 pc = .ok (.ireturn, 1)) (hr : K.2.2.2.2.1 = some ty) (hn : narrow ty (.int v) = .int v) (hc : cells ≤ K.2.2.2.2.2.cells) (hs : slots ≤ K.2.2.2.2.2.slots) (hQ : Q (some (.int v)) A) : J K n0 Q pc L [.int v] A cells slots := by
  intro l p e s m args below meth c dC dI cy A0 ad0 ad H locs ls hX
  refine W.widen hc hs ?_
  exact W.zret hX.1.1 hX.1.2.1 (hX.1.2.2.1.trans hr) hn (fun t ht hW => ⟨⟨some (.int v), A, ad, rfl, hQ, hX.2.1, by rw [ht]; exact hX.2.2.2.1, hX.2.2.2.2.1⟩, hX.2.2.2.2.2.1.F ht⟩) hX.2.2.2.2.2.1.2.2 d hX.1.2.2.2.2.2.2.1
theorem J.lret {v : Int64} (d : decode K.2.1 pc = .ok (.lreturn, 1)) (hr : K.2.2.2.2.1 = some .long) (hc : cells ≤ K.2.2.2.2.2.cells) (hs : slots ≤ K.2.2.2.2.2.slots) (hQ : Q (some (.long v)) A) : J K n0 Q pc L [.long v] A cells slots := by
  intro l p e s m args below meth c dC dI cy A0 ad0 ad H locs ls hX
  refine W.widen hc hs ?_
  exact W.lret hX.1.1 hX.1.2.1 (hX.1.2.2.1.trans hr) (fun t ht hW => ⟨⟨some (.long v), A, ad, rfl, hQ, hX.2.1, by rw [ht]; exact hX.2.2.2.1, hX.2.2.2.2.1⟩, hX.2.2.2.2.2.1.F ht⟩) hX.2.2.2.2.2.1.2.2 d hX.1.2.2.2.2.2.2.1
theorem J.vret (d : decode K.2.1 pc = .ok (.return_, 1)) (hr : K.2.2.2.2.1 = none) (hc : cells ≤ K.2.2.2.2.2.cells) (hs : slots ≤ K.2.2.2.2.2.slots) (hQ : Q none A) : J K n0 Q pc L [] A cells slots := by
  intro l p e s m args below meth c dC dI cy A0 ad0 ad H locs ls hX
  refine W.widen hc hs ?_
  exact W.vret hX.1.1 hX.1.2.1 (hX.1.2.2.1.trans hr) (fun t ht hW => ⟨⟨none, A, ad, rfl, hQ, hX.2.1, by rw [ht]; exact hX.2.2.2.1, hX.2.2.2.2.1⟩, hX.2.2.2.2.2.1.F ht⟩) hX.2.2.2.2.2.1.2.2 d hX.1.2.2.2.2.2.2.1
end JH
/-! ===== calls ===== -/
def jent (n : Nat) (as : List Value) : List (Option Value) := (as.flatMap fun v => if v.category = 2 then [some v, none] else [some v]) ++ List.replicate (n - (as.flatMap fun v => if v.category = 2 then [some v, none] else [some v]).length) none
theorem jent_len (ad : Nat → Nat) (as : List Value) : (lg_sl (as.map (jg ad))).length = (as.flatMap fun v => if v.category = 2 then [some v, none] else [some v]).length := by
  induction as with
  | nil => rfl
  | cons v as ih =>
    simp only [lg_sl, List.map_cons, List.flatMap_cons, List.length_append] at ih ⊢
    rw [ih, jg_cat]
    by_cases h : v.category = 2 <;> simp [h]
theorem jent_at (ad : Nat → Nat) (as : List Value) : ∀ (i : Nat) (v : Value), (as.flatMap fun v => if v.category = 2 then [some v, none] else [some v])[i]? = some (some v) → (lg_sl (as.map (jg ad)))[i]? = some (.val (jg ad v)) := by
  induction as with
  | nil => intro i v h; simp at h
  | cons u as ih =>
    intro i v h
    simp only [lg_sl, List.map_cons, List.flatMap_cons] at ih h ⊢
    by_cases hc : u.category = 2
    · rw [if_pos hc] at h
      rw [if_pos ((jg_cat ad u).trans hc)]
      match i, h with
      | 0, h => cases h; rfl
      | 1, h => cases h
      | i + 2, h => exact ih i v h
    · rw [if_neg hc] at h
      rw [if_neg (fun q => hc ((jg_cat ad u).symm.trans q))]
      match i, h with
      | 0, h => cases h; rfl
      | i + 1, h => exact ih i v h
theorem jent_ok (ad : Nat → Nat) {n : Nat} {as : List Value} {L0 : List (Option Value)} (h : jent n as = L0) (hl : L0.length = n) : jL ad ((lg_sl (as.map (jg ad)) ++ List.replicate (n - (lg_sl (as.map (jg ad))).length) Slot.unset).toArray) n L0 := by
  have hle : (lg_sl (as.map (jg ad))).length ≤ n := by
    rw [jent_len, ← hl, ← h]
    simp [jent]
  obtain ⟨h1, h2, -⟩ := lv_entry (as.map (jg ad)) hle
  refine ⟨h1, h2, fun i v hv => ?_⟩
  rw [← h, jent] at hv
  by_cases hi : i < (as.flatMap fun v => if v.category = 2 then [some v, none] else [some v]).length
  · rw [List.getElem?_append_left hi] at hv
    simp only [List.getElem?_toArray]
    rw [List.getElem?_append_left (by rw [jent_len]; exact hi)]
    exact jent_at ad as i v hv
  · rw [List.getElem?_append_right (by omega)] at hv
    have := List.eq_of_mem_replicate (List.mem_of_getElem? hv)
    cases this
/-- a method that the tables know -/
def jmOK (K : jM) : Prop := K.1 = K.2.2.2.1.cls ∧ plainName K.2.2.2.1.cls = true ∧ Cond.code K.2.2.2.1 K.2.1 K.2.2.1 K.2.2.2.2.1 ∈ jTs ∧ Cond.initialized K.2.2.2.1.cls ∈ jTs ∧ K.2.2.2.1.cls ≠ "java/lang/invoke/MethodHandle" ∧ K.2.2.2.1.cls ≠ "java/lang/invoke/VarHandle"
abbrev jPc (dC : Nat → ClassId) (dI : Nat → Nat → Nat) (cy : Nat → ClassId) (ad : Nat → Nat) (sz : Nat) (B : jW) (as : List Value) : Array Value → State → Prop := va_Pc (as.map (jg ad)) (fun U => U.heap.size = sz ∧ va_P (dC, dI) jCl (jgW cy ad B) U.heap ∧ jU dC dI cy U ∧ va_D (fun _ => True) (jgW cy ad B) ∧ jS ad (va_A (jgW cy ad B) sz) U U.heap)
theorem J.met {K : jM} {Q : Option Value → jW → Prop} {as : List Value} {B : jW} {L0 : List (Option Value)} (hm : jmOK K) (hJ : J K B.length Q 0 L0 [] B 0 0) (hL : jent K.2.2.1 as = L0) (hl : L0.length = K.2.2.1) (l : Launch) (dC : Nat → ClassId) (dI : Nat → Nat → Nat) (cy : Nat → ClassId) (ad : Nat → Nat) (sz : Nat) :
    Met l K.2.2.2.1 (Cond.code K.2.2.2.1 K.2.1 K.2.2.1 K.2.2.2.2.1 :: jTs) K.2.2.2.2.2 (jPc dC dI cy ad sz B as) (jQ Q dC dI cy (va_A (jgW cy ad B) sz) B.length ad) K.2.2.2.2.2.cells K.2.2.2.2.2.slots (va_A (jgW cy ad B) sz) := by
  refine Met.ofW (cc := K.2.1) (maxL := K.2.2.1) (ret := K.2.2.2.2.1) hm.2.1 rfl ?_
  intro p e s m args below meth c s₁ B' hml hv
  obtain ⟨rfl, hsz, hP, hU, hD0, hSt⟩ := hv
  have hts := atoms_spec (ws := Cond.code K.2.2.2.1 K.2.1 K.2.2.1 K.2.2.2.2.1 :: jTs) B'.pre
  have hown : s.vm.findClass K.2.2.2.1.cls = some m.cls := findClass_of_methodNamed B'.named
  have hin : meth.name = K.2.2.2.1.name := (name_of_methodNamed B'.named B'.method).1
  subst hsz
  rw [lg_entry_eq]
  exact hJ l p e s m _ below meth c dC dI cy (va_A (jgW cy ad B) s.heap.size) ad ad s.heap [] _ ⟨⟨B'.exec, B'.bytes, B'.returns, hml, by rw [hm.1]; exact hown, fun w hw => hts w (List.mem_cons_of_mem _ hw), B'.notSynchronized, hin, hU, hSt⟩, fun _ _ => rfl, fun q h => Or.inr h, hP, hD0.self, va_S.rf, jent_ok ad hL hl⟩
def jr (is : List Nat) (k : Nat) : Nat := if 1000 ≤ k then k else is.getD k 0
def jput (A : jW) (is : List Nat) (xs : jW) : jW := match is, xs with
  | i :: is, x :: xs => jput (A.set i x) is xs
  | _, _ => A
theorem jput_len : ∀ (is : List Nat) (A xs : jW), (jput A is xs).length = A.length
  | [], A, xs => by simp [jput]
  | i :: is, A, [] => by simp [jput]
  | i :: is, A, x :: xs => by simp only [jput]; rw [jput_len is (A.set i x) xs]; simp
theorem jput_ne : ∀ (is : List Nat) (A xs : jW) (k : Nat), k ∉ is → (jput A is xs)[k]? = A[k]?
  | [], A, xs, k, _ => by simp [jput]
  | i :: is, A, [], k, _ => by simp [jput]
  | i :: is, A, x :: xs, k, h => by
    simp only [jput]
    rw [jput_ne is (A.set i x) xs k (fun q => h (List.mem_cons_of_mem _ q)), List.getElem?_set_ne (fun q => h (by rw [q]; exact List.mem_cons_self))]
theorem jput_at : ∀ (is : List Nat) (A xs : jW) (j k : Nat), va_nd is = true → is[j]? = some k → k < A.length → j < xs.length → (jput A is xs)[k]? = xs[j]?
  | [], A, xs, j, k, _, h, _, _ => by simp at h
  | i :: is, A, [], j, k, _, _, _, h => by simp at h
  | i :: is, A, x :: xs, j, k, hn, h, hk, hj => by
    simp only [va_nd, Bool.and_eq_true, decide_eq_true_eq] at hn
    simp only [jput]
    cases j with
    | zero =>
      simp only [List.getElem?_cons_zero, Option.some.injEq] at h
      subst h
      rw [jput_ne is _ xs i hn.1, List.getElem?_set_self hk]
      rfl
    | succ j =>
      rw [List.getElem?_cons_succ] at h ⊢
      exact jput_at is (A.set i x) xs j k hn.2 h (by simpa using hk) (by simpa using hj)
section JC
variable {p : Program} {l : Launch} {e : Env} {s : State} {m : MethodId} {args : Array Value} {below : List Frame} {meth : Method} {c : Code} {dC : Nat → ClassId} {dI : Nat → Nat → Nat} {cy : Nat → ClassId} {A0 : Nat → Prop} {ad0 ad : Nat → Nat} {H : Heap} {locs : List Loc} {ls : Array Slot}
variable {K K' : jM} {n0 : Nat} {Q Q' : Option Value → jW → Prop} {pc : Nat} {L : List (Option Value)} {st rest as : List Value} {A B : jW} {cells slots : Nat} {is : List Nat}
theorem jcells (hB : is.map (fun i => A[i]?) = B.map (fun b => some (jrE (jr is) b))) (hl : B.length < 1000) {j : Nat} {b : jE} (hb : B[j]? = some b) : ∃ i, is[j]? = some i ∧ jr is j = i ∧ A[i]? = some (jrE (jr is) b) := by
  have h1 : (is.map (fun i => A[i]?))[j]? = some (some (jrE (jr is) b)) := by rw [hB, List.getElem?_map, hb]; rfl
  rw [List.getElem?_map] at h1
  have hj : j < B.length := (List.getElem?_eq_some_iff.mp hb).1
  cases hi : is[j]? with
  | none => rw [hi] at h1; cases h1
  | some i =>
    rw [hi] at h1
    refine ⟨i, rfl, ?_, Option.some.inj h1⟩
    simp only [jr]
    rw [if_neg (by omega), List.getD_eq_getElem?_getD, hi]
    rfl
theorem jsub (hB : is.map (fun i => A[i]?) = B.map (fun b => some (jrE (jr is) b))) (hl : B.length < 1000) : is.map (fun i => (jgW cy ad A)[i]?) = (jgW cy (fun k => ad (jr is k)) B).map some := by
  have hlen : is.length = B.length := by have := congrArg List.length hB; simpa using this
  apply List.ext_getElem?
  intro j
  by_cases hj : j < B.length
  · obtain ⟨i, h1, h2, h3⟩ := jcells hB hl (List.getElem?_eq_getElem hj)
    rw [List.getElem?_map, h1, List.getElem?_map, jgW_get (List.getElem?_eq_getElem hj)]
    simp only [Option.map_some]
    rw [jgW_get h3, jgE_comp cy ad (jr is) B[j], h2]
  · rw [List.getElem?_eq_none (by simp; omega), List.getElem?_eq_none (by simp [jgW_len]; omega)]
theorem jfree (hX : jX K n0 p s m args meth c dC dI cy A0 ad0 ad H locs ls L A) (hB : is.map (fun i => A[i]?) = B.map (fun b => some (jrE (jr is) b))) (hl : B.length < 1000) : ∀ q, va_A (jgW cy (fun k => ad (jr is k)) B) H.size q → A0 q :=
  va_free hX.2.2.2.2.1 hX.2.2.2.2.2.1 hX.2.2.1 is (jsub hB hl)
/-- what the callee needs at its start -/
theorem jpre (hX : jX K n0 p s m args meth c dC dI cy A0 ad0 ad H locs ls L A) (hB : is.map (fun i => A[i]?) = B.map (fun b => some (jrE (jr is) b))) (hl : B.length < 1000) (hnd : va_nd is = true) : FrameBlind (jPc dC dI cy (fun k => ad (jr is k)) H.size B as) ∧ ∀ U : State, U.heap = H → s.WarmedH U.vm → jPc dC dI cy (fun k => ad (jr is k)) H.size B as ((as.map (jg (fun k => ad (jr is k)))).toArray) U := by
  refine ⟨fun a U g mk q => ?_, fun U hU hW => ?_⟩
  · obtain ⟨q0, q1, q2, q3, q4, q5⟩ := q
    exact ⟨q0, q1, q2, q3.same rfl, q4, q5.same rfl⟩
  · have hs := jsub (cy := cy) (ad := ad) hB hl
    refine ⟨rfl, by rw [hU], ?_, hX.1.2.2.2.2.2.2.2.2.1.warm hW, ?_, ?_⟩
    · rw [hU]
      intro j q hq
      have h1 : (is.map (fun i => (jgW cy ad A)[i]?))[j]? = some (some q) := by rw [hs, List.getElem?_map, hq]; rfl
      rw [List.getElem?_map] at h1
      cases hi : is[j]? with
      | none => rw [hi] at h1; cases h1
      | some i => rw [hi] at h1; exact hX.2.2.2.1 i q (Option.some.inj h1)
    · exact (hX.2.2.2.2.1.sub is hnd hs).weaken (fun _ _ _ _ => trivial)
    · have h1 : jS (fun k => ad (jr is k)) A0 s s.heap := hX.1.2.2.2.2.2.2.2.2.2.ad (fun k hk => by simp only [jr]; rw [if_pos hk])
      rw [hU]
      exact h1.step hW (fun a h1 h2 => hX.2.2.2.2.2.1.2.1 a h1 h2) (jfree hX hB hl)
/-- behind a call that made no cell -/
theorem jback (hX : jX K n0 p s m args meth c dC dI cy A0 ad0 ad H locs ls L A) (hB : is.map (fun i => A[i]?) = B.map (fun b => some (jrE (jr is) b))) (hl : B.length < 1000) (hnd : va_nd is = true) {a : Array Value} {st0 : List Value}
    (hr : va_Run p l e K.2.2.2.2.2 s m args below meth c H locs cells slots 0 0 (F0 m pc ls st0) (rest.map (jg ad)) (jQ Q' dC dI cy (va_A (jgW cy (fun k => ad (jr is k)) B) H.size) B.length (fun k => ad (jr is k)) a) (va_A (jgW cy (fun k => ad (jr is k)) B) H.size))
    (kk : ∀ r B', Q' r B' → B'.length = B.length ∧ J K n0 Q (pc + 3) L ((r.map (jg (jr is))).toList ++ rest) (jput A is (B'.map (jrE (jr is)))) cells slots) :
    W p l e K.2.2.2.2.2 s m args below meth c H locs cells slots (MQ below (jQ Q dC dI cy A0 n0 ad0) args s K.2.2.2.2.2.cells K.2.2.2.2.2.slots A0) (F0 m pc ls st0) := by
  intro T hT X
  obtain ⟨v, st₀, t, T', L', h0, X', hL, e1, e2, ⟨⟨r, B', ad', hv, hq, hag, hP1, hD1⟩, hz, hk⟩, st9⟩ := hr T hT X
  cases hv
  obtain ⟨hlB, kJ⟩ := kk r B' hq
  have hA1 := jfree hX hB hl
  have hae : ad' = fun k => ad (jr is k) := funext fun k => hag k (by omega)
  subst hae
  rw [h0] at hz hk
  have hP := hX.2.2.2.1
  have hD := hX.2.2.2.2.1
  have hS := hX.2.2.2.2.2.1
  have hlen : is.length = B.length := by have := congrArg List.length hB; simpa using this
  have hlt : ∀ i ∈ is, i < A.length := by
    intro i hi
    obtain ⟨j, hj, rfl⟩ := List.getElem_of_mem hi
    obtain ⟨i', a1, -, a3⟩ := jcells hB hl (List.getElem?_eq_getElem (show j < B.length by omega))
    rw [List.getElem?_eq_getElem hj] at a1
    cases a1
    exact (List.getElem?_eq_some_iff.mp a3).1
  have hPn : va_P (dC, dI) jCl (jgW cy ad (jput A is (B'.map (jrE (jr is))))) t.heap := by
    intro k q hq
    obtain ⟨x, hx, rfl⟩ := jgW_of hq
    by_cases hki : k ∈ is
    · obtain ⟨j, hj, rfl⟩ := List.getElem_of_mem hki
      have hj2 : is[j]? = some is[j] := List.getElem?_eq_getElem hj
      have hjB : j < B'.length := by omega
      rw [jput_at is A _ j is[j] hnd hj2 (hlt _ hki) (by simp; omega), List.getElem?_map, List.getElem?_eq_getElem hjB] at hx
      simp only [Option.map_some, Option.some.injEq] at hx
      have h3 := hP1 j _ (jgW_get (List.getElem?_eq_getElem hjB))
      obtain ⟨i', a1, a2, -⟩ := jcells hB hl (List.getElem?_eq_getElem (show j < B.length by omega))
      rw [hj2] at a1
      cases a1
      rw [a2, jgE_comp, hx] at h3
      exact h3
    · rw [jput_ne is A _ k hki] at hx
      have h3 := hP k _ (jgW_get hx)
      refine h3.kept (hk _ h3.lt (fun h => ?_))
      rcases h with ⟨j, e9, h⟩ | h
      · obtain ⟨b, hb, hb2⟩ := jgW_of h
        obtain ⟨i', a1, a2, a3⟩ := jcells hB hl hb
        have h4 : ad k = ad i' := by
          have := congrArg Prod.fst hb2
          simp only at this
          rw [← a2]
          exact this
        have h5 := hD.1 k i' _ _ (jgW_get hx) (jgW_get a3) h4
        exact hki (by rw [h5]; exact List.mem_of_getElem? a1)
      · have := h3.lt
        simp only at this h
        omega
  have hDn : va_D A0 (jgW cy ad (jput A is (B'.map (jrE (jr is))))) := by
    have key : ∀ (k : Nat) (q : Nat × va_E), (jgW cy ad (jput A is (B'.map (jrE (jr is)))))[k]? = some q → ∃ q', (jgW cy ad A)[k]? = some q' ∧ q'.1 = q.1 := by
      intro k q hq
      obtain ⟨x, hx, rfl⟩ := jgW_of hq
      have hk : k < A.length := by rw [← jput_len is A (B'.map (jrE (jr is)))]; exact (List.getElem?_eq_some_iff.mp hx).1
      exact ⟨_, jgW_get (List.getElem?_eq_getElem hk), rfl⟩
    refine ⟨fun i j x y hi hj hxy => ?_, fun k q hk => ?_⟩
    · obtain ⟨x', a1, a2⟩ := key i x hi
      obtain ⟨y', b1, b2⟩ := key j y hj
      exact hD.1 i j x' y' a1 b1 (by rw [a2, b2]; exact hxy)
    · obtain ⟨q', a1, a2⟩ := key k q hk
      rw [← a2]
      exact hD.2 k q' a1
  have hSn : va_S A0 s.heap T'.heap (locs ++ L') := ⟨Nat.le_trans hS.1 (by rw [e1]; exact hz), fun q h1 h2 => by rw [e1, hk q (Nat.lt_of_lt_of_le h1 hS.1) (fun z => h2 (hA1 q z))]; exact hS.2.1 q h1 h2, fun q hq => by
      rcases List.mem_append.mp hq with h | h
      · exact hS.2.2 q h
      · exact hA1 _ (hL q h)⟩
  rw [← e1] at hPn
  obtain ⟨t2, a1, b1⟩ := kJ l p e s m args below meth c dC dI cy A0 ad0 ad T'.heap (locs ++ L') ls (hX.wor (jput_len _ _ _) hPn hDn hSn) T' rfl X'
  refine ⟨t2, st9 t2 ?_, b1⟩
  have hst : (((r.map (jg (jr is))).toList ++ rest).map (jg ad)) = (r.map (jg (fun k => ad (jr is k)))).toList ++ rest.map (jg ad) := by
    cases r with
    | none => simp
    | some v => simp [jg_comp]
  rw [hst] at a1
  exact a1
theorem jgood (hm : jmOK K') : GoodIn jTs (Cond.code K'.2.2.2.1 K'.2.1 K'.2.2.1 K'.2.2.2.2.1 :: jTs) := by
  intro w hw
  rcases List.mem_cons.mp hw with rfl | hw
  · exact ⟨hm.2.2.1, good_of_word (List.mem_filter.mp hm.2.2.1).2⟩
  · exact ⟨hw, good_of_word (List.mem_filter.mp hw).2⟩
/-- the entry of a pool that means a method: of its own nest, or another's -/
def jLk (own : String) (idx : Nat) (y : MethodName) : Prop := Cond.methodLink own idx y ∈ jTs ∨ ∃ host, Cond.methodLinkNest own idx y host ∈ jNs
def jcS (own : String) (idx : Nat) (K' : jM) (n : Nat) : Prop := jLk own idx K'.2.2.2.1 ∧ Cond.static K'.2.2.2.1 ∈ jTs ∧ (parseMethodDescriptor K'.2.2.2.1.desc).map (fun d => d.parameters.length) = some n
def jcV (own : String) (idx : Nat) (K' : jM) (ci n : Nat) : Prop := jLk own idx K'.2.2.2.1 ∧ Cond.instanceMethod K'.2.2.2.1 ∈ jTs ∧ Cond.selects K'.2.2.2.1.cls K'.2.2.2.1 K'.2.2.2.1 ∈ jTs ∧ (parseMethodDescriptor K'.2.2.2.1.desc).map (fun d => d.parameters.length) = some n ∧ (jCl[ci]?).map (fun q => q.1) = some K'.2.2.2.1.cls
/-- the callee's room within the caller's; it makes no cell -/
def jroom (K K' : jM) : Bool := decide (K'.2.2.2.2.2.cells = 0 ∧ K'.2.2.2.2.2.slots = 0 ∧ K'.2.2.2.2.2.frames + 1 ≤ K.2.2.2.2.2.frames ∧ 8 + (K'.2.2.1 + 11) + K'.2.2.2.2.2.locals ≤ K.2.2.2.2.2.locals)
/-- a static method is called -/
theorem J.cs {i n1 : Nat} {L0 : List (Option Value)} (hm : jmOK K') (hc : jcS K.1 i K' as.length) (hJ : J K' n1 Q' 0 L0 [] B 0 0) (d : decode K.2.1 pc = .ok (.invokestatic i, 3)) (hn1 : B.length = n1)
    (hst : st = (as.map (jg (jr is))).reverse ++ rest) (hB : is.map (fun i => A[i]?) = B.map (fun b => some (jrE (jr is) b))) (hL : jent K'.2.2.1 as = L0) (hl0 : L0.length = K'.2.2.1)
    (hnum : (decide (B.length < 1000) && va_nd is && decide ((rest.map fun v => v.category).sum ≤ 8) && jroom K K' && decide (cells ≤ K.2.2.2.2.2.cells) && decide (slots ≤ K.2.2.2.2.2.slots)) = true)
    (kk : ∀ r B', Q' r B' → B'.length = B.length ∧ J K n0 Q (pc + 3) L ((r.map (jg (jr is))).toList ++ rest) (jput A is (B'.map (jrE (jr is)))) cells slots) : J K n0 Q pc L st A cells slots := by
  subst hn1
  intro l p e s m args below meth c dC dI cy A0 ad0 ad H locs ls hX
  simp only [jroom, Bool.and_eq_true, decide_eq_true_eq] at hnum
  obtain ⟨⟨⟨⟨⟨hl, hnd⟩, hcat⟩, hrc, hrs, hrf, hrl⟩, hce⟩, hsl⟩ := hnum
  obtain ⟨hlk, hstat, hpar⟩ := hc
  have hts := hX.1.2.2.2.2.2.1
  have hpre := jpre (as := as) hX hB hl hnd
  have hM := J.met hm hJ hL hl0 l dC dI cy (fun k => ad (jr is k)) H.size
  rw [hrc, hrs] at hM
  have hstk : (F0 m pc ls (st.map (jg ad))).stack = (as.map (jg (fun k => ad (jr is k)))).reverse ++ rest.map (jg ad) := by
    show st.map (jg ad) = _
    rw [hst, List.map_append, List.map_reverse, List.map_map]
    congr 2
    apply List.map_congr_left
    intro v _
    exact (jg_comp ad (jr is) v).symm
  have hcat2 : ((rest.map (jg ad)).map fun v => v.category).sum ≤ 8 := by
    rw [List.map_map]
    have : ((fun v => Value.category v) ∘ jg ad) = fun v => v.category := funext fun v => jg_cat ad v
    rw [this]
    exact hcat
  refine jback (a := (as.map (jg (fun k => ad (jr is k)))).toArray) hX hB hl hnd ?_ kk
  rcases hlk with hlk | ⟨host, hlk⟩
  · exact va_runS (own := K.1) (bytes := K'.2.1) (maxL := K'.2.2.1) (ret := K'.2.2.2.2.1) (n := as.length) ⟨hX.1.1, hX.1.2.1, hX.1.2.2.2.1, hX.1.2.2.2.2.1, hts⟩ hM ⟨callB_of as.length hts (jgood hm) rfl hrc hrs (hts _ hm.2.2.2.1) (hts _ hlk) ⟨hm.2.2.2.2.1, hm.2.2.2.2.2, hpar⟩ ⟨hrf, hrl⟩, hts _ hstat⟩ hpre rfl (by simp) hX.2.2.2.2.2.2.1 hstk (lv_room hcat2) d ⟨hce, hsl⟩
  · exact va_runSN (own := K.1) (bytes := K'.2.1) (maxL := K'.2.2.1) (ret := K'.2.2.2.2.1) (n := as.length) ⟨hX.1.1, hX.1.2.1, hX.1.2.2.2.1, hX.1.2.2.2.2.1, hts⟩ hM ⟨va_cnB as.length hts (jgood hm) rfl hrc hrs (hX.1.2.2.2.2.2.2.2.2.1.1 _ hlk) (hts _ hm.2.2.2.1) ⟨hm.2.2.2.2.1, hm.2.2.2.2.2, hpar⟩ ⟨hrf, hrl⟩, hts _ hstat, trivial⟩ hpre rfl (by simp) hX.2.2.2.2.2.2.1 hstk (lv_room hcat2) d ⟨hce, hsl⟩
/-- a method of an object is called: cell number o of the callee's world -/
theorem J.cv {i ci o n1 : Nat} {fs : List Value} {L0 : List (Option Value)} (hm : jmOK K') (hc : jcV K.1 i K' ci as.length) (hJ : J K' n1 Q' 0 L0 [] B 0 0) (d : decode K.2.1 pc = .ok (.invokevirtual i, 3)) (hn1 : B.length = n1)
    (hst : st = (as.map (jg (jr is))).reverse ++ .ref (jr is o) :: rest) (ho : A[jr is o]? = some (.inr (ci, fs))) (hB : is.map (fun i => A[i]?) = B.map (fun b => some (jrE (jr is) b))) (hL : jent K'.2.2.1 (.ref o :: as) = L0) (hl0 : L0.length = K'.2.2.1)
    (hnum : (decide (B.length < 1000) && va_nd is && decide ((rest.map fun v => v.category).sum ≤ 8) && jroom K K' && decide (cells ≤ K.2.2.2.2.2.cells) && decide (slots ≤ K.2.2.2.2.2.slots)) = true)
    (kk : ∀ r B', Q' r B' → B'.length = B.length ∧ J K n0 Q (pc + 3) L ((r.map (jg (jr is))).toList ++ rest) (jput A is (B'.map (jrE (jr is)))) cells slots) : J K n0 Q pc L st A cells slots := by
  subst hn1
  intro l p e s m args below meth c dC dI cy A0 ad0 ad H locs ls hX
  simp only [jroom, Bool.and_eq_true, decide_eq_true_eq] at hnum
  obtain ⟨⟨⟨⟨⟨hl, hnd⟩, hcat⟩, hrc, hrs, hrf, hrl⟩, hce⟩, hsl⟩ := hnum
  obtain ⟨hlk, hinst, hsel, hpar, hci⟩ := hc
  have hts := hX.1.2.2.2.2.2.1
  have hpre := jpre (as := .ref o :: as) hX hB hl hnd
  have hM := J.met hm hJ hL hl0 l dC dI cy (fun k => ad (jr is k)) H.size
  rw [hrc, hrs] at hM
  have hstk : (F0 m pc ls (st.map (jg ad))).stack = (as.map (jg (fun k => ad (jr is k)))).reverse ++ .ref (ad (jr is o)) :: rest.map (jg ad) := by
    show st.map (jg ad) = _
    rw [hst, List.map_append, List.map_reverse, List.map_map, List.map_cons]
    congr 2
    apply List.map_congr_left
    intro v _
    exact (jg_comp ad (jr is) v).symm
  have hcat2 : ((rest.map (jg ad)).map fun v => v.category).sum ≤ 8 := by
    rw [List.map_map]
    have : ((fun v => Value.category v) ∘ jg ad) = fun v => v.category := funext fun v => jg_cat ad v
    rw [this]
    exact hcat
  obtain ⟨q, hq1, hq2⟩ : ∃ q, jCl[ci]? = some q ∧ q.1 = K'.2.2.2.1.cls := by
    simpa [Option.map_eq_some_iff] using hci
  have hrec := va_recv hX.1.2.2.2.2.2.2.2.2.1.2.1 hX.2.2.2.1 hq1 (jgW_get ho)
  rw [hq2] at hrec
  refine jback (a := (.ref (ad (jr is o)) :: as.map (jg (fun k => ad (jr is k)))).toArray) hX hB hl hnd ?_ kk
  rcases hlk with hlk | ⟨host, hlk⟩
  · exact va_runV (own := K.1) (C := K'.2.2.2.1.cls) (bytes := K'.2.1) (maxL := K'.2.2.1) (ret := K'.2.2.2.2.1) (n := as.length) ⟨hX.1.1, hX.1.2.1, hX.1.2.2.2.1, hX.1.2.2.2.2.1, hts⟩ hM ⟨callB_of as.length hts (jgood hm) rfl hrc hrs (hts _ hm.2.2.2.1) (hts _ hlk) ⟨hm.2.2.2.2.1, hm.2.2.2.2.2, hpar⟩ ⟨hrf, hrl⟩, hts _ hinst, hts _ hsel⟩ ⟨hpre.1, hrec, hpre.2⟩ rfl (by simp) hX.2.2.2.2.2.2.1 hstk (lv_room hcat2) d ⟨hce, hsl⟩
  · exact va_runVN (own := K.1) (C := K'.2.2.2.1.cls) (bytes := K'.2.1) (maxL := K'.2.2.1) (ret := K'.2.2.2.2.1) (n := as.length) ⟨hX.1.1, hX.1.2.1, hX.1.2.2.2.1, hX.1.2.2.2.2.1, hts⟩ hM ⟨va_cnB as.length hts (jgood hm) rfl hrc hrs (hX.1.2.2.2.2.2.2.2.2.1.1 _ hlk) (hts _ hm.2.2.2.1) ⟨hm.2.2.2.2.1, hm.2.2.2.2.2, hpar⟩ ⟨hrf, hrl⟩, hts _ hinst, hts _ hsel⟩ ⟨hpre.1, hrec, hpre.2⟩ rfl (by simp) hX.2.2.2.2.2.2.1 hstk (lv_room hcat2) d ⟨hce, hsl⟩
end JC
end
