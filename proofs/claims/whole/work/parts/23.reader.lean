theorem dX1_readHair_0 : decode cX1_readHair 0 = .ok (.aload_n 0, 1) := by decide +kernel
theorem dX1_readHair_1 : decode cX1_readHair 1 = .ok (.getfield 21, 3) := by decide +kernel
theorem dX1_readHair_4 : decode cX1_readHair 4 = .ok (.getfield 55, 3) := by decide +kernel
theorem dX1_readHair_7 : decode cX1_readHair 7 = .ok (.iconst 3, 1) := by decide +kernel
theorem dX1_readHair_8 : decode cX1_readHair 8 = .ok (.if_icmp .lt 13, 3) := by decide +kernel
theorem dX1_readHair_11 : decode cX1_readHair 11 = .ok (.aload_n 0, 1) := by decide +kernel
theorem dX1_readHair_12 : decode cX1_readHair 12 = .ok (.iconst 5, 1) := by decide +kernel
theorem dX1_readHair_13 : decode cX1_readHair 13 = .ok (.aload_n 0, 1) := by decide +kernel
theorem dX1_readHair_14 : decode cX1_readHair 14 = .ok (.getfield 107, 3) := by decide +kernel
theorem dX1_readHair_17 : decode cX1_readHair 17 = .ok (.invokevirtual 61, 3) := by decide +kernel
theorem dX1_readHair_20 : decode cX1_readHair 20 = .ok (.ireturn, 1) := by decide +kernel
theorem dX1_readHair_21 : decode cX1_readHair 21 = .ok (.aload_n 0, 1) := by decide +kernel
theorem dX1_readHair_22 : decode cX1_readHair 22 = .ok (.invokevirtual 45, 3) := by decide +kernel
theorem dX1_readHair_25 : decode cX1_readHair 25 = .ok (.ifCond .ne 5, 3) := by decide +kernel
theorem dX1_readHair_28 : decode cX1_readHair 28 = .ok (.iconst 0, 1) := by decide +kernel
theorem dX1_readHair_29 : decode cX1_readHair 29 = .ok (.ireturn, 1) := by decide +kernel
theorem dX1_readHair_30 : decode cX1_readHair 30 = .ok (.aload_n 0, 1) := by decide +kernel
theorem dX1_readHair_31 : decode cX1_readHair 31 = .ok (.invokevirtual 110, 3) := by decide +kernel
theorem dX1_readHair_34 : decode cX1_readHair 34 = .ok (.istore_n 1, 1) := by decide +kernel
theorem dX1_readHair_35 : decode cX1_readHair 35 = .ok (.iload_n 1, 1) := by decide +kernel
theorem dX1_readHair_36 : decode cX1_readHair 36 = .ok (.ifCond .ge 13, 3) := by decide +kernel
theorem dX1_readHair_39 : decode cX1_readHair 39 = .ok (.aload_n 0, 1) := by decide +kernel
theorem dX1_readHair_40 : decode cX1_readHair 40 = .ok (.iconst 2, 1) := by decide +kernel
theorem dX1_readHair_41 : decode cX1_readHair 41 = .ok (.aload_n 0, 1) := by decide +kernel
theorem dX1_readHair_42 : decode cX1_readHair 42 = .ok (.getfield 107, 3) := by decide +kernel
theorem dX1_readHair_45 : decode cX1_readHair 45 = .ok (.invokevirtual 61, 3) := by decide +kernel
theorem dX1_readHair_48 : decode cX1_readHair 48 = .ok (.ireturn, 1) := by decide +kernel
theorem dX1_readHair_49 : decode cX1_readHair 49 = .ok (.aload_n 0, 1) := by decide +kernel
theorem dX1_readHair_50 : decode cX1_readHair 50 = .ok (.iconst 0, 1) := by decide +kernel
theorem dX1_readHair_51 : decode cX1_readHair 51 = .ok (.bipush 9, 2) := by decide +kernel
theorem dX1_readHair_53 : decode cX1_readHair 53 = .ok (.invokevirtual 114, 3) := by decide +kernel
theorem dX1_readHair_56 : decode cX1_readHair 56 = .ok (.ifCond .eq 22, 3) := by decide +kernel
theorem dX1_readHair_59 : decode cX1_readHair 59 = .ok (.aload_n 0, 1) := by decide +kernel
theorem dX1_readHair_60 : decode cX1_readHair 60 = .ok (.getfield 21, 3) := by decide +kernel
theorem dX1_readHair_63 : decode cX1_readHair 63 = .ok (.iload_n 1, 1) := by decide +kernel
theorem dX1_readHair_64 : decode cX1_readHair 64 = .ok (.aload_n 0, 1) := by decide +kernel
theorem dX1_readHair_65 : decode cX1_readHair 65 = .ok (.getfield 117, 3) := by decide +kernel
theorem dX1_readHair_68 : decode cX1_readHair 68 = .ok (.invokevirtual 120, 3) := by decide +kernel
theorem dX1_readHair_71 : decode cX1_readHair 71 = .ok (.ifCond .eq 7, 3) := by decide +kernel
theorem dX1_readHair_74 : decode cX1_readHair 74 = .ok (.iconst 1, 1) := by decide +kernel
theorem dX1_readHair_75 : decode cX1_readHair 75 = .ok (.goto 4, 3) := by decide +kernel
theorem dX1_readHair_78 : decode cX1_readHair 78 = .ok (.iconst 0, 1) := by decide +kernel
theorem dX1_readHair_79 : decode cX1_readHair 79 = .ok (.ireturn, 1) := by decide +kernel
theorem dX1_readKing_0 : decode cX1_readKing 0 = .ok (.aload_n 0, 1) := by decide +kernel
theorem dX1_readKing_1 : decode cX1_readKing 1 = .ok (.getfield 21, 3) := by decide +kernel
theorem dX1_readKing_4 : decode cX1_readKing 4 = .ok (.getfield 123, 3) := by decide +kernel
theorem dX1_readKing_7 : decode cX1_readKing 7 = .ok (.iconst 4, 1) := by decide +kernel
theorem dX1_readKing_8 : decode cX1_readKing 8 = .ok (.if_icmp .lt 13, 3) := by decide +kernel
theorem dX1_readKing_11 : decode cX1_readKing 11 = .ok (.aload_n 0, 1) := by decide +kernel
theorem dX1_readKing_12 : decode cX1_readKing 12 = .ok (.iconst 5, 1) := by decide +kernel
theorem dX1_readKing_13 : decode cX1_readKing 13 = .ok (.aload_n 0, 1) := by decide +kernel
theorem dX1_readKing_14 : decode cX1_readKing 14 = .ok (.getfield 107, 3) := by decide +kernel
theorem dX1_readKing_17 : decode cX1_readKing 17 = .ok (.invokevirtual 61, 3) := by decide +kernel
theorem dX1_readKing_20 : decode cX1_readKing 20 = .ok (.ireturn, 1) := by decide +kernel
theorem dX1_readKing_21 : decode cX1_readKing 21 = .ok (.aload_n 0, 1) := by decide +kernel
theorem dX1_readKing_22 : decode cX1_readKing 22 = .ok (.iconst 0, 1) := by decide +kernel
theorem dX1_readKing_23 : decode cX1_readKing 23 = .ok (.bipush 9, 2) := by decide +kernel
theorem dX1_readKing_25 : decode cX1_readKing 25 = .ok (.invokevirtual 114, 3) := by decide +kernel
theorem dX1_readKing_28 : decode cX1_readKing 28 = .ok (.ifCond .ne 5, 3) := by decide +kernel
theorem dX1_readKing_31 : decode cX1_readKing 31 = .ok (.iconst 0, 1) := by decide +kernel
theorem dX1_readKing_32 : decode cX1_readKing 32 = .ok (.ireturn, 1) := by decide +kernel
theorem dX1_readKing_33 : decode cX1_readKing 33 = .ok (.aload_n 0, 1) := by decide +kernel
theorem dX1_readKing_34 : decode cX1_readKing 34 = .ok (.getfield 117, 3) := by decide +kernel
theorem dX1_readKing_37 : decode cX1_readKing 37 = .ok (.istore_n 1, 1) := by decide +kernel
theorem dX1_readKing_38 : decode cX1_readKing 38 = .ok (.aload_n 0, 1) := by decide +kernel
theorem dX1_readKing_39 : decode cX1_readKing 39 = .ok (.iconst 0, 1) := by decide +kernel
theorem dX1_readKing_40 : decode cX1_readKing 40 = .ok (.bipush 99, 2) := by decide +kernel
theorem dX1_readKing_42 : decode cX1_readKing 42 = .ok (.invokevirtual 114, 3) := by decide +kernel
theorem dX1_readKing_45 : decode cX1_readKing 45 = .ok (.ifCond .eq 22, 3) := by decide +kernel
theorem dX1_readKing_48 : decode cX1_readKing 48 = .ok (.aload_n 0, 1) := by decide +kernel
theorem dX1_readKing_49 : decode cX1_readKing 49 = .ok (.getfield 21, 3) := by decide +kernel
theorem dX1_readKing_52 : decode cX1_readKing 52 = .ok (.iload_n 1, 1) := by decide +kernel
theorem dX1_readKing_53 : decode cX1_readKing 53 = .ok (.aload_n 0, 1) := by decide +kernel
theorem dX1_readKing_54 : decode cX1_readKing 54 = .ok (.getfield 117, 3) := by decide +kernel
theorem dX1_readKing_57 : decode cX1_readKing 57 = .ok (.invokevirtual 126, 3) := by decide +kernel
theorem dX1_readKing_60 : decode cX1_readKing 60 = .ok (.ifCond .eq 7, 3) := by decide +kernel
theorem dX1_readKing_63 : decode cX1_readKing 63 = .ok (.iconst 1, 1) := by decide +kernel
theorem dX1_readKing_64 : decode cX1_readKing 64 = .ok (.goto 4, 3) := by decide +kernel
theorem dX1_readKing_67 : decode cX1_readKing 67 = .ok (.iconst 0, 1) := by decide +kernel
theorem dX1_readKing_68 : decode cX1_readKing 68 = .ok (.ireturn, 1) := by decide +kernel
theorem dX1_readLaw_0 : decode cX1_readLaw 0 = .ok (.aload_n 0, 1) := by decide +kernel
theorem dX1_readLaw_1 : decode cX1_readLaw 1 = .ok (.getfield 21, 3) := by decide +kernel
theorem dX1_readLaw_4 : decode cX1_readLaw 4 = .ok (.getfield 129, 3) := by decide +kernel
theorem dX1_readLaw_7 : decode cX1_readLaw 7 = .ok (.iconst 3, 1) := by decide +kernel
theorem dX1_readLaw_8 : decode cX1_readLaw 8 = .ok (.if_icmp .lt 13, 3) := by decide +kernel
theorem dX1_readLaw_11 : decode cX1_readLaw 11 = .ok (.aload_n 0, 1) := by decide +kernel
theorem dX1_readLaw_12 : decode cX1_readLaw 12 = .ok (.iconst 5, 1) := by decide +kernel
theorem dX1_readLaw_13 : decode cX1_readLaw 13 = .ok (.aload_n 0, 1) := by decide +kernel
theorem dX1_readLaw_14 : decode cX1_readLaw 14 = .ok (.getfield 107, 3) := by decide +kernel
theorem dX1_readLaw_17 : decode cX1_readLaw 17 = .ok (.invokevirtual 61, 3) := by decide +kernel
theorem dX1_readLaw_20 : decode cX1_readLaw 20 = .ok (.ireturn, 1) := by decide +kernel
theorem dX1_readLaw_21 : decode cX1_readLaw 21 = .ok (.aload_n 0, 1) := by decide +kernel
theorem dX1_readLaw_22 : decode cX1_readLaw 22 = .ok (.iconst 1, 1) := by decide +kernel
theorem dX1_readLaw_23 : decode cX1_readLaw 23 = .ok (.iconst 5, 1) := by decide +kernel
theorem dX1_readLaw_24 : decode cX1_readLaw 24 = .ok (.invokevirtual 114, 3) := by decide +kernel
theorem dX1_readLaw_27 : decode cX1_readLaw 27 = .ok (.ifCond .ne 5, 3) := by decide +kernel
theorem dX1_readLaw_30 : decode cX1_readLaw 30 = .ok (.iconst 0, 1) := by decide +kernel
theorem dX1_readLaw_31 : decode cX1_readLaw 31 = .ok (.ireturn, 1) := by decide +kernel
theorem dX1_readLaw_32 : decode cX1_readLaw 32 = .ok (.aload_n 0, 1) := by decide +kernel
theorem dX1_readLaw_33 : decode cX1_readLaw 33 = .ok (.getfield 117, 3) := by decide +kernel
theorem dX1_readLaw_36 : decode cX1_readLaw 36 = .ok (.istore_n 1, 1) := by decide +kernel
theorem dX1_readLaw_37 : decode cX1_readLaw 37 = .ok (.aload_n 0, 1) := by decide +kernel
theorem dX1_readLaw_38 : decode cX1_readLaw 38 = .ok (.iconst 0, 1) := by decide +kernel
theorem dX1_readLaw_39 : decode cX1_readLaw 39 = .ok (.bipush 9, 2) := by decide +kernel
theorem dX1_readLaw_41 : decode cX1_readLaw 41 = .ok (.invokevirtual 114, 3) := by decide +kernel
theorem dX1_readLaw_44 : decode cX1_readLaw 44 = .ok (.ifCond .eq 22, 3) := by decide +kernel
theorem dX1_readLaw_47 : decode cX1_readLaw 47 = .ok (.aload_n 0, 1) := by decide +kernel
theorem dX1_readLaw_48 : decode cX1_readLaw 48 = .ok (.getfield 21, 3) := by decide +kernel
theorem dX1_readLaw_51 : decode cX1_readLaw 51 = .ok (.iload_n 1, 1) := by decide +kernel
theorem dX1_readLaw_52 : decode cX1_readLaw 52 = .ok (.aload_n 0, 1) := by decide +kernel
theorem dX1_readLaw_53 : decode cX1_readLaw 53 = .ok (.getfield 117, 3) := by decide +kernel
theorem dX1_readLaw_56 : decode cX1_readLaw 56 = .ok (.invokevirtual 132, 3) := by decide +kernel
theorem dX1_readLaw_59 : decode cX1_readLaw 59 = .ok (.ifCond .eq 7, 3) := by decide +kernel
theorem dX1_readLaw_62 : decode cX1_readLaw 62 = .ok (.iconst 1, 1) := by decide +kernel
theorem dX1_readLaw_63 : decode cX1_readLaw 63 = .ok (.goto 4, 3) := by decide +kernel
theorem dX1_readLaw_66 : decode cX1_readLaw 66 = .ok (.iconst 0, 1) := by decide +kernel
theorem dX1_readLaw_67 : decode cX1_readLaw 67 = .ok (.ireturn, 1) := by decide +kernel
theorem dX1_readLoad_0 : decode cX1_readLoad 0 = .ok (.aload_n 0, 1) := by decide +kernel
theorem dX1_readLoad_1 : decode cX1_readLoad 1 = .ok (.getfield 38, 3) := by decide +kernel
theorem dX1_readLoad_4 : decode cX1_readLoad 4 = .ok (.ifCond .eq 13, 3) := by decide +kernel
theorem dX1_readLoad_7 : decode cX1_readLoad 7 = .ok (.aload_n 0, 1) := by decide +kernel
theorem dX1_readLoad_8 : decode cX1_readLoad 8 = .ok (.iconst 4, 1) := by decide +kernel
theorem dX1_readLoad_9 : decode cX1_readLoad 9 = .ok (.aload_n 0, 1) := by decide +kernel
theorem dX1_readLoad_10 : decode cX1_readLoad 10 = .ok (.getfield 107, 3) := by decide +kernel
theorem dX1_readLoad_13 : decode cX1_readLoad 13 = .ok (.invokevirtual 61, 3) := by decide +kernel
theorem dX1_readLoad_16 : decode cX1_readLoad 16 = .ok (.ireturn, 1) := by decide +kernel
theorem dX1_readLoad_17 : decode cX1_readLoad 17 = .ok (.aload_n 0, 1) := by decide +kernel
theorem dX1_readLoad_18 : decode cX1_readLoad 18 = .ok (.iconst 1, 1) := by decide +kernel
theorem dX1_readLoad_19 : decode cX1_readLoad 19 = .ok (.putfield 38, 3) := by decide +kernel
theorem dX1_readLoad_22 : decode cX1_readLoad 22 = .ok (.aload_n 0, 1) := by decide +kernel
theorem dX1_readLoad_23 : decode cX1_readLoad 23 = .ok (.iconst 1, 1) := by decide +kernel
theorem dX1_readLoad_24 : decode cX1_readLoad 24 = .ok (.bipush 9, 2) := by decide +kernel
theorem dX1_readLoad_26 : decode cX1_readLoad 26 = .ok (.invokevirtual 114, 3) := by decide +kernel
theorem dX1_readLoad_29 : decode cX1_readLoad 29 = .ok (.ifCond .ne 5, 3) := by decide +kernel
theorem dX1_readLoad_32 : decode cX1_readLoad 32 = .ok (.iconst 0, 1) := by decide +kernel
theorem dX1_readLoad_33 : decode cX1_readLoad 33 = .ok (.ireturn, 1) := by decide +kernel
theorem dX1_readLoad_34 : decode cX1_readLoad 34 = .ok (.aload_n 0, 1) := by decide +kernel
theorem dX1_readLoad_35 : decode cX1_readLoad 35 = .ok (.getfield 21, 3) := by decide +kernel
theorem dX1_readLoad_38 : decode cX1_readLoad 38 = .ok (.aload_n 0, 1) := by decide +kernel
theorem dX1_readLoad_39 : decode cX1_readLoad 39 = .ok (.getfield 117, 3) := by decide +kernel
theorem dX1_readLoad_42 : decode cX1_readLoad 42 = .ok (.putfield 135, 3) := by decide +kernel
theorem dX1_readLoad_45 : decode cX1_readLoad 45 = .ok (.iconst 1, 1) := by decide +kernel
theorem dX1_readLoad_46 : decode cX1_readLoad 46 = .ok (.ireturn, 1) := by decide +kernel
theorem dX1_readPrize_0 : decode cX1_readPrize 0 = .ok (.aload_n 0, 1) := by decide +kernel
theorem dX1_readPrize_1 : decode cX1_readPrize 1 = .ok (.getfield 42, 3) := by decide +kernel
theorem dX1_readPrize_4 : decode cX1_readPrize 4 = .ok (.ifCond .eq 13, 3) := by decide +kernel
theorem dX1_readPrize_7 : decode cX1_readPrize 7 = .ok (.aload_n 0, 1) := by decide +kernel
theorem dX1_readPrize_8 : decode cX1_readPrize 8 = .ok (.iconst 4, 1) := by decide +kernel
theorem dX1_readPrize_9 : decode cX1_readPrize 9 = .ok (.aload_n 0, 1) := by decide +kernel
theorem dX1_readPrize_10 : decode cX1_readPrize 10 = .ok (.getfield 107, 3) := by decide +kernel
theorem dX1_readPrize_13 : decode cX1_readPrize 13 = .ok (.invokevirtual 61, 3) := by decide +kernel
theorem dX1_readPrize_16 : decode cX1_readPrize 16 = .ok (.ireturn, 1) := by decide +kernel
theorem dX1_readPrize_17 : decode cX1_readPrize 17 = .ok (.aload_n 0, 1) := by decide +kernel
theorem dX1_readPrize_18 : decode cX1_readPrize 18 = .ok (.iconst 1, 1) := by decide +kernel
theorem dX1_readPrize_19 : decode cX1_readPrize 19 = .ok (.putfield 42, 3) := by decide +kernel
theorem dX1_readPrize_22 : decode cX1_readPrize 22 = .ok (.aload_n 0, 1) := by decide +kernel
theorem dX1_readPrize_23 : decode cX1_readPrize 23 = .ok (.iconst 0, 1) := by decide +kernel
theorem dX1_readPrize_24 : decode cX1_readPrize 24 = .ok (.bipush 99, 2) := by decide +kernel
theorem dX1_readPrize_26 : decode cX1_readPrize 26 = .ok (.invokevirtual 114, 3) := by decide +kernel
theorem dX1_readPrize_29 : decode cX1_readPrize 29 = .ok (.ifCond .ne 5, 3) := by decide +kernel
theorem dX1_readPrize_32 : decode cX1_readPrize 32 = .ok (.iconst 0, 1) := by decide +kernel
theorem dX1_readPrize_33 : decode cX1_readPrize 33 = .ok (.ireturn, 1) := by decide +kernel
theorem dX1_readPrize_34 : decode cX1_readPrize 34 = .ok (.aload_n 0, 1) := by decide +kernel
theorem dX1_readPrize_35 : decode cX1_readPrize 35 = .ok (.getfield 21, 3) := by decide +kernel
theorem dX1_readPrize_38 : decode cX1_readPrize 38 = .ok (.aload_n 0, 1) := by decide +kernel
theorem dX1_readPrize_39 : decode cX1_readPrize 39 = .ok (.getfield 117, 3) := by decide +kernel
theorem dX1_readPrize_42 : decode cX1_readPrize 42 = .ok (.putfield 137, 3) := by decide +kernel
theorem dX1_readPrize_45 : decode cX1_readPrize 45 = .ok (.iconst 1, 1) := by decide +kernel
theorem dX1_readPrize_46 : decode cX1_readPrize 46 = .ok (.ireturn, 1) := by decide +kernel
theorem dX1_readBroken_0 : decode cX1_readBroken 0 = .ok (.aload_n 0, 1) := by decide +kernel
theorem dX1_readBroken_1 : decode cX1_readBroken 1 = .ok (.iconst 0, 1) := by decide +kernel
theorem dX1_readBroken_2 : decode cX1_readBroken 2 = .ok (.iconst 2, 1) := by decide +kernel
theorem dX1_readBroken_3 : decode cX1_readBroken 3 = .ok (.invokevirtual 114, 3) := by decide +kernel
theorem dX1_readBroken_6 : decode cX1_readBroken 6 = .ok (.ifCond .ne 5, 3) := by decide +kernel
theorem dX1_readBroken_9 : decode cX1_readBroken 9 = .ok (.iconst 0, 1) := by decide +kernel
theorem dX1_readBroken_10 : decode cX1_readBroken 10 = .ok (.ireturn, 1) := by decide +kernel
theorem dX1_readBroken_11 : decode cX1_readBroken 11 = .ok (.aload_n 0, 1) := by decide +kernel
theorem dX1_readBroken_12 : decode cX1_readBroken 12 = .ok (.getfield 35, 3) := by decide +kernel
theorem dX1_readBroken_15 : decode cX1_readBroken 15 = .ok (.aload_n 0, 1) := by decide +kernel
theorem dX1_readBroken_16 : decode cX1_readBroken 16 = .ok (.getfield 117, 3) := by decide +kernel
theorem dX1_readBroken_19 : decode cX1_readBroken 19 = .ok (.ishr, 1) := by decide +kernel
theorem dX1_readBroken_20 : decode cX1_readBroken 20 = .ok (.iconst 1, 1) := by decide +kernel
theorem dX1_readBroken_21 : decode cX1_readBroken 21 = .ok (.iand, 1) := by decide +kernel
theorem dX1_readBroken_22 : decode cX1_readBroken 22 = .ok (.iconst 1, 1) := by decide +kernel
theorem dX1_readBroken_23 : decode cX1_readBroken 23 = .ok (.if_icmp .ne 13, 3) := by decide +kernel
theorem dX1_readBroken_26 : decode cX1_readBroken 26 = .ok (.aload_n 0, 1) := by decide +kernel
theorem dX1_readBroken_27 : decode cX1_readBroken 27 = .ok (.iconst 4, 1) := by decide +kernel
theorem dX1_readBroken_28 : decode cX1_readBroken 28 = .ok (.aload_n 0, 1) := by decide +kernel
theorem dX1_readBroken_29 : decode cX1_readBroken 29 = .ok (.getfield 107, 3) := by decide +kernel
theorem dX1_readBroken_32 : decode cX1_readBroken 32 = .ok (.invokevirtual 61, 3) := by decide +kernel
theorem dX1_readBroken_35 : decode cX1_readBroken 35 = .ok (.ireturn, 1) := by decide +kernel
theorem dX1_readBroken_36 : decode cX1_readBroken 36 = .ok (.aload_n 0, 1) := by decide +kernel
theorem dX1_readBroken_37 : decode cX1_readBroken 37 = .ok (.dup, 1) := by decide +kernel
theorem dX1_readBroken_38 : decode cX1_readBroken 38 = .ok (.getfield 35, 3) := by decide +kernel
theorem dX1_readBroken_41 : decode cX1_readBroken 41 = .ok (.iconst 1, 1) := by decide +kernel
theorem dX1_readBroken_42 : decode cX1_readBroken 42 = .ok (.aload_n 0, 1) := by decide +kernel
theorem dX1_readBroken_43 : decode cX1_readBroken 43 = .ok (.getfield 117, 3) := by decide +kernel
theorem dX1_readBroken_46 : decode cX1_readBroken 46 = .ok (.ishl, 1) := by decide +kernel
theorem dX1_readBroken_47 : decode cX1_readBroken 47 = .ok (.ior, 1) := by decide +kernel
theorem dX1_readBroken_48 : decode cX1_readBroken 48 = .ok (.putfield 35, 3) := by decide +kernel
theorem dX1_readBroken_51 : decode cX1_readBroken 51 = .ok (.iconst 1, 1) := by decide +kernel
theorem dX1_readBroken_52 : decode cX1_readBroken 52 = .ok (.ireturn, 1) := by decide +kernel
/-! what the lines' readers leave: of y and of the draft -/
abbrev pT : Type := (Nat → Nat) × rT
def kd (b y : Nat → Nat) : Nat := if spl b y 1 then 0 else if spl b y 2 then 1 else if spl b y 3 then 2 else if spl b y 4 then 3 else if spl b y 5 then 4 else 5
theorem kd_le (b y : Nat → Nat) : kd b y ≤ 5 := by
  unfold kd
  repeat' split
  all_goals decide
def kdI (b y : Nat → Nat) : Int32 := if kd b y = 5 then -1 else nI (kd b y)
def rdHa (b : Nat → Nat) (len : Nat) (y : Nat → Nat) (d : rT) : Bool × pT :=
  if d 6 0 < 3 then
    (if ntoB b len (y 2) = true then
      (if kd b (yN b len y) = 5 then (false, (yF (yN b len y) 2 (yN b len y 1), d))
       else if (rdN b len 0 9 (yN b len y)).1 = true then (true, ((rdN b len 0 9 (yN b len y)).2, raddH d (kd b (yN b len y)) ((rdN b len 0 9 (yN b len y)).2 3)))
       else (false, ((rdN b len 0 9 (yN b len y)).2, d)))
     else (false, (yN b len y, d)))
  else (false, (yF y 5 (y 1), d))
def rdTwo (b : Nat → Nat) (len lo1 hi1 lo2 hi2 : Nat) (f : rT → Nat → Nat → rT) (y : Nat → Nat) (d : rT) : Bool × pT :=
  if (rdN b len lo1 hi1 y).1 = true then
    (if (rdN b len lo2 hi2 (rdN b len lo1 hi1 y).2).1 = true then (true, ((rdN b len lo2 hi2 (rdN b len lo1 hi1 y).2).2, f d ((rdN b len lo1 hi1 y).2 3) ((rdN b len lo2 hi2 (rdN b len lo1 hi1 y).2).2 3)))
     else (false, ((rdN b len lo2 hi2 (rdN b len lo1 hi1 y).2).2, d)))
  else (false, ((rdN b len lo1 hi1 y).2, d))
def rdKi (b : Nat → Nat) (len : Nat) (y : Nat → Nat) (d : rT) : Bool × pT := if d 6 1 < 4 then rdTwo b len 0 9 0 99 raddK y d else (false, (yF y 5 (y 1), d))
def rdLa (b : Nat → Nat) (len : Nat) (y : Nat → Nat) (d : rT) : Bool × pT := if d 6 2 < 3 then rdTwo b len 1 5 0 9 raddL y d else (false, (yF y 5 (y 1), d))
def rdOnce (b : Nat → Nat) (len i lo hi j : Nat) (y : Nat → Nat) (d : rT) : Bool × pT :=
  if y i = 0 then
    (if (rdN b len lo hi (yset y i 1)).1 = true then (true, ((rdN b len lo hi (yset y i 1)).2, rset d 6 j ((rdN b len lo hi (yset y i 1)).2 3)))
     else (false, ((rdN b len lo hi (yset y i 1)).2, d)))
  else (false, (yF y 4 (y 1), d))
def rdBr (b : Nat → Nat) (len : Nat) (y : Nat → Nat) (d : rT) : Bool × pT :=
  if (rdN b len 0 2 y).1 = true then
    (if bit ((rdN b len 0 2 y).2 4) ((rdN b len 0 2 y).2 3) = 1 then (false, (yF (rdN b len 0 2 y).2 4 ((rdN b len 0 2 y).2 1), d))
     else (true, (yset (rdN b len 0 2 y).2 4 ((rdN b len 0 2 y).2 4 ||| 2 ^ (rdN b len 0 2 y).2 3), d)))
  else (false, ((rdN b len 0 2 y).2, d))
theorem rdN_2 {b : Nat → Nat} {len lo hi : Nat} {y : Nat → Nat} : (rdN b len lo hi y).2 2 = yN b len y 2 := by
  unfold rdN
  repeat' split
  all_goals rfl
theorem rdN_1 {b : Nat → Nat} {len lo hi : Nat} {y : Nat → Nat} : (rdN b len lo hi y).2 1 = yN b len y 1 := by
  unfold rdN
  repeat' split
  all_goals rfl
theorem rdN_4 {b : Nat → Nat} {len lo hi : Nat} {y : Nat → Nat} : (rdN b len lo hi y).2 4 = y 4 := by
  unfold rdN
  repeat' split
  all_goals rfl
theorem rdN_5 {b : Nat → Nat} {len lo hi : Nat} {y : Nat → Nat} : (rdN b len lo hi y).2 5 = y 5 := by
  unfold rdN
  repeat' split
  all_goals rfl
theorem rdN_6 {b : Nat → Nat} {len lo hi : Nat} {y : Nat → Nat} : (rdN b len lo hi y).2 6 = y 6 := by
  unfold rdN
  repeat' split
  all_goals rfl
theorem rdN_3 {b : Nat → Nat} {len lo hi : Nat} {y : Nat → Nat} (h : (rdN b len lo hi y).1 = true) : lo ≤ (rdN b len lo hi y).2 3 ∧ (rdN b len lo hi y).2 3 ≤ hi := by
  unfold rdN at h ⊢
  split at h
  · next h1 =>
    rw [if_pos h1]
    split at h
    · next h2 =>
      rw [if_pos h2]
      split at h
      · next h3 =>
        rw [if_pos h3]
        exact h3
      · cases h
    · cases h
  · cases h
theorem yN_le {b : Nat → Nat} {len : Nat} {y : Nat → Nat} (h : y 2 ≤ len) : yN b len y 2 ≤ len := (yN_2 h).2
theorem rdN_le {b : Nat → Nat} {len lo hi : Nat} {y : Nat → Nat} (h : y 2 ≤ len) : (rdN b len lo hi y).2 2 ≤ len := by rw [rdN_2]; exact yN_le h
set_option maxRecDepth 100000 in
set_option maxHeartbeats 4000000 in
theorem mX1_spelledKind (b : Nat → Nat) (len : Nat) (d : rT) (hb : ∀ j, b j < 128) (hl : len ≤ 160) (y : Nat → Nat) (hy : y 2 ≤ len) (hy1 : y 1 ≤ y 2) (h0 : y 0 < 100) : J KX1_spelledKind 10 (fun o B => o = some (.int (kdI b y)) ∧ B = wX b len d y) 0 [some (.ref 0)] [] (wX b len d y) 0 0 := by
  refine J.aload_n dX1_spelledKind_0 rfl rfl ?_
  refine J.ldcS (j := 1) dX1_spelledKind_1 rfl (by decide) rfl ?_
  refine J.cv (as := [.ref (1000 + 1)]) (is := [0, 1, 2, 3, 4, 5, 6, 7, 8, 9]) (o := 0) okX1_spells jcX1_73 (mX1_spells b len d hb hl y 1 (by decide) ⟨hy1, hy⟩ h0) dX1_spelledKind_3 rfl rfl rfl rfl rfl rfl rfl (fun r9 B9 hq => ?_)
  obtain ⟨rfl, rfl⟩ := hq
  refine ⟨rfl, ?_⟩
  show J _ _ _ _ _ (.int _ :: _) (wX b len d y) _ _
  refine J.if_eq (tgt := 11) dX1_spelledKind_6 (by decide) (fun c6 => ?_) (fun c6 => ?_)
  · refine J.aload_n dX1_spelledKind_11 rfl rfl ?_
    refine J.ldcS (j := 2) dX1_spelledKind_12 rfl (by decide) rfl ?_
    refine J.cv (as := [.ref (1000 + 2)]) (is := [0, 1, 2, 3, 4, 5, 6, 7, 8, 9]) (o := 0) okX1_spells jcX1_73 (mX1_spells b len d hb hl y 2 (by decide) ⟨hy1, hy⟩ h0) dX1_spelledKind_14 rfl rfl rfl rfl rfl rfl rfl (fun r9 B9 hq => ?_)
    obtain ⟨rfl, rfl⟩ := hq
    refine ⟨rfl, ?_⟩
    show J _ _ _ _ _ (.int _ :: _) (wX b len d y) _ _
    refine J.if_eq (tgt := 22) dX1_spelledKind_17 (by decide) (fun c17 => ?_) (fun c17 => ?_)
    · refine J.aload_n dX1_spelledKind_22 rfl rfl ?_
      refine J.ldcS (j := 3) dX1_spelledKind_23 rfl (by decide) rfl ?_
      refine J.cv (as := [.ref (1000 + 3)]) (is := [0, 1, 2, 3, 4, 5, 6, 7, 8, 9]) (o := 0) okX1_spells jcX1_73 (mX1_spells b len d hb hl y 3 (by decide) ⟨hy1, hy⟩ h0) dX1_spelledKind_25 rfl rfl rfl rfl rfl rfl rfl (fun r9 B9 hq => ?_)
      obtain ⟨rfl, rfl⟩ := hq
      refine ⟨rfl, ?_⟩
      show J _ _ _ _ _ (.int _ :: _) (wX b len d y) _ _
      refine J.if_eq (tgt := 33) dX1_spelledKind_28 (by decide) (fun c28 => ?_) (fun c28 => ?_)
      · refine J.aload_n dX1_spelledKind_33 rfl rfl ?_
        refine J.ldcS (j := 4) dX1_spelledKind_34 rfl (by decide) rfl ?_
        refine J.cv (as := [.ref (1000 + 4)]) (is := [0, 1, 2, 3, 4, 5, 6, 7, 8, 9]) (o := 0) okX1_spells jcX1_73 (mX1_spells b len d hb hl y 4 (by decide) ⟨hy1, hy⟩ h0) dX1_spelledKind_36 rfl rfl rfl rfl rfl rfl rfl (fun r9 B9 hq => ?_)
        obtain ⟨rfl, rfl⟩ := hq
        refine ⟨rfl, ?_⟩
        show J _ _ _ _ _ (.int _ :: _) (wX b len d y) _ _
        refine J.if_eq (tgt := 44) dX1_spelledKind_39 (by decide) (fun c39 => ?_) (fun c39 => ?_)
        · refine J.aload_n dX1_spelledKind_44 rfl rfl ?_
          refine J.ldcS (j := 5) dX1_spelledKind_45 rfl (by decide) rfl ?_
          refine J.cv (as := [.ref (1000 + 5)]) (is := [0, 1, 2, 3, 4, 5, 6, 7, 8, 9]) (o := 0) okX1_spells jcX1_73 (mX1_spells b len d hb hl y 5 (by decide) ⟨hy1, hy⟩ h0) dX1_spelledKind_47 rfl rfl rfl rfl rfl rfl rfl (fun r9 B9 hq => ?_)
          obtain ⟨rfl, rfl⟩ := hq
          refine ⟨rfl, ?_⟩
          show J _ _ _ _ _ (.int _ :: _) (wX b len d y) _ _
          refine J.if_eq (tgt := 57) dX1_spelledKind_50 (by decide) (fun c50 => ?_) (fun c50 => ?_)
          · refine J.iconst (-1) dX1_spelledKind_57 (by decide) ?_
            first | (refine J.iret dX1_spelledKind_58 rfl rfl (Nat.le_refl _) (Nat.le_refl _) ⟨congrArg (fun x => some (Value.int x)) ?_, rfl⟩; have e9 : kd b y = 4 := (by (unfold kd; rw [if_neg ((jB_0 _).mp c6), if_neg ((jB_0 _).mp c17), if_neg ((jB_0 _).mp c28), if_neg ((jB_0 _).mp c39), if_pos (Decidable.not_not.mp (fun h => c50 ((jB_0 _).mpr h)))])); rw [kdI, e9]; rfl) | (refine J.iret dX1_spelledKind_58 rfl rfl (Nat.le_refl _) (Nat.le_refl _) ⟨congrArg (fun x => some (Value.int x)) ?_, rfl⟩; have e9 : kd b y = 5 := (by (unfold kd; rw [if_neg ((jB_0 _).mp c6), if_neg ((jB_0 _).mp c17), if_neg ((jB_0 _).mp c28), if_neg ((jB_0 _).mp c39), if_neg ((jB_0 _).mp c50)])); rw [kdI, e9]; rfl)
          · refine J.iconst (4) dX1_spelledKind_53 (by decide) ?_
            refine J.goto (tgt := 58) dX1_spelledKind_54 (by decide) ?_
            first | (refine J.iret dX1_spelledKind_58 rfl rfl (Nat.le_refl _) (Nat.le_refl _) ⟨congrArg (fun x => some (Value.int x)) ?_, rfl⟩; have e9 : kd b y = 4 := (by (unfold kd; rw [if_neg ((jB_0 _).mp c6), if_neg ((jB_0 _).mp c17), if_neg ((jB_0 _).mp c28), if_neg ((jB_0 _).mp c39), if_pos (Decidable.not_not.mp (fun h => c50 ((jB_0 _).mpr h)))])); rw [kdI, e9]; rfl) | (refine J.iret dX1_spelledKind_58 rfl rfl (Nat.le_refl _) (Nat.le_refl _) ⟨congrArg (fun x => some (Value.int x)) ?_, rfl⟩; have e9 : kd b y = 5 := (by (unfold kd; rw [if_neg ((jB_0 _).mp c6), if_neg ((jB_0 _).mp c17), if_neg ((jB_0 _).mp c28), if_neg ((jB_0 _).mp c39), if_neg ((jB_0 _).mp c50)])); rw [kdI, e9]; rfl)
        · refine J.iconst (3) dX1_spelledKind_42 (by decide) ?_
          refine J.iret dX1_spelledKind_43 rfl rfl (Nat.le_refl _) (Nat.le_refl _) ⟨congrArg (fun x => some (Value.int x)) ?_, rfl⟩
          have e9 : kd b y = 3 := (by (unfold kd; rw [if_neg ((jB_0 _).mp c6), if_neg ((jB_0 _).mp c17), if_neg ((jB_0 _).mp c28), if_pos (Decidable.not_not.mp (fun h => c39 ((jB_0 _).mpr h)))]))
          rw [kdI, e9]
          rfl
      · refine J.iconst (2) dX1_spelledKind_31 (by decide) ?_
        refine J.iret dX1_spelledKind_32 rfl rfl (Nat.le_refl _) (Nat.le_refl _) ⟨congrArg (fun x => some (Value.int x)) ?_, rfl⟩
        have e9 : kd b y = 2 := (by (unfold kd; rw [if_neg ((jB_0 _).mp c6), if_neg ((jB_0 _).mp c17), if_pos (Decidable.not_not.mp (fun h => c28 ((jB_0 _).mpr h)))]))
        rw [kdI, e9]
        rfl
    · refine J.iconst (1) dX1_spelledKind_20 (by decide) ?_
      refine J.iret dX1_spelledKind_21 rfl rfl (Nat.le_refl _) (Nat.le_refl _) ⟨congrArg (fun x => some (Value.int x)) ?_, rfl⟩
      have e9 : kd b y = 1 := (by (unfold kd; rw [if_neg ((jB_0 _).mp c6), if_pos (Decidable.not_not.mp (fun h => c17 ((jB_0 _).mpr h)))]))
      rw [kdI, e9]
      rfl
  · refine J.iconst (0) dX1_spelledKind_9 (by decide) ?_
    refine J.iret dX1_spelledKind_10 rfl rfl (Nat.le_refl _) (Nat.le_refl _) ⟨congrArg (fun x => some (Value.int x)) ?_, rfl⟩
    have e9 : kd b y = 0 := (by (unfold kd; rw [if_pos (Decidable.not_not.mp (fun h => c6 ((jB_0 _).mpr h)))]))
    rw [kdI, e9]
    rfl
set_option maxRecDepth 100000 in
set_option maxHeartbeats 4000000 in
theorem mX1_readHair (b : Nat → Nat) (len : Nat) (d : rT) (hb : ∀ j, b j < 128) (hl : len ≤ 160) (y : Nat → Nat) (hy : y 2 ≤ len) (hd3 : d 6 0 ≤ 3) (hw : d 6 3 < 8) : J KX1_readHair 10 (fun o B => o = some (.int (jB ((rdHa b len y d).1 = true))) ∧ B = wX b len (rdHa b len y d).2.2 (rdHa b len y d).2.1) 0 [some (.ref 0), none] [] (wX b len d y) 0 0 := by
  refine J.aload_n dX1_readHair_0 rfl rfl ?_
  refine J.getfield dX1_readHair_1 jFX1_21 rfl rfl ?_
  refine J.getfield dX1_readHair_4 jFX1_55 rfl rfl ?_
  refine J.iconst (3) dX1_readHair_7 (by decide) ?_
  refine J.icmp_lt (tgt := 21) dX1_readHair_8 (by decide) (fun c8 => ?_) (fun c8 => ?_)
  · have hc9 : d 6 0 < 3 := (nI_lti (b := 3) (by omega) (by decide)).mp c8
    refine J.aload_n dX1_readHair_21 rfl rfl ?_
    refine J.cv (as := []) (is := [0, 1, 2, 3, 4, 5, 6, 7, 8, 9]) (o := 0) okX1_nextToken jcX1_45 (mX1_next b len d hb hl y hy) dX1_readHair_22 rfl rfl rfl rfl rfl rfl rfl (fun r9 B9 hq => ?_)
    obtain ⟨rfl, rfl⟩ := hq
    refine ⟨rfl, ?_⟩
    show J _ _ _ _ _ (.int _ :: _) (wX b len d (yN b len y)) _ _
    refine J.if_ne (tgt := 30) dX1_readHair_25 (by decide) (fun c25 => ?_) (fun c25 => ?_)
    · refine J.aload_n dX1_readHair_30 rfl rfl ?_
      refine J.cv (as := []) (is := [0, 1, 2, 3, 4, 5, 6, 7, 8, 9]) (o := 0) okX1_spelledKind jcX1_110 (mX1_spelledKind b len d hb hl (yN b len y) (yN_le hy) (yN_2 hy).1 (by have := yN_0 b len y; omega)) dX1_readHair_31 rfl rfl rfl rfl rfl rfl rfl (fun r9 B9 hq => ?_)
      obtain ⟨rfl, rfl⟩ := hq
      refine ⟨rfl, ?_⟩
      show J _ _ _ _ _ (.int _ :: _) (wX b len d (yN b len y)) _ _
      refine J.istore_n dX1_readHair_34 rfl (by decide) rfl ?_
      try dsimp only [List.set, wX]
      refine J.iload_n dX1_readHair_35 rfl rfl ?_
      refine J.if_ge (tgt := 49) dX1_readHair_36 (by decide) (fun c36 => ?_) (fun c36 => ?_)
      · have hk9 : ¬ kd b (yN b len y) = 5 := fun h => absurd c36 (by rw [show kdI b (yN b len y) = -1 from if_pos h]; decide)
        refine J.aload_n dX1_readHair_49 rfl rfl ?_
        refine J.iconst (0) dX1_readHair_50 (by decide) ?_
        refine J.bipush (9) dX1_readHair_51 (by decide) ?_
        refine J.cv (as := [.int (nI 0), .int (nI 9)]) (is := [0, 1, 2, 3, 4, 5, 6, 7, 8, 9]) (o := 0) okX1_readNumber jcX1_114 (mX1_readNumber b len d hb hl (yN b len y) (yN_le hy) 0 9 (by decide) (by decide)) dX1_readHair_53 rfl rfl rfl rfl rfl rfl rfl (fun r9 B9 hq => ?_)
        obtain ⟨rfl, rfl⟩ := hq
        refine ⟨rfl, ?_⟩
        show J _ _ _ _ _ (.int _ :: _) (wX b len d (rdN b len 0 9 (yN b len y)).2) _ _
        refine J.if_eq (tgt := 78) dX1_readHair_56 (by decide) (fun c56 => ?_) (fun c56 => ?_)
        · refine J.iconst (0) dX1_readHair_78 (by decide) ?_
          first | (have e9 : rdHa b len y d = (true, ((rdN b len 0 9 (yN b len y)).2, raddH d (kd b (yN b len y)) ((rdN b len 0 9 (yN b len y)).2 3))) := (by (unfold rdHa; rw [if_pos hc9, if_pos (Decidable.not_not.mp (fun h => c25 ((jB_0 _).mpr h))), if_neg hk9, if_pos (Decidable.not_not.mp (fun h => c56 ((jB_0 _).mpr h)))])); exact J.iret dX1_readHair_79 rfl (by decide) (Nat.le_refl _) (Nat.le_refl _) ⟨by rw [e9] <;> rfl, by rw [e9] <;> rfl⟩) | (have e9 : rdHa b len y d = (false, ((rdN b len 0 9 (yN b len y)).2, d)) := (by (unfold rdHa; rw [if_pos hc9, if_pos (Decidable.not_not.mp (fun h => c25 ((jB_0 _).mpr h))), if_neg hk9, if_neg ((jB_0 _).mp c56)])); exact J.iret dX1_readHair_79 rfl (by decide) (Nat.le_refl _) (Nat.le_refl _) ⟨by rw [e9] <;> rfl, by rw [e9] <;> rfl⟩)
        · refine J.aload_n dX1_readHair_59 rfl rfl ?_
          refine J.getfield dX1_readHair_60 jFX1_21 rfl rfl ?_
          refine J.iload_n dX1_readHair_63 rfl rfl ?_
          refine J.aload_n dX1_readHair_64 rfl rfl ?_
          refine J.getfield dX1_readHair_65 jFX1_117 rfl rfl ?_
          rw [show kdI b (yN b len y) = nI (kd b (yN b len y)) from if_neg hk9]
          refine J.cv (as := [.int _, .int _]) (is := [3, 4, 5, 6, 7, 8, 9]) (o := 0) okX2_addHair jcX1_120 (mX2_addHair d (kd b (yN b len y)) ((rdN b len 0 9 (yN b len y)).2 3) hc9 hw) dX1_readHair_68 rfl rfl rfl rfl rfl rfl rfl (fun r9 B9 hq => ?_)
          obtain ⟨rfl, rfl⟩ := hq
          refine ⟨rfl, ?_⟩
          show J _ _ _ _ _ (.int 1 :: _) (wX b len (raddH d (kd b (yN b len y)) ((rdN b len 0 9 (yN b len y)).2 3)) (rdN b len 0 9 (yN b len y)).2) _ _
          refine J.if_eq (tgt := 78) dX1_readHair_71 (by decide) (fun c71 => absurd c71 (by decide)) (fun c71 => ?_)
          refine J.iconst (1) dX1_readHair_74 (by decide) ?_
          refine J.goto (tgt := 79) dX1_readHair_75 (by decide) ?_
          first | (have e9 : rdHa b len y d = (true, ((rdN b len 0 9 (yN b len y)).2, raddH d (kd b (yN b len y)) ((rdN b len 0 9 (yN b len y)).2 3))) := (by (unfold rdHa; rw [if_pos hc9, if_pos (Decidable.not_not.mp (fun h => c25 ((jB_0 _).mpr h))), if_neg hk9, if_pos (Decidable.not_not.mp (fun h => c56 ((jB_0 _).mpr h)))])); exact J.iret dX1_readHair_79 rfl (by decide) (Nat.le_refl _) (Nat.le_refl _) ⟨by rw [e9] <;> rfl, by rw [e9] <;> rfl⟩) | (have e9 : rdHa b len y d = (false, ((rdN b len 0 9 (yN b len y)).2, d)) := (by (unfold rdHa; rw [if_pos hc9, if_pos (Decidable.not_not.mp (fun h => c25 ((jB_0 _).mpr h))), if_neg hk9, if_neg ((jB_0 _).mp c56)])); exact J.iret dX1_readHair_79 rfl (by decide) (Nat.le_refl _) (Nat.le_refl _) ⟨by rw [e9] <;> rfl, by rw [e9] <;> rfl⟩)
      · have hk8 : ¬ 0 ≤ kdI b (yN b len y) → kd b (yN b len y) = 5 := fun h => Decidable.not_not.mp (fun h9 => h (by rw [show kdI b (yN b len y) = nI (kd b (yN b len y)) from if_neg h9]; exact nI_pos' (show kd b (yN b len y) < 2 ^ 31 by have := kd_le b (yN b len y); omega)))
        refine J.aload_n dX1_readHair_39 rfl rfl ?_
        refine J.iconst (2) dX1_readHair_40 (by decide) ?_
        refine J.aload_n dX1_readHair_41 rfl rfl ?_
        refine J.getfield dX1_readHair_42 jFX1_107 rfl rfl ?_
        refine J.cv (as := [.int (nI 2), .int _]) (is := [0, 1, 2, 3, 4, 5, 6, 7, 8, 9]) (o := 0) okX1_fail jcX1_61 (mX1_fail b len d (yN b len y) 2 (yN b len y 1)) dX1_readHair_45 rfl rfl rfl rfl rfl rfl rfl (fun r9 B9 hq => ?_)
        obtain ⟨rfl, rfl⟩ := hq
        refine ⟨rfl, ?_⟩
        show J _ _ _ _ _ (.int 0 :: _) (wX b len d (yF (yN b len y) 2 (yN b len y 1))) _ _
        have e9 : rdHa b len y d = (false, (yF (yN b len y) 2 (yN b len y 1), d)) := (by (unfold rdHa; rw [if_pos hc9, if_pos (Decidable.not_not.mp (fun h => c25 ((jB_0 _).mpr h))), if_pos (hk8 c36)]))
        exact J.iret dX1_readHair_48 rfl (by decide) (Nat.le_refl _) (Nat.le_refl _) ⟨by rw [e9] <;> rfl, by rw [e9] <;> rfl⟩
    · refine J.iconst (0) dX1_readHair_28 (by decide) ?_
      have e9 : rdHa b len y d = (false, ((yN b len y), d)) := (by (unfold rdHa; rw [if_pos hc9, if_neg ((jB_0 _).mp c25)]))
      exact J.iret dX1_readHair_29 rfl (by decide) (Nat.le_refl _) (Nat.le_refl _) ⟨by rw [e9] <;> rfl, by rw [e9] <;> rfl⟩
  · refine J.aload_n dX1_readHair_11 rfl rfl ?_
    refine J.iconst (5) dX1_readHair_12 (by decide) ?_
    refine J.aload_n dX1_readHair_13 rfl rfl ?_
    refine J.getfield dX1_readHair_14 jFX1_107 rfl rfl ?_
    refine J.cv (as := [.int (nI 5), .int _]) (is := [0, 1, 2, 3, 4, 5, 6, 7, 8, 9]) (o := 0) okX1_fail jcX1_61 (mX1_fail b len d y 5 (y 1)) dX1_readHair_17 rfl rfl rfl rfl rfl rfl rfl (fun r9 B9 hq => ?_)
    obtain ⟨rfl, rfl⟩ := hq
    refine ⟨rfl, ?_⟩
    show J _ _ _ _ _ (.int 0 :: _) (wX b len d (yF y 5 (y 1))) _ _
    have e9 : rdHa b len y d = (false, (yF y 5 (y 1), d)) := (by (unfold rdHa; exact if_neg (fun h => c8 ((nI_lti (b := 3) (by omega) (by decide)).mpr h))))
    exact J.iret dX1_readHair_20 rfl (by decide) (Nat.le_refl _) (Nat.le_refl _) ⟨by rw [e9] <;> rfl, by rw [e9] <;> rfl⟩
set_option maxRecDepth 100000 in
set_option maxHeartbeats 4000000 in
theorem mX1_readKing (b : Nat → Nat) (len : Nat) (d : rT) (hb : ∀ j, b j < 128) (hl : len ≤ 160) (y : Nat → Nat) (hy : y 2 ≤ len) (hd3 : d 6 1 ≤ 4) : J KX1_readKing 10 (fun o B => o = some (.int (jB ((rdKi b len y d).1 = true))) ∧ B = wX b len (rdKi b len y d).2.2 (rdKi b len y d).2.1) 0 [some (.ref 0), none] [] (wX b len d y) 0 0 := by
  refine J.aload_n dX1_readKing_0 rfl rfl ?_
  refine J.getfield dX1_readKing_1 jFX1_21 rfl rfl ?_
  refine J.getfield dX1_readKing_4 jFX1_123 rfl rfl ?_
  refine J.iconst (4) dX1_readKing_7 (by decide) ?_
  refine J.icmp_lt (tgt := 21) dX1_readKing_8 (by decide) (fun c8 => ?_) (fun c8 => ?_)
  · have hc9 : d 6 1 < 4 := (nI_lti (b := 4) (by omega) (by decide)).mp c8
    refine J.aload_n dX1_readKing_21 rfl rfl ?_
    refine J.iconst (0) dX1_readKing_22 (by decide) ?_
    refine J.bipush (9) dX1_readKing_23 (by decide) ?_
    refine J.cv (as := [.int (nI 0), .int (nI 9)]) (is := [0, 1, 2, 3, 4, 5, 6, 7, 8, 9]) (o := 0) okX1_readNumber jcX1_114 (mX1_readNumber b len d hb hl y hy 0 9 (by decide) (by decide)) dX1_readKing_25 rfl rfl rfl rfl rfl rfl rfl (fun r9 B9 hq => ?_)
    obtain ⟨rfl, rfl⟩ := hq
    refine ⟨rfl, ?_⟩
    show J _ _ _ _ _ (.int _ :: _) (wX b len d (rdN b len 0 9 y).2) _ _
    refine J.if_ne (tgt := 33) dX1_readKing_28 (by decide) (fun c28 => ?_) (fun c28 => ?_)
    · refine J.aload_n dX1_readKing_33 rfl rfl ?_
      refine J.getfield dX1_readKing_34 jFX1_117 rfl rfl ?_
      refine J.istore_n dX1_readKing_37 rfl (by decide) rfl ?_
      try dsimp only [List.set, wX]
      refine J.aload_n dX1_readKing_38 rfl rfl ?_
      refine J.iconst (0) dX1_readKing_39 (by decide) ?_
      refine J.bipush (99) dX1_readKing_40 (by decide) ?_
      refine J.cv (as := [.int (nI 0), .int (nI 99)]) (is := [0, 1, 2, 3, 4, 5, 6, 7, 8, 9]) (o := 0) okX1_readNumber jcX1_114 (mX1_readNumber b len d hb hl (rdN b len 0 9 y).2 (rdN_le hy) 0 99 (by decide) (by decide)) dX1_readKing_42 rfl rfl rfl rfl rfl rfl rfl (fun r9 B9 hq => ?_)
      obtain ⟨rfl, rfl⟩ := hq
      refine ⟨rfl, ?_⟩
      show J _ _ _ _ _ (.int _ :: _) (wX b len d (rdN b len 0 99 (rdN b len 0 9 y).2).2) _ _
      refine J.if_eq (tgt := 67) dX1_readKing_45 (by decide) (fun c45 => ?_) (fun c45 => ?_)
      · refine J.iconst (0) dX1_readKing_67 (by decide) ?_
        first | (have e9 : rdKi b len y d = (true, ((rdN b len 0 99 (rdN b len 0 9 y).2).2, raddK d ((rdN b len 0 9 y).2 3) ((rdN b len 0 99 (rdN b len 0 9 y).2).2 3))) := (by (unfold rdKi; rw [if_pos hc9]; unfold rdTwo; rw [if_pos (Decidable.not_not.mp (fun h => c28 ((jB_0 _).mpr h))), if_pos (Decidable.not_not.mp (fun h => c45 ((jB_0 _).mpr h)))])); exact J.iret dX1_readKing_68 rfl (by decide) (Nat.le_refl _) (Nat.le_refl _) ⟨by rw [e9] <;> rfl, by rw [e9] <;> rfl⟩) | (have e9 : rdKi b len y d = (false, ((rdN b len 0 99 (rdN b len 0 9 y).2).2, d)) := (by (unfold rdKi; rw [if_pos hc9]; unfold rdTwo; rw [if_pos (Decidable.not_not.mp (fun h => c28 ((jB_0 _).mpr h))), if_neg ((jB_0 _).mp c45)])); exact J.iret dX1_readKing_68 rfl (by decide) (Nat.le_refl _) (Nat.le_refl _) ⟨by rw [e9] <;> rfl, by rw [e9] <;> rfl⟩)
      · refine J.aload_n dX1_readKing_48 rfl rfl ?_
        refine J.getfield dX1_readKing_49 jFX1_21 rfl rfl ?_
        refine J.iload_n dX1_readKing_52 rfl rfl ?_
        refine J.aload_n dX1_readKing_53 rfl rfl ?_
        refine J.getfield dX1_readKing_54 jFX1_117 rfl rfl ?_
        refine J.cv (as := [.int _, .int _]) (is := [3, 4, 5, 6, 7, 8, 9]) (o := 0) okX2_addKing jcX1_126 (mX2_addKing d ((rdN b len 0 9 y).2 3) ((rdN b len 0 99 (rdN b len 0 9 y).2).2 3) hc9) dX1_readKing_57 rfl rfl rfl rfl rfl rfl rfl (fun r9 B9 hq => ?_)
        obtain ⟨rfl, rfl⟩ := hq
        refine ⟨rfl, ?_⟩
        show J _ _ _ _ _ (.int 1 :: _) (wX b len (raddK d ((rdN b len 0 9 y).2 3) ((rdN b len 0 99 (rdN b len 0 9 y).2).2 3)) (rdN b len 0 99 (rdN b len 0 9 y).2).2) _ _
        refine J.if_eq (tgt := 67) dX1_readKing_60 (by decide) (fun c60 => absurd c60 (by decide)) (fun c60 => ?_)
        refine J.iconst (1) dX1_readKing_63 (by decide) ?_
        refine J.goto (tgt := 68) dX1_readKing_64 (by decide) ?_
        first | (have e9 : rdKi b len y d = (true, ((rdN b len 0 99 (rdN b len 0 9 y).2).2, raddK d ((rdN b len 0 9 y).2 3) ((rdN b len 0 99 (rdN b len 0 9 y).2).2 3))) := (by (unfold rdKi; rw [if_pos hc9]; unfold rdTwo; rw [if_pos (Decidable.not_not.mp (fun h => c28 ((jB_0 _).mpr h))), if_pos (Decidable.not_not.mp (fun h => c45 ((jB_0 _).mpr h)))])); exact J.iret dX1_readKing_68 rfl (by decide) (Nat.le_refl _) (Nat.le_refl _) ⟨by rw [e9] <;> rfl, by rw [e9] <;> rfl⟩) | (have e9 : rdKi b len y d = (false, ((rdN b len 0 99 (rdN b len 0 9 y).2).2, d)) := (by (unfold rdKi; rw [if_pos hc9]; unfold rdTwo; rw [if_pos (Decidable.not_not.mp (fun h => c28 ((jB_0 _).mpr h))), if_neg ((jB_0 _).mp c45)])); exact J.iret dX1_readKing_68 rfl (by decide) (Nat.le_refl _) (Nat.le_refl _) ⟨by rw [e9] <;> rfl, by rw [e9] <;> rfl⟩)
    · refine J.iconst (0) dX1_readKing_31 (by decide) ?_
      have e9 : rdKi b len y d = (false, ((rdN b len 0 9 y).2, d)) := (by (unfold rdKi; rw [if_pos hc9]; unfold rdTwo; rw [if_neg ((jB_0 _).mp c28)]))
      exact J.iret dX1_readKing_32 rfl (by decide) (Nat.le_refl _) (Nat.le_refl _) ⟨by rw [e9] <;> rfl, by rw [e9] <;> rfl⟩
  · refine J.aload_n dX1_readKing_11 rfl rfl ?_
    refine J.iconst (5) dX1_readKing_12 (by decide) ?_
    refine J.aload_n dX1_readKing_13 rfl rfl ?_
    refine J.getfield dX1_readKing_14 jFX1_107 rfl rfl ?_
    refine J.cv (as := [.int (nI 5), .int _]) (is := [0, 1, 2, 3, 4, 5, 6, 7, 8, 9]) (o := 0) okX1_fail jcX1_61 (mX1_fail b len d y 5 (y 1)) dX1_readKing_17 rfl rfl rfl rfl rfl rfl rfl (fun r9 B9 hq => ?_)
    obtain ⟨rfl, rfl⟩ := hq
    refine ⟨rfl, ?_⟩
    show J _ _ _ _ _ (.int 0 :: _) (wX b len d (yF y 5 (y 1))) _ _
    have e9 : rdKi b len y d = (false, (yF y 5 (y 1), d)) := (by (unfold rdKi; exact if_neg (fun h => c8 ((nI_lti (b := 4) (by omega) (by decide)).mpr h))))
    exact J.iret dX1_readKing_20 rfl (by decide) (Nat.le_refl _) (Nat.le_refl _) ⟨by rw [e9] <;> rfl, by rw [e9] <;> rfl⟩
set_option maxRecDepth 100000 in
set_option maxHeartbeats 4000000 in
theorem mX1_readLaw (b : Nat → Nat) (len : Nat) (d : rT) (hb : ∀ j, b j < 128) (hl : len ≤ 160) (y : Nat → Nat) (hy : y 2 ≤ len) (hd3 : d 6 2 ≤ 3) : J KX1_readLaw 10 (fun o B => o = some (.int (jB ((rdLa b len y d).1 = true))) ∧ B = wX b len (rdLa b len y d).2.2 (rdLa b len y d).2.1) 0 [some (.ref 0), none] [] (wX b len d y) 0 0 := by
  refine J.aload_n dX1_readLaw_0 rfl rfl ?_
  refine J.getfield dX1_readLaw_1 jFX1_21 rfl rfl ?_
  refine J.getfield dX1_readLaw_4 jFX1_129 rfl rfl ?_
  refine J.iconst (3) dX1_readLaw_7 (by decide) ?_
  refine J.icmp_lt (tgt := 21) dX1_readLaw_8 (by decide) (fun c8 => ?_) (fun c8 => ?_)
  · have hc9 : d 6 2 < 3 := (nI_lti (b := 3) (by omega) (by decide)).mp c8
    refine J.aload_n dX1_readLaw_21 rfl rfl ?_
    refine J.iconst (1) dX1_readLaw_22 (by decide) ?_
    refine J.iconst (5) dX1_readLaw_23 (by decide) ?_
    refine J.cv (as := [.int (nI 1), .int (nI 5)]) (is := [0, 1, 2, 3, 4, 5, 6, 7, 8, 9]) (o := 0) okX1_readNumber jcX1_114 (mX1_readNumber b len d hb hl y hy 1 5 (by decide) (by decide)) dX1_readLaw_24 rfl rfl rfl rfl rfl rfl rfl (fun r9 B9 hq => ?_)
    obtain ⟨rfl, rfl⟩ := hq
    refine ⟨rfl, ?_⟩
    show J _ _ _ _ _ (.int _ :: _) (wX b len d (rdN b len 1 5 y).2) _ _
    refine J.if_ne (tgt := 32) dX1_readLaw_27 (by decide) (fun c27 => ?_) (fun c27 => ?_)
    · refine J.aload_n dX1_readLaw_32 rfl rfl ?_
      refine J.getfield dX1_readLaw_33 jFX1_117 rfl rfl ?_
      refine J.istore_n dX1_readLaw_36 rfl (by decide) rfl ?_
      try dsimp only [List.set, wX]
      refine J.aload_n dX1_readLaw_37 rfl rfl ?_
      refine J.iconst (0) dX1_readLaw_38 (by decide) ?_
      refine J.bipush (9) dX1_readLaw_39 (by decide) ?_
      refine J.cv (as := [.int (nI 0), .int (nI 9)]) (is := [0, 1, 2, 3, 4, 5, 6, 7, 8, 9]) (o := 0) okX1_readNumber jcX1_114 (mX1_readNumber b len d hb hl (rdN b len 1 5 y).2 (rdN_le hy) 0 9 (by decide) (by decide)) dX1_readLaw_41 rfl rfl rfl rfl rfl rfl rfl (fun r9 B9 hq => ?_)
      obtain ⟨rfl, rfl⟩ := hq
      refine ⟨rfl, ?_⟩
      show J _ _ _ _ _ (.int _ :: _) (wX b len d (rdN b len 0 9 (rdN b len 1 5 y).2).2) _ _
      refine J.if_eq (tgt := 66) dX1_readLaw_44 (by decide) (fun c44 => ?_) (fun c44 => ?_)
      · refine J.iconst (0) dX1_readLaw_66 (by decide) ?_
        first | (have e9 : rdLa b len y d = (true, ((rdN b len 0 9 (rdN b len 1 5 y).2).2, raddL d ((rdN b len 1 5 y).2 3) ((rdN b len 0 9 (rdN b len 1 5 y).2).2 3))) := (by (unfold rdLa; rw [if_pos hc9]; unfold rdTwo; rw [if_pos (Decidable.not_not.mp (fun h => c27 ((jB_0 _).mpr h))), if_pos (Decidable.not_not.mp (fun h => c44 ((jB_0 _).mpr h)))])); exact J.iret dX1_readLaw_67 rfl (by decide) (Nat.le_refl _) (Nat.le_refl _) ⟨by rw [e9] <;> rfl, by rw [e9] <;> rfl⟩) | (have e9 : rdLa b len y d = (false, ((rdN b len 0 9 (rdN b len 1 5 y).2).2, d)) := (by (unfold rdLa; rw [if_pos hc9]; unfold rdTwo; rw [if_pos (Decidable.not_not.mp (fun h => c27 ((jB_0 _).mpr h))), if_neg ((jB_0 _).mp c44)])); exact J.iret dX1_readLaw_67 rfl (by decide) (Nat.le_refl _) (Nat.le_refl _) ⟨by rw [e9] <;> rfl, by rw [e9] <;> rfl⟩)
      · refine J.aload_n dX1_readLaw_47 rfl rfl ?_
        refine J.getfield dX1_readLaw_48 jFX1_21 rfl rfl ?_
        refine J.iload_n dX1_readLaw_51 rfl rfl ?_
        refine J.aload_n dX1_readLaw_52 rfl rfl ?_
        refine J.getfield dX1_readLaw_53 jFX1_117 rfl rfl ?_
        refine J.cv (as := [.int _, .int _]) (is := [3, 4, 5, 6, 7, 8, 9]) (o := 0) okX2_addLaw jcX1_132 (mX2_addLaw d ((rdN b len 1 5 y).2 3) ((rdN b len 0 9 (rdN b len 1 5 y).2).2 3) hc9) dX1_readLaw_56 rfl rfl rfl rfl rfl rfl rfl (fun r9 B9 hq => ?_)
        obtain ⟨rfl, rfl⟩ := hq
        refine ⟨rfl, ?_⟩
        show J _ _ _ _ _ (.int 1 :: _) (wX b len (raddL d ((rdN b len 1 5 y).2 3) ((rdN b len 0 9 (rdN b len 1 5 y).2).2 3)) (rdN b len 0 9 (rdN b len 1 5 y).2).2) _ _
        refine J.if_eq (tgt := 66) dX1_readLaw_59 (by decide) (fun c59 => absurd c59 (by decide)) (fun c59 => ?_)
        refine J.iconst (1) dX1_readLaw_62 (by decide) ?_
        refine J.goto (tgt := 67) dX1_readLaw_63 (by decide) ?_
        first | (have e9 : rdLa b len y d = (true, ((rdN b len 0 9 (rdN b len 1 5 y).2).2, raddL d ((rdN b len 1 5 y).2 3) ((rdN b len 0 9 (rdN b len 1 5 y).2).2 3))) := (by (unfold rdLa; rw [if_pos hc9]; unfold rdTwo; rw [if_pos (Decidable.not_not.mp (fun h => c27 ((jB_0 _).mpr h))), if_pos (Decidable.not_not.mp (fun h => c44 ((jB_0 _).mpr h)))])); exact J.iret dX1_readLaw_67 rfl (by decide) (Nat.le_refl _) (Nat.le_refl _) ⟨by rw [e9] <;> rfl, by rw [e9] <;> rfl⟩) | (have e9 : rdLa b len y d = (false, ((rdN b len 0 9 (rdN b len 1 5 y).2).2, d)) := (by (unfold rdLa; rw [if_pos hc9]; unfold rdTwo; rw [if_pos (Decidable.not_not.mp (fun h => c27 ((jB_0 _).mpr h))), if_neg ((jB_0 _).mp c44)])); exact J.iret dX1_readLaw_67 rfl (by decide) (Nat.le_refl _) (Nat.le_refl _) ⟨by rw [e9] <;> rfl, by rw [e9] <;> rfl⟩)
    · refine J.iconst (0) dX1_readLaw_30 (by decide) ?_
      have e9 : rdLa b len y d = (false, ((rdN b len 1 5 y).2, d)) := (by (unfold rdLa; rw [if_pos hc9]; unfold rdTwo; rw [if_neg ((jB_0 _).mp c27)]))
      exact J.iret dX1_readLaw_31 rfl (by decide) (Nat.le_refl _) (Nat.le_refl _) ⟨by rw [e9] <;> rfl, by rw [e9] <;> rfl⟩
  · refine J.aload_n dX1_readLaw_11 rfl rfl ?_
    refine J.iconst (5) dX1_readLaw_12 (by decide) ?_
    refine J.aload_n dX1_readLaw_13 rfl rfl ?_
    refine J.getfield dX1_readLaw_14 jFX1_107 rfl rfl ?_
    refine J.cv (as := [.int (nI 5), .int _]) (is := [0, 1, 2, 3, 4, 5, 6, 7, 8, 9]) (o := 0) okX1_fail jcX1_61 (mX1_fail b len d y 5 (y 1)) dX1_readLaw_17 rfl rfl rfl rfl rfl rfl rfl (fun r9 B9 hq => ?_)
    obtain ⟨rfl, rfl⟩ := hq
    refine ⟨rfl, ?_⟩
    show J _ _ _ _ _ (.int 0 :: _) (wX b len d (yF y 5 (y 1))) _ _
    have e9 : rdLa b len y d = (false, (yF y 5 (y 1), d)) := (by (unfold rdLa; exact if_neg (fun h => c8 ((nI_lti (b := 3) (by omega) (by decide)).mpr h))))
    exact J.iret dX1_readLaw_20 rfl (by decide) (Nat.le_refl _) (Nat.le_refl _) ⟨by rw [e9] <;> rfl, by rw [e9] <;> rfl⟩
set_option maxRecDepth 100000 in
set_option maxHeartbeats 4000000 in
theorem mX1_readLoad (b : Nat → Nat) (len : Nat) (d : rT) (hb : ∀ j, b j < 128) (hl : len ≤ 160) (y : Nat → Nat) (hy : y 2 ≤ len) (hd3 : y 5 < 100) : J KX1_readLoad 10 (fun o B => o = some (.int (jB ((rdOnce b len 5 1 9 4 y d).1 = true))) ∧ B = wX b len (rdOnce b len 5 1 9 4 y d).2.2 (rdOnce b len 5 1 9 4 y d).2.1) 0 [some (.ref 0)] [] (wX b len d y) 0 0 := by
  refine J.aload_n dX1_readLoad_0 rfl rfl ?_
  refine J.getfield dX1_readLoad_1 jFX1_38 rfl rfl ?_
  refine J.if_eq (tgt := 17) dX1_readLoad_4 (by decide) (fun c4 => ?_) (fun c4 => ?_)
  · have hc9 : y 5 = 0 := (nI_eqi (b := 0) (by omega) (by decide)).mp c4
    refine J.aload_n dX1_readLoad_17 rfl rfl ?_
    refine J.iconst (1) dX1_readLoad_18 (by decide) ?_
    refine J.putfield dX1_readLoad_19 jFX1_38 jP1_7 rfl (by decide) (by decide) (Nat.le_of_ble_eq_true rfl) ?_
    try dsimp only [List.set, wX]
    refine J.aload_n dX1_readLoad_22 rfl rfl ?_
    refine J.iconst (1) dX1_readLoad_23 (by decide) ?_
    refine J.bipush (9) dX1_readLoad_24 (by decide) ?_
    show J _ _ _ _ _ (.int (nI 9) :: .int (nI 1) :: _) (wX b len d (yset y 5 1)) _ _
    refine J.cv (as := [.int (nI 1), .int (nI 9)]) (is := [0, 1, 2, 3, 4, 5, 6, 7, 8, 9]) (o := 0) okX1_readNumber jcX1_114 (mX1_readNumber b len d hb hl (yset y 5 1) hy 1 9 (by decide) (by decide)) dX1_readLoad_26 rfl rfl rfl rfl rfl rfl rfl (fun r9 B9 hq => ?_)
    obtain ⟨rfl, rfl⟩ := hq
    refine ⟨rfl, ?_⟩
    show J _ _ _ _ _ (.int _ :: _) (wX b len d (rdN b len 1 9 (yset y 5 1)).2) _ _
    refine J.if_ne (tgt := 34) dX1_readLoad_29 (by decide) (fun c29 => ?_) (fun c29 => ?_)
    · refine J.aload_n dX1_readLoad_34 rfl rfl ?_
      refine J.getfield dX1_readLoad_35 jFX1_21 rfl rfl ?_
      refine J.aload_n dX1_readLoad_38 rfl rfl ?_
      refine J.getfield dX1_readLoad_39 jFX1_117 rfl rfl ?_
      refine J.putfield dX1_readLoad_42 jFX1_135 jP2_10 rfl rfl rfl (Nat.le_of_ble_eq_true rfl) ?_
      try dsimp only [List.set, wX]
      refine J.iconst (1) dX1_readLoad_45 (by decide) ?_
      have e9 : rdOnce b len 5 1 9 4 y d = (true, ((rdN b len 1 9 (yset y 5 1)).2, rset d 6 4 ((rdN b len 1 9 (yset y 5 1)).2 3))) := (by (unfold rdOnce; rw [if_pos hc9, if_pos (Decidable.not_not.mp (fun h => c29 ((jB_0 _).mpr h)))]))
      exact J.iret dX1_readLoad_46 rfl (by decide) (Nat.le_refl _) (Nat.le_refl _) ⟨by rw [e9] <;> rfl, by rw [e9] <;> rfl⟩
    · refine J.iconst (0) dX1_readLoad_32 (by decide) ?_
      have e9 : rdOnce b len 5 1 9 4 y d = (false, ((rdN b len 1 9 (yset y 5 1)).2, d)) := (by (unfold rdOnce; rw [if_pos hc9, if_neg ((jB_0 _).mp c29)]))
      exact J.iret dX1_readLoad_33 rfl (by decide) (Nat.le_refl _) (Nat.le_refl _) ⟨by rw [e9] <;> rfl, by rw [e9] <;> rfl⟩
  · refine J.aload_n dX1_readLoad_7 rfl rfl ?_
    refine J.iconst (4) dX1_readLoad_8 (by decide) ?_
    refine J.aload_n dX1_readLoad_9 rfl rfl ?_
    refine J.getfield dX1_readLoad_10 jFX1_107 rfl rfl ?_
    refine J.cv (as := [.int (nI 4), .int _]) (is := [0, 1, 2, 3, 4, 5, 6, 7, 8, 9]) (o := 0) okX1_fail jcX1_61 (mX1_fail b len d y 4 (y 1)) dX1_readLoad_13 rfl rfl rfl rfl rfl rfl rfl (fun r9 B9 hq => ?_)
    obtain ⟨rfl, rfl⟩ := hq
    refine ⟨rfl, ?_⟩
    show J _ _ _ _ _ (.int 0 :: _) (wX b len d (yF y 4 (y 1))) _ _
    have e9 : rdOnce b len 5 1 9 4 y d = (false, (yF y 4 (y 1), d)) := (by (unfold rdOnce; exact if_neg (fun h => c4 (congrArg nI h))))
    exact J.iret dX1_readLoad_16 rfl (by decide) (Nat.le_refl _) (Nat.le_refl _) ⟨by rw [e9] <;> rfl, by rw [e9] <;> rfl⟩
set_option maxRecDepth 100000 in
set_option maxHeartbeats 4000000 in
theorem mX1_readPrize (b : Nat → Nat) (len : Nat) (d : rT) (hb : ∀ j, b j < 128) (hl : len ≤ 160) (y : Nat → Nat) (hy : y 2 ≤ len) (hd3 : y 6 < 100) : J KX1_readPrize 10 (fun o B => o = some (.int (jB ((rdOnce b len 6 0 99 5 y d).1 = true))) ∧ B = wX b len (rdOnce b len 6 0 99 5 y d).2.2 (rdOnce b len 6 0 99 5 y d).2.1) 0 [some (.ref 0)] [] (wX b len d y) 0 0 := by
  refine J.aload_n dX1_readPrize_0 rfl rfl ?_
  refine J.getfield dX1_readPrize_1 jFX1_42 rfl rfl ?_
  refine J.if_eq (tgt := 17) dX1_readPrize_4 (by decide) (fun c4 => ?_) (fun c4 => ?_)
  · have hc9 : y 6 = 0 := (nI_eqi (b := 0) (by omega) (by decide)).mp c4
    refine J.aload_n dX1_readPrize_17 rfl rfl ?_
    refine J.iconst (1) dX1_readPrize_18 (by decide) ?_
    refine J.putfield dX1_readPrize_19 jFX1_42 jP1_8 rfl (by decide) (by decide) (Nat.le_of_ble_eq_true rfl) ?_
    try dsimp only [List.set, wX]
    refine J.aload_n dX1_readPrize_22 rfl rfl ?_
    refine J.iconst (0) dX1_readPrize_23 (by decide) ?_
    refine J.bipush (99) dX1_readPrize_24 (by decide) ?_
    show J _ _ _ _ _ (.int (nI 99) :: .int (nI 0) :: _) (wX b len d (yset y 6 1)) _ _
    refine J.cv (as := [.int (nI 0), .int (nI 99)]) (is := [0, 1, 2, 3, 4, 5, 6, 7, 8, 9]) (o := 0) okX1_readNumber jcX1_114 (mX1_readNumber b len d hb hl (yset y 6 1) hy 0 99 (by decide) (by decide)) dX1_readPrize_26 rfl rfl rfl rfl rfl rfl rfl (fun r9 B9 hq => ?_)
    obtain ⟨rfl, rfl⟩ := hq
    refine ⟨rfl, ?_⟩
    show J _ _ _ _ _ (.int _ :: _) (wX b len d (rdN b len 0 99 (yset y 6 1)).2) _ _
    refine J.if_ne (tgt := 34) dX1_readPrize_29 (by decide) (fun c29 => ?_) (fun c29 => ?_)
    · refine J.aload_n dX1_readPrize_34 rfl rfl ?_
      refine J.getfield dX1_readPrize_35 jFX1_21 rfl rfl ?_
      refine J.aload_n dX1_readPrize_38 rfl rfl ?_
      refine J.getfield dX1_readPrize_39 jFX1_117 rfl rfl ?_
      refine J.putfield dX1_readPrize_42 jFX1_137 jP2_11 rfl rfl rfl (Nat.le_of_ble_eq_true rfl) ?_
      try dsimp only [List.set, wX]
      refine J.iconst (1) dX1_readPrize_45 (by decide) ?_
      have e9 : rdOnce b len 6 0 99 5 y d = (true, ((rdN b len 0 99 (yset y 6 1)).2, rset d 6 5 ((rdN b len 0 99 (yset y 6 1)).2 3))) := (by (unfold rdOnce; rw [if_pos hc9, if_pos (Decidable.not_not.mp (fun h => c29 ((jB_0 _).mpr h)))]))
      exact J.iret dX1_readPrize_46 rfl (by decide) (Nat.le_refl _) (Nat.le_refl _) ⟨by rw [e9] <;> rfl, by rw [e9] <;> rfl⟩
    · refine J.iconst (0) dX1_readPrize_32 (by decide) ?_
      have e9 : rdOnce b len 6 0 99 5 y d = (false, ((rdN b len 0 99 (yset y 6 1)).2, d)) := (by (unfold rdOnce; rw [if_pos hc9, if_neg ((jB_0 _).mp c29)]))
      exact J.iret dX1_readPrize_33 rfl (by decide) (Nat.le_refl _) (Nat.le_refl _) ⟨by rw [e9] <;> rfl, by rw [e9] <;> rfl⟩
  · refine J.aload_n dX1_readPrize_7 rfl rfl ?_
    refine J.iconst (4) dX1_readPrize_8 (by decide) ?_
    refine J.aload_n dX1_readPrize_9 rfl rfl ?_
    refine J.getfield dX1_readPrize_10 jFX1_107 rfl rfl ?_
    refine J.cv (as := [.int (nI 4), .int _]) (is := [0, 1, 2, 3, 4, 5, 6, 7, 8, 9]) (o := 0) okX1_fail jcX1_61 (mX1_fail b len d y 4 (y 1)) dX1_readPrize_13 rfl rfl rfl rfl rfl rfl rfl (fun r9 B9 hq => ?_)
    obtain ⟨rfl, rfl⟩ := hq
    refine ⟨rfl, ?_⟩
    show J _ _ _ _ _ (.int 0 :: _) (wX b len d (yF y 4 (y 1))) _ _
    have e9 : rdOnce b len 6 0 99 5 y d = (false, (yF y 4 (y 1), d)) := (by (unfold rdOnce; exact if_neg (fun h => c4 (congrArg nI h))))
    exact J.iret dX1_readPrize_16 rfl (by decide) (Nat.le_refl _) (Nat.le_refl _) ⟨by rw [e9] <;> rfl, by rw [e9] <;> rfl⟩
set_option maxRecDepth 100000 in
set_option maxHeartbeats 4000000 in
theorem mX1_readBroken (b : Nat → Nat) (len : Nat) (d : rT) (hb : ∀ j, b j < 128) (hl : len ≤ 160) (y : Nat → Nat) (hy : y 2 ≤ len) (h4 : y 4 < 8) : J KX1_readBroken 10 (fun o B => o = some (.int (jB ((rdBr b len y d).1 = true))) ∧ B = wX b len (rdBr b len y d).2.2 (rdBr b len y d).2.1) 0 [some (.ref 0)] [] (wX b len d y) 0 0 := by
  refine J.aload_n dX1_readBroken_0 rfl rfl ?_
  refine J.iconst (0) dX1_readBroken_1 (by decide) ?_
  refine J.iconst (2) dX1_readBroken_2 (by decide) ?_
  refine J.cv (as := [.int (nI 0), .int (nI 2)]) (is := [0, 1, 2, 3, 4, 5, 6, 7, 8, 9]) (o := 0) okX1_readNumber jcX1_114 (mX1_readNumber b len d hb hl y hy 0 2 (by decide) (by decide)) dX1_readBroken_3 rfl rfl rfl rfl rfl rfl rfl (fun r9 B9 hq => ?_)
  obtain ⟨rfl, rfl⟩ := hq
  refine ⟨rfl, ?_⟩
  show J _ _ _ _ _ (.int _ :: _) (wX b len d (rdN b len 0 2 y).2) _ _
  refine J.if_ne (tgt := 11) dX1_readBroken_6 (by decide) (fun c6 => ?_) (fun c6 => ?_)
  · refine J.aload_n dX1_readBroken_11 rfl rfl ?_
    refine J.getfield dX1_readBroken_12 jFX1_35 rfl rfl ?_
    refine J.aload_n dX1_readBroken_15 rfl rfl ?_
    refine J.getfield dX1_readBroken_16 jFX1_117 rfl rfl ?_
    refine J.ishr dX1_readBroken_19 ?_
    refine J.iconst (1) dX1_readBroken_20 (by decide) ?_
    refine J.iand dX1_readBroken_21 ?_
    refine J.iconst (1) dX1_readBroken_22 (by decide) ?_
    have h39 := rdN_3 (Decidable.not_not.mp (fun h => c6 ((jB_0 _).mpr h)))
    have h49 : (rdN b len 0 2 y).2 4 < 8 := by rw [rdN_4]; exact h4
    rw [bit_eval _ h49 _ (by omega)]
    refine J.icmp_ne (tgt := 36) dX1_readBroken_23 (by decide) (fun c23 => ?_) (fun c23 => ?_)
    · refine J.aload_n dX1_readBroken_36 rfl rfl ?_
      refine J.dup dX1_readBroken_37 rfl ?_
      refine J.getfield dX1_readBroken_38 jFX1_35 rfl rfl ?_
      refine J.iconst (1) dX1_readBroken_41 (by decide) ?_
      refine J.aload_n dX1_readBroken_42 rfl rfl ?_
      refine J.getfield dX1_readBroken_43 jFX1_117 rfl rfl ?_
      refine J.ishl dX1_readBroken_46 ?_
      refine J.ior dX1_readBroken_47 ?_
      rw [ws_eval _ h49 _ (by omega)]
      refine J.putfield dX1_readBroken_48 jFX1_35 jP1_6 rfl rfl rfl (Nat.le_of_ble_eq_true rfl) ?_
      try dsimp only [List.set, wX]
      refine J.iconst (1) dX1_readBroken_51 (by decide) ?_
      have e9 : rdBr b len y d = (true, (yset (rdN b len 0 2 y).2 4 ((rdN b len 0 2 y).2 4 ||| 2 ^ (rdN b len 0 2 y).2 3), d)) := (by (unfold rdBr; rw [if_pos (Decidable.not_not.mp (fun h => c6 ((jB_0 _).mpr h))), if_neg (fun h => c23 (congrArg nI h))]))
      exact J.iret dX1_readBroken_52 rfl (by decide) (Nat.le_refl _) (Nat.le_refl _) ⟨by rw [e9] <;> rfl, by rw [e9] <;> rfl⟩
    · have hb1 : bit ((rdN b len 0 2 y).2 4) ((rdN b len 0 2 y).2 3) = 1 := (nI_eqi (b := 1) (by have := bit_le ((rdN b len 0 2 y).2 4) ((rdN b len 0 2 y).2 3); omega) (by decide)).mp c23
      refine J.aload_n dX1_readBroken_26 rfl rfl ?_
      refine J.iconst (4) dX1_readBroken_27 (by decide) ?_
      refine J.aload_n dX1_readBroken_28 rfl rfl ?_
      refine J.getfield dX1_readBroken_29 jFX1_107 rfl rfl ?_
      refine J.cv (as := [.int (nI 4), .int _]) (is := [0, 1, 2, 3, 4, 5, 6, 7, 8, 9]) (o := 0) okX1_fail jcX1_61 (mX1_fail b len d (rdN b len 0 2 y).2 4 ((rdN b len 0 2 y).2 1)) dX1_readBroken_32 rfl rfl rfl rfl rfl rfl rfl (fun r9 B9 hq => ?_)
      obtain ⟨rfl, rfl⟩ := hq
      refine ⟨rfl, ?_⟩
      show J _ _ _ _ _ (.int 0 :: _) (wX b len d (yF (rdN b len 0 2 y).2 4 ((rdN b len 0 2 y).2 1))) _ _
      have e9 : rdBr b len y d = (false, (yF (rdN b len 0 2 y).2 4 ((rdN b len 0 2 y).2 1), d)) := (by (unfold rdBr; rw [if_pos (Decidable.not_not.mp (fun h => c6 ((jB_0 _).mpr h))), if_pos hb1]))
      exact J.iret dX1_readBroken_35 rfl (by decide) (Nat.le_refl _) (Nat.le_refl _) ⟨by rw [e9] <;> rfl, by rw [e9] <;> rfl⟩
  · refine J.iconst (0) dX1_readBroken_9 (by decide) ?_
    have e9 : rdBr b len y d = (false, ((rdN b len 0 2 y).2, d)) := (by (unfold rdBr; rw [if_neg ((jB_0 _).mp c6)]))
    exact J.iret dX1_readBroken_10 rfl (by decide) (Nat.le_refl _) (Nat.le_refl _) ⟨by rw [e9] <;> rfl, by rw [e9] <;> rfl⟩
set_option maxRecDepth 100000 in
set_option maxHeartbeats 4000000 in
theorem mX1_readStop (b : Nat → Nat) (len : Nat) (d : rT) (hb : ∀ j, b j < 128) (hl : len ≤ 160) (y : Nat → Nat) (hy : y 2 ≤ len) : J KX1_readStop 10 (fun o B => o = some (.int (jB ((rdS b len y).1 = true))) ∧ B = wX b len d (rdS b len y).2) 0 [some (.ref 0)] [] (wX b len d y) 0 0 := by
  refine J.aload_n dX1_readStop_0 rfl rfl ?_
  refine J.cv (as := []) (is := [0, 1, 2, 3, 4, 5, 6, 7, 8, 9]) (o := 0) okX1_nextToken jcX1_45 (mX1_next b len d hb hl y hy) dX1_readStop_1 rfl rfl rfl rfl rfl rfl rfl (fun r9 B9 hq => ?_)
  obtain ⟨rfl, rfl⟩ := hq
  refine ⟨rfl, ?_⟩
  show J _ _ _ _ _ (.int _ :: _) (wX b len d (yN b len y)) _ _
  refine J.if_eq (tgt := 31) dX1_readStop_4 (by decide) (fun c4 => ?_) (fun c4 => ?_)
  · refine J.iconst (0) dX1_readStop_31 (by decide) ?_
    first | (have e9 : rdS b len y = (true, yN b len y) := (by (unfold rdS; rw [if_pos (Decidable.not_not.mp (fun h => c4 ((jB_0 _).mpr h))), if_pos ((nI_eqi (b := 3) (by have := yN_0 b len y; omega) (by decide)).mp c12)])); exact J.iret dX1_readStop_32 rfl (by decide) (Nat.le_refl _) (Nat.le_refl _) ⟨by rw [e9] <;> rfl, by rw [e9] <;> rfl⟩) | (have e9 : rdS b len y = (false, yF (yN b len y) 2 (yN b len y 1)) := (by (unfold rdS; rw [if_pos (Decidable.not_not.mp (fun h => c4 ((jB_0 _).mpr h))), if_neg (fun h => c12 (congrArg nI h))])); exact J.iret dX1_readStop_32 rfl (by decide) (Nat.le_refl _) (Nat.le_refl _) ⟨by rw [e9] <;> rfl, by rw [e9] <;> rfl⟩) | (have e9 : rdS b len y = (false, yN b len y) := (by (unfold rdS; rw [if_neg ((jB_0 _).mp c4)])); exact J.iret dX1_readStop_32 rfl (by decide) (Nat.le_refl _) (Nat.le_refl _) ⟨by rw [e9] <;> rfl, by rw [e9] <;> rfl⟩)
  · refine J.aload_n dX1_readStop_7 rfl rfl ?_
    refine J.getfield dX1_readStop_8 jFX1_49 rfl rfl ?_
    refine J.iconst (3) dX1_readStop_11 (by decide) ?_
    refine J.icmp_eq (tgt := 27) dX1_readStop_12 (by decide) (fun c12 => ?_) (fun c12 => ?_)
    · refine J.iconst (1) dX1_readStop_27 (by decide) ?_
      refine J.goto (tgt := 32) dX1_readStop_28 (by decide) ?_
      first | (have e9 : rdS b len y = (true, yN b len y) := (by (unfold rdS; rw [if_pos (Decidable.not_not.mp (fun h => c4 ((jB_0 _).mpr h))), if_pos ((nI_eqi (b := 3) (by have := yN_0 b len y; omega) (by decide)).mp c12)])); exact J.iret dX1_readStop_32 rfl (by decide) (Nat.le_refl _) (Nat.le_refl _) ⟨by rw [e9] <;> rfl, by rw [e9] <;> rfl⟩) | (have e9 : rdS b len y = (false, yF (yN b len y) 2 (yN b len y 1)) := (by (unfold rdS; rw [if_pos (Decidable.not_not.mp (fun h => c4 ((jB_0 _).mpr h))), if_neg (fun h => c12 (congrArg nI h))])); exact J.iret dX1_readStop_32 rfl (by decide) (Nat.le_refl _) (Nat.le_refl _) ⟨by rw [e9] <;> rfl, by rw [e9] <;> rfl⟩) | (have e9 : rdS b len y = (false, yN b len y) := (by (unfold rdS; rw [if_neg ((jB_0 _).mp c4)])); exact J.iret dX1_readStop_32 rfl (by decide) (Nat.le_refl _) (Nat.le_refl _) ⟨by rw [e9] <;> rfl, by rw [e9] <;> rfl⟩)
    · refine J.aload_n dX1_readStop_15 rfl rfl ?_
      refine J.iconst (2) dX1_readStop_16 (by decide) ?_
      refine J.aload_n dX1_readStop_17 rfl rfl ?_
      refine J.getfield dX1_readStop_18 jFX1_107 rfl rfl ?_
      refine J.cv (as := [.int (nI 2), .int _]) (is := [0, 1, 2, 3, 4, 5, 6, 7, 8, 9]) (o := 0) okX1_fail jcX1_61 (mX1_fail b len d (yN b len y) 2 (yN b len y 1)) dX1_readStop_21 rfl rfl rfl rfl rfl rfl rfl (fun r9 B9 hq => ?_)
      obtain ⟨rfl, rfl⟩ := hq
      refine ⟨rfl, ?_⟩
      show J _ _ _ _ _ (.int 0 :: _) (wX b len d (yF (yN b len y) 2 (yN b len y 1))) _ _
      refine J.if_eq (tgt := 31) dX1_readStop_24 (by decide) (fun c24 => ?_) (fun c24 => absurd c24 (fun h => h rfl))
      refine J.iconst (0) dX1_readStop_31 (by decide) ?_
      first | (have e9 : rdS b len y = (true, yN b len y) := (by (unfold rdS; rw [if_pos (Decidable.not_not.mp (fun h => c4 ((jB_0 _).mpr h))), if_pos ((nI_eqi (b := 3) (by have := yN_0 b len y; omega) (by decide)).mp c12)])); exact J.iret dX1_readStop_32 rfl (by decide) (Nat.le_refl _) (Nat.le_refl _) ⟨by rw [e9] <;> rfl, by rw [e9] <;> rfl⟩) | (have e9 : rdS b len y = (false, yF (yN b len y) 2 (yN b len y 1)) := (by (unfold rdS; rw [if_pos (Decidable.not_not.mp (fun h => c4 ((jB_0 _).mpr h))), if_neg (fun h => c12 (congrArg nI h))])); exact J.iret dX1_readStop_32 rfl (by decide) (Nat.le_refl _) (Nat.le_refl _) ⟨by rw [e9] <;> rfl, by rw [e9] <;> rfl⟩) | (have e9 : rdS b len y = (false, yN b len y) := (by (unfold rdS; rw [if_neg ((jB_0 _).mp c4)])); exact J.iret dX1_readStop_32 rfl (by decide) (Nat.le_refl _) (Nat.le_refl _) ⟨by rw [e9] <;> rfl, by rw [e9] <;> rfl⟩)
