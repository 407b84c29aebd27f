theorem dX2_clear_0 : decode cX2_clear 0 = .ok (.aload_n 0, 1) := by decide +kernel
theorem dX2_clear_1 : decode cX2_clear 1 = .ok (.iconst 0, 1) := by decide +kernel
theorem dX2_clear_2 : decode cX2_clear 2 = .ok (.putfield 33, 3) := by decide +kernel
theorem dX2_clear_5 : decode cX2_clear 5 = .ok (.aload_n 0, 1) := by decide +kernel
theorem dX2_clear_6 : decode cX2_clear 6 = .ok (.iconst 0, 1) := by decide +kernel
theorem dX2_clear_7 : decode cX2_clear 7 = .ok (.putfield 37, 3) := by decide +kernel
theorem dX2_clear_10 : decode cX2_clear 10 = .ok (.aload_n 0, 1) := by decide +kernel
theorem dX2_clear_11 : decode cX2_clear 11 = .ok (.iconst 0, 1) := by decide +kernel
theorem dX2_clear_12 : decode cX2_clear 12 = .ok (.putfield 40, 3) := by decide +kernel
theorem dX2_clear_15 : decode cX2_clear 15 = .ok (.aload_n 0, 1) := by decide +kernel
theorem dX2_clear_16 : decode cX2_clear 16 = .ok (.iconst 0, 1) := by decide +kernel
theorem dX2_clear_17 : decode cX2_clear 17 = .ok (.putfield 43, 3) := by decide +kernel
theorem dX2_clear_20 : decode cX2_clear 20 = .ok (.aload_n 0, 1) := by decide +kernel
theorem dX2_clear_21 : decode cX2_clear 21 = .ok (.iconst 3, 1) := by decide +kernel
theorem dX2_clear_22 : decode cX2_clear 22 = .ok (.putfield 46, 3) := by decide +kernel
theorem dX2_clear_25 : decode cX2_clear 25 = .ok (.aload_n 0, 1) := by decide +kernel
theorem dX2_clear_26 : decode cX2_clear 26 = .ok (.bipush 9, 2) := by decide +kernel
theorem dX2_clear_28 : decode cX2_clear 28 = .ok (.putfield 49, 3) := by decide +kernel
theorem dX2_clear_31 : decode cX2_clear 31 = .ok (.aload_n 0, 1) := by decide +kernel
theorem dX2_clear_32 : decode cX2_clear 32 = .ok (.iconst 0, 1) := by decide +kernel
theorem dX2_clear_33 : decode cX2_clear 33 = .ok (.putfield 52, 3) := by decide +kernel
theorem dX2_clear_36 : decode cX2_clear 36 = .ok (.return_, 1) := by decide +kernel
theorem dX2_copyRow_0 : decode cX2_copyRow 0 = .ok (.iconst 0, 1) := by decide +kernel
theorem dX2_copyRow_1 : decode cX2_copyRow 1 = .ok (.istore_n 2, 1) := by decide +kernel
theorem dX2_copyRow_2 : decode cX2_copyRow 2 = .ok (.iload_n 2, 1) := by decide +kernel
theorem dX2_copyRow_3 : decode cX2_copyRow 3 = .ok (.aload_n 0, 1) := by decide +kernel
theorem dX2_copyRow_4 : decode cX2_copyRow 4 = .ok (.arraylength, 1) := by decide +kernel
theorem dX2_copyRow_5 : decode cX2_copyRow 5 = .ok (.if_icmp .ge 21, 3) := by decide +kernel
theorem dX2_copyRow_8 : decode cX2_copyRow 8 = .ok (.iload_n 2, 1) := by decide +kernel
theorem dX2_copyRow_9 : decode cX2_copyRow 9 = .ok (.aload_n 1, 1) := by decide +kernel
theorem dX2_copyRow_10 : decode cX2_copyRow 10 = .ok (.arraylength, 1) := by decide +kernel
theorem dX2_copyRow_11 : decode cX2_copyRow 11 = .ok (.if_icmp .ge 15, 3) := by decide +kernel
theorem dX2_copyRow_14 : decode cX2_copyRow 14 = .ok (.aload_n 1, 1) := by decide +kernel
theorem dX2_copyRow_15 : decode cX2_copyRow 15 = .ok (.iload_n 2, 1) := by decide +kernel
theorem dX2_copyRow_16 : decode cX2_copyRow 16 = .ok (.aload_n 0, 1) := by decide +kernel
theorem dX2_copyRow_17 : decode cX2_copyRow 17 = .ok (.iload_n 2, 1) := by decide +kernel
theorem dX2_copyRow_18 : decode cX2_copyRow 18 = .ok (.iaload, 1) := by decide +kernel
theorem dX2_copyRow_19 : decode cX2_copyRow 19 = .ok (.iastore, 1) := by decide +kernel
theorem dX2_copyRow_20 : decode cX2_copyRow 20 = .ok (.iinc 2 1, 3) := by decide +kernel
theorem dX2_copyRow_23 : decode cX2_copyRow 23 = .ok (.goto (-21), 3) := by decide +kernel
theorem dX2_copyRow_26 : decode cX2_copyRow 26 = .ok (.return_, 1) := by decide +kernel
theorem dX2_copy_0 : decode cX2_copy 0 = .ok (.aload_n 1, 1) := by decide +kernel
theorem dX2_copy_1 : decode cX2_copy 1 = .ok (.getfield 9, 3) := by decide +kernel
theorem dX2_copy_4 : decode cX2_copy 4 = .ok (.aload_n 0, 1) := by decide +kernel
theorem dX2_copy_5 : decode cX2_copy 5 = .ok (.getfield 9, 3) := by decide +kernel
theorem dX2_copy_8 : decode cX2_copy 8 = .ok (.invokestatic 55, 3) := by decide +kernel
theorem dX2_copy_11 : decode cX2_copy 11 = .ok (.aload_n 1, 1) := by decide +kernel
theorem dX2_copy_12 : decode cX2_copy 12 = .ok (.getfield 15, 3) := by decide +kernel
theorem dX2_copy_15 : decode cX2_copy 15 = .ok (.aload_n 0, 1) := by decide +kernel
theorem dX2_copy_16 : decode cX2_copy 16 = .ok (.getfield 15, 3) := by decide +kernel
theorem dX2_copy_19 : decode cX2_copy 19 = .ok (.invokestatic 55, 3) := by decide +kernel
theorem dX2_copy_22 : decode cX2_copy 22 = .ok (.aload_n 1, 1) := by decide +kernel
theorem dX2_copy_23 : decode cX2_copy 23 = .ok (.getfield 18, 3) := by decide +kernel
theorem dX2_copy_26 : decode cX2_copy 26 = .ok (.aload_n 0, 1) := by decide +kernel
theorem dX2_copy_27 : decode cX2_copy 27 = .ok (.getfield 18, 3) := by decide +kernel
theorem dX2_copy_30 : decode cX2_copy 30 = .ok (.invokestatic 55, 3) := by decide +kernel
theorem dX2_copy_33 : decode cX2_copy 33 = .ok (.aload_n 1, 1) := by decide +kernel
theorem dX2_copy_34 : decode cX2_copy 34 = .ok (.getfield 21, 3) := by decide +kernel
theorem dX2_copy_37 : decode cX2_copy 37 = .ok (.aload_n 0, 1) := by decide +kernel
theorem dX2_copy_38 : decode cX2_copy 38 = .ok (.getfield 21, 3) := by decide +kernel
theorem dX2_copy_41 : decode cX2_copy 41 = .ok (.invokestatic 55, 3) := by decide +kernel
theorem dX2_copy_44 : decode cX2_copy 44 = .ok (.aload_n 1, 1) := by decide +kernel
theorem dX2_copy_45 : decode cX2_copy 45 = .ok (.getfield 24, 3) := by decide +kernel
theorem dX2_copy_48 : decode cX2_copy 48 = .ok (.aload_n 0, 1) := by decide +kernel
theorem dX2_copy_49 : decode cX2_copy 49 = .ok (.getfield 24, 3) := by decide +kernel
theorem dX2_copy_52 : decode cX2_copy 52 = .ok (.invokestatic 55, 3) := by decide +kernel
theorem dX2_copy_55 : decode cX2_copy 55 = .ok (.aload_n 1, 1) := by decide +kernel
theorem dX2_copy_56 : decode cX2_copy 56 = .ok (.getfield 27, 3) := by decide +kernel
theorem dX2_copy_59 : decode cX2_copy 59 = .ok (.aload_n 0, 1) := by decide +kernel
theorem dX2_copy_60 : decode cX2_copy 60 = .ok (.getfield 27, 3) := by decide +kernel
theorem dX2_copy_63 : decode cX2_copy 63 = .ok (.invokestatic 55, 3) := by decide +kernel
theorem dX2_copy_66 : decode cX2_copy 66 = .ok (.aload_n 0, 1) := by decide +kernel
theorem dX2_copy_67 : decode cX2_copy 67 = .ok (.aload_n 1, 1) := by decide +kernel
theorem dX2_copy_68 : decode cX2_copy 68 = .ok (.getfield 33, 3) := by decide +kernel
theorem dX2_copy_71 : decode cX2_copy 71 = .ok (.putfield 33, 3) := by decide +kernel
theorem dX2_copy_74 : decode cX2_copy 74 = .ok (.aload_n 0, 1) := by decide +kernel
theorem dX2_copy_75 : decode cX2_copy 75 = .ok (.aload_n 1, 1) := by decide +kernel
theorem dX2_copy_76 : decode cX2_copy 76 = .ok (.getfield 37, 3) := by decide +kernel
theorem dX2_copy_79 : decode cX2_copy 79 = .ok (.putfield 37, 3) := by decide +kernel
theorem dX2_copy_82 : decode cX2_copy 82 = .ok (.aload_n 0, 1) := by decide +kernel
theorem dX2_copy_83 : decode cX2_copy 83 = .ok (.aload_n 1, 1) := by decide +kernel
theorem dX2_copy_84 : decode cX2_copy 84 = .ok (.getfield 40, 3) := by decide +kernel
theorem dX2_copy_87 : decode cX2_copy 87 = .ok (.putfield 40, 3) := by decide +kernel
theorem dX2_copy_90 : decode cX2_copy 90 = .ok (.aload_n 0, 1) := by decide +kernel
theorem dX2_copy_91 : decode cX2_copy 91 = .ok (.aload_n 1, 1) := by decide +kernel
theorem dX2_copy_92 : decode cX2_copy 92 = .ok (.getfield 43, 3) := by decide +kernel
theorem dX2_copy_95 : decode cX2_copy 95 = .ok (.putfield 43, 3) := by decide +kernel
theorem dX2_copy_98 : decode cX2_copy 98 = .ok (.aload_n 0, 1) := by decide +kernel
theorem dX2_copy_99 : decode cX2_copy 99 = .ok (.aload_n 1, 1) := by decide +kernel
theorem dX2_copy_100 : decode cX2_copy 100 = .ok (.getfield 46, 3) := by decide +kernel
theorem dX2_copy_103 : decode cX2_copy 103 = .ok (.putfield 46, 3) := by decide +kernel
theorem dX2_copy_106 : decode cX2_copy 106 = .ok (.aload_n 0, 1) := by decide +kernel
theorem dX2_copy_107 : decode cX2_copy 107 = .ok (.aload_n 1, 1) := by decide +kernel
theorem dX2_copy_108 : decode cX2_copy 108 = .ok (.getfield 49, 3) := by decide +kernel
theorem dX2_copy_111 : decode cX2_copy 111 = .ok (.putfield 49, 3) := by decide +kernel
theorem dX2_copy_114 : decode cX2_copy 114 = .ok (.aload_n 0, 1) := by decide +kernel
theorem dX2_copy_115 : decode cX2_copy 115 = .ok (.aload_n 1, 1) := by decide +kernel
theorem dX2_copy_116 : decode cX2_copy 116 = .ok (.getfield 52, 3) := by decide +kernel
theorem dX2_copy_119 : decode cX2_copy 119 = .ok (.putfield 52, 3) := by decide +kernel
theorem dX2_copy_122 : decode cX2_copy 122 = .ok (.return_, 1) := by decide +kernel
theorem dX2_addHair_0 : decode cX2_addHair 0 = .ok (.aload_n 0, 1) := by decide +kernel
theorem dX2_addHair_1 : decode cX2_addHair 1 = .ok (.getfield 33, 3) := by decide +kernel
theorem dX2_addHair_4 : decode cX2_addHair 4 = .ok (.iconst 3, 1) := by decide +kernel
theorem dX2_addHair_5 : decode cX2_addHair 5 = .ok (.if_icmp .lt 5, 3) := by decide +kernel
theorem dX2_addHair_8 : decode cX2_addHair 8 = .ok (.iconst 0, 1) := by decide +kernel
theorem dX2_addHair_9 : decode cX2_addHair 9 = .ok (.ireturn, 1) := by decide +kernel
theorem dX2_addHair_10 : decode cX2_addHair 10 = .ok (.aload_n 0, 1) := by decide +kernel
theorem dX2_addHair_11 : decode cX2_addHair 11 = .ok (.getfield 9, 3) := by decide +kernel
theorem dX2_addHair_14 : decode cX2_addHair 14 = .ok (.aload_n 0, 1) := by decide +kernel
theorem dX2_addHair_15 : decode cX2_addHair 15 = .ok (.getfield 33, 3) := by decide +kernel
theorem dX2_addHair_18 : decode cX2_addHair 18 = .ok (.iload_n 1, 1) := by decide +kernel
theorem dX2_addHair_19 : decode cX2_addHair 19 = .ok (.iastore, 1) := by decide +kernel
theorem dX2_addHair_20 : decode cX2_addHair 20 = .ok (.aload_n 0, 1) := by decide +kernel
theorem dX2_addHair_21 : decode cX2_addHair 21 = .ok (.getfield 15, 3) := by decide +kernel
theorem dX2_addHair_24 : decode cX2_addHair 24 = .ok (.aload_n 0, 1) := by decide +kernel
theorem dX2_addHair_25 : decode cX2_addHair 25 = .ok (.getfield 33, 3) := by decide +kernel
theorem dX2_addHair_28 : decode cX2_addHair 28 = .ok (.iload_n 2, 1) := by decide +kernel
theorem dX2_addHair_29 : decode cX2_addHair 29 = .ok (.iastore, 1) := by decide +kernel
theorem dX2_addHair_30 : decode cX2_addHair 30 = .ok (.aload_n 0, 1) := by decide +kernel
theorem dX2_addHair_31 : decode cX2_addHair 31 = .ok (.dup, 1) := by decide +kernel
theorem dX2_addHair_32 : decode cX2_addHair 32 = .ok (.getfield 43, 3) := by decide +kernel
theorem dX2_addHair_35 : decode cX2_addHair 35 = .ok (.iconst 1, 1) := by decide +kernel
theorem dX2_addHair_36 : decode cX2_addHair 36 = .ok (.aload_n 0, 1) := by decide +kernel
theorem dX2_addHair_37 : decode cX2_addHair 37 = .ok (.getfield 33, 3) := by decide +kernel
theorem dX2_addHair_40 : decode cX2_addHair 40 = .ok (.ishl, 1) := by decide +kernel
theorem dX2_addHair_41 : decode cX2_addHair 41 = .ok (.ior, 1) := by decide +kernel
theorem dX2_addHair_42 : decode cX2_addHair 42 = .ok (.putfield 43, 3) := by decide +kernel
theorem dX2_addHair_45 : decode cX2_addHair 45 = .ok (.aload_n 0, 1) := by decide +kernel
theorem dX2_addHair_46 : decode cX2_addHair 46 = .ok (.dup, 1) := by decide +kernel
theorem dX2_addHair_47 : decode cX2_addHair 47 = .ok (.getfield 33, 3) := by decide +kernel
theorem dX2_addHair_50 : decode cX2_addHair 50 = .ok (.iconst 1, 1) := by decide +kernel
theorem dX2_addHair_51 : decode cX2_addHair 51 = .ok (.iadd, 1) := by decide +kernel
theorem dX2_addHair_52 : decode cX2_addHair 52 = .ok (.putfield 33, 3) := by decide +kernel
theorem dX2_addHair_55 : decode cX2_addHair 55 = .ok (.iconst 1, 1) := by decide +kernel
theorem dX2_addHair_56 : decode cX2_addHair 56 = .ok (.ireturn, 1) := by decide +kernel
theorem dX2_addKing_0 : decode cX2_addKing 0 = .ok (.aload_n 0, 1) := by decide +kernel
theorem dX2_addKing_1 : decode cX2_addKing 1 = .ok (.getfield 37, 3) := by decide +kernel
theorem dX2_addKing_4 : decode cX2_addKing 4 = .ok (.iconst 4, 1) := by decide +kernel
theorem dX2_addKing_5 : decode cX2_addKing 5 = .ok (.if_icmp .lt 5, 3) := by decide +kernel
theorem dX2_addKing_8 : decode cX2_addKing 8 = .ok (.iconst 0, 1) := by decide +kernel
theorem dX2_addKing_9 : decode cX2_addKing 9 = .ok (.ireturn, 1) := by decide +kernel
theorem dX2_addKing_10 : decode cX2_addKing 10 = .ok (.aload_n 0, 1) := by decide +kernel
theorem dX2_addKing_11 : decode cX2_addKing 11 = .ok (.getfield 18, 3) := by decide +kernel
theorem dX2_addKing_14 : decode cX2_addKing 14 = .ok (.aload_n 0, 1) := by decide +kernel
theorem dX2_addKing_15 : decode cX2_addKing 15 = .ok (.getfield 37, 3) := by decide +kernel
theorem dX2_addKing_18 : decode cX2_addKing 18 = .ok (.iload_n 1, 1) := by decide +kernel
theorem dX2_addKing_19 : decode cX2_addKing 19 = .ok (.iastore, 1) := by decide +kernel
theorem dX2_addKing_20 : decode cX2_addKing 20 = .ok (.aload_n 0, 1) := by decide +kernel
theorem dX2_addKing_21 : decode cX2_addKing 21 = .ok (.getfield 21, 3) := by decide +kernel
theorem dX2_addKing_24 : decode cX2_addKing 24 = .ok (.aload_n 0, 1) := by decide +kernel
theorem dX2_addKing_25 : decode cX2_addKing 25 = .ok (.getfield 37, 3) := by decide +kernel
theorem dX2_addKing_28 : decode cX2_addKing 28 = .ok (.iload_n 2, 1) := by decide +kernel
theorem dX2_addKing_29 : decode cX2_addKing 29 = .ok (.iastore, 1) := by decide +kernel
theorem dX2_addKing_30 : decode cX2_addKing 30 = .ok (.aload_n 0, 1) := by decide +kernel
theorem dX2_addKing_31 : decode cX2_addKing 31 = .ok (.dup, 1) := by decide +kernel
theorem dX2_addKing_32 : decode cX2_addKing 32 = .ok (.getfield 37, 3) := by decide +kernel
theorem dX2_addKing_35 : decode cX2_addKing 35 = .ok (.iconst 1, 1) := by decide +kernel
theorem dX2_addKing_36 : decode cX2_addKing 36 = .ok (.iadd, 1) := by decide +kernel
theorem dX2_addKing_37 : decode cX2_addKing 37 = .ok (.putfield 37, 3) := by decide +kernel
theorem dX2_addKing_40 : decode cX2_addKing 40 = .ok (.iconst 1, 1) := by decide +kernel
theorem dX2_addKing_41 : decode cX2_addKing 41 = .ok (.ireturn, 1) := by decide +kernel
theorem dX2_addLaw_0 : decode cX2_addLaw 0 = .ok (.aload_n 0, 1) := by decide +kernel
theorem dX2_addLaw_1 : decode cX2_addLaw 1 = .ok (.getfield 40, 3) := by decide +kernel
theorem dX2_addLaw_4 : decode cX2_addLaw 4 = .ok (.iconst 3, 1) := by decide +kernel
theorem dX2_addLaw_5 : decode cX2_addLaw 5 = .ok (.if_icmp .lt 5, 3) := by decide +kernel
theorem dX2_addLaw_8 : decode cX2_addLaw 8 = .ok (.iconst 0, 1) := by decide +kernel
theorem dX2_addLaw_9 : decode cX2_addLaw 9 = .ok (.ireturn, 1) := by decide +kernel
theorem dX2_addLaw_10 : decode cX2_addLaw 10 = .ok (.aload_n 0, 1) := by decide +kernel
theorem dX2_addLaw_11 : decode cX2_addLaw 11 = .ok (.getfield 24, 3) := by decide +kernel
theorem dX2_addLaw_14 : decode cX2_addLaw 14 = .ok (.aload_n 0, 1) := by decide +kernel
theorem dX2_addLaw_15 : decode cX2_addLaw 15 = .ok (.getfield 40, 3) := by decide +kernel
theorem dX2_addLaw_18 : decode cX2_addLaw 18 = .ok (.iload_n 1, 1) := by decide +kernel
theorem dX2_addLaw_19 : decode cX2_addLaw 19 = .ok (.iastore, 1) := by decide +kernel
theorem dX2_addLaw_20 : decode cX2_addLaw 20 = .ok (.aload_n 0, 1) := by decide +kernel
theorem dX2_addLaw_21 : decode cX2_addLaw 21 = .ok (.getfield 27, 3) := by decide +kernel
theorem dX2_addLaw_24 : decode cX2_addLaw 24 = .ok (.aload_n 0, 1) := by decide +kernel
theorem dX2_addLaw_25 : decode cX2_addLaw 25 = .ok (.getfield 40, 3) := by decide +kernel
theorem dX2_addLaw_28 : decode cX2_addLaw 28 = .ok (.iload_n 2, 1) := by decide +kernel
theorem dX2_addLaw_29 : decode cX2_addLaw 29 = .ok (.iastore, 1) := by decide +kernel
theorem dX2_addLaw_30 : decode cX2_addLaw 30 = .ok (.aload_n 0, 1) := by decide +kernel
theorem dX2_addLaw_31 : decode cX2_addLaw 31 = .ok (.dup, 1) := by decide +kernel
theorem dX2_addLaw_32 : decode cX2_addLaw 32 = .ok (.getfield 40, 3) := by decide +kernel
theorem dX2_addLaw_35 : decode cX2_addLaw 35 = .ok (.iconst 1, 1) := by decide +kernel
theorem dX2_addLaw_36 : decode cX2_addLaw 36 = .ok (.iadd, 1) := by decide +kernel
theorem dX2_addLaw_37 : decode cX2_addLaw 37 = .ok (.putfield 40, 3) := by decide +kernel
theorem dX2_addLaw_40 : decode cX2_addLaw 40 = .ok (.iconst 1, 1) := by decide +kernel
theorem dX2_addLaw_41 : decode cX2_addLaw 41 = .ok (.ireturn, 1) := by decide +kernel
theorem dX2_wholeBit_0 : decode cX2_wholeBit 0 = .ok (.aload_n 0, 1) := by decide +kernel
theorem dX2_wholeBit_1 : decode cX2_wholeBit 1 = .ok (.getfield 43, 3) := by decide +kernel
theorem dX2_wholeBit_4 : decode cX2_wholeBit 4 = .ok (.iload_n 1, 1) := by decide +kernel
theorem dX2_wholeBit_5 : decode cX2_wholeBit 5 = .ok (.ishr, 1) := by decide +kernel
theorem dX2_wholeBit_6 : decode cX2_wholeBit 6 = .ok (.iconst 1, 1) := by decide +kernel
theorem dX2_wholeBit_7 : decode cX2_wholeBit 7 = .ok (.iand, 1) := by decide +kernel
theorem dX2_wholeBit_8 : decode cX2_wholeBit 8 = .ok (.ireturn, 1) := by decide +kernel
theorem dX2_breaks_0 : decode cX2_breaks 0 = .ok (.aload_n 0, 1) := by decide +kernel
theorem dX2_breaks_1 : decode cX2_breaks 1 = .ok (.iload_n 1, 1) := by decide +kernel
theorem dX2_breaks_2 : decode cX2_breaks 2 = .ok (.invokevirtual 59, 3) := by decide +kernel
theorem dX2_breaks_5 : decode cX2_breaks 5 = .ok (.ifCond .ne 5, 3) := by decide +kernel
theorem dX2_breaks_8 : decode cX2_breaks 8 = .ok (.iconst 0, 1) := by decide +kernel
theorem dX2_breaks_9 : decode cX2_breaks 9 = .ok (.ireturn, 1) := by decide +kernel
theorem dX2_breaks_10 : decode cX2_breaks 10 = .ok (.aload_n 0, 1) := by decide +kernel
theorem dX2_breaks_11 : decode cX2_breaks 11 = .ok (.getfield 9, 3) := by decide +kernel
theorem dX2_breaks_14 : decode cX2_breaks 14 = .ok (.iload_n 1, 1) := by decide +kernel
theorem dX2_breaks_15 : decode cX2_breaks 15 = .ok (.iaload, 1) := by decide +kernel
theorem dX2_breaks_16 : decode cX2_breaks 16 = .ok (.aload_n 0, 1) := by decide +kernel
theorem dX2_breaks_17 : decode cX2_breaks 17 = .ok (.getfield 15, 3) := by decide +kernel
theorem dX2_breaks_20 : decode cX2_breaks 20 = .ok (.iload_n 1, 1) := by decide +kernel
theorem dX2_breaks_21 : decode cX2_breaks 21 = .ok (.iaload, 1) := by decide +kernel
theorem dX2_breaks_22 : decode cX2_breaks 22 = .ok (.aload_n 0, 1) := by decide +kernel
theorem dX2_breaks_23 : decode cX2_breaks 23 = .ok (.getfield 46, 3) := by decide +kernel
theorem dX2_breaks_26 : decode cX2_breaks 26 = .ok (.aload_n 0, 1) := by decide +kernel
theorem dX2_breaks_27 : decode cX2_breaks 27 = .ok (.getfield 43, 3) := by decide +kernel
theorem dX2_breaks_30 : decode cX2_breaks 30 = .ok (.invokestatic 63, 3) := by decide +kernel
theorem dX2_breaks_33 : decode cX2_breaks 33 = .ok (.invokestatic 68, 3) := by decide +kernel
theorem dX2_breaks_36 : decode cX2_breaks 36 = .ok (.ireturn, 1) := by decide +kernel
theorem dX2_tryHour_0 : decode cX2_tryHour 0 = .ok (.iload_n 1, 1) := by decide +kernel
theorem dX2_tryHour_1 : decode cX2_tryHour 1 = .ok (.ifCond .lt 14, 3) := by decide +kernel
theorem dX2_tryHour_4 : decode cX2_tryHour 4 = .ok (.iload_n 1, 1) := by decide +kernel
theorem dX2_tryHour_5 : decode cX2_tryHour 5 = .ok (.aload_n 0, 1) := by decide +kernel
theorem dX2_tryHour_6 : decode cX2_tryHour 6 = .ok (.getfield 43, 3) := by decide +kernel
theorem dX2_tryHour_9 : decode cX2_tryHour 9 = .ok (.iconst (-1), 1) := by decide +kernel
theorem dX2_tryHour_10 : decode cX2_tryHour 10 = .ok (.ixor, 1) := by decide +kernel
theorem dX2_tryHour_11 : decode cX2_tryHour 11 = .ok (.iand, 1) := by decide +kernel
theorem dX2_tryHour_12 : decode cX2_tryHour 12 = .ok (.ifCond .eq 5, 3) := by decide +kernel
theorem dX2_tryHour_15 : decode cX2_tryHour 15 = .ok (.iconst (-1), 1) := by decide +kernel
theorem dX2_tryHour_16 : decode cX2_tryHour 16 = .ok (.ireturn, 1) := by decide +kernel
theorem dX2_tryHour_17 : decode cX2_tryHour 17 = .ok (.aload_n 0, 1) := by decide +kernel
theorem dX2_tryHour_18 : decode cX2_tryHour 18 = .ok (.getfield 43, 3) := by decide +kernel
theorem dX2_tryHour_21 : decode cX2_tryHour 21 = .ok (.ifCond .ne 6, 3) := by decide +kernel
theorem dX2_tryHour_24 : decode cX2_tryHour 24 = .ok (.bipush (-2), 2) := by decide +kernel
theorem dX2_tryHour_26 : decode cX2_tryHour 26 = .ok (.ireturn, 1) := by decide +kernel
theorem dX2_tryHour_27 : decode cX2_tryHour 27 = .ok (.aload_n 0, 1) := by decide +kernel
theorem dX2_tryHour_28 : decode cX2_tryHour 28 = .ok (.getfield 52, 3) := by decide +kernel
theorem dX2_tryHour_31 : decode cX2_tryHour 31 = .ok (.bipush 99, 2) := by decide +kernel
theorem dX2_tryHour_33 : decode cX2_tryHour 33 = .ok (.if_icmp .lt 6, 3) := by decide +kernel
theorem dX2_tryHour_36 : decode cX2_tryHour 36 = .ok (.bipush (-3), 2) := by decide +kernel
theorem dX2_tryHour_38 : decode cX2_tryHour 38 = .ok (.ireturn, 1) := by decide +kernel
theorem dX2_tryHour_39 : decode cX2_tryHour 39 = .ok (.aload_n 0, 1) := by decide +kernel
theorem dX2_tryHour_40 : decode cX2_tryHour 40 = .ok (.iload_n 1, 1) := by decide +kernel
theorem dX2_tryHour_41 : decode cX2_tryHour 41 = .ok (.invokevirtual 72, 3) := by decide +kernel
theorem dX2_tryHour_44 : decode cX2_tryHour 44 = .ok (.aload_n 0, 1) := by decide +kernel
theorem dX2_tryHour_45 : decode cX2_tryHour 45 = .ok (.getfield 43, 3) := by decide +kernel
theorem dX2_tryHour_48 : decode cX2_tryHour 48 = .ok (.invokestatic 63, 3) := by decide +kernel
theorem dX2_tryHour_51 : decode cX2_tryHour 51 = .ok (.ireturn, 1) := by decide +kernel
theorem dX2_passHour_0 : decode cX2_passHour 0 = .ok (.aload_n 0, 1) := by decide +kernel
theorem dX2_passHour_1 : decode cX2_passHour 1 = .ok (.dup, 1) := by decide +kernel
theorem dX2_passHour_2 : decode cX2_passHour 2 = .ok (.getfield 43, 3) := by decide +kernel
theorem dX2_passHour_5 : decode cX2_passHour 5 = .ok (.iload_n 1, 1) := by decide +kernel
theorem dX2_passHour_6 : decode cX2_passHour 6 = .ok (.iconst (-1), 1) := by decide +kernel
theorem dX2_passHour_7 : decode cX2_passHour 7 = .ok (.ixor, 1) := by decide +kernel
theorem dX2_passHour_8 : decode cX2_passHour 8 = .ok (.iand, 1) := by decide +kernel
theorem dX2_passHour_9 : decode cX2_passHour 9 = .ok (.putfield 43, 3) := by decide +kernel
theorem dX2_passHour_12 : decode cX2_passHour 12 = .ok (.iconst 0, 1) := by decide +kernel
theorem dX2_passHour_13 : decode cX2_passHour 13 = .ok (.istore_n 2, 1) := by decide +kernel
theorem dX2_passHour_14 : decode cX2_passHour 14 = .ok (.iload_n 2, 1) := by decide +kernel
theorem dX2_passHour_15 : decode cX2_passHour 15 = .ok (.aload_n 0, 1) := by decide +kernel
theorem dX2_passHour_16 : decode cX2_passHour 16 = .ok (.getfield 33, 3) := by decide +kernel
theorem dX2_passHour_19 : decode cX2_passHour 19 = .ok (.if_icmp .ge 28, 3) := by decide +kernel
theorem dX2_passHour_22 : decode cX2_passHour 22 = .ok (.aload_n 0, 1) := by decide +kernel
theorem dX2_passHour_23 : decode cX2_passHour 23 = .ok (.getfield 15, 3) := by decide +kernel
theorem dX2_passHour_26 : decode cX2_passHour 26 = .ok (.iload_n 2, 1) := by decide +kernel
theorem dX2_passHour_27 : decode cX2_passHour 27 = .ok (.bipush 9, 2) := by decide +kernel
theorem dX2_passHour_29 : decode cX2_passHour 29 = .ok (.aload_n 0, 1) := by decide +kernel
theorem dX2_passHour_30 : decode cX2_passHour 30 = .ok (.getfield 15, 3) := by decide +kernel
theorem dX2_passHour_33 : decode cX2_passHour 33 = .ok (.iload_n 2, 1) := by decide +kernel
theorem dX2_passHour_34 : decode cX2_passHour 34 = .ok (.iaload, 1) := by decide +kernel
theorem dX2_passHour_35 : decode cX2_passHour 35 = .ok (.iconst 1, 1) := by decide +kernel
theorem dX2_passHour_36 : decode cX2_passHour 36 = .ok (.iadd, 1) := by decide +kernel
theorem dX2_passHour_37 : decode cX2_passHour 37 = .ok (.invokestatic 76, 3) := by decide +kernel
theorem dX2_passHour_40 : decode cX2_passHour 40 = .ok (.iastore, 1) := by decide +kernel
theorem dX2_passHour_41 : decode cX2_passHour 41 = .ok (.iinc 2 1, 3) := by decide +kernel
theorem dX2_passHour_44 : decode cX2_passHour 44 = .ok (.goto (-30), 3) := by decide +kernel
theorem dX2_passHour_47 : decode cX2_passHour 47 = .ok (.aload_n 0, 1) := by decide +kernel
theorem dX2_passHour_48 : decode cX2_passHour 48 = .ok (.dup, 1) := by decide +kernel
theorem dX2_passHour_49 : decode cX2_passHour 49 = .ok (.getfield 52, 3) := by decide +kernel
theorem dX2_passHour_52 : decode cX2_passHour 52 = .ok (.iconst 1, 1) := by decide +kernel
theorem dX2_passHour_53 : decode cX2_passHour 53 = .ok (.iadd, 1) := by decide +kernel
theorem dX2_passHour_54 : decode cX2_passHour 54 = .ok (.putfield 52, 3) := by decide +kernel
theorem dX2_passHour_57 : decode cX2_passHour 57 = .ok (.return_, 1) := by decide +kernel
theorem dX2_allAges_0 : decode cX2_allAges 0 = .ok (.iconst 0, 1) := by decide +kernel
theorem dX2_allAges_1 : decode cX2_allAges 1 = .ok (.istore_n 1, 1) := by decide +kernel
theorem dX2_allAges_2 : decode cX2_allAges 2 = .ok (.iconst 0, 1) := by decide +kernel
theorem dX2_allAges_3 : decode cX2_allAges 3 = .ok (.istore_n 2, 1) := by decide +kernel
theorem dX2_allAges_4 : decode cX2_allAges 4 = .ok (.iload_n 2, 1) := by decide +kernel
theorem dX2_allAges_5 : decode cX2_allAges 5 = .ok (.aload_n 0, 1) := by decide +kernel
theorem dX2_allAges_6 : decode cX2_allAges 6 = .ok (.getfield 33, 3) := by decide +kernel
theorem dX2_allAges_9 : decode cX2_allAges 9 = .ok (.if_icmp .ge 18, 3) := by decide +kernel
theorem dX2_allAges_12 : decode cX2_allAges 12 = .ok (.iload_n 1, 1) := by decide +kernel
theorem dX2_allAges_13 : decode cX2_allAges 13 = .ok (.aload_n 0, 1) := by decide +kernel
theorem dX2_allAges_14 : decode cX2_allAges 14 = .ok (.getfield 15, 3) := by decide +kernel
theorem dX2_allAges_17 : decode cX2_allAges 17 = .ok (.iload_n 2, 1) := by decide +kernel
theorem dX2_allAges_18 : decode cX2_allAges 18 = .ok (.iaload, 1) := by decide +kernel
theorem dX2_allAges_19 : decode cX2_allAges 19 = .ok (.iadd, 1) := by decide +kernel
theorem dX2_allAges_20 : decode cX2_allAges 20 = .ok (.istore_n 1, 1) := by decide +kernel
theorem dX2_allAges_21 : decode cX2_allAges 21 = .ok (.iinc 2 1, 3) := by decide +kernel
theorem dX2_allAges_24 : decode cX2_allAges 24 = .ok (.goto (-20), 3) := by decide +kernel
theorem dX2_allAges_27 : decode cX2_allAges 27 = .ok (.iload_n 1, 1) := by decide +kernel
theorem dX2_allAges_28 : decode cX2_allAges 28 = .ok (.ireturn, 1) := by decide +kernel
def rclear (r : rT) : rT := fun x => if x = 6 then (fun j => match j with
  | 4 => 3
  | 5 => 9
  | _ => 0) else r x
set_option maxRecDepth 100000 in
set_option maxHeartbeats 4000000 in
theorem mX2_clear (r : rT) : J KX2_clear 7 (fun o B => o = none ∧ B = wR (rclear r)) 0 [some (.ref 0)] [] (wR r) 0 0 := by
  unfold wR
  refine J.aload_n dX2_clear_0 rfl rfl ?_
  refine J.iconst (0) dX2_clear_1 (by decide) ?_
  refine J.putfield dX2_clear_2 jFX2_33 jP2_6 rfl rfl rfl (Nat.le_of_ble_eq_true rfl) ?_
  dsimp only [List.set]
  refine J.aload_n dX2_clear_5 rfl rfl ?_
  refine J.iconst (0) dX2_clear_6 (by decide) ?_
  refine J.putfield dX2_clear_7 jFX2_37 jP2_7 rfl rfl rfl (Nat.le_of_ble_eq_true rfl) ?_
  dsimp only [List.set]
  refine J.aload_n dX2_clear_10 rfl rfl ?_
  refine J.iconst (0) dX2_clear_11 (by decide) ?_
  refine J.putfield dX2_clear_12 jFX2_40 jP2_8 rfl rfl rfl (Nat.le_of_ble_eq_true rfl) ?_
  dsimp only [List.set]
  refine J.aload_n dX2_clear_15 rfl rfl ?_
  refine J.iconst (0) dX2_clear_16 (by decide) ?_
  refine J.putfield dX2_clear_17 jFX2_43 jP2_9 rfl rfl rfl (Nat.le_of_ble_eq_true rfl) ?_
  dsimp only [List.set]
  refine J.aload_n dX2_clear_20 rfl rfl ?_
  refine J.iconst (3) dX2_clear_21 (by decide) ?_
  refine J.putfield dX2_clear_22 jFX2_46 jP2_10 rfl rfl rfl (Nat.le_of_ble_eq_true rfl) ?_
  dsimp only [List.set]
  refine J.aload_n dX2_clear_25 rfl rfl ?_
  refine J.bipush (9) dX2_clear_26 (by decide) ?_
  refine J.putfield dX2_clear_28 jFX2_49 jP2_11 rfl rfl rfl (Nat.le_of_ble_eq_true rfl) ?_
  dsimp only [List.set]
  refine J.aload_n dX2_clear_31 rfl rfl ?_
  refine J.iconst (0) dX2_clear_32 (by decide) ?_
  refine J.putfield dX2_clear_33 jFX2_52 jP2_12 rfl rfl rfl (Nat.le_of_ble_eq_true rfl) ?_
  dsimp only [List.set]
  exact J.vret dX2_clear_36 rfl (Nat.le_refl _) (Nat.le_refl _) ⟨rfl, rfl⟩
theorem bit_eval : ∀ w, w < 8 → ∀ i, i < 3 → nI w >>> (nI i &&& 31) &&& 1 = nI (bit w i) := by decide +kernel
set_option maxRecDepth 100000 in
set_option maxHeartbeats 4000000 in
theorem mX2_wholeBit (r : rT) (i : Nat) (hw : r 6 3 < 8) (hi : i < 3) : J KX2_wholeBit 7 (fun o B => o = some (.int (nI (bit (r 6 3) i))) ∧ B = wR r) 0 [some (.ref 0), some (.int (nI i))] [] (wR r) 0 0 := by
  unfold wR
  refine J.aload_n dX2_wholeBit_0 rfl rfl ?_
  refine J.getfield dX2_wholeBit_1 jFX2_43 rfl rfl ?_
  refine J.iload_n dX2_wholeBit_4 rfl rfl ?_
  refine J.ishr dX2_wholeBit_5 ?_
  refine J.iconst (1) dX2_wholeBit_6 (by decide) ?_
  refine J.iand dX2_wholeBit_7 ?_
  exact J.iret dX2_wholeBit_8 rfl rfl (Nat.le_refl _) (Nat.le_refl _) ⟨congrArg (fun x => some (Value.int x)) (bit_eval _ hw i hi), rfl⟩
set_option maxRecDepth 100000 in
set_option maxHeartbeats 4000000 in
theorem mX2_copyRow_l (n : Nat) (f g : Nat → Int32) (hn : n < 2147483648) : ∀ (k i : Nat), i + k = n → J KX2_copyRow 2 (fun o B => o = none ∧ B = [.inl (0, n, .inl f), .inl (0, n, .inl f)]) 2 [some (.ref 0), some (.ref 1), some (.int (nI i))] [] [.inl (0, n, .inl f), .inl (0, n, .inl (fun j => if j < i then f j else g j))] 0 0 := by
  intro k
  induction k with
  | zero =>
    intro i hi
    obtain rfl : i = n := by omega
    refine J.iload_n dX2_copyRow_2 rfl rfl ?_
    refine J.aload_n dX2_copyRow_3 rfl rfl ?_
    refine J.arraylength dX2_copyRow_4 rfl (by decide) ?_
    refine J.icmp_ge (tgt := 26) dX2_copyRow_5 (by decide) (fun c5 => ?_) (fun c5 => absurd c5 (fun h => h (Int32.le_refl _)))
    refine J.arrI 1 0 f rfl (fun j hj => if_pos hj) ?_
    exact J.vret dX2_copyRow_26 rfl (Nat.le_refl _) (Nat.le_refl _) ⟨rfl, rfl⟩
  | succ k ih =>
    intro i hi
    refine J.iload_n dX2_copyRow_2 rfl rfl ?_
    refine J.aload_n dX2_copyRow_3 rfl rfl ?_
    refine J.arraylength dX2_copyRow_4 rfl (by decide) ?_
    refine J.icmp_ge (tgt := 26) dX2_copyRow_5 (by decide) (fun c5 => absurd c5 (nI_ge (by omega) hn)) (fun c5 => ?_)
    refine J.iload_n dX2_copyRow_8 rfl rfl ?_
    refine J.aload_n dX2_copyRow_9 rfl rfl ?_
    refine J.arraylength dX2_copyRow_10 rfl (by decide) ?_
    refine J.icmp_ge (tgt := 26) dX2_copyRow_11 (by decide) (fun c11 => absurd c11 (nI_ge (by omega) hn)) (fun c11 => ?_)
    refine J.aload_n dX2_copyRow_14 rfl rfl ?_
    refine J.iload_n dX2_copyRow_15 rfl rfl ?_
    refine J.aload_n dX2_copyRow_16 rfl rfl ?_
    refine J.iload_n dX2_copyRow_17 rfl rfl ?_
    refine J.ialoadN dX2_copyRow_18 rfl (show i < n by omega) ?_ hn
    refine J.iastoreN dX2_copyRow_19 rfl (show i < n by omega) ?_ hn
    dsimp only [List.set]
    refine J.iinc (1) dX2_copyRow_20 (by decide) rfl (by decide) rfl ?_
    dsimp only [List.set]
    refine J.goto (tgt := 2) dX2_copyRow_23 (by decide) ?_
    exact J.at (ih (i + 1) (by omega)) (by rw [← nI_1]) rfl (by rw [← jlt_s]; rfl)
set_option maxRecDepth 100000 in
set_option maxHeartbeats 4000000 in
theorem mX2_copyRow (n : Nat) (f g : Nat → Int32) (hn : n < 2147483648) : J KX2_copyRow 2 (fun o B => o = none ∧ B = [.inl (0, n, .inl f), .inl (0, n, .inl f)]) 0 [some (.ref 0), some (.ref 1), none] [] [.inl (0, n, .inl f), .inl (0, n, .inl g)] 0 0 := by
  refine J.iconst (0) dX2_copyRow_0 (by decide) ?_
  refine J.istore_n dX2_copyRow_1 rfl (by decide) rfl ?_
  dsimp only [List.set]
  exact J.at (mX2_copyRow_l n f g hn n 0 (by omega)) rfl rfl (by rw [jlt_0])
/-- a realm whose cells are numbered from b on -/
def wRb (b : Nat) (r : rT) : jW := [.inr (2, [.ref (b + 1), .ref (b + 2), .ref (b + 3), .ref (b + 4), .ref (b + 5), .ref (b + 6), .int (nI (r 6 0)), .int (nI (r 6 1)), .int (nI (r 6 2)), .int (nI (r 6 3)), .int (nI (r 6 4)), .int (nI (r 6 5)), .int (nI (r 6 6))]),
  .inl (0, 3, .inl (fun j => nI (r 0 j))), .inl (0, 3, .inl (fun j => nI (r 1 j))), .inl (0, 4, .inl (fun j => nI (r 2 j))), .inl (0, 4, .inl (fun j => nI (r 3 j))), .inl (0, 3, .inl (fun j => nI (r 4 j))), .inl (0, 3, .inl (fun j => nI (r 5 j)))]
set_option maxRecDepth 100000 in
set_option maxHeartbeats 4000000 in
theorem mX2_copy (r o : rT) : J KX2_copy 14 (fun v B => v = none ∧ B = wR o ++ wRb 7 o) 0 [some (.ref 0), some (.ref 7)] [] (wR r ++ wRb 7 o) 0 0 := by
  unfold wR wRb
  dsimp only [List.cons_append, List.nil_append]
  refine J.aload_n dX2_copy_0 rfl rfl ?_
  refine J.getfield dX2_copy_1 jFX2_9 rfl rfl ?_
  refine J.aload_n dX2_copy_4 rfl rfl ?_
  refine J.getfield dX2_copy_5 jFX2_9 rfl rfl ?_
  refine J.cs (as := [.ref 0, .ref 1]) (is := [8, 1]) okX2_copyRow jcX2_55 (mX2_copyRow 3 (fun j => nI (o 0 j)) (fun j => nI (r 0 j)) (by decide)) dX2_copy_8 rfl rfl rfl rfl rfl rfl (fun r9 B9 hq => ?_)
  obtain ⟨rfl, rfl⟩ := hq
  refine ⟨rfl, ?_⟩
  dsimp only [Option.map, Option.toList, jput, List.map, jrE, jgA, jg, jr, List.set, List.cons_append, List.nil_append]
  refine J.aload_n dX2_copy_11 rfl rfl ?_
  refine J.getfield dX2_copy_12 jFX2_15 rfl rfl ?_
  refine J.aload_n dX2_copy_15 rfl rfl ?_
  refine J.getfield dX2_copy_16 jFX2_15 rfl rfl ?_
  refine J.cs (as := [.ref 0, .ref 1]) (is := [9, 2]) okX2_copyRow jcX2_55 (mX2_copyRow 3 (fun j => nI (o 1 j)) (fun j => nI (r 1 j)) (by decide)) dX2_copy_19 rfl rfl rfl rfl rfl rfl (fun r9 B9 hq => ?_)
  obtain ⟨rfl, rfl⟩ := hq
  refine ⟨rfl, ?_⟩
  dsimp only [Option.map, Option.toList, jput, List.map, jrE, jgA, jg, jr, List.set, List.cons_append, List.nil_append]
  refine J.aload_n dX2_copy_22 rfl rfl ?_
  refine J.getfield dX2_copy_23 jFX2_18 rfl rfl ?_
  refine J.aload_n dX2_copy_26 rfl rfl ?_
  refine J.getfield dX2_copy_27 jFX2_18 rfl rfl ?_
  refine J.cs (as := [.ref 0, .ref 1]) (is := [10, 3]) okX2_copyRow jcX2_55 (mX2_copyRow 4 (fun j => nI (o 2 j)) (fun j => nI (r 2 j)) (by decide)) dX2_copy_30 rfl rfl rfl rfl rfl rfl (fun r9 B9 hq => ?_)
  obtain ⟨rfl, rfl⟩ := hq
  refine ⟨rfl, ?_⟩
  dsimp only [Option.map, Option.toList, jput, List.map, jrE, jgA, jg, jr, List.set, List.cons_append, List.nil_append]
  refine J.aload_n dX2_copy_33 rfl rfl ?_
  refine J.getfield dX2_copy_34 jFX2_21 rfl rfl ?_
  refine J.aload_n dX2_copy_37 rfl rfl ?_
  refine J.getfield dX2_copy_38 jFX2_21 rfl rfl ?_
  refine J.cs (as := [.ref 0, .ref 1]) (is := [11, 4]) okX2_copyRow jcX2_55 (mX2_copyRow 4 (fun j => nI (o 3 j)) (fun j => nI (r 3 j)) (by decide)) dX2_copy_41 rfl rfl rfl rfl rfl rfl (fun r9 B9 hq => ?_)
  obtain ⟨rfl, rfl⟩ := hq
  refine ⟨rfl, ?_⟩
  dsimp only [Option.map, Option.toList, jput, List.map, jrE, jgA, jg, jr, List.set, List.cons_append, List.nil_append]
  refine J.aload_n dX2_copy_44 rfl rfl ?_
  refine J.getfield dX2_copy_45 jFX2_24 rfl rfl ?_
  refine J.aload_n dX2_copy_48 rfl rfl ?_
  refine J.getfield dX2_copy_49 jFX2_24 rfl rfl ?_
  refine J.cs (as := [.ref 0, .ref 1]) (is := [12, 5]) okX2_copyRow jcX2_55 (mX2_copyRow 3 (fun j => nI (o 4 j)) (fun j => nI (r 4 j)) (by decide)) dX2_copy_52 rfl rfl rfl rfl rfl rfl (fun r9 B9 hq => ?_)
  obtain ⟨rfl, rfl⟩ := hq
  refine ⟨rfl, ?_⟩
  dsimp only [Option.map, Option.toList, jput, List.map, jrE, jgA, jg, jr, List.set, List.cons_append, List.nil_append]
  refine J.aload_n dX2_copy_55 rfl rfl ?_
  refine J.getfield dX2_copy_56 jFX2_27 rfl rfl ?_
  refine J.aload_n dX2_copy_59 rfl rfl ?_
  refine J.getfield dX2_copy_60 jFX2_27 rfl rfl ?_
  refine J.cs (as := [.ref 0, .ref 1]) (is := [13, 6]) okX2_copyRow jcX2_55 (mX2_copyRow 3 (fun j => nI (o 5 j)) (fun j => nI (r 5 j)) (by decide)) dX2_copy_63 rfl rfl rfl rfl rfl rfl (fun r9 B9 hq => ?_)
  obtain ⟨rfl, rfl⟩ := hq
  refine ⟨rfl, ?_⟩
  dsimp only [Option.map, Option.toList, jput, List.map, jrE, jgA, jg, jr, List.set, List.cons_append, List.nil_append]
  refine J.aload_n dX2_copy_66 rfl rfl ?_
  refine J.aload_n dX2_copy_67 rfl rfl ?_
  refine J.getfield dX2_copy_68 jFX2_33 rfl rfl ?_
  refine J.putfield dX2_copy_71 jFX2_33 jP2_6 rfl rfl rfl (Nat.le_of_ble_eq_true rfl) ?_
  dsimp only [List.set]
  refine J.aload_n dX2_copy_74 rfl rfl ?_
  refine J.aload_n dX2_copy_75 rfl rfl ?_
  refine J.getfield dX2_copy_76 jFX2_37 rfl rfl ?_
  refine J.putfield dX2_copy_79 jFX2_37 jP2_7 rfl rfl rfl (Nat.le_of_ble_eq_true rfl) ?_
  dsimp only [List.set]
  refine J.aload_n dX2_copy_82 rfl rfl ?_
  refine J.aload_n dX2_copy_83 rfl rfl ?_
  refine J.getfield dX2_copy_84 jFX2_40 rfl rfl ?_
  refine J.putfield dX2_copy_87 jFX2_40 jP2_8 rfl rfl rfl (Nat.le_of_ble_eq_true rfl) ?_
  dsimp only [List.set]
  refine J.aload_n dX2_copy_90 rfl rfl ?_
  refine J.aload_n dX2_copy_91 rfl rfl ?_
  refine J.getfield dX2_copy_92 jFX2_43 rfl rfl ?_
  refine J.putfield dX2_copy_95 jFX2_43 jP2_9 rfl rfl rfl (Nat.le_of_ble_eq_true rfl) ?_
  dsimp only [List.set]
  refine J.aload_n dX2_copy_98 rfl rfl ?_
  refine J.aload_n dX2_copy_99 rfl rfl ?_
  refine J.getfield dX2_copy_100 jFX2_46 rfl rfl ?_
  refine J.putfield dX2_copy_103 jFX2_46 jP2_10 rfl rfl rfl (Nat.le_of_ble_eq_true rfl) ?_
  dsimp only [List.set]
  refine J.aload_n dX2_copy_106 rfl rfl ?_
  refine J.aload_n dX2_copy_107 rfl rfl ?_
  refine J.getfield dX2_copy_108 jFX2_49 rfl rfl ?_
  refine J.putfield dX2_copy_111 jFX2_49 jP2_11 rfl rfl rfl (Nat.le_of_ble_eq_true rfl) ?_
  dsimp only [List.set]
  refine J.aload_n dX2_copy_114 rfl rfl ?_
  refine J.aload_n dX2_copy_115 rfl rfl ?_
  refine J.getfield dX2_copy_116 jFX2_52 rfl rfl ?_
  refine J.putfield dX2_copy_119 jFX2_52 jP2_12 rfl rfl rfl (Nat.le_of_ble_eq_true rfl) ?_
  dsimp only [List.set]
  exact J.vret dX2_copy_122 rfl (Nat.le_refl _) (Nat.le_refl _) ⟨rfl, rfl⟩
