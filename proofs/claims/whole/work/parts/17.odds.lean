theorem dX0_sitting_0 : decode cX0_sitting 0 = .ok (.aload_n 0, 1) := by decide +kernel
theorem dX0_sitting_1 : decode cX0_sitting 1 = .ok (.getfield 28, 3) := by decide +kernel
theorem dX0_sitting_4 : decode cX0_sitting 4 = .ok (.astore 5, 2) := by decide +kernel
theorem dX0_sitting_6 : decode cX0_sitting 6 = .ok (.aload 5, 2) := by decide +kernel
theorem dX0_sitting_8 : decode cX0_sitting 8 = .ok (.invokestatic 95, 3) := by decide +kernel
theorem dX0_sitting_11 : decode cX0_sitting 11 = .ok (.iload_n 3, 1) := by decide +kernel
theorem dX0_sitting_12 : decode cX0_sitting 12 = .ok (.iconst 1, 1) := by decide +kernel
theorem dX0_sitting_13 : decode cX0_sitting 13 = .ok (.isub, 1) := by decide +kernel
theorem dX0_sitting_14 : decode cX0_sitting 14 = .ok (.istore 6, 2) := by decide +kernel
theorem dX0_sitting_16 : decode cX0_sitting 16 = .ok (.iload 6, 2) := by decide +kernel
theorem dX0_sitting_18 : decode cX0_sitting 18 = .ok (.ifCond .lt 125, 3) := by decide +kernel
theorem dX0_sitting_21 : decode cX0_sitting 21 = .ok (.iload_n 3, 1) := by decide +kernel
theorem dX0_sitting_22 : decode cX0_sitting 22 = .ok (.iconst 1, 1) := by decide +kernel
theorem dX0_sitting_23 : decode cX0_sitting 23 = .ok (.isub, 1) := by decide +kernel
theorem dX0_sitting_24 : decode cX0_sitting 24 = .ok (.iload 6, 2) := by decide +kernel
theorem dX0_sitting_26 : decode cX0_sitting 26 = .ok (.isub, 1) := by decide +kernel
theorem dX0_sitting_27 : decode cX0_sitting 27 = .ok (.invokestatic 91, 3) := by decide +kernel
theorem dX0_sitting_30 : decode cX0_sitting 30 = .ok (.lstore 7, 2) := by decide +kernel
theorem dX0_sitting_32 : decode cX0_sitting 32 = .ok (.aload_n 0, 1) := by decide +kernel
theorem dX0_sitting_33 : decode cX0_sitting 33 = .ok (.getfield 57, 3) := by decide +kernel
theorem dX0_sitting_36 : decode cX0_sitting 36 = .ok (.istore 9, 2) := by decide +kernel
theorem dX0_sitting_38 : decode cX0_sitting 38 = .ok (.iload 9, 2) := by decide +kernel
theorem dX0_sitting_40 : decode cX0_sitting 40 = .ok (.ifCond .le 97, 3) := by decide +kernel
theorem dX0_sitting_43 : decode cX0_sitting 43 = .ok (.aload_n 0, 1) := by decide +kernel
theorem dX0_sitting_44 : decode cX0_sitting 44 = .ok (.iload 9, 2) := by decide +kernel
theorem dX0_sitting_46 : decode cX0_sitting 46 = .ok (.iload 6, 2) := by decide +kernel
theorem dX0_sitting_48 : decode cX0_sitting 48 = .ok (.invokevirtual 61, 3) := by decide +kernel
theorem dX0_sitting_51 : decode cX0_sitting 51 = .ok (.aload_n 0, 1) := by decide +kernel
theorem dX0_sitting_52 : decode cX0_sitting 52 = .ok (.iload 9, 2) := by decide +kernel
theorem dX0_sitting_54 : decode cX0_sitting 54 = .ok (.iconst 0, 1) := by decide +kernel
theorem dX0_sitting_55 : decode cX0_sitting 55 = .ok (.invokevirtual 65, 3) := by decide +kernel
theorem dX0_sitting_58 : decode cX0_sitting 58 = .ok (.iload_n 2, 1) := by decide +kernel
theorem dX0_sitting_59 : decode cX0_sitting 59 = .ok (.ineg, 1) := by decide +kernel
theorem dX0_sitting_60 : decode cX0_sitting 60 = .ok (.i2l, 1) := by decide +kernel
theorem dX0_sitting_61 : decode cX0_sitting 61 = .ok (.lmul, 1) := by decide +kernel
theorem dX0_sitting_62 : decode cX0_sitting 62 = .ok (.lload 7, 2) := by decide +kernel
theorem dX0_sitting_64 : decode cX0_sitting 64 = .ok (.lmul, 1) := by decide +kernel
theorem dX0_sitting_65 : decode cX0_sitting 65 = .ok (.lstore 10, 2) := by decide +kernel
theorem dX0_sitting_67 : decode cX0_sitting 67 = .ok (.iconst 1, 1) := by decide +kernel
theorem dX0_sitting_68 : decode cX0_sitting 68 = .ok (.istore 12, 2) := by decide +kernel
theorem dX0_sitting_70 : decode cX0_sitting 70 = .ok (.iload 12, 2) := by decide +kernel
theorem dX0_sitting_72 : decode cX0_sitting 72 = .ok (.iload 9, 2) := by decide +kernel
theorem dX0_sitting_74 : decode cX0_sitting 74 = .ok (.if_icmp .gt 34, 3) := by decide +kernel
theorem dX0_sitting_77 : decode cX0_sitting 77 = .ok (.lload 10, 2) := by decide +kernel
theorem dX0_sitting_79 : decode cX0_sitting 79 = .ok (.aload_n 0, 1) := by decide +kernel
theorem dX0_sitting_80 : decode cX0_sitting 80 = .ok (.iload 9, 2) := by decide +kernel
theorem dX0_sitting_82 : decode cX0_sitting 82 = .ok (.iload 12, 2) := by decide +kernel
theorem dX0_sitting_84 : decode cX0_sitting 84 = .ok (.invokevirtual 65, 3) := by decide +kernel
theorem dX0_sitting_87 : decode cX0_sitting 87 = .ok (.iload_n 1, 1) := by decide +kernel
theorem dX0_sitting_88 : decode cX0_sitting 88 = .ok (.i2l, 1) := by decide +kernel
theorem dX0_sitting_89 : decode cX0_sitting 89 = .ok (.lload 7, 2) := by decide +kernel
theorem dX0_sitting_91 : decode cX0_sitting 91 = .ok (.lmul, 1) := by decide +kernel
theorem dX0_sitting_92 : decode cX0_sitting 92 = .ok (.aload 5, 2) := by decide +kernel
theorem dX0_sitting_94 : decode cX0_sitting 94 = .ok (.iload 12, 2) := by decide +kernel
theorem dX0_sitting_96 : decode cX0_sitting 96 = .ok (.laload, 1) := by decide +kernel
theorem dX0_sitting_97 : decode cX0_sitting 97 = .ok (.ladd, 1) := by decide +kernel
theorem dX0_sitting_98 : decode cX0_sitting 98 = .ok (.lmul, 1) := by decide +kernel
theorem dX0_sitting_99 : decode cX0_sitting 99 = .ok (.ladd, 1) := by decide +kernel
theorem dX0_sitting_100 : decode cX0_sitting 100 = .ok (.lstore 10, 2) := by decide +kernel
theorem dX0_sitting_102 : decode cX0_sitting 102 = .ok (.iinc 12 1, 3) := by decide +kernel
theorem dX0_sitting_105 : decode cX0_sitting 105 = .ok (.goto (-35), 3) := by decide +kernel
theorem dX0_sitting_108 : decode cX0_sitting 108 = .ok (.aload 5, 2) := by decide +kernel
theorem dX0_sitting_110 : decode cX0_sitting 110 = .ok (.iload 9, 2) := by decide +kernel
theorem dX0_sitting_112 : decode cX0_sitting 112 = .ok (.iload 4, 2) := by decide +kernel
theorem dX0_sitting_114 : decode cX0_sitting 114 = .ok (.ifCond .eq 14, 3) := by decide +kernel
theorem dX0_sitting_117 : decode cX0_sitting 117 = .ok (.lload 10, 2) := by decide +kernel
theorem dX0_sitting_119 : decode cX0_sitting 119 = .ok (.lconst 0, 1) := by decide +kernel
theorem dX0_sitting_120 : decode cX0_sitting 120 = .ok (.lcmp, 1) := by decide +kernel
theorem dX0_sitting_121 : decode cX0_sitting 121 = .ok (.ifCond .gt 7, 3) := by decide +kernel
theorem dX0_sitting_124 : decode cX0_sitting 124 = .ok (.lconst 0, 1) := by decide +kernel
theorem dX0_sitting_125 : decode cX0_sitting 125 = .ok (.goto 5, 3) := by decide +kernel
theorem dX0_sitting_128 : decode cX0_sitting 128 = .ok (.lload 10, 2) := by decide +kernel
theorem dX0_sitting_130 : decode cX0_sitting 130 = .ok (.lastore, 1) := by decide +kernel
theorem dX0_sitting_131 : decode cX0_sitting 131 = .ok (.iinc 9 (-1), 3) := by decide +kernel
theorem dX0_sitting_134 : decode cX0_sitting 134 = .ok (.goto (-96), 3) := by decide +kernel
theorem dX0_sitting_137 : decode cX0_sitting 137 = .ok (.iinc 6 (-1), 3) := by decide +kernel
theorem dX0_sitting_140 : decode cX0_sitting 140 = .ok (.goto (-124), 3) := by decide +kernel
theorem dX0_sitting_143 : decode cX0_sitting 143 = .ok (.aload 5, 2) := by decide +kernel
theorem dX0_sitting_145 : decode cX0_sitting 145 = .ok (.aload_n 0, 1) := by decide +kernel
theorem dX0_sitting_146 : decode cX0_sitting 146 = .ok (.getfield 57, 3) := by decide +kernel
theorem dX0_sitting_149 : decode cX0_sitting 149 = .ok (.laload, 1) := by decide +kernel
theorem dX0_sitting_150 : decode cX0_sitting 150 = .ok (.lreturn, 1) := by decide +kernel
theorem dX0_duelHour_0 : decode cX0_duelHour 0 = .ok (.lload 4, 2) := by decide +kernel
theorem dX0_duelHour_2 : decode cX0_duelHour 2 = .ok (.lneg, 1) := by decide +kernel
theorem dX0_duelHour_3 : decode cX0_duelHour 3 = .ok (.aload_n 0, 1) := by decide +kernel
theorem dX0_duelHour_4 : decode cX0_duelHour 4 = .ok (.iload_n 1, 1) := by decide +kernel
theorem dX0_duelHour_5 : decode cX0_duelHour 5 = .ok (.iconst 0, 1) := by decide +kernel
theorem dX0_duelHour_6 : decode cX0_duelHour 6 = .ok (.invokevirtual 65, 3) := by decide +kernel
theorem dX0_duelHour_9 : decode cX0_duelHour 9 = .ok (.lmul, 1) := by decide +kernel
theorem dX0_duelHour_10 : decode cX0_duelHour 10 = .ok (.lstore 10, 2) := by decide +kernel
theorem dX0_duelHour_12 : decode cX0_duelHour 12 = .ok (.lload 6, 2) := by decide +kernel
theorem dX0_duelHour_14 : decode cX0_duelHour 14 = .ok (.aload_n 0, 1) := by decide +kernel
theorem dX0_duelHour_15 : decode cX0_duelHour 15 = .ok (.iload_n 1, 1) := by decide +kernel
theorem dX0_duelHour_16 : decode cX0_duelHour 16 = .ok (.iconst 0, 1) := by decide +kernel
theorem dX0_duelHour_17 : decode cX0_duelHour 17 = .ok (.invokevirtual 65, 3) := by decide +kernel
theorem dX0_duelHour_20 : decode cX0_duelHour 20 = .ok (.lmul, 1) := by decide +kernel
theorem dX0_duelHour_21 : decode cX0_duelHour 21 = .ok (.lstore 12, 2) := by decide +kernel
theorem dX0_duelHour_23 : decode cX0_duelHour 23 = .ok (.iconst 1, 1) := by decide +kernel
theorem dX0_duelHour_24 : decode cX0_duelHour 24 = .ok (.istore 14, 2) := by decide +kernel
theorem dX0_duelHour_26 : decode cX0_duelHour 26 = .ok (.iload 14, 2) := by decide +kernel
theorem dX0_duelHour_28 : decode cX0_duelHour 28 = .ok (.iload_n 1, 1) := by decide +kernel
theorem dX0_duelHour_29 : decode cX0_duelHour 29 = .ok (.if_icmp .gt 46, 3) := by decide +kernel
theorem dX0_duelHour_32 : decode cX0_duelHour 32 = .ok (.aload_n 0, 1) := by decide +kernel
theorem dX0_duelHour_33 : decode cX0_duelHour 33 = .ok (.iload_n 1, 1) := by decide +kernel
theorem dX0_duelHour_34 : decode cX0_duelHour 34 = .ok (.iload 14, 2) := by decide +kernel
theorem dX0_duelHour_36 : decode cX0_duelHour 36 = .ok (.invokevirtual 65, 3) := by decide +kernel
theorem dX0_duelHour_39 : decode cX0_duelHour 39 = .ok (.lstore 15, 2) := by decide +kernel
theorem dX0_duelHour_41 : decode cX0_duelHour 41 = .ok (.lload 10, 2) := by decide +kernel
theorem dX0_duelHour_43 : decode cX0_duelHour 43 = .ok (.lload 15, 2) := by decide +kernel
theorem dX0_duelHour_45 : decode cX0_duelHour 45 = .ok (.lload_n 2, 1) := by decide +kernel
theorem dX0_duelHour_46 : decode cX0_duelHour 46 = .ok (.aload 8, 2) := by decide +kernel
theorem dX0_duelHour_48 : decode cX0_duelHour 48 = .ok (.iload 14, 2) := by decide +kernel
theorem dX0_duelHour_50 : decode cX0_duelHour 50 = .ok (.laload, 1) := by decide +kernel
theorem dX0_duelHour_51 : decode cX0_duelHour 51 = .ok (.ladd, 1) := by decide +kernel
theorem dX0_duelHour_52 : decode cX0_duelHour 52 = .ok (.lmul, 1) := by decide +kernel
theorem dX0_duelHour_53 : decode cX0_duelHour 53 = .ok (.ladd, 1) := by decide +kernel
theorem dX0_duelHour_54 : decode cX0_duelHour 54 = .ok (.lstore 10, 2) := by decide +kernel
theorem dX0_duelHour_56 : decode cX0_duelHour 56 = .ok (.lload 12, 2) := by decide +kernel
theorem dX0_duelHour_58 : decode cX0_duelHour 58 = .ok (.lload 15, 2) := by decide +kernel
theorem dX0_duelHour_60 : decode cX0_duelHour 60 = .ok (.aload 9, 2) := by decide +kernel
theorem dX0_duelHour_62 : decode cX0_duelHour 62 = .ok (.iload 14, 2) := by decide +kernel
theorem dX0_duelHour_64 : decode cX0_duelHour 64 = .ok (.laload, 1) := by decide +kernel
theorem dX0_duelHour_65 : decode cX0_duelHour 65 = .ok (.lmul, 1) := by decide +kernel
theorem dX0_duelHour_66 : decode cX0_duelHour 66 = .ok (.ladd, 1) := by decide +kernel
theorem dX0_duelHour_67 : decode cX0_duelHour 67 = .ok (.lstore 12, 2) := by decide +kernel
theorem dX0_duelHour_69 : decode cX0_duelHour 69 = .ok (.iinc 14 1, 3) := by decide +kernel
theorem dX0_duelHour_72 : decode cX0_duelHour 72 = .ok (.goto (-46), 3) := by decide +kernel
theorem dX0_duelHour_75 : decode cX0_duelHour 75 = .ok (.aload 8, 2) := by decide +kernel
theorem dX0_duelHour_77 : decode cX0_duelHour 77 = .ok (.iload_n 1, 1) := by decide +kernel
theorem dX0_duelHour_78 : decode cX0_duelHour 78 = .ok (.lconst 0, 1) := by decide +kernel
theorem dX0_duelHour_79 : decode cX0_duelHour 79 = .ok (.lload 10, 2) := by decide +kernel
theorem dX0_duelHour_81 : decode cX0_duelHour 81 = .ok (.invokestatic 119, 3) := by decide +kernel
theorem dX0_duelHour_84 : decode cX0_duelHour 84 = .ok (.lastore, 1) := by decide +kernel
theorem dX0_duelHour_85 : decode cX0_duelHour 85 = .ok (.aload 9, 2) := by decide +kernel
theorem dX0_duelHour_87 : decode cX0_duelHour 87 = .ok (.iload_n 1, 1) := by decide +kernel
theorem dX0_duelHour_88 : decode cX0_duelHour 88 = .ok (.lload 10, 2) := by decide +kernel
theorem dX0_duelHour_90 : decode cX0_duelHour 90 = .ok (.lconst 0, 1) := by decide +kernel
theorem dX0_duelHour_91 : decode cX0_duelHour 91 = .ok (.lcmp, 1) := by decide +kernel
theorem dX0_duelHour_92 : decode cX0_duelHour 92 = .ok (.ifCond .le 8, 3) := by decide +kernel
theorem dX0_duelHour_95 : decode cX0_duelHour 95 = .ok (.lload 12, 2) := by decide +kernel
theorem dX0_duelHour_97 : decode cX0_duelHour 97 = .ok (.goto 9, 3) := by decide +kernel
theorem dX0_duelHour_100 : decode cX0_duelHour 100 = .ok (.ldc2_w 123, 3) := by decide +kernel
theorem dX0_duelHour_103 : decode cX0_duelHour 103 = .ok (.lload 6, 2) := by decide +kernel
theorem dX0_duelHour_105 : decode cX0_duelHour 105 = .ok (.lmul, 1) := by decide +kernel
theorem dX0_duelHour_106 : decode cX0_duelHour 106 = .ok (.lastore, 1) := by decide +kernel
theorem dX0_duelHour_107 : decode cX0_duelHour 107 = .ok (.return_, 1) := by decide +kernel
theorem dX0_contest_0 : decode cX0_contest 0 = .ok (.aload_n 0, 1) := by decide +kernel
theorem dX0_contest_1 : decode cX0_contest 1 = .ok (.getfield 28, 3) := by decide +kernel
theorem dX0_contest_4 : decode cX0_contest 4 = .ok (.invokestatic 95, 3) := by decide +kernel
theorem dX0_contest_7 : decode cX0_contest 7 = .ok (.aload_n 0, 1) := by decide +kernel
theorem dX0_contest_8 : decode cX0_contest 8 = .ok (.getfield 31, 3) := by decide +kernel
theorem dX0_contest_11 : decode cX0_contest 11 = .ok (.invokestatic 95, 3) := by decide +kernel
theorem dX0_contest_14 : decode cX0_contest 14 = .ok (.iload 4, 2) := by decide +kernel
theorem dX0_contest_16 : decode cX0_contest 16 = .ok (.iconst 1, 1) := by decide +kernel
theorem dX0_contest_17 : decode cX0_contest 17 = .ok (.isub, 1) := by decide +kernel
theorem dX0_contest_18 : decode cX0_contest 18 = .ok (.istore 5, 2) := by decide +kernel
theorem dX0_contest_20 : decode cX0_contest 20 = .ok (.iload 5, 2) := by decide +kernel
theorem dX0_contest_22 : decode cX0_contest 22 = .ok (.ifCond .lt 148, 3) := by decide +kernel
theorem dX0_contest_25 : decode cX0_contest 25 = .ok (.iload 5, 2) := by decide +kernel
theorem dX0_contest_27 : decode cX0_contest 27 = .ok (.iconst 1, 1) := by decide +kernel
theorem dX0_contest_28 : decode cX0_contest 28 = .ok (.iand, 1) := by decide +kernel
theorem dX0_contest_29 : decode cX0_contest 29 = .ok (.ifCond .ne 7, 3) := by decide +kernel
theorem dX0_contest_32 : decode cX0_contest 32 = .ok (.iconst 1, 1) := by decide +kernel
theorem dX0_contest_33 : decode cX0_contest 33 = .ok (.goto 4, 3) := by decide +kernel
theorem dX0_contest_36 : decode cX0_contest 36 = .ok (.iconst 0, 1) := by decide +kernel
theorem dX0_contest_37 : decode cX0_contest 37 = .ok (.istore 6, 2) := by decide +kernel
theorem dX0_contest_39 : decode cX0_contest 39 = .ok (.iload 6, 2) := by decide +kernel
theorem dX0_contest_41 : decode cX0_contest 41 = .ok (.ifCond .eq 7, 3) := by decide +kernel
theorem dX0_contest_44 : decode cX0_contest 44 = .ok (.iload_n 2, 1) := by decide +kernel
theorem dX0_contest_45 : decode cX0_contest 45 = .ok (.goto 4, 3) := by decide +kernel
theorem dX0_contest_48 : decode cX0_contest 48 = .ok (.iload_n 3, 1) := by decide +kernel
theorem dX0_contest_49 : decode cX0_contest 49 = .ok (.istore 7, 2) := by decide +kernel
theorem dX0_contest_51 : decode cX0_contest 51 = .ok (.iload 6, 2) := by decide +kernel
theorem dX0_contest_53 : decode cX0_contest 53 = .ok (.ifCond .eq 10, 3) := by decide +kernel
theorem dX0_contest_56 : decode cX0_contest 56 = .ok (.aload_n 0, 1) := by decide +kernel
theorem dX0_contest_57 : decode cX0_contest 57 = .ok (.getfield 28, 3) := by decide +kernel
theorem dX0_contest_60 : decode cX0_contest 60 = .ok (.goto 7, 3) := by decide +kernel
theorem dX0_contest_63 : decode cX0_contest 63 = .ok (.aload_n 0, 1) := by decide +kernel
theorem dX0_contest_64 : decode cX0_contest 64 = .ok (.getfield 31, 3) := by decide +kernel
theorem dX0_contest_67 : decode cX0_contest 67 = .ok (.astore 8, 2) := by decide +kernel
theorem dX0_contest_69 : decode cX0_contest 69 = .ok (.iload 6, 2) := by decide +kernel
theorem dX0_contest_71 : decode cX0_contest 71 = .ok (.ifCond .eq 10, 3) := by decide +kernel
theorem dX0_contest_74 : decode cX0_contest 74 = .ok (.aload_n 0, 1) := by decide +kernel
theorem dX0_contest_75 : decode cX0_contest 75 = .ok (.getfield 31, 3) := by decide +kernel
theorem dX0_contest_78 : decode cX0_contest 78 = .ok (.goto 7, 3) := by decide +kernel
theorem dX0_contest_81 : decode cX0_contest 81 = .ok (.aload_n 0, 1) := by decide +kernel
theorem dX0_contest_82 : decode cX0_contest 82 = .ok (.getfield 28, 3) := by decide +kernel
theorem dX0_contest_85 : decode cX0_contest 85 = .ok (.astore 9, 2) := by decide +kernel
theorem dX0_contest_87 : decode cX0_contest 87 = .ok (.iload 4, 2) := by decide +kernel
theorem dX0_contest_89 : decode cX0_contest 89 = .ok (.iconst 1, 1) := by decide +kernel
theorem dX0_contest_90 : decode cX0_contest 90 = .ok (.isub, 1) := by decide +kernel
theorem dX0_contest_91 : decode cX0_contest 91 = .ok (.iload 5, 2) := by decide +kernel
theorem dX0_contest_93 : decode cX0_contest 93 = .ok (.isub, 1) := by decide +kernel
theorem dX0_contest_94 : decode cX0_contest 94 = .ok (.invokestatic 91, 3) := by decide +kernel
theorem dX0_contest_97 : decode cX0_contest 97 = .ok (.lstore 10, 2) := by decide +kernel
theorem dX0_contest_99 : decode cX0_contest 99 = .ok (.aload_n 0, 1) := by decide +kernel
theorem dX0_contest_100 : decode cX0_contest 100 = .ok (.getfield 57, 3) := by decide +kernel
theorem dX0_contest_103 : decode cX0_contest 103 = .ok (.istore 12, 2) := by decide +kernel
theorem dX0_contest_105 : decode cX0_contest 105 = .ok (.iload 12, 2) := by decide +kernel
theorem dX0_contest_107 : decode cX0_contest 107 = .ok (.ifCond .le 57, 3) := by decide +kernel
theorem dX0_contest_110 : decode cX0_contest 110 = .ok (.aload_n 0, 1) := by decide +kernel
theorem dX0_contest_111 : decode cX0_contest 111 = .ok (.iload 12, 2) := by decide +kernel
theorem dX0_contest_113 : decode cX0_contest 113 = .ok (.iload 5, 2) := by decide +kernel
theorem dX0_contest_115 : decode cX0_contest 115 = .ok (.invokevirtual 61, 3) := by decide +kernel
theorem dX0_contest_118 : decode cX0_contest 118 = .ok (.aload_n 0, 1) := by decide +kernel
theorem dX0_contest_119 : decode cX0_contest 119 = .ok (.iload 12, 2) := by decide +kernel
theorem dX0_contest_121 : decode cX0_contest 121 = .ok (.aload_n 1, 1) := by decide +kernel
theorem dX0_contest_122 : decode cX0_contest 122 = .ok (.getfield 99, 3) := by decide +kernel
theorem dX0_contest_125 : decode cX0_contest 125 = .ok (.iload 7, 2) := by decide +kernel
theorem dX0_contest_127 : decode cX0_contest 127 = .ok (.iaload, 1) := by decide +kernel
theorem dX0_contest_128 : decode cX0_contest 128 = .ok (.i2l, 1) := by decide +kernel
theorem dX0_contest_129 : decode cX0_contest 129 = .ok (.lload 10, 2) := by decide +kernel
theorem dX0_contest_131 : decode cX0_contest 131 = .ok (.lmul, 1) := by decide +kernel
theorem dX0_contest_132 : decode cX0_contest 132 = .ok (.aload_n 1, 1) := by decide +kernel
theorem dX0_contest_133 : decode cX0_contest 133 = .ok (.getfield 102, 3) := by decide +kernel
theorem dX0_contest_136 : decode cX0_contest 136 = .ok (.iload 7, 2) := by decide +kernel
theorem dX0_contest_138 : decode cX0_contest 138 = .ok (.iaload, 1) := by decide +kernel
theorem dX0_contest_139 : decode cX0_contest 139 = .ok (.i2l, 1) := by decide +kernel
theorem dX0_contest_140 : decode cX0_contest 140 = .ok (.lload 10, 2) := by decide +kernel
theorem dX0_contest_142 : decode cX0_contest 142 = .ok (.lmul, 1) := by decide +kernel
theorem dX0_contest_143 : decode cX0_contest 143 = .ok (.aload_n 1, 1) := by decide +kernel
theorem dX0_contest_144 : decode cX0_contest 144 = .ok (.getfield 105, 3) := by decide +kernel
theorem dX0_contest_147 : decode cX0_contest 147 = .ok (.i2l, 1) := by decide +kernel
theorem dX0_contest_148 : decode cX0_contest 148 = .ok (.lload 10, 2) := by decide +kernel
theorem dX0_contest_150 : decode cX0_contest 150 = .ok (.lmul, 1) := by decide +kernel
theorem dX0_contest_151 : decode cX0_contest 151 = .ok (.aload 8, 2) := by decide +kernel
theorem dX0_contest_153 : decode cX0_contest 153 = .ok (.aload 9, 2) := by decide +kernel
theorem dX0_contest_155 : decode cX0_contest 155 = .ok (.invokevirtual 108, 3) := by decide +kernel
theorem dX0_contest_158 : decode cX0_contest 158 = .ok (.iinc 12 (-1), 3) := by decide +kernel
theorem dX0_contest_161 : decode cX0_contest 161 = .ok (.goto (-56), 3) := by decide +kernel
theorem dX0_contest_164 : decode cX0_contest 164 = .ok (.iinc 5 (-1), 3) := by decide +kernel
theorem dX0_contest_167 : decode cX0_contest 167 = .ok (.goto (-147), 3) := by decide +kernel
theorem dX0_contest_170 : decode cX0_contest 170 = .ok (.aload_n 0, 1) := by decide +kernel
theorem dX0_contest_171 : decode cX0_contest 171 = .ok (.aload_n 0, 1) := by decide +kernel
theorem dX0_contest_172 : decode cX0_contest 172 = .ok (.getfield 28, 3) := by decide +kernel
theorem dX0_contest_175 : decode cX0_contest 175 = .ok (.aload_n 0, 1) := by decide +kernel
theorem dX0_contest_176 : decode cX0_contest 176 = .ok (.getfield 57, 3) := by decide +kernel
theorem dX0_contest_179 : decode cX0_contest 179 = .ok (.laload, 1) := by decide +kernel
theorem dX0_contest_180 : decode cX0_contest 180 = .ok (.putfield 112, 3) := by decide +kernel
theorem dX0_contest_183 : decode cX0_contest 183 = .ok (.aload_n 0, 1) := by decide +kernel
theorem dX0_contest_184 : decode cX0_contest 184 = .ok (.aload_n 0, 1) := by decide +kernel
theorem dX0_contest_185 : decode cX0_contest 185 = .ok (.getfield 57, 3) := by decide +kernel
theorem dX0_contest_188 : decode cX0_contest 188 = .ok (.ifCond .ne 22, 3) := by decide +kernel
theorem dX0_contest_191 : decode cX0_contest 191 = .ok (.iload 4, 2) := by decide +kernel
theorem dX0_contest_193 : decode cX0_contest 193 = .ok (.ifCond .le 17, 3) := by decide +kernel
theorem dX0_contest_196 : decode cX0_contest 196 = .ok (.aload_n 1, 1) := by decide +kernel
theorem dX0_contest_197 : decode cX0_contest 197 = .ok (.getfield 105, 3) := by decide +kernel
theorem dX0_contest_200 : decode cX0_contest 200 = .ok (.i2l, 1) := by decide +kernel
theorem dX0_contest_201 : decode cX0_contest 201 = .ok (.iload 4, 2) := by decide +kernel
theorem dX0_contest_203 : decode cX0_contest 203 = .ok (.invokestatic 91, 3) := by decide +kernel
theorem dX0_contest_206 : decode cX0_contest 206 = .ok (.lmul, 1) := by decide +kernel
theorem dX0_contest_207 : decode cX0_contest 207 = .ok (.goto 12, 3) := by decide +kernel
theorem dX0_contest_210 : decode cX0_contest 210 = .ok (.aload_n 0, 1) := by decide +kernel
theorem dX0_contest_211 : decode cX0_contest 211 = .ok (.getfield 31, 3) := by decide +kernel
theorem dX0_contest_214 : decode cX0_contest 214 = .ok (.aload_n 0, 1) := by decide +kernel
theorem dX0_contest_215 : decode cX0_contest 215 = .ok (.getfield 57, 3) := by decide +kernel
theorem dX0_contest_218 : decode cX0_contest 218 = .ok (.laload, 1) := by decide +kernel
theorem dX0_contest_219 : decode cX0_contest 219 = .ok (.putfield 116, 3) := by decide +kernel
theorem dX0_contest_222 : decode cX0_contest 222 = .ok (.return_, 1) := by decide +kernel
/-! what a KING has in the mean, as the longs have it: sv: of set s, in the HOUR behind t, what is summed up to r -/
def sv (q : rT) (wo li un : Int64) (g : Nat → Int64) (t s : Nat) : Nat → Int64
  | 0 => 0
  | r + 1 => if r = 0 then lN (wtn (ten q s t) s 0) * li * un else sv q wo li un g t s r + lN (wtn (ten q s t) s r) * (wo * un + g r)
def gs (sees : Prop) [Decidable sees] (v : Int64) : Int64 := if sees ∧ ¬ 0 < v then 0 else v
/-- k HOURS from the end, of N -/
def gg (q : rT) (wo li : Int64) (sees : Prop) [Decidable sees] (w N : Nat) : Nat → Nat → Int64
  | 0, _ => 0
  | k + 1, s => if 1 ≤ s ∧ s ≤ w then gs sees (sv q wo li (lN (1000 ^ k)) (gg q wo li sees w N k) (N - 1 - k) s (s + 1)) else gg q wo li sees w N k s
set_option maxRecDepth 100000 in
set_option maxHeartbeats 4000000 in
theorem mX0_sitting_r (q : rT) (x : Nat → Nat) (n : Nat → Int64) (u : uT) (wo li : Nat) (sees : Prop) (hd : Decidable sees) (N : Nat) (hq : oOK q) (hN : N < 100) (k t s : Nat) (hs : s < 8) (ht : t < 100) (hk : J KX0_sitting 9 (fun o B => o = some (.long (gg q (nI wo).toInt64 (-nI li).toInt64 sees (q 6 0) N N (q 6 0))) ∧ ∃ g9 f9, B = wO (rrow q 2 g9) x n (urow u 0 f9)) 108 [some (.ref 0), some (.int (nI wo)), some (.int (nI li)), some (.int (nI N)), some (.int (jB sees)), some (.ref 6), some (.int (nI t)), some (.long (lN (1000 ^ k))), none, some (.int (nI s)), some (.long (sv q (nI wo).toInt64 (-nI li).toInt64 (lN (1000 ^ k)) (gg q (nI wo).toInt64 (-nI li).toInt64 sees (q 6 0) N k) t s (s + 1))), none, some (.int (nI (s + 1)))] [] (wO (rrow q 2 (ten q s t)) x n (urow u 0 (fun j => if s < j ∧ j ≤ q 6 0 then gg q (nI wo).toInt64 (-nI li).toInt64 sees (q 6 0) N (k + 1) j else (gg q (nI wo).toInt64 (-nI li).toInt64 sees (q 6 0) N k) j))) 0 0) : ∀ (k9 i : Nat), i + k9 = s + 1 → 1 ≤ i → J KX0_sitting 9 (fun o B => o = some (.long (gg q (nI wo).toInt64 (-nI li).toInt64 sees (q 6 0) N N (q 6 0))) ∧ ∃ g9 f9, B = wO (rrow q 2 g9) x n (urow u 0 f9)) 70 [some (.ref 0), some (.int (nI wo)), some (.int (nI li)), some (.int (nI N)), some (.int (jB sees)), some (.ref 6), some (.int (nI t)), some (.long (lN (1000 ^ k))), none, some (.int (nI s)), some (.long (sv q (nI wo).toInt64 (-nI li).toInt64 (lN (1000 ^ k)) (gg q (nI wo).toInt64 (-nI li).toInt64 sees (q 6 0) N k) t s i)), none, some (.int (nI i))] [] (wO (rrow q 2 (ten q s t)) x n (urow u 0 (fun j => if s < j ∧ j ≤ q 6 0 then gg q (nI wo).toInt64 (-nI li).toInt64 sees (q 6 0) N (k + 1) j else (gg q (nI wo).toInt64 (-nI li).toInt64 sees (q 6 0) N k) j))) 0 0 := by
  intro k9
  induction k9 with
  | zero =>
    intro i hi
    obtain hiN : i = s + 1 := by omega
    intro hst
    subst hiN
    refine J.iload dX0_sitting_70 rfl ?_
    refine J.iload dX0_sitting_72 rfl ?_
    refine J.icmp_gt (tgt := 108) dX0_sitting_74 (by decide) (fun c74 => ?_) (fun c74 => absurd c74 (fun h => h ((nI_lti (by omega) (by omega)).mpr (Nat.lt_succ_self s))))
    exact hk
  | succ k9 ih =>
    intro i hi
    have hiN : i < s + 1 := by omega
    intro hst
    refine J.iload dX0_sitting_70 rfl ?_
    refine J.iload dX0_sitting_72 rfl ?_
    refine J.icmp_gt (tgt := 108) dX0_sitting_74 (by decide) (fun c74 => absurd c74 (fun h => absurd ((nI_lti (by omega) (by omega)).mp h) (by omega))) (fun c74 => ?_)
    refine J.lload dX0_sitting_77 rfl ?_
    refine J.aload_n dX0_sitting_79 rfl rfl ?_
    refine J.iload dX0_sitting_80 rfl ?_
    refine J.iload dX0_sitting_82 rfl ?_
    refine J.cv (as := [.int _, .int _]) (is := [0, 1, 2, 3, 4, 5, 6, 7, 8]) (o := 0) okX0_weight jcX0_65 (mX0_weight (rrow q 2 (ten q s t)) x n (urow u 0 (fun j => if s < j ∧ j ≤ q 6 0 then gg q (nI wo).toInt64 (-nI li).toInt64 sees (q 6 0) N (k + 1) j else (gg q (nI wo).toInt64 (-nI li).toInt64 sees (q 6 0) N k) j)) s i hs (by omega) (fun i => ten_le q s t i)) dX0_sitting_84 rfl rfl rfl rfl rfl rfl rfl (fun r9 B9 hq => ?_)
    obtain ⟨rfl, rfl⟩ := hq
    refine ⟨rfl, ?_⟩
    show J _ _ _ _ _ (.long _ :: .long _ :: _) (wO (rrow q 2 (ten q s t)) x n (urow u 0 (fun j => if s < j ∧ j ≤ q 6 0 then gg q (nI wo).toInt64 (-nI li).toInt64 sees (q 6 0) N (k + 1) j else (gg q (nI wo).toInt64 (-nI li).toInt64 sees (q 6 0) N k) j))) _ _
    refine J.iload_n dX0_sitting_87 rfl rfl ?_
    refine J.i2l dX0_sitting_88 ?_
    refine J.lload dX0_sitting_89 rfl ?_
    refine J.lmul dX0_sitting_91 ?_
    refine J.aload dX0_sitting_92 rfl ?_
    refine J.iload dX0_sitting_94 rfl ?_
    refine J.laloadN dX0_sitting_96 rfl (show i < 8 by omega) ?_
    skip
    refine J.ladd dX0_sitting_97 ?_
    refine J.lmul dX0_sitting_98 ?_
    refine J.ladd dX0_sitting_99 ?_
    refine J.lstore dX0_sitting_100 (by decide) rfl ?_
    try dsimp only [List.set, wO, wR]
    refine J.iinc (1) dX0_sitting_102 (by decide) rfl (by decide) rfl ?_
    try dsimp only [List.set, wO, wR]
    refine J.goto (tgt := 70) dX0_sitting_105 (by decide) ?_
    refine J.at (ih (i + 1) (by omega) (by omega)) ?_ rfl rfl
    rw [← nI_1, show sv q (nI wo).toInt64 (-nI li).toInt64 (lN (1000 ^ k)) (gg q (nI wo).toInt64 (-nI li).toInt64 sees (q 6 0) N k) t s (i + 1) = _ from if_neg (show ¬ i = 0 by omega)]
    rw [show urow u 0 (fun j => if s < j ∧ j ≤ q 6 0 then gg q (nI wo).toInt64 (-nI li).toInt64 sees (q 6 0) N (k + 1) j else (gg q (nI wo).toInt64 (-nI li).toInt64 sees (q 6 0) N k) j) 0 i = (gg q (nI wo).toInt64 (-nI li).toInt64 sees (q 6 0) N k) i from if_neg (fun h => absurd h.1 (by omega))]
    rfl
theorem nI_m1 (i : Nat) : nI (i + 1) + (-1) = nI i := pk_m1 i
theorem sub1 (a : Int32) : a + (-1) = a - 1 := by rw [Int32.sub_eq_add_neg]
theorem dn_s {α : Type} (a b : Nat → α) (w i : Nat) (hi : i + 1 ≤ w) : (fun j => if j = i + 1 then a (i + 1) else if i + 1 < j ∧ j ≤ w then a j else b j) = fun j => if i < j ∧ j ≤ w then a j else b j := by
  funext j
  by_cases h1 : j = i + 1
  · subst h1
    rw [if_pos rfl, if_pos ⟨by omega, hi⟩]
  · rw [if_neg h1]
    by_cases h2 : i + 1 < j ∧ j ≤ w
    · rw [if_pos h2, if_pos ⟨by omega, h2.2⟩]
    · rw [if_neg h2, if_neg (fun h => h2 ⟨by omega, h.2⟩)]
set_option maxRecDepth 100000 in
set_option maxHeartbeats 4000000 in
theorem mX0_sitting_s (q : rT) (x : Nat → Nat) (n : Nat → Int64) (u : uT) (wo li : Nat) (sees : Prop) (hd : Decidable sees) (N : Nat) (hq : oOK q) (hN : N < 100) (k t : Nat) (ht : t < 100) (ht2 : t = N - 1 - k) (hk : ∀ (g : Nat → Nat) (z1 z2 z3 : Option Value), J KX0_sitting 9 (fun o B => o = some (.long (gg q (nI wo).toInt64 (-nI li).toInt64 sees (q 6 0) N N (q 6 0))) ∧ ∃ g9 f9, B = wO (rrow q 2 g9) x n (urow u 0 f9)) 137 [some (.ref 0), some (.int (nI wo)), some (.int (nI li)), some (.int (nI N)), some (.int (jB sees)), some (.ref 6), some (.int (nI t)), some (.long (lN (1000 ^ k))), none, z1, z2, none, z3] [] (wO (rrow q 2 g) x n (urow u 0 (gg q (nI wo).toInt64 (-nI li).toInt64 sees (q 6 0) N (k + 1)))) 0 0) : ∀ (i : Nat), i ≤ q 6 0 → ∀ (g : Nat → Nat) (z1 z2 : Option Value), J KX0_sitting 9 (fun o B => o = some (.long (gg q (nI wo).toInt64 (-nI li).toInt64 sees (q 6 0) N N (q 6 0))) ∧ ∃ g9 f9, B = wO (rrow q 2 g9) x n (urow u 0 f9)) 38 [some (.ref 0), some (.int (nI wo)), some (.int (nI li)), some (.int (nI N)), some (.int (jB sees)), some (.ref 6), some (.int (nI t)), some (.long (lN (1000 ^ k))), none, some (.int (nI i)), z1, none, z2] [] (wO (rrow q 2 g) x n (urow u 0 (fun j => if i < j ∧ j ≤ q 6 0 then gg q (nI wo).toInt64 (-nI li).toInt64 sees (q 6 0) N (k + 1) j else (gg q (nI wo).toInt64 (-nI li).toInt64 sees (q 6 0) N k) j))) 0 0 := by
  intro i
  induction i with
  | zero =>
    intro hi g z1 z2
    refine J.iload dX0_sitting_38 rfl ?_
    refine J.if_le (tgt := 137) dX0_sitting_40 (by decide) (fun c40 => ?_) (fun c40 => absurd c40 (fun h => h (by decide)))
    have e9 : (fun j => if 0 < j ∧ j ≤ q 6 0 then gg q (nI wo).toInt64 (-nI li).toInt64 sees (q 6 0) N (k + 1) j else (gg q (nI wo).toInt64 (-nI li).toInt64 sees (q 6 0) N k) j) = gg q (nI wo).toInt64 (-nI li).toInt64 sees (q 6 0) N (k + 1) := by (funext j; show _ = (if 1 ≤ j ∧ j ≤ q 6 0 then _ else _); by_cases h : 0 < j ∧ j ≤ q 6 0; (rw [if_pos h, if_pos ⟨by omega, h.2⟩]; exact if_pos ⟨by omega, h.2⟩); (rw [if_neg h, if_neg (fun h9 => h ⟨by omega, h9.2⟩)]))
    rw [e9]
    exact hk g _ z1 z2
  | succ i ih =>
    intro hi g z1 z2
    refine J.iload dX0_sitting_38 rfl ?_
    refine J.if_le (tgt := 137) dX0_sitting_40 (by decide) (fun c40 => absurd c40 (fun h => absurd ((nI_lei (b := 0) (by have := hq.2.2.2; omega) (by decide)).mp h) (by omega))) (fun c40 => ?_)
    refine J.aload_n dX0_sitting_43 rfl rfl ?_
    refine J.iload dX0_sitting_44 rfl ?_
    refine J.iload dX0_sitting_46 rfl ?_
    refine J.cv (as := [.int _, .int _]) (is := [0, 1, 2, 3, 4, 5, 6, 7, 8]) (o := 0) okX0_weigh jcX0_61 (mX0_weigh (rrow q 2 g) x n (urow u 0 (fun j => if i + 1 < j ∧ j ≤ q 6 0 then gg q (nI wo).toInt64 (-nI li).toInt64 sees (q 6 0) N (k + 1) j else (gg q (nI wo).toInt64 (-nI li).toInt64 sees (q 6 0) N k) j)) (i + 1) t hq (by have := hq.2.2.2; omega) ht) dX0_sitting_48 rfl rfl rfl rfl rfl rfl rfl (fun r9 B9 hq => ?_)
    obtain ⟨rfl, rfl⟩ := hq
    refine ⟨rfl, ?_⟩
    show J _ _ _ _ _ [] (wO (rrow q 2 (ten q (i + 1) t)) x n (urow u 0 (fun j => if i + 1 < j ∧ j ≤ q 6 0 then gg q (nI wo).toInt64 (-nI li).toInt64 sees (q 6 0) N (k + 1) j else (gg q (nI wo).toInt64 (-nI li).toInt64 sees (q 6 0) N k) j))) _ _
    refine J.aload_n dX0_sitting_51 rfl rfl ?_
    refine J.iload dX0_sitting_52 rfl ?_
    refine J.iconst (0) dX0_sitting_54 (by decide) ?_
    refine J.cv (as := [.int _, .int _]) (is := [0, 1, 2, 3, 4, 5, 6, 7, 8]) (o := 0) okX0_weight jcX0_65 (mX0_weight (rrow q 2 (ten q (i + 1) t)) x n (urow u 0 (fun j => if i + 1 < j ∧ j ≤ q 6 0 then gg q (nI wo).toInt64 (-nI li).toInt64 sees (q 6 0) N (k + 1) j else (gg q (nI wo).toInt64 (-nI li).toInt64 sees (q 6 0) N k) j)) (i + 1) 0 (by have := hq.2.2.2; omega) (by decide) (fun i9 => ten_le q (i + 1) t i9)) dX0_sitting_55 rfl rfl rfl rfl rfl rfl rfl (fun r9 B9 hq => ?_)
    obtain ⟨rfl, rfl⟩ := hq
    refine ⟨rfl, ?_⟩
    show J _ _ _ _ _ (.long _ :: _) (wO (rrow q 2 (ten q (i + 1) t)) x n (urow u 0 (fun j => if i + 1 < j ∧ j ≤ q 6 0 then gg q (nI wo).toInt64 (-nI li).toInt64 sees (q 6 0) N (k + 1) j else (gg q (nI wo).toInt64 (-nI li).toInt64 sees (q 6 0) N k) j))) _ _
    refine J.iload_n dX0_sitting_58 rfl rfl ?_
    refine J.ineg dX0_sitting_59 ?_
    refine J.i2l dX0_sitting_60 ?_
    refine J.lmul dX0_sitting_61 ?_
    refine J.lload dX0_sitting_62 rfl ?_
    refine J.lmul dX0_sitting_64 ?_
    refine J.lstore dX0_sitting_65 (by decide) rfl ?_
    try dsimp only [List.set, wO, wR]
    refine J.iconst (1) dX0_sitting_67 (by decide) ?_
    refine J.istore dX0_sitting_68 (by decide) rfl ?_
    try dsimp only [List.set, wO, wR]
    refine J.at (mX0_sitting_r q x n u wo li sees hd N hq hN k t (i + 1) (by have := hq.2.2.2; omega) ht ?_ (i + 1) 1 (by omega) (by omega)) rfl rfl rfl
    refine J.aload dX0_sitting_108 rfl ?_
    refine J.iload dX0_sitting_110 rfl ?_
    refine J.iload dX0_sitting_112 rfl ?_
    refine J.if_eq (tgt := 128) dX0_sitting_114 (by decide) (fun c114 => ?_) (fun c114 => ?_)
    · refine J.lload dX0_sitting_128 rfl ?_
      refine J.lastoreN dX0_sitting_130 rfl (show i + 1 < 8 by have := hq.2.2.2; omega) ?_
      try dsimp only [List.set, wO, wR]
      refine J.iinc (-1) dX0_sitting_131 (by decide) rfl (by decide) rfl ?_
      try dsimp only [List.set, wO, wR]
      refine J.goto (tgt := 38) dX0_sitting_134 (by decide) ?_
      have e8 : gg q (nI wo).toInt64 (-nI li).toInt64 sees (q 6 0) N (k + 1) (i + 1) = (sv q (nI wo).toInt64 (-nI li).toInt64 (lN (1000 ^ k)) (gg q (nI wo).toInt64 (-nI li).toInt64 sees (q 6 0) N k) t (i + 1) (i + 1 + 1)) := by (show (if 1 ≤ i + 1 ∧ i + 1 ≤ q 6 0 then _ else _) = _; rw [if_pos ⟨by omega, hi⟩, ← ht2]; exact if_neg (fun h => (jB_0 hd).mp c114 h.1))
      have e9 : vp_updL (fun j => if i + 1 < j ∧ j ≤ q 6 0 then gg q (nI wo).toInt64 (-nI li).toInt64 sees (q 6 0) N (k + 1) j else (gg q (nI wo).toInt64 (-nI li).toInt64 sees (q 6 0) N k) j) (i + 1) ((sv q (nI wo).toInt64 (-nI li).toInt64 (lN (1000 ^ k)) (gg q (nI wo).toInt64 (-nI li).toInt64 sees (q 6 0) N k) t (i + 1) (i + 1 + 1))) = (fun j => if i < j ∧ j ≤ q 6 0 then gg q (nI wo).toInt64 (-nI li).toInt64 sees (q 6 0) N (k + 1) j else (gg q (nI wo).toInt64 (-nI li).toInt64 sees (q 6 0) N k) j) := by (rw [← e8]; exact dn_s (gg q (nI wo).toInt64 (-nI li).toInt64 sees (q 6 0) N (k + 1)) (gg q (nI wo).toInt64 (-nI li).toInt64 sees (q 6 0) N k) (q 6 0) i hi)
      refine J.at (ih (by omega) (ten q (i + 1) t) _ _) (by rw [nI_m1]) rfl ?_
      rw [← e9]
      rfl
    · refine J.lload dX0_sitting_117 rfl ?_
      refine J.lconst 0 dX0_sitting_119 (by decide) ?_
      refine J.lcmp dX0_sitting_120 ?_
      refine J.if_gt (tgt := 128) dX0_sitting_121 (by decide) (fun c121 => ?_) (fun c121 => ?_)
      · refine J.lload dX0_sitting_128 rfl ?_
        refine J.lastoreN dX0_sitting_130 rfl (show i + 1 < 8 by have := hq.2.2.2; omega) ?_
        try dsimp only [List.set, wO, wR]
        refine J.iinc (-1) dX0_sitting_131 (by decide) rfl (by decide) rfl ?_
        try dsimp only [List.set, wO, wR]
        refine J.goto (tgt := 38) dX0_sitting_134 (by decide) ?_
        have e8 : gg q (nI wo).toInt64 (-nI li).toInt64 sees (q 6 0) N (k + 1) (i + 1) = (sv q (nI wo).toInt64 (-nI li).toInt64 (lN (1000 ^ k)) (gg q (nI wo).toInt64 (-nI li).toInt64 sees (q 6 0) N k) t (i + 1) (i + 1 + 1)) := by (show (if 1 ≤ i + 1 ∧ i + 1 ≤ q 6 0 then _ else _) = _; rw [if_pos ⟨by omega, hi⟩, ← ht2]; exact if_neg (fun h => h.2 ((lg_cmp_gt _ _).mp c121)))
        have e9 : vp_updL (fun j => if i + 1 < j ∧ j ≤ q 6 0 then gg q (nI wo).toInt64 (-nI li).toInt64 sees (q 6 0) N (k + 1) j else (gg q (nI wo).toInt64 (-nI li).toInt64 sees (q 6 0) N k) j) (i + 1) ((sv q (nI wo).toInt64 (-nI li).toInt64 (lN (1000 ^ k)) (gg q (nI wo).toInt64 (-nI li).toInt64 sees (q 6 0) N k) t (i + 1) (i + 1 + 1))) = (fun j => if i < j ∧ j ≤ q 6 0 then gg q (nI wo).toInt64 (-nI li).toInt64 sees (q 6 0) N (k + 1) j else (gg q (nI wo).toInt64 (-nI li).toInt64 sees (q 6 0) N k) j) := by (rw [← e8]; exact dn_s (gg q (nI wo).toInt64 (-nI li).toInt64 sees (q 6 0) N (k + 1)) (gg q (nI wo).toInt64 (-nI li).toInt64 sees (q 6 0) N k) (q 6 0) i hi)
        refine J.at (ih (by omega) (ten q (i + 1) t) _ _) (by rw [nI_m1]) rfl ?_
        rw [← e9]
        rfl
      · refine J.lconst 0 dX0_sitting_124 (by decide) ?_
        refine J.goto (tgt := 130) dX0_sitting_125 (by decide) ?_
        refine J.lastoreN dX0_sitting_130 rfl (show i + 1 < 8 by have := hq.2.2.2; omega) ?_
        try dsimp only [List.set, wO, wR]
        refine J.iinc (-1) dX0_sitting_131 (by decide) rfl (by decide) rfl ?_
        try dsimp only [List.set, wO, wR]
        refine J.goto (tgt := 38) dX0_sitting_134 (by decide) ?_
        have e8 : gg q (nI wo).toInt64 (-nI li).toInt64 sees (q 6 0) N (k + 1) (i + 1) = 0 := by (show (if 1 ≤ i + 1 ∧ i + 1 ≤ q 6 0 then _ else _) = _; rw [if_pos ⟨by omega, hi⟩, ← ht2]; exact if_pos ⟨Decidable.not_not.mp (fun h => c114 (jB_f hd h)), fun h => c121 ((lg_cmp_gt _ _).mpr h)⟩)
        have e9 : vp_updL (fun j => if i + 1 < j ∧ j ≤ q 6 0 then gg q (nI wo).toInt64 (-nI li).toInt64 sees (q 6 0) N (k + 1) j else (gg q (nI wo).toInt64 (-nI li).toInt64 sees (q 6 0) N k) j) (i + 1) (0) = (fun j => if i < j ∧ j ≤ q 6 0 then gg q (nI wo).toInt64 (-nI li).toInt64 sees (q 6 0) N (k + 1) j else (gg q (nI wo).toInt64 (-nI li).toInt64 sees (q 6 0) N k) j) := by (rw [← e8]; exact dn_s (gg q (nI wo).toInt64 (-nI li).toInt64 sees (q 6 0) N (k + 1)) (gg q (nI wo).toInt64 (-nI li).toInt64 sees (q 6 0) N k) (q 6 0) i hi)
        refine J.at (ih (by omega) (ten q (i + 1) t) _ _) (by rw [nI_m1]) rfl ?_
        rw [← e9]
        rfl
set_option maxRecDepth 100000 in
set_option maxHeartbeats 4000000 in
theorem mX0_sitting_t (q : rT) (x : Nat → Nat) (n : Nat → Int64) (u : uT) (wo li : Nat) (sees : Prop) (hd : Decidable sees) (N : Nat) (hq : oOK q) (hN : N < 100) : ∀ (i : Nat), i ≤ N → ∀ (g : Nat → Nat) (z1 z2 z3 z4 : Option Value), J KX0_sitting 9 (fun o B => o = some (.long (gg q (nI wo).toInt64 (-nI li).toInt64 sees (q 6 0) N N (q 6 0))) ∧ ∃ g9 f9, B = wO (rrow q 2 g9) x n (urow u 0 f9)) 16 [some (.ref 0), some (.int (nI wo)), some (.int (nI li)), some (.int (nI N)), some (.int (jB sees)), some (.ref 6), some (.int (nI i - 1)), z1, none, z2, z3, none, z4] [] (wO (rrow q 2 g) x n (urow u 0 (gg q (nI wo).toInt64 (-nI li).toInt64 sees (q 6 0) N (N - i)))) 0 0 := by
  intro i
  induction i with
  | zero =>
    intro hi g z1 z2 z3 z4
    rw [Nat.sub_zero]
    refine J.iload dX0_sitting_16 rfl ?_
    refine J.if_lt (tgt := 143) dX0_sitting_18 (by decide) (fun c18 => ?_) (fun c18 => absurd c18 (fun h => h (by decide)))
    refine J.aload dX0_sitting_143 rfl ?_
    refine J.aload_n dX0_sitting_145 rfl rfl ?_
    refine J.getfield dX0_sitting_146 jFX0_57 rfl rfl ?_
    refine J.laloadN dX0_sitting_149 rfl hq.2.2.2 ?_
    exact J.lret dX0_sitting_150 rfl (Nat.le_refl _) (Nat.le_refl _) ⟨rfl, g, _, rfl⟩
  | succ i ih =>
    intro hi g z1 z2 z3 z4
    rw [nI_pred]
    refine J.iload dX0_sitting_16 rfl ?_
    refine J.if_lt (tgt := 143) dX0_sitting_18 (by decide) (fun c18 => absurd c18 (fun h => absurd h (nI_pos (by omega)))) (fun c18 => ?_)
    refine J.iload_n dX0_sitting_21 rfl rfl ?_
    refine J.iconst (1) dX0_sitting_22 (by decide) ?_
    refine J.isub dX0_sitting_23 ?_
    refine J.iload dX0_sitting_24 rfl ?_
    refine J.isub dX0_sitting_26 ?_
    rw [show (1 : Int32) = nI 1 from rfl, pk_sub (by omega), pk_sub (by omega), show N - 1 - i = N - (i + 1) from by omega]
    refine J.cs (as := [.int _]) (is := []) okX6_thousands jcX0_91 (mX6_thousands (N - (i + 1)) (by omega)) dX0_sitting_27 rfl rfl rfl rfl rfl rfl (fun r9 B9 hq => ?_)
    obtain ⟨rfl, rfl⟩ := hq
    refine ⟨rfl, ?_⟩
    show J _ _ _ _ _ (.long _ :: _) (wO (rrow q 2 g) x n (urow u 0 (gg q (nI wo).toInt64 (-nI li).toInt64 sees (q 6 0) N (N - (i + 1))))) _ _
    refine J.lstore dX0_sitting_30 (by decide) rfl ?_
    try dsimp only [List.set, wO, wR]
    refine J.aload_n dX0_sitting_32 rfl rfl ?_
    refine J.getfield dX0_sitting_33 jFX0_57 rfl rfl ?_
    refine J.istore dX0_sitting_36 (by decide) rfl ?_
    try dsimp only [List.set, wO, wR]
    refine J.at (mX0_sitting_s q x n u wo li sees hd N hq hN (N - (i + 1)) i (by omega) (by omega) ?_ (q 6 0) (Nat.le_refl _) g _ _) rfl rfl ?_
    · intro g9 y1 y2 y3
      refine J.iinc (-1) dX0_sitting_137 (by decide) rfl (by decide) rfl ?_
      try dsimp only [List.set, wO, wR]
      refine J.goto (tgt := 16) dX0_sitting_140 (by decide) ?_
      exact J.at (ih (by omega) g9 _ _ _ _) (by rw [sub1]) rfl (by rw [show N - (i + 1) + 1 = N - i from by omega]; rfl)
    · have e9 : (fun j => if q 6 0 < j ∧ j ≤ q 6 0 then gg q (nI wo).toInt64 (-nI li).toInt64 sees (q 6 0) N (N - (i + 1) + 1) j else gg q (nI wo).toInt64 (-nI li).toInt64 sees (q 6 0) N (N - (i + 1)) j) = gg q (nI wo).toInt64 (-nI li).toInt64 sees (q 6 0) N (N - (i + 1)) := funext fun j => if_neg (by omega)
      rw [e9]
      rfl
set_option maxRecDepth 100000 in
set_option maxHeartbeats 4000000 in
theorem mX0_sitting (q : rT) (x : Nat → Nat) (n : Nat → Int64) (u : uT) (wo li : Nat) (sees : Prop) (hd : Decidable sees) (N : Nat) (hq : oOK q) (hN : N < 100) : J KX0_sitting 9 (fun o B => o = some (.long (gg q (nI wo).toInt64 (-nI li).toInt64 sees (q 6 0) N N (q 6 0))) ∧ ∃ g9 f9, B = wO (rrow q 2 g9) x n (urow u 0 f9)) 0 [some (.ref 0), some (.int (nI wo)), some (.int (nI li)), some (.int (nI N)), some (.int (jB sees)), none, none, none, none, none, none, none, none] [] (wO q x n u) 0 0 := by
  refine J.aload_n dX0_sitting_0 rfl rfl ?_
  refine J.getfield dX0_sitting_1 jFX0_28 rfl rfl ?_
  refine J.astore dX0_sitting_4 (by decide) rfl ?_
  try dsimp only [List.set, wO, wR]
  refine J.aload dX0_sitting_6 rfl ?_
  refine J.cs (as := [.ref 0]) (is := [6]) okX0_clearGains jcX0_95 (mX0_clearGains 8 (u 0) (by decide)) dX0_sitting_8 rfl rfl rfl rfl rfl rfl (fun r9 B9 hq => ?_)
  obtain ⟨rfl, rfl⟩ := hq
  refine ⟨rfl, ?_⟩
  show J _ _ _ _ _ [] (wO q x n (urow u 0 (fun _ => 0))) _ _
  refine J.iload_n dX0_sitting_11 rfl rfl ?_
  refine J.iconst (1) dX0_sitting_12 (by decide) ?_
  refine J.isub dX0_sitting_13 ?_
  refine J.istore dX0_sitting_14 (by decide) rfl ?_
  try dsimp only [List.set, wO, wR]
  exact J.at (mX0_sitting_t q x n u wo li sees hd N hq hN N (Nat.le_refl _) (q 2) none none none none) rfl rfl (by rw [Nat.sub_self]; rfl)
