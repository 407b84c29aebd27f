theorem dX6_plait_0 : decode cX6_plait 0 = .ok (.iload_n 1, 1) := by decide +kernel
theorem dX6_plait_1 : decode cX6_plait 1 = .ok (.iconst 0, 1) := by decide +kernel
theorem dX6_plait_2 : decode cX6_plait 2 = .ok (.iconst 4, 1) := by decide +kernel
theorem dX6_plait_3 : decode cX6_plait 3 = .ok (.invokestatic 59, 3) := by decide +kernel
theorem dX6_plait_6 : decode cX6_plait 6 = .ok (.ifCond .eq 20, 3) := by decide +kernel
theorem dX6_plait_9 : decode cX6_plait 9 = .ok (.iload_n 2, 1) := by decide +kernel
theorem dX6_plait_10 : decode cX6_plait 10 = .ok (.invokestatic 143, 3) := by decide +kernel
theorem dX6_plait_13 : decode cX6_plait 13 = .ok (.ifCond .eq 13, 3) := by decide +kernel
theorem dX6_plait_16 : decode cX6_plait 16 = .ok (.iload_n 3, 1) := by decide +kernel
theorem dX6_plait_17 : decode cX6_plait 17 = .ok (.iconst 1, 1) := by decide +kernel
theorem dX6_plait_18 : decode cX6_plait 18 = .ok (.bipush 10, 2) := by decide +kernel
theorem dX6_plait_20 : decode cX6_plait 20 = .ok (.invokestatic 59, 3) := by decide +kernel
theorem dX6_plait_23 : decode cX6_plait 23 = .ok (.ifCond .ne 5, 3) := by decide +kernel
theorem dX6_plait_26 : decode cX6_plait 26 = .ok (.iconst (-1), 1) := by decide +kernel
theorem dX6_plait_27 : decode cX6_plait 27 = .ok (.ireturn, 1) := by decide +kernel
theorem dX6_plait_28 : decode cX6_plait 28 = .ok (.iconst 1, 1) := by decide +kernel
theorem dX6_plait_29 : decode cX6_plait 29 = .ok (.istore 4, 2) := by decide +kernel
theorem dX6_plait_31 : decode cX6_plait 31 = .ok (.iload 4, 2) := by decide +kernel
theorem dX6_plait_33 : decode cX6_plait 33 = .ok (.iconst 3, 1) := by decide +kernel
theorem dX6_plait_34 : decode cX6_plait 34 = .ok (.if_icmp .gt 49, 3) := by decide +kernel
theorem dX6_plait_37 : decode cX6_plait 37 = .ok (.aload_n 0, 1) := by decide +kernel
theorem dX6_plait_38 : decode cX6_plait 38 = .ok (.getfield 37, 3) := by decide +kernel
theorem dX6_plait_41 : decode cX6_plait 41 = .ok (.iload_n 1, 1) := by decide +kernel
theorem dX6_plait_42 : decode cX6_plait 42 = .ok (.iload 4, 2) := by decide +kernel
theorem dX6_plait_44 : decode cX6_plait 44 = .ok (.aload_n 0, 1) := by decide +kernel
theorem dX6_plait_45 : decode cX6_plait 45 = .ok (.getfield 12, 3) := by decide +kernel
theorem dX6_plait_48 : decode cX6_plait 48 = .ok (.getfield 102, 3) := by decide +kernel
theorem dX6_plait_51 : decode cX6_plait 51 = .ok (.invokevirtual 185, 3) := by decide +kernel
theorem dX6_plait_54 : decode cX6_plait 54 = .ok (.aload_n 0, 1) := by decide +kernel
theorem dX6_plait_55 : decode cX6_plait 55 = .ok (.getfield 37, 3) := by decide +kernel
theorem dX6_plait_58 : decode cX6_plait 58 = .ok (.iload_n 2, 1) := by decide +kernel
theorem dX6_plait_59 : decode cX6_plait 59 = .ok (.invokevirtual 162, 3) := by decide +kernel
theorem dX6_plait_62 : decode cX6_plait 62 = .ok (.aload_n 0, 1) := by decide +kernel
theorem dX6_plait_63 : decode cX6_plait 63 = .ok (.getfield 37, 3) := by decide +kernel
theorem dX6_plait_66 : decode cX6_plait 66 = .ok (.iload_n 3, 1) := by decide +kernel
theorem dX6_plait_67 : decode cX6_plait 67 = .ok (.iload_n 2, 1) := by decide +kernel
theorem dX6_plait_68 : decode cX6_plait 68 = .ok (.invokevirtual 189, 3) := by decide +kernel
theorem dX6_plait_71 : decode cX6_plait 71 = .ok (.ifCond .eq 6, 3) := by decide +kernel
theorem dX6_plait_74 : decode cX6_plait 74 = .ok (.iload 4, 2) := by decide +kernel
theorem dX6_plait_76 : decode cX6_plait 76 = .ok (.ireturn, 1) := by decide +kernel
theorem dX6_plait_77 : decode cX6_plait 77 = .ok (.iinc 4 1, 3) := by decide +kernel
theorem dX6_plait_80 : decode cX6_plait 80 = .ok (.goto (-49), 3) := by decide +kernel
theorem dX6_plait_83 : decode cX6_plait 83 = .ok (.bipush (-4), 2) := by decide +kernel
theorem dX6_plait_85 : decode cX6_plait 85 = .ok (.ireturn, 1) := by decide +kernel
theorem dX6_bears_0 : decode cX6_bears 0 = .ok (.iload_n 1, 1) := by decide +kernel
theorem dX6_bears_1 : decode cX6_bears 1 = .ok (.invokestatic 143, 3) := by decide +kernel
theorem dX6_bears_4 : decode cX6_bears 4 = .ok (.ifCond .eq 13, 3) := by decide +kernel
theorem dX6_bears_7 : decode cX6_bears 7 = .ok (.iload_n 2, 1) := by decide +kernel
theorem dX6_bears_8 : decode cX6_bears 8 = .ok (.iconst 1, 1) := by decide +kernel
theorem dX6_bears_9 : decode cX6_bears 9 = .ok (.bipush 10, 2) := by decide +kernel
theorem dX6_bears_11 : decode cX6_bears 11 = .ok (.invokestatic 59, 3) := by decide +kernel
theorem dX6_bears_14 : decode cX6_bears 14 = .ok (.ifCond .ne 5, 3) := by decide +kernel
theorem dX6_bears_17 : decode cX6_bears 17 = .ok (.iconst (-1), 1) := by decide +kernel
theorem dX6_bears_18 : decode cX6_bears 18 = .ok (.ireturn, 1) := by decide +kernel
theorem dX6_bears_19 : decode cX6_bears 19 = .ok (.bipush 9, 2) := by decide +kernel
theorem dX6_bears_21 : decode cX6_bears 21 = .ok (.istore_n 3, 1) := by decide +kernel
theorem dX6_bears_22 : decode cX6_bears 22 = .ok (.iload_n 3, 1) := by decide +kernel
theorem dX6_bears_23 : decode cX6_bears 23 = .ok (.iconst 1, 1) := by decide +kernel
theorem dX6_bears_24 : decode cX6_bears 24 = .ok (.if_icmp .lt 50, 3) := by decide +kernel
theorem dX6_bears_27 : decode cX6_bears 27 = .ok (.aload_n 0, 1) := by decide +kernel
theorem dX6_bears_28 : decode cX6_bears 28 = .ok (.getfield 37, 3) := by decide +kernel
theorem dX6_bears_31 : decode cX6_bears 31 = .ok (.aload_n 0, 1) := by decide +kernel
theorem dX6_bears_32 : decode cX6_bears 32 = .ok (.getfield 12, 3) := by decide +kernel
theorem dX6_bears_35 : decode cX6_bears 35 = .ok (.invokevirtual 159, 3) := by decide +kernel
theorem dX6_bears_38 : decode cX6_bears 38 = .ok (.aload_n 0, 1) := by decide +kernel
theorem dX6_bears_39 : decode cX6_bears 39 = .ok (.getfield 37, 3) := by decide +kernel
theorem dX6_bears_42 : decode cX6_bears 42 = .ok (.iload_n 3, 1) := by decide +kernel
theorem dX6_bears_43 : decode cX6_bears 43 = .ok (.putfield 177, 3) := by decide +kernel
theorem dX6_bears_46 : decode cX6_bears 46 = .ok (.aload_n 0, 1) := by decide +kernel
theorem dX6_bears_47 : decode cX6_bears 47 = .ok (.getfield 37, 3) := by decide +kernel
theorem dX6_bears_50 : decode cX6_bears 50 = .ok (.iload_n 1, 1) := by decide +kernel
theorem dX6_bears_51 : decode cX6_bears 51 = .ok (.invokevirtual 162, 3) := by decide +kernel
theorem dX6_bears_54 : decode cX6_bears 54 = .ok (.aload_n 0, 1) := by decide +kernel
theorem dX6_bears_55 : decode cX6_bears 55 = .ok (.getfield 37, 3) := by decide +kernel
theorem dX6_bears_58 : decode cX6_bears 58 = .ok (.iload_n 2, 1) := by decide +kernel
theorem dX6_bears_59 : decode cX6_bears 59 = .ok (.iload_n 1, 1) := by decide +kernel
theorem dX6_bears_60 : decode cX6_bears 60 = .ok (.invokevirtual 189, 3) := by decide +kernel
theorem dX6_bears_63 : decode cX6_bears 63 = .ok (.ifCond .eq 5, 3) := by decide +kernel
theorem dX6_bears_66 : decode cX6_bears 66 = .ok (.iload_n 3, 1) := by decide +kernel
theorem dX6_bears_67 : decode cX6_bears 67 = .ok (.ireturn, 1) := by decide +kernel
theorem dX6_bears_68 : decode cX6_bears 68 = .ok (.iinc 3 (-1), 3) := by decide +kernel
theorem dX6_bears_71 : decode cX6_bears 71 = .ok (.goto (-49), 3) := by decide +kernel
theorem dX6_bears_74 : decode cX6_bears 74 = .ok (.bipush (-4), 2) := by decide +kernel
theorem dX6_bears_76 : decode cX6_bears 76 = .ok (.ireturn, 1) := by decide +kernel
theorem dX6_mend_0 : decode cX6_mend 0 = .ok (.iload_n 1, 1) := by decide +kernel
theorem dX6_mend_1 : decode cX6_mend 1 = .ok (.invokestatic 143, 3) := by decide +kernel
theorem dX6_mend_4 : decode cX6_mend 4 = .ok (.ifCond .eq 12, 3) := by decide +kernel
theorem dX6_mend_7 : decode cX6_mend 7 = .ok (.iload_n 2, 1) := by decide +kernel
theorem dX6_mend_8 : decode cX6_mend 8 = .ok (.iconst 0, 1) := by decide +kernel
theorem dX6_mend_9 : decode cX6_mend 9 = .ok (.iconst 2, 1) := by decide +kernel
theorem dX6_mend_10 : decode cX6_mend 10 = .ok (.invokestatic 59, 3) := by decide +kernel
theorem dX6_mend_13 : decode cX6_mend 13 = .ok (.ifCond .ne 7, 3) := by decide +kernel
theorem dX6_mend_16 : decode cX6_mend 16 = .ok (.ldc2_w 146, 3) := by decide +kernel
theorem dX6_mend_19 : decode cX6_mend 19 = .ok (.lreturn, 1) := by decide +kernel
theorem dX6_mend_20 : decode cX6_mend 20 = .ok (.aload_n 0, 1) := by decide +kernel
theorem dX6_mend_21 : decode cX6_mend 21 = .ok (.iload_n 1, 1) := by decide +kernel
theorem dX6_mend_22 : decode cX6_mend 22 = .ok (.invokevirtual 152, 3) := by decide +kernel
theorem dX6_mend_25 : decode cX6_mend 25 = .ok (.lstore_n 3, 1) := by decide +kernel
theorem dX6_mend_26 : decode cX6_mend 26 = .ok (.bipush (-4), 2) := by decide +kernel
theorem dX6_mend_28 : decode cX6_mend 28 = .ok (.istore 5, 2) := by decide +kernel
theorem dX6_mend_30 : decode cX6_mend 30 = .ok (.iconst 0, 1) := by decide +kernel
theorem dX6_mend_31 : decode cX6_mend 31 = .ok (.istore 6, 2) := by decide +kernel
theorem dX6_mend_33 : decode cX6_mend 33 = .ok (.iload 6, 2) := by decide +kernel
theorem dX6_mend_35 : decode cX6_mend 35 = .ok (.aload_n 0, 1) := by decide +kernel
theorem dX6_mend_36 : decode cX6_mend 36 = .ok (.getfield 12, 3) := by decide +kernel
theorem dX6_mend_39 : decode cX6_mend 39 = .ok (.getfield 93, 3) := by decide +kernel
theorem dX6_mend_42 : decode cX6_mend 42 = .ok (.if_icmp .ge 60, 3) := by decide +kernel
theorem dX6_mend_45 : decode cX6_mend 45 = .ok (.aload_n 0, 1) := by decide +kernel
theorem dX6_mend_46 : decode cX6_mend 46 = .ok (.getfield 37, 3) := by decide +kernel
theorem dX6_mend_49 : decode cX6_mend 49 = .ok (.aload_n 0, 1) := by decide +kernel
theorem dX6_mend_50 : decode cX6_mend 50 = .ok (.getfield 12, 3) := by decide +kernel
theorem dX6_mend_53 : decode cX6_mend 53 = .ok (.invokevirtual 159, 3) := by decide +kernel
theorem dX6_mend_56 : decode cX6_mend 56 = .ok (.aload_n 0, 1) := by decide +kernel
theorem dX6_mend_57 : decode cX6_mend 57 = .ok (.getfield 37, 3) := by decide +kernel
theorem dX6_mend_60 : decode cX6_mend 60 = .ok (.iload 6, 2) := by decide +kernel
theorem dX6_mend_62 : decode cX6_mend 62 = .ok (.invokevirtual 193, 3) := by decide +kernel
theorem dX6_mend_65 : decode cX6_mend 65 = .ok (.aload_n 0, 1) := by decide +kernel
theorem dX6_mend_66 : decode cX6_mend 66 = .ok (.getfield 37, 3) := by decide +kernel
theorem dX6_mend_69 : decode cX6_mend 69 = .ok (.iload_n 1, 1) := by decide +kernel
theorem dX6_mend_70 : decode cX6_mend 70 = .ok (.invokevirtual 162, 3) := by decide +kernel
theorem dX6_mend_73 : decode cX6_mend 73 = .ok (.aload_n 0, 1) := by decide +kernel
theorem dX6_mend_74 : decode cX6_mend 74 = .ok (.getfield 37, 3) := by decide +kernel
theorem dX6_mend_77 : decode cX6_mend 77 = .ok (.invokevirtual 181, 3) := by decide +kernel
theorem dX6_mend_80 : decode cX6_mend 80 = .ok (.lstore 7, 2) := by decide +kernel
theorem dX6_mend_82 : decode cX6_mend 82 = .ok (.lload 7, 2) := by decide +kernel
theorem dX6_mend_84 : decode cX6_mend 84 = .ok (.lload_n 3, 1) := by decide +kernel
theorem dX6_mend_85 : decode cX6_mend 85 = .ok (.lcmp, 1) := by decide +kernel
theorem dX6_mend_86 : decode cX6_mend 86 = .ok (.ifCond .le 10, 3) := by decide +kernel
theorem dX6_mend_89 : decode cX6_mend 89 = .ok (.lload 7, 2) := by decide +kernel
theorem dX6_mend_91 : decode cX6_mend 91 = .ok (.lstore_n 3, 1) := by decide +kernel
theorem dX6_mend_92 : decode cX6_mend 92 = .ok (.iload 6, 2) := by decide +kernel
theorem dX6_mend_94 : decode cX6_mend 94 = .ok (.istore 5, 2) := by decide +kernel
theorem dX6_mend_96 : decode cX6_mend 96 = .ok (.iinc 6 1, 3) := by decide +kernel
theorem dX6_mend_99 : decode cX6_mend 99 = .ok (.goto (-66), 3) := by decide +kernel
theorem dX6_mend_102 : decode cX6_mend 102 = .ok (.iload_n 2, 1) := by decide +kernel
theorem dX6_mend_103 : decode cX6_mend 103 = .ok (.ifCond .eq 10, 3) := by decide +kernel
theorem dX6_mend_106 : decode cX6_mend 106 = .ok (.iload 5, 2) := by decide +kernel
theorem dX6_mend_108 : decode cX6_mend 108 = .ok (.bipush (-4), 2) := by decide +kernel
theorem dX6_mend_110 : decode cX6_mend 110 = .ok (.if_icmp .ne 7, 3) := by decide +kernel
theorem dX6_mend_113 : decode cX6_mend 113 = .ok (.iload 5, 2) := by decide +kernel
theorem dX6_mend_115 : decode cX6_mend 115 = .ok (.i2l, 1) := by decide +kernel
theorem dX6_mend_116 : decode cX6_mend 116 = .ok (.lreturn, 1) := by decide +kernel
theorem dX6_mend_117 : decode cX6_mend 117 = .ok (.lload_n 3, 1) := by decide +kernel
theorem dX6_mend_118 : decode cX6_mend 118 = .ok (.iload_n 1, 1) := by decide +kernel
theorem dX6_mend_119 : decode cX6_mend 119 = .ok (.invokestatic 148, 3) := by decide +kernel
theorem dX6_mend_122 : decode cX6_mend 122 = .ok (.iload_n 2, 1) := by decide +kernel
theorem dX6_mend_123 : decode cX6_mend 123 = .ok (.iconst 1, 1) := by decide +kernel
theorem dX6_mend_124 : decode cX6_mend 124 = .ok (.isub, 1) := by decide +kernel
theorem dX6_mend_125 : decode cX6_mend 125 = .ok (.invokestatic 155, 3) := by decide +kernel
theorem dX6_mend_128 : decode cX6_mend 128 = .ok (.lreturn, 1) := by decide +kernel
theorem dX6_duel_0 : decode cX6_duel 0 = .ok (.iload_n 1, 1) := by decide +kernel
theorem dX6_duel_1 : decode cX6_duel 1 = .ok (.iconst 0, 1) := by decide +kernel
theorem dX6_duel_2 : decode cX6_duel 2 = .ok (.aload_n 0, 1) := by decide +kernel
theorem dX6_duel_3 : decode cX6_duel 3 = .ok (.getfield 12, 3) := by decide +kernel
theorem dX6_duel_6 : decode cX6_duel 6 = .ok (.getfield 96, 3) := by decide +kernel
theorem dX6_duel_9 : decode cX6_duel 9 = .ok (.iconst 1, 1) := by decide +kernel
theorem dX6_duel_10 : decode cX6_duel 10 = .ok (.isub, 1) := by decide +kernel
theorem dX6_duel_11 : decode cX6_duel 11 = .ok (.invokestatic 59, 3) := by decide +kernel
theorem dX6_duel_14 : decode cX6_duel 14 = .ok (.ifCond .eq 25, 3) := by decide +kernel
theorem dX6_duel_17 : decode cX6_duel 17 = .ok (.iload_n 2, 1) := by decide +kernel
theorem dX6_duel_18 : decode cX6_duel 18 = .ok (.iconst 0, 1) := by decide +kernel
theorem dX6_duel_19 : decode cX6_duel 19 = .ok (.aload_n 0, 1) := by decide +kernel
theorem dX6_duel_20 : decode cX6_duel 20 = .ok (.getfield 12, 3) := by decide +kernel
theorem dX6_duel_23 : decode cX6_duel 23 = .ok (.getfield 96, 3) := by decide +kernel
theorem dX6_duel_26 : decode cX6_duel 26 = .ok (.iconst 1, 1) := by decide +kernel
theorem dX6_duel_27 : decode cX6_duel 27 = .ok (.isub, 1) := by decide +kernel
theorem dX6_duel_28 : decode cX6_duel 28 = .ok (.invokestatic 59, 3) := by decide +kernel
theorem dX6_duel_31 : decode cX6_duel 31 = .ok (.ifCond .eq 8, 3) := by decide +kernel
theorem dX6_duel_34 : decode cX6_duel 34 = .ok (.iload_n 1, 1) := by decide +kernel
theorem dX6_duel_35 : decode cX6_duel 35 = .ok (.iload_n 2, 1) := by decide +kernel
theorem dX6_duel_36 : decode cX6_duel 36 = .ok (.if_icmp .ne 7, 3) := by decide +kernel
theorem dX6_duel_39 : decode cX6_duel 39 = .ok (.ldc2_w 146, 3) := by decide +kernel
theorem dX6_duel_42 : decode cX6_duel 42 = .ok (.lreturn, 1) := by decide +kernel
theorem dX6_duel_43 : decode cX6_duel 43 = .ok (.iload_n 3, 1) := by decide +kernel
theorem dX6_duel_44 : decode cX6_duel 44 = .ok (.invokestatic 143, 3) := by decide +kernel
theorem dX6_duel_47 : decode cX6_duel 47 = .ok (.ifCond .eq 13, 3) := by decide +kernel
theorem dX6_duel_50 : decode cX6_duel 50 = .ok (.iload 4, 2) := by decide +kernel
theorem dX6_duel_52 : decode cX6_duel 52 = .ok (.iconst 0, 1) := by decide +kernel
theorem dX6_duel_53 : decode cX6_duel 53 = .ok (.iconst 4, 1) := by decide +kernel
theorem dX6_duel_54 : decode cX6_duel 54 = .ok (.invokestatic 59, 3) := by decide +kernel
theorem dX6_duel_57 : decode cX6_duel 57 = .ok (.ifCond .ne 7, 3) := by decide +kernel
theorem dX6_duel_60 : decode cX6_duel 60 = .ok (.ldc2_w 146, 3) := by decide +kernel
theorem dX6_duel_63 : decode cX6_duel 63 = .ok (.lreturn, 1) := by decide +kernel
theorem dX6_duel_64 : decode cX6_duel 64 = .ok (.aload_n 0, 1) := by decide +kernel
theorem dX6_duel_65 : decode cX6_duel 65 = .ok (.getfield 37, 3) := by decide +kernel
theorem dX6_duel_68 : decode cX6_duel 68 = .ok (.aload_n 0, 1) := by decide +kernel
theorem dX6_duel_69 : decode cX6_duel 69 = .ok (.getfield 12, 3) := by decide +kernel
theorem dX6_duel_72 : decode cX6_duel 72 = .ok (.invokevirtual 159, 3) := by decide +kernel
theorem dX6_duel_75 : decode cX6_duel 75 = .ok (.aload_n 0, 1) := by decide +kernel
theorem dX6_duel_76 : decode cX6_duel 76 = .ok (.getfield 37, 3) := by decide +kernel
theorem dX6_duel_79 : decode cX6_duel 79 = .ok (.aload_n 0, 1) := by decide +kernel
theorem dX6_duel_80 : decode cX6_duel 80 = .ok (.getfield 12, 3) := by decide +kernel
theorem dX6_duel_83 : decode cX6_duel 83 = .ok (.iload_n 1, 1) := by decide +kernel
theorem dX6_duel_84 : decode cX6_duel 84 = .ok (.iload_n 2, 1) := by decide +kernel
theorem dX6_duel_85 : decode cX6_duel 85 = .ok (.iload_n 3, 1) := by decide +kernel
theorem dX6_duel_86 : decode cX6_duel 86 = .ok (.invokevirtual 196, 3) := by decide +kernel
theorem dX6_duel_89 : decode cX6_duel 89 = .ok (.iload 4, 2) := by decide +kernel
theorem dX6_duel_91 : decode cX6_duel 91 = .ok (.iconst 4, 1) := by decide +kernel
theorem dX6_duel_92 : decode cX6_duel 92 = .ok (.if_icmp .ne 21, 3) := by decide +kernel
theorem dX6_duel_95 : decode cX6_duel 95 = .ok (.aload_n 0, 1) := by decide +kernel
theorem dX6_duel_96 : decode cX6_duel 96 = .ok (.getfield 37, 3) := by decide +kernel
theorem dX6_duel_99 : decode cX6_duel 99 = .ok (.getfield 200, 3) := by decide +kernel
theorem dX6_duel_102 : decode cX6_duel 102 = .ok (.lconst 0, 1) := by decide +kernel
theorem dX6_duel_103 : decode cX6_duel 103 = .ok (.lcmp, 1) := by decide +kernel
theorem dX6_duel_104 : decode cX6_duel 104 = .ok (.ifCond .le 7, 3) := by decide +kernel
theorem dX6_duel_107 : decode cX6_duel 107 = .ok (.lconst 1, 1) := by decide +kernel
theorem dX6_duel_108 : decode cX6_duel 108 = .ok (.goto 4, 3) := by decide +kernel
theorem dX6_duel_111 : decode cX6_duel 111 = .ok (.lconst 0, 1) := by decide +kernel
theorem dX6_duel_112 : decode cX6_duel 112 = .ok (.lreturn, 1) := by decide +kernel
theorem dX6_duel_113 : decode cX6_duel 113 = .ok (.iload 4, 2) := by decide +kernel
theorem dX6_duel_115 : decode cX6_duel 115 = .ok (.iconst 2, 1) := by decide +kernel
theorem dX6_duel_116 : decode cX6_duel 116 = .ok (.if_icmp .ge 13, 3) := by decide +kernel
theorem dX6_duel_119 : decode cX6_duel 119 = .ok (.aload_n 0, 1) := by decide +kernel
theorem dX6_duel_120 : decode cX6_duel 120 = .ok (.getfield 37, 3) := by decide +kernel
theorem dX6_duel_123 : decode cX6_duel 123 = .ok (.getfield 200, 3) := by decide +kernel
theorem dX6_duel_126 : decode cX6_duel 126 = .ok (.goto 10, 3) := by decide +kernel
theorem dX6_duel_129 : decode cX6_duel 129 = .ok (.aload_n 0, 1) := by decide +kernel
theorem dX6_duel_130 : decode cX6_duel 130 = .ok (.getfield 37, 3) := by decide +kernel
theorem dX6_duel_133 : decode cX6_duel 133 = .ok (.getfield 204, 3) := by decide +kernel
theorem dX6_duel_136 : decode cX6_duel 136 = .ok (.iload_n 3, 1) := by decide +kernel
theorem dX6_duel_137 : decode cX6_duel 137 = .ok (.invokestatic 148, 3) := by decide +kernel
theorem dX6_duel_140 : decode cX6_duel 140 = .ok (.iload 4, 2) := by decide +kernel
theorem dX6_duel_142 : decode cX6_duel 142 = .ok (.iconst 1, 1) := by decide +kernel
theorem dX6_duel_143 : decode cX6_duel 143 = .ok (.iand, 1) := by decide +kernel
theorem dX6_duel_144 : decode cX6_duel 144 = .ok (.invokestatic 155, 3) := by decide +kernel
theorem dX6_duel_147 : decode cX6_duel 147 = .ok (.lreturn, 1) := by decide +kernel
/-! ===== the reckoner's calls, by what counts of its state alone ===== -/
def oL (q qc : rT) : Prop := ten q = ten qc ∧ oOK q ∧ q 6 0 = qc 6 0
theorem oL_take {r : rT} (h : rOK r) (q : rT) : oL (otake q r) (oqR r) := ⟨rfl, h.o q, rfl⟩
theorem mX0_passHourC (q qc : rT) (x : Nat → Nat) (n : Nat → Int64) (u : uT) (t : Nat) (hq : oL q qc) (ht : t < 100) : J KX0_passHour 9 (fun o B => o = none ∧ ∃ q9 n9, oL q9 qc ∧ B = wO q9 (acc qc x t 8) n9 u) 0 [some (.ref 0), some (.int (nI t)), none, none] [] (wO q x n u) 0 0 := by
  refine (mX0_passHour q x n u t hq.2.1 ht).weaken (fun o B h => ?_)
  obtain ⟨h1, g9, n9, h2⟩ := h
  refine ⟨h1, rrow q 2 g9, n9, hq, ?_⟩
  rw [h2, show acc q x t 8 = acc qc x t 8 from funext (acc_c hq.1 x t 8)]
theorem mX0_passHoursC (q qc : rT) (x : Nat → Nat) (n : Nat → Int64) (u : uT) (N : Nat) (hq : oL q qc) (hN : N < 100) : J KX0_passHours 9 (fun o B => o = none ∧ ∃ q9 n9, oL q9 qc ∧ B = wO q9 (sh qc x N) n9 u) 0 [some (.ref 0), some (.int (nI N)), none] [] (wO q x n u) 0 0 := by
  refine (mX0_passHours q x n u N hq.2.1 hN).weaken (fun o B h => ?_)
  obtain ⟨h1, g9, n9, h2⟩ := h
  refine ⟨h1, rrow q 2 g9, n9, hq, ?_⟩
  rw [h2, sh_c hq.1]
/-- the first HOUR under another LOAD -/
def tsh (r : rT) (V : Nat) : Nat → Nat → Nat
  | 0 => acc (oq (r 0) (r 1) V (r 6 3)) (one (r 6 3)) 0 8
  | t + 1 => acc (oqR r) (tsh r V t) (t + 1) 8
theorem tsh_sum {r : rT} (h : rOK r) (V : Nat) : ∀ t, sm (tsh r V t) 8 = 1000 ^ (t + 1)
  | 0 => by rw [tsh, acc_sum _ _ _ 8 (Nat.le_refl _), one_sum _ h.w]
  | t + 1 => by rw [tsh, acc_sum _ _ _ 8 (Nat.le_refl _), tsh_sum h V t, Nat.pow_succ 1000 (t + 1), Nat.mul_comm]
theorem not0_le (x : Nat → Nat) : sm (not0 x) 8 ≤ sm x 8 := by have := not0_sum x; omega
theorem ten_load (q : rT) (k a : Nat → Nat) (l0 l w : Nat) (h : ten q = ten (oq k a l0 w)) (h0 : ∀ i, q 0 i = k i) (h1 : ∀ i, q 1 i = a i) : ten (rset q 6 1 l) = ten (oq k a l w) := by
  funext s t i
  show brk (q 0 i) (min 9 (q 1 i + t)) l (pc3 s) = brk (k i) (min 9 (a i + t)) l (pc3 s)
  rw [h0, h1]
set_option maxRecDepth 100000 in
set_option maxHeartbeats 4000000 in
theorem mX6_test_l (rs : Nat → rT) (v : Nat → Nat → Nat) (u : uT) (c : Nat → Nat → Int32) (l : Nat → Int32) (tn : Int32) (V N : Nat) (hV : 1 ≤ V) (hV9 : V ≤ 9) (hN : N ≤ 4) (wh : Int32) (hw : 0 ≤ wh ∧ wh ≤ 1) (hr : rOK (rs 0)) : ∀ (k9 i : Nat), i + k9 = N → ∀ (q : rT) (n : Nat → Int64) (hq : oL q (oqR (rs 0))), J KX6_test 62 (fun o B => o = some (.long (lowT ((sm (not0 (tsh (rs 0) V N)) 8 : Nat) : Int) (1000 ^ (N + 1)) wh)) ∧ ∃ q9 x9 n9 u9, B = wC rs v q9 x9 n9 u9 c l tn) 76 [some (.ref 0), some (.int (nI V)), some (.int (nI N)), some (.int wh), some (.int (nI (i + 1)))] [] (wC rs v q (tsh (rs 0) V i) n u c l tn) 0 0 := by
  intro k9
  induction k9 with
  | zero =>
    intro i hi
    obtain hiN : i = N := by omega
    intro q n hq
    subst hiN
    refine J.iload dX6_test_76 rfl ?_
    refine J.iload_n dX6_test_78 rfl rfl ?_
    refine J.icmp_gt (tgt := 97) dX6_test_79 (by decide) (fun c79 => ?_) (fun c79 => absurd c79 (fun h => h ((nI_lti (by omega) (by omega)).mpr (Nat.lt_succ_self _))))
    refine J.aload_n dX6_test_97 rfl rfl ?_
    refine J.getfield dX6_test_98 jFX6_37 rfl rfl ?_
    refine J.cv (as := []) (is := [27, 28, 29, 30, 31, 32, 33, 34, 35]) (o := 0) okX0_held jcX6_181 (mX0_held q (tsh (rs 0) V i) n u) dX6_test_101 rfl rfl rfl rfl rfl rfl rfl (fun r9 B9 hq => ?_)
    obtain ⟨rfl, rfl⟩ := hq
    refine ⟨rfl, ?_⟩
    show J _ _ _ _ _ (.long _ :: _) (wC rs v q (tsh (rs 0) V i) n u c l tn) _ _
    refine J.iload_n dX6_test_104 rfl rfl ?_
    refine J.iconst (1) dX6_test_105 (by decide) ?_
    refine J.iadd dX6_test_106 ?_
    rw [nI_1]
    refine J.cs (as := [.int _]) (is := []) okX6_thousands jcX6_148 (mX6_thousands (i + 1) (by omega)) dX6_test_107 rfl rfl rfl rfl rfl rfl (fun r9 B9 hq => ?_)
    obtain ⟨rfl, rfl⟩ := hq
    refine ⟨rfl, ?_⟩
    show J _ _ _ _ _ (.long _ :: .long _ :: _) (wC rs v q (tsh (rs 0) V i) n u c l tn) _ _
    refine J.iload_n dX6_test_110 rfl rfl ?_
    refine J.cs (as := [.long _, .long _, .int _]) (is := []) okX6_part jcX6_155 (mX6_partN (sm (not0 (tsh (rs 0) V i)) 8) (1000 ^ (i + 1)) wh (by have := p1000 (i + 1) (by omega); have := not0_le (tsh (rs 0) V i); have := tsh_sum hr V i; omega) (by have := p1000 (i + 1) (by omega); omega) (by have := p1000 (i + 1) (by omega); omega)) dX6_test_111 rfl rfl rfl rfl rfl rfl (fun r9 B9 hq => ?_)
    obtain ⟨rfl, rfl⟩ := hq
    refine ⟨rfl, ?_⟩
    show J _ _ _ _ _ (.long _ :: _) (wC rs v q (tsh (rs 0) V i) n u c l tn) _ _
    exact J.lret dX6_test_114 rfl (Nat.le_refl _) (Nat.le_refl _) ⟨rfl, _, _, _, _, rfl⟩
  | succ k9 ih =>
    intro i hi
    have hiN : i < N := by omega
    intro q n hq
    refine J.iload dX6_test_76 rfl ?_
    refine J.iload_n dX6_test_78 rfl rfl ?_
    refine J.icmp_gt (tgt := 97) dX6_test_79 (by decide) (fun c79 => absurd c79 (fun h => absurd ((nI_lti (by omega) (by omega)).mp h) (by omega))) (fun c79 => ?_)
    refine J.aload_n dX6_test_82 rfl rfl ?_
    refine J.getfield dX6_test_83 jFX6_37 rfl rfl ?_
    refine J.iload dX6_test_86 rfl ?_
    refine J.cv (as := [.int _]) (is := [27, 28, 29, 30, 31, 32, 33, 34, 35]) (o := 0) okX0_passHour jcX6_178 (mX0_passHourC q (oqR (rs 0)) (tsh (rs 0) V i) n u (i + 1) hq (by omega)) dX6_test_88 rfl rfl rfl rfl rfl rfl rfl (fun r9 B9 hq9 => ?_)
    obtain ⟨rfl, q9, n9, hq9, rfl⟩ := hq9
    refine ⟨rfl, ?_⟩
    show J _ _ _ _ _ [] (wC rs v q9 (tsh (rs 0) V (i + 1)) n9 u c l tn) _ _
    refine J.iinc (1) dX6_test_91 (by decide) rfl (by decide) rfl ?_
    try dsimp only [List.set]
    refine J.goto (tgt := 76) dX6_test_94 (by decide) ?_
    exact J.at (ih (i + 1) (by omega) q9 n9 hq9) (by rw [← nI_1 (i + 1)]) rfl rfl
set_option maxRecDepth 100000 in
set_option maxHeartbeats 4000000 in
theorem mX6_test (rs : Nat → rT) (v : Nat → Nat → Nat) (q : rT) (x : Nat → Nat) (n : Nat → Int64) (u : uT) (c : Nat → Nat → Int32) (l : Nat → Int32) (tn : Int32) (V N : Nat) (hV : 1 ≤ V) (hV9 : V ≤ 9) (hN : N ≤ 4) (wh : Int32) (hw : 0 ≤ wh ∧ wh ≤ 1) (hr : rOK (rs 0)) : J KX6_test 62 (fun o B => o = some (.long (lowT ((sm (not0 (tsh (rs 0) V N)) 8 : Nat) : Int) (1000 ^ (N + 1)) wh)) ∧ ∃ q9 x9 n9 u9, B = wC rs v q9 x9 n9 u9 c l tn) 0 [some (.ref 0), some (.int (nI V)), some (.int (nI N)), some (.int wh), none] [] (wC rs v q x n u c l tn) 0 0 := by
  refine J.iload_n dX6_test_0 rfl rfl ?_
  refine J.iconst (1) dX6_test_1 (by decide) ?_
  refine J.bipush (9) dX6_test_2 (by decide) ?_
  refine J.cs (as := [.int _, .int _, .int _]) (is := []) okX6_within jcX6_59 (mX6_within _ _ _) dX6_test_4 rfl rfl rfl rfl rfl rfl (fun r9 B9 hq => ?_)
  obtain ⟨rfl, rfl⟩ := hq
  refine ⟨rfl, ?_⟩
  show J _ _ _ _ _ (.int _ :: _) (wC rs v q x n u c l tn) _ _
  refine J.if_eq (tgt := 28) dX6_test_7 (by decide) (fun c7 => absurd c7 (fun h => (jB_0 _).mp h (jw (a := 1) (c := 9) (by decide) hV hV9))) (fun c7 => ?_)
  refine J.iload_n dX6_test_10 rfl rfl ?_
  refine J.iconst (0) dX6_test_11 (by decide) ?_
  refine J.iconst (4) dX6_test_12 (by decide) ?_
  refine J.cs (as := [.int _, .int _, .int _]) (is := []) okX6_within jcX6_59 (mX6_within _ _ _) dX6_test_13 rfl rfl rfl rfl rfl rfl (fun r9 B9 hq => ?_)
  obtain ⟨rfl, rfl⟩ := hq
  refine ⟨rfl, ?_⟩
  show J _ _ _ _ _ (.int _ :: _) (wC rs v q x n u c l tn) _ _
  refine J.if_eq (tgt := 28) dX6_test_16 (by decide) (fun c16 => absurd c16 (fun h => (jB_0 _).mp h (jw (a := 0) (c := 4) (by decide) (Nat.zero_le _) hN))) (fun c16 => ?_)
  refine J.iload_n dX6_test_19 rfl rfl ?_
  refine J.iconst (0) dX6_test_20 (by decide) ?_
  refine J.iconst (1) dX6_test_21 (by decide) ?_
  refine J.cs (as := [.int _, .int _, .int _]) (is := []) okX6_within jcX6_59 (mX6_within _ _ _) dX6_test_22 rfl rfl rfl rfl rfl rfl (fun r9 B9 hq => ?_)
  obtain ⟨rfl, rfl⟩ := hq
  refine ⟨rfl, ?_⟩
  show J _ _ _ _ _ (.int _ :: _) (wC rs v q x n u c l tn) _ _
  refine J.if_ne (tgt := 32) dX6_test_25 (by decide) (fun c25 => ?_) (fun c25 => absurd c25 (fun h => (jB_0 _).mp h hw))
  refine J.aload_n dX6_test_32 rfl rfl ?_
  refine J.getfield dX6_test_33 jFX6_37 rfl rfl ?_
  refine J.aload_n dX6_test_36 rfl rfl ?_
  refine J.getfield dX6_test_37 jFX6_12 rfl rfl ?_
  refine J.cv (as := [.ref 9]) (is := [27, 28, 29, 30, 31, 32, 33, 34, 35, 1, 2, 3, 4, 5, 6, 7]) (o := 0) okX0_take jcX6_159 (mX0_take q x n u (rs 0) hr.w) dX6_test_40 rfl rfl rfl rfl rfl rfl rfl (fun r9 B9 hq => ?_)
  obtain ⟨rfl, rfl⟩ := hq
  refine ⟨rfl, ?_⟩
  show J _ _ _ _ _ [] (wC rs v (otake q (rs 0)) (one (rs 0 6 3)) n u c l tn) _ _
  refine J.aload_n dX6_test_43 rfl rfl ?_
  refine J.getfield dX6_test_44 jFX6_37 rfl rfl ?_
  refine J.iload_n dX6_test_47 rfl rfl ?_
  refine J.putfield dX6_test_48 jFX6_177 jP0_4 rfl rfl rfl (Nat.le_of_ble_eq_true rfl) ?_
  try dsimp only [List.set]
  show J _ _ _ _ _ [] (wC rs v (rset (otake q (rs 0)) 6 1 V) (one (rs 0 6 3)) n u c l tn) _ _
  refine J.aload_n dX6_test_51 rfl rfl ?_
  refine J.getfield dX6_test_52 jFX6_37 rfl rfl ?_
  refine J.iconst (0) dX6_test_55 (by decide) ?_
  refine J.cv (as := [.int _]) (is := [27, 28, 29, 30, 31, 32, 33, 34, 35]) (o := 0) okX0_passHour jcX6_178 (mX0_passHour (rset (otake q (rs 0)) 6 1 V) (one (rs 0 6 3)) n u 0 ⟨hr.2.2.2.2.2.2.2.2.1, hr.2.2.2.2.2.2.2.2.2.1, hV9, hr.w⟩ (by omega)) dX6_test_56 rfl rfl rfl rfl rfl rfl rfl (fun r9 B9 hq9 => ?_)
  obtain ⟨rfl, g9, n9, rfl⟩ := hq9
  refine ⟨rfl, ?_⟩
  show J _ _ _ _ _ [] (wC rs v (rrow (rset (otake q (rs 0)) 6 1 V) 2 g9) (acc (rset (otake q (rs 0)) 6 1 V) (one (rs 0 6 3)) 0 8) n9 u c l tn) _ _
  refine J.aload_n dX6_test_59 rfl rfl ?_
  refine J.getfield dX6_test_60 jFX6_37 rfl rfl ?_
  refine J.aload_n dX6_test_63 rfl rfl ?_
  refine J.getfield dX6_test_64 jFX6_12 rfl rfl ?_
  refine J.getfield dX6_test_67 jFX6_102 rfl rfl ?_
  refine J.putfield dX6_test_70 jFX6_177 jP0_4 rfl rfl rfl (Nat.le_of_ble_eq_true rfl) ?_
  try dsimp only [List.set]
  show J _ _ _ _ _ [] (wC rs v (rset (rrow (rset (otake q (rs 0)) 6 1 V) 2 g9) 6 1 (rs 0 6 4)) (acc (rset (otake q (rs 0)) 6 1 V) (one (rs 0 6 3)) 0 8) n9 u c l tn) _ _
  refine J.iconst (1) dX6_test_73 (by decide) ?_
  refine J.istore dX6_test_74 (by decide) rfl ?_
  try dsimp only [List.set]
  exact J.at (mX6_test_l rs v u c l tn V N hV hV9 hN wh hw hr N 0 (by omega) (rset (rrow (rset (otake q (rs 0)) 6 1 V) 2 g9) 6 1 (rs 0 6 4)) n9 ⟨rfl, ⟨hr.2.2.2.2.2.2.2.2.1, hr.2.2.2.2.2.2.2.2.2.1, hr.2.2.2.2.2.1, hr.w⟩, rfl⟩) rfl rfl (by rw [show tsh (rs 0) V 0 = acc (rset (otake q (rs 0)) 6 1 V) (one (rs 0 6 3)) 0 8 from (funext (acc_c (q := (rset (otake q (rs 0)) 6 1 V)) (q' := oq (rs 0 0) (rs 0 1) V (rs 0 6 3)) rfl _ 0 8)).symm])
set_option maxRecDepth 100000 in
set_option maxHeartbeats 4000000 in
theorem mX6_test_bad (rs : Nat → rT) (v : Nat → Nat → Nat) (q : rT) (x : Nat → Nat) (n : Nat → Int64) (u : uT) (c : Nat → Nat → Int32) (l : Nat → Int32) (tn : Int32) (V N wh : Int32) (hb : ¬ (1 ≤ V ∧ V ≤ 9) ∨ ¬ (0 ≤ N ∧ N ≤ 4) ∨ ¬ (0 ≤ wh ∧ wh ≤ 1)) : J KX6_test 62 (fun o B => o = some (.long (-1)) ∧ B = (wC rs v q x n u c l tn)) 0 [some (.ref 0), some (.int V), some (.int N), some (.int wh), none] [] (wC rs v q x n u c l tn) 0 0 := by
  refine J.iload_n dX6_test_0 rfl rfl ?_
  refine J.iconst (1) dX6_test_1 (by decide) ?_
  refine J.bipush (9) dX6_test_2 (by decide) ?_
  refine J.cs (as := [.int _, .int _, .int _]) (is := []) okX6_within jcX6_59 (mX6_within _ _ _) dX6_test_4 rfl rfl rfl rfl rfl rfl (fun r9 B9 hq => ?_)
  obtain ⟨rfl, rfl⟩ := hq
  refine ⟨rfl, ?_⟩
  show J _ _ _ _ _ (.int _ :: _) (wC rs v q x n u c l tn) _ _
  refine J.if_eq (tgt := 28) dX6_test_7 (by decide) (fun c7 => ?_) (fun c7 => ?_)
  · refine J.ldc2 (v := -1) dX6_test_28 (jt 527 rfl rfl) ?_
    exact J.lret dX6_test_31 rfl (Nat.le_refl _) (Nat.le_refl _) ⟨rfl, rfl⟩
  · refine J.iload_n dX6_test_10 rfl rfl ?_
    refine J.iconst (0) dX6_test_11 (by decide) ?_
    refine J.iconst (4) dX6_test_12 (by decide) ?_
    refine J.cs (as := [.int _, .int _, .int _]) (is := []) okX6_within jcX6_59 (mX6_within _ _ _) dX6_test_13 rfl rfl rfl rfl rfl rfl (fun r9 B9 hq => ?_)
    obtain ⟨rfl, rfl⟩ := hq
    refine ⟨rfl, ?_⟩
    show J _ _ _ _ _ (.int _ :: _) (wC rs v q x n u c l tn) _ _
    refine J.if_eq (tgt := 28) dX6_test_16 (by decide) (fun c16 => ?_) (fun c16 => ?_)
    · refine J.ldc2 (v := -1) dX6_test_28 (jt 527 rfl rfl) ?_
      exact J.lret dX6_test_31 rfl (Nat.le_refl _) (Nat.le_refl _) ⟨rfl, rfl⟩
    · refine J.iload_n dX6_test_19 rfl rfl ?_
      refine J.iconst (0) dX6_test_20 (by decide) ?_
      refine J.iconst (1) dX6_test_21 (by decide) ?_
      refine J.cs (as := [.int _, .int _, .int _]) (is := []) okX6_within jcX6_59 (mX6_within _ _ _) dX6_test_22 rfl rfl rfl rfl rfl rfl (fun r9 B9 hq => ?_)
      obtain ⟨rfl, rfl⟩ := hq
      refine ⟨rfl, ?_⟩
      show J _ _ _ _ _ (.int _ :: _) (wC rs v q x n u c l tn) _ _
      refine J.if_ne (tgt := 32) dX6_test_25 (by decide) (fun c25 => absurd c25 (fun h => h ((jB_0 _).mpr (fun hC => (fun h => h.elim (fun h => h (Decidable.not_not.mp (fun h9 => c7 ((jB_0 _).mpr h9)))) (fun h => h.elim (fun h => h (Decidable.not_not.mp (fun h9 => c16 ((jB_0 _).mpr h9)))) (fun h => h hC))) hb)))) (fun c25 => ?_)
      refine J.ldc2 (v := -1) dX6_test_28 (jt 527 rfl rfl) ?_
      exact J.lret dX6_test_31 rfl (Nat.le_refl _) (Nat.le_refl _) ⟨rfl, rfl⟩
/-- the first of so many from m on; the greatest up to v -/
def fst1 (p : Nat → Bool) : Nat → Nat → Int32
  | 0, _ => -4
  | f + 1, m => if p m = true then nI m else fst1 p f (m + 1)
def lst1 (p : Nat → Bool) : Nat → Int32
  | 0 => -4
  | m + 1 => if p (m + 1) = true then nI (m + 1) else lst1 p m
def plP (r : rT) (kd N k : Nat) (m : Nat) : Bool := decide (k * 1000 ^ N ≤ sm (not0 (sh (nqq kd m (r 6 4)) (one (2 ^ m - 1)) N)) 8 * 10)
def brP (r : rT) (N k : Nat) (v : Nat) : Bool := decide (k * 1000 ^ N ≤ sm (not0 (sh (oq (r 0) (r 1) v (r 6 3)) (one (r 6 3)) N)) 8 * 10)
theorem m2_lt : ∀ m, m < 4 → 2 ^ m - 1 < 8 := by decide
set_option maxRecDepth 100000 in
set_option maxHeartbeats 4000000 in
theorem mX6_plait_l (rs : Nat → rT) (v : Nat → Nat → Nat) (u : uT) (c : Nat → Nat → Int32) (l : Nat → Int32) (tn : Int32) (kd N k : Nat) (hd : kd ≤ 4) (hN : N ≤ 5) (hk : 1 ≤ k) (hk9 : k ≤ 10) (hr : rOK (rs 0)) (z : Int32) : ∀ (k9 i : Nat), i + k9 = 4 → 1 ≤ i ∧ z = fst1 (plP (rs 0) kd N k) k9 i → ∀ (q : rT) (x : Nat → Nat) (n : Nat → Int64), J KX6_plait 62 (fun o B => o = some (.int (z)) ∧ ∃ q9 x9 n9 u9, B = wC rs v q9 x9 n9 u9 c l tn) 31 [some (.ref 0), some (.int (nI kd)), some (.int (nI N)), some (.int (nI k)), some (.int (nI i))] [] (wC rs v q x n u c l tn) 0 0 := by
  intro k9
  induction k9 with
  | zero =>
    intro i hi
    obtain hiN : i = 4 := by omega
    intro hst
    intro q x n
    subst hiN
    refine J.iload dX6_plait_31 rfl ?_
    refine J.iconst (3) dX6_plait_33 (by decide) ?_
    refine J.icmp_gt (tgt := 83) dX6_plait_34 (by decide) (fun c34 => ?_) (fun c34 => absurd c34 (by decide))
    refine J.bipush (-4) dX6_plait_83 (by decide) ?_
    exact J.iret dX6_plait_85 rfl rfl (Nat.le_refl _) (Nat.le_refl _) ⟨by rw [hst.2] <;> rfl, _, _, _, _, rfl⟩
  | succ k9 ih =>
    intro i hi
    have hiN : i < 4 := by omega
    intro hst
    intro q x n
    refine J.iload dX6_plait_31 rfl ?_
    refine J.iconst (3) dX6_plait_33 (by decide) ?_
    refine J.icmp_gt (tgt := 83) dX6_plait_34 (by decide) (fun c34 => absurd c34 (fun h => absurd ((nI_lti (a := 3) (by decide) (by omega)).mp h) (by omega))) (fun c34 => ?_)
    refine J.aload_n dX6_plait_37 rfl rfl ?_
    refine J.getfield dX6_plait_38 jFX6_37 rfl rfl ?_
    refine J.iload_n dX6_plait_41 rfl rfl ?_
    refine J.iload dX6_plait_42 rfl ?_
    refine J.aload_n dX6_plait_44 rfl rfl ?_
    refine J.getfield dX6_plait_45 jFX6_12 rfl rfl ?_
    refine J.getfield dX6_plait_48 jFX6_102 rfl rfl ?_
    refine J.cv (as := [.int _, .int _, .int _]) (is := [27, 28, 29, 30, 31, 32, 33, 34, 35]) (o := 0) okX0_takeNew jcX6_185 (mX0_takeNew q x n u kd i (rs 0 6 4) (by omega)) dX6_plait_51 rfl rfl rfl rfl rfl rfl rfl (fun r9 B9 hq => ?_)
    obtain ⟨rfl, rfl⟩ := hq
    refine ⟨rfl, ?_⟩
    show J _ _ _ _ _ [] (wC rs v (onew q kd i (rs 0 6 4)) (one (2 ^ i - 1)) n u c l tn) _ _
    refine J.aload_n dX6_plait_54 rfl rfl ?_
    refine J.getfield dX6_plait_55 jFX6_37 rfl rfl ?_
    refine J.iload_n dX6_plait_58 rfl rfl ?_
    refine J.cv (as := [.int _]) (is := [27, 28, 29, 30, 31, 32, 33, 34, 35]) (o := 0) okX0_passHours jcX6_162 (mX0_passHoursC (onew q kd i (rs 0 6 4)) (nqq kd i (rs 0 6 4)) (one (2 ^ i - 1)) n u N ⟨rfl, ⟨fun _ => hd, fun _ => Nat.zero_le _, hr.2.2.2.2.2.1, m2_lt i (by omega)⟩, rfl⟩ (by omega)) dX6_plait_59 rfl rfl rfl rfl rfl rfl rfl (fun r9 B9 hq9 => ?_)
    obtain ⟨rfl, q9, n9, hq9, rfl⟩ := hq9
    refine ⟨rfl, ?_⟩
    show J _ _ _ _ _ [] (wC rs v q9 (sh (nqq kd i (rs 0 6 4)) (one (2 ^ i - 1)) N) n9 u c l tn) _ _
    refine J.aload_n dX6_plait_62 rfl rfl ?_
    refine J.getfield dX6_plait_63 jFX6_37 rfl rfl ?_
    refine J.iload_n dX6_plait_66 rfl rfl ?_
    refine J.iload_n dX6_plait_67 rfl rfl ?_
    refine J.cv (as := [.int _, .int _]) (is := [27, 28, 29, 30, 31, 32, 33, 34, 35]) (o := 0) okX0_holdsBy jcX6_189 (mX0_holdsBy q9 (sh (nqq kd i (rs 0 6 4)) (one (2 ^ i - 1)) N) n9 u k N (by omega) (by omega) (by have := p1000 N hN; have := not0_le (sh (nqq kd i (rs 0 6 4)) (one (2 ^ i - 1)) N); have := sh1_sum (nqq kd i (rs 0 6 4)) (m2_lt i (by omega)) N; omega) (by have := p1000 N hN; have := Nat.mul_le_mul_right (1000 ^ N) hk9; omega)) dX6_plait_68 rfl rfl rfl rfl rfl rfl rfl (fun r9 B9 hq => ?_)
    obtain ⟨rfl, rfl⟩ := hq
    refine ⟨rfl, ?_⟩
    show J _ _ _ _ _ (.int _ :: _) (wC rs v q9 (sh (nqq kd i (rs 0 6 4)) (one (2 ^ i - 1)) N) n9 u c l tn) _ _
    refine J.if_eq (tgt := 77) dX6_plait_71 (by decide) (fun c71 => ?_) (fun c71 => ?_)
    · refine J.iinc (1) dX6_plait_77 (by decide) rfl (by decide) rfl ?_
      try dsimp only [List.set]
      refine J.goto (tgt := 31) dX6_plait_80 (by decide) ?_
      exact J.at (ih (i + 1) (by omega) ⟨by omega, by rw [hst.2, fst1, if_neg (fun h9 : plP (rs 0) kd N k i = true => (jB_0 _).mp c71 (of_decide_eq_true h9))]⟩ q9 _ n9) (by rw [← nI_1]) rfl rfl
    · refine J.iload dX6_plait_74 rfl ?_
      exact J.iret dX6_plait_76 rfl rfl (Nat.le_refl _) (Nat.le_refl _) ⟨by rw [hst.2, fst1, if_pos (show plP (rs 0) kd N k i = true from decide_eq_true (Decidable.not_not.mp (fun h9 => c71 ((jB_0 _).mpr h9))))], _, _, _, _, rfl⟩
set_option maxRecDepth 100000 in
set_option maxHeartbeats 4000000 in
theorem mX6_plait (rs : Nat → rT) (v : Nat → Nat → Nat) (q : rT) (x : Nat → Nat) (n : Nat → Int64) (u : uT) (c : Nat → Nat → Int32) (l : Nat → Int32) (tn : Int32) (kd N k : Nat) (hd : kd ≤ 4) (hN : N ≤ 5) (hk : 1 ≤ k) (hk9 : k ≤ 10) (hr : rOK (rs 0)) : J KX6_plait 62 (fun o B => o = some (.int (fst1 (plP (rs 0) kd N k) 3 1)) ∧ ∃ q9 x9 n9 u9, B = wC rs v q9 x9 n9 u9 c l tn) 0 [some (.ref 0), some (.int (nI kd)), some (.int (nI N)), some (.int (nI k)), none] [] (wC rs v q x n u c l tn) 0 0 := by
  refine J.iload_n dX6_plait_0 rfl rfl ?_
  refine J.iconst (0) dX6_plait_1 (by decide) ?_
  refine J.iconst (4) dX6_plait_2 (by decide) ?_
  refine J.cs (as := [.int _, .int _, .int _]) (is := []) okX6_within jcX6_59 (mX6_within _ _ _) dX6_plait_3 rfl rfl rfl rfl rfl rfl (fun r9 B9 hq => ?_)
  obtain ⟨rfl, rfl⟩ := hq
  refine ⟨rfl, ?_⟩
  show J _ _ _ _ _ (.int _ :: _) (wC rs v q x n u c l tn) _ _
  refine J.if_eq (tgt := 26) dX6_plait_6 (by decide) (fun c6 => absurd c6 (fun h => (jB_0 _).mp h (jw (a := 0) (c := 4) (by decide) (Nat.zero_le _) hd))) (fun c6 => ?_)
  refine J.iload_n dX6_plait_9 rfl rfl ?_
  refine J.cs (as := [.int _]) (is := []) okX6_foreseen jcX6_143 (mX6_foreseen _) dX6_plait_10 rfl rfl rfl rfl rfl rfl (fun r9 B9 hq => ?_)
  obtain ⟨rfl, rfl⟩ := hq
  refine ⟨rfl, ?_⟩
  show J _ _ _ _ _ (.int _ :: _) (wC rs v q x n u c l tn) _ _
  refine J.if_eq (tgt := 26) dX6_plait_13 (by decide) (fun c13 => absurd c13 (fun h => (jB_0 _).mp h (jw (a := 0) (c := 5) (by decide) (Nat.zero_le _) hN))) (fun c13 => ?_)
  refine J.iload_n dX6_plait_16 rfl rfl ?_
  refine J.iconst (1) dX6_plait_17 (by decide) ?_
  refine J.bipush (10) dX6_plait_18 (by decide) ?_
  refine J.cs (as := [.int _, .int _, .int _]) (is := []) okX6_within jcX6_59 (mX6_within _ _ _) dX6_plait_20 rfl rfl rfl rfl rfl rfl (fun r9 B9 hq => ?_)
  obtain ⟨rfl, rfl⟩ := hq
  refine ⟨rfl, ?_⟩
  show J _ _ _ _ _ (.int _ :: _) (wC rs v q x n u c l tn) _ _
  refine J.if_ne (tgt := 28) dX6_plait_23 (by decide) (fun c23 => ?_) (fun c23 => absurd c23 (fun h => (jB_0 _).mp h (jw (a := 1) (c := 10) (by decide) hk hk9)))
  refine J.iconst (1) dX6_plait_28 (by decide) ?_
  refine J.istore dX6_plait_29 (by decide) rfl ?_
  try dsimp only [List.set]
  exact J.at (mX6_plait_l rs v u c l tn kd N k hd hN hk hk9 hr _ 3 1 (by omega) ⟨by omega, rfl⟩ q x n) rfl rfl rfl
set_option maxRecDepth 100000 in
set_option maxHeartbeats 4000000 in
theorem mX6_plait_bad (rs : Nat → rT) (v : Nat → Nat → Nat) (q : rT) (x : Nat → Nat) (n : Nat → Int64) (u : uT) (c : Nat → Nat → Int32) (l : Nat → Int32) (tn : Int32) (kd N k : Int32) (hb : ¬ (0 ≤ kd ∧ kd ≤ 4) ∨ ¬ (0 ≤ N ∧ N ≤ 5) ∨ ¬ (1 ≤ k ∧ k ≤ 10)) : J KX6_plait 62 (fun o B => o = some (.int (-1)) ∧ B = (wC rs v q x n u c l tn)) 0 [some (.ref 0), some (.int kd), some (.int N), some (.int k), none] [] (wC rs v q x n u c l tn) 0 0 := by
  refine J.iload_n dX6_plait_0 rfl rfl ?_
  refine J.iconst (0) dX6_plait_1 (by decide) ?_
  refine J.iconst (4) dX6_plait_2 (by decide) ?_
  refine J.cs (as := [.int _, .int _, .int _]) (is := []) okX6_within jcX6_59 (mX6_within _ _ _) dX6_plait_3 rfl rfl rfl rfl rfl rfl (fun r9 B9 hq => ?_)
  obtain ⟨rfl, rfl⟩ := hq
  refine ⟨rfl, ?_⟩
  show J _ _ _ _ _ (.int _ :: _) (wC rs v q x n u c l tn) _ _
  refine J.if_eq (tgt := 26) dX6_plait_6 (by decide) (fun c6 => ?_) (fun c6 => ?_)
  · refine J.iconst (-1) dX6_plait_26 (by decide) ?_
    exact J.iret dX6_plait_27 rfl rfl (Nat.le_refl _) (Nat.le_refl _) ⟨rfl, rfl⟩
  · refine J.iload_n dX6_plait_9 rfl rfl ?_
    refine J.cs (as := [.int _]) (is := []) okX6_foreseen jcX6_143 (mX6_foreseen _) dX6_plait_10 rfl rfl rfl rfl rfl rfl (fun r9 B9 hq => ?_)
    obtain ⟨rfl, rfl⟩ := hq
    refine ⟨rfl, ?_⟩
    show J _ _ _ _ _ (.int _ :: _) (wC rs v q x n u c l tn) _ _
    refine J.if_eq (tgt := 26) dX6_plait_13 (by decide) (fun c13 => ?_) (fun c13 => ?_)
    · refine J.iconst (-1) dX6_plait_26 (by decide) ?_
      exact J.iret dX6_plait_27 rfl rfl (Nat.le_refl _) (Nat.le_refl _) ⟨rfl, rfl⟩
    · refine J.iload_n dX6_plait_16 rfl rfl ?_
      refine J.iconst (1) dX6_plait_17 (by decide) ?_
      refine J.bipush (10) dX6_plait_18 (by decide) ?_
      refine J.cs (as := [.int _, .int _, .int _]) (is := []) okX6_within jcX6_59 (mX6_within _ _ _) dX6_plait_20 rfl rfl rfl rfl rfl rfl (fun r9 B9 hq => ?_)
      obtain ⟨rfl, rfl⟩ := hq
      refine ⟨rfl, ?_⟩
      show J _ _ _ _ _ (.int _ :: _) (wC rs v q x n u c l tn) _ _
      refine J.if_ne (tgt := 28) dX6_plait_23 (by decide) (fun c23 => absurd c23 (fun h => h ((jB_0 _).mpr (fun hC => (fun h => h.elim (fun h => h (Decidable.not_not.mp (fun h9 => c6 ((jB_0 _).mpr h9)))) (fun h => h.elim (fun h => h (Decidable.not_not.mp (fun h9 => c13 ((jB_0 _).mpr h9)))) (fun h => h hC))) hb)))) (fun c23 => ?_)
      refine J.iconst (-1) dX6_plait_26 (by decide) ?_
      exact J.iret dX6_plait_27 rfl rfl (Nat.le_refl _) (Nat.le_refl _) ⟨rfl, rfl⟩
set_option maxRecDepth 100000 in
set_option maxHeartbeats 4000000 in
theorem mX6_bears_l (rs : Nat → rT) (v : Nat → Nat → Nat) (u : uT) (c : Nat → Nat → Int32) (l : Nat → Int32) (tn : Int32) (N k : Nat) (hN : N ≤ 5) (hk : 1 ≤ k) (hk9 : k ≤ 10) (hr : rOK (rs 0)) (z : Int32) : ∀ (i : Nat), i ≤ 9 → z = lst1 (brP (rs 0) N k) i → ∀ (q : rT) (x : Nat → Nat) (n : Nat → Int64), J KX6_bears 62 (fun o B => o = some (.int (z)) ∧ ∃ q9 x9 n9 u9, B = wC rs v q9 x9 n9 u9 c l tn) 22 [some (.ref 0), some (.int (nI N)), some (.int (nI k)), some (.int (nI i))] [] (wC rs v q x n u c l tn) 0 0 := by
  intro i
  induction i with
  | zero =>
    intro hi hst q x n
    refine J.iload_n dX6_bears_22 rfl rfl ?_
    refine J.iconst (1) dX6_bears_23 (by decide) ?_
    refine J.icmp_lt (tgt := 74) dX6_bears_24 (by decide) (fun c24 => ?_) (fun c24 => absurd c24 (by decide))
    refine J.bipush (-4) dX6_bears_74 (by decide) ?_
    exact J.iret dX6_bears_76 rfl rfl (Nat.le_refl _) (Nat.le_refl _) ⟨by rw [hst] <;> rfl, _, _, _, _, rfl⟩
  | succ i ih =>
    intro hi hst q x n
    refine J.iload_n dX6_bears_22 rfl rfl ?_
    refine J.iconst (1) dX6_bears_23 (by decide) ?_
    refine J.icmp_lt (tgt := 74) dX6_bears_24 (by decide) (fun c24 => absurd c24 (fun h => absurd ((nI_lti (b := 1) (by omega) (by decide)).mp h) (by omega))) (fun c24 => ?_)
    refine J.aload_n dX6_bears_27 rfl rfl ?_
    refine J.getfield dX6_bears_28 jFX6_37 rfl rfl ?_
    refine J.aload_n dX6_bears_31 rfl rfl ?_
    refine J.getfield dX6_bears_32 jFX6_12 rfl rfl ?_
    refine J.cv (as := [.ref 9]) (is := [27, 28, 29, 30, 31, 32, 33, 34, 35, 1, 2, 3, 4, 5, 6, 7]) (o := 0) okX0_take jcX6_159 (mX0_take q x n u (rs 0) hr.w) dX6_bears_35 rfl rfl rfl rfl rfl rfl rfl (fun r9 B9 hq => ?_)
    obtain ⟨rfl, rfl⟩ := hq
    refine ⟨rfl, ?_⟩
    show J _ _ _ _ _ [] (wC rs v (otake q (rs 0)) (one (rs 0 6 3)) n u c l tn) _ _
    refine J.aload_n dX6_bears_38 rfl rfl ?_
    refine J.getfield dX6_bears_39 jFX6_37 rfl rfl ?_
    refine J.iload_n dX6_bears_42 rfl rfl ?_
    refine J.putfield dX6_bears_43 jFX6_177 jP0_4 rfl rfl rfl (Nat.le_of_ble_eq_true rfl) ?_
    try dsimp only [List.set]
    show J _ _ _ _ _ [] (wC rs v (rset (otake q (rs 0)) 6 1 (i + 1)) (one (rs 0 6 3)) n u c l tn) _ _
    refine J.aload_n dX6_bears_46 rfl rfl ?_
    refine J.getfield dX6_bears_47 jFX6_37 rfl rfl ?_
    refine J.iload_n dX6_bears_50 rfl rfl ?_
    refine J.cv (as := [.int _]) (is := [27, 28, 29, 30, 31, 32, 33, 34, 35]) (o := 0) okX0_passHours jcX6_162 (mX0_passHoursC (rset (otake q (rs 0)) 6 1 (i + 1)) (oq (rs 0 0) (rs 0 1) (i + 1) (rs 0 6 3)) (one (rs 0 6 3)) n u N ⟨rfl, ⟨hr.2.2.2.2.2.2.2.2.1, hr.2.2.2.2.2.2.2.2.2.1, (show i + 1 ≤ 9 by omega), hr.w⟩, rfl⟩ (by omega)) dX6_bears_51 rfl rfl rfl rfl rfl rfl rfl (fun r9 B9 hq9 => ?_)
    obtain ⟨rfl, q9, n9, hq9, rfl⟩ := hq9
    refine ⟨rfl, ?_⟩
    show J _ _ _ _ _ [] (wC rs v q9 (sh (oq (rs 0 0) (rs 0 1) (i + 1) (rs 0 6 3)) (one (rs 0 6 3)) N) n9 u c l tn) _ _
    refine J.aload_n dX6_bears_54 rfl rfl ?_
    refine J.getfield dX6_bears_55 jFX6_37 rfl rfl ?_
    refine J.iload_n dX6_bears_58 rfl rfl ?_
    refine J.iload_n dX6_bears_59 rfl rfl ?_
    refine J.cv (as := [.int _, .int _]) (is := [27, 28, 29, 30, 31, 32, 33, 34, 35]) (o := 0) okX0_holdsBy jcX6_189 (mX0_holdsBy q9 (sh (oq (rs 0 0) (rs 0 1) (i + 1) (rs 0 6 3)) (one (rs 0 6 3)) N) n9 u k N (by omega) (by omega) (by have := p1000 N hN; have := not0_le (sh (oq (rs 0 0) (rs 0 1) (i + 1) (rs 0 6 3)) (one (rs 0 6 3)) N); have := sh1_sum (oq (rs 0 0) (rs 0 1) (i + 1) (rs 0 6 3)) hr.w N; omega) (by have := p1000 N hN; have := Nat.mul_le_mul_right (1000 ^ N) hk9; omega)) dX6_bears_60 rfl rfl rfl rfl rfl rfl rfl (fun r9 B9 hq => ?_)
    obtain ⟨rfl, rfl⟩ := hq
    refine ⟨rfl, ?_⟩
    show J _ _ _ _ _ (.int _ :: _) (wC rs v q9 (sh (oq (rs 0 0) (rs 0 1) (i + 1) (rs 0 6 3)) (one (rs 0 6 3)) N) n9 u c l tn) _ _
    refine J.if_eq (tgt := 68) dX6_bears_63 (by decide) (fun c63 => ?_) (fun c63 => ?_)
    · refine J.iinc (-1) dX6_bears_68 (by decide) rfl (by decide) rfl ?_
      try dsimp only [List.set]
      refine J.goto (tgt := 22) dX6_bears_71 (by decide) ?_
      exact J.at (ih (by omega) (by rw [hst, lst1, if_neg (fun h9 : brP (rs 0) N k (i + 1) = true => (jB_0 _).mp c63 (of_decide_eq_true h9))]) q9 _ n9) (by rw [nI_m1]) rfl rfl
    · refine J.iload_n dX6_bears_66 rfl rfl ?_
      exact J.iret dX6_bears_67 rfl rfl (Nat.le_refl _) (Nat.le_refl _) ⟨by rw [hst, lst1, if_pos (show brP (rs 0) N k (i + 1) = true from decide_eq_true (Decidable.not_not.mp (fun h9 => c63 ((jB_0 _).mpr h9))))], _, _, _, _, rfl⟩
set_option maxRecDepth 100000 in
set_option maxHeartbeats 4000000 in
theorem mX6_bears (rs : Nat → rT) (v : Nat → Nat → Nat) (q : rT) (x : Nat → Nat) (n : Nat → Int64) (u : uT) (c : Nat → Nat → Int32) (l : Nat → Int32) (tn : Int32) (N k : Nat) (hN : N ≤ 5) (hk : 1 ≤ k) (hk9 : k ≤ 10) (hr : rOK (rs 0)) : J KX6_bears 62 (fun o B => o = some (.int (lst1 (brP (rs 0) N k) 9)) ∧ ∃ q9 x9 n9 u9, B = wC rs v q9 x9 n9 u9 c l tn) 0 [some (.ref 0), some (.int (nI N)), some (.int (nI k)), none] [] (wC rs v q x n u c l tn) 0 0 := by
  refine J.iload_n dX6_bears_0 rfl rfl ?_
  refine J.cs (as := [.int _]) (is := []) okX6_foreseen jcX6_143 (mX6_foreseen _) dX6_bears_1 rfl rfl rfl rfl rfl rfl (fun r9 B9 hq => ?_)
  obtain ⟨rfl, rfl⟩ := hq
  refine ⟨rfl, ?_⟩
  show J _ _ _ _ _ (.int _ :: _) (wC rs v q x n u c l tn) _ _
  refine J.if_eq (tgt := 17) dX6_bears_4 (by decide) (fun c4 => absurd c4 (fun h => (jB_0 _).mp h (jw (a := 0) (c := 5) (by decide) (Nat.zero_le _) hN))) (fun c4 => ?_)
  refine J.iload_n dX6_bears_7 rfl rfl ?_
  refine J.iconst (1) dX6_bears_8 (by decide) ?_
  refine J.bipush (10) dX6_bears_9 (by decide) ?_
  refine J.cs (as := [.int _, .int _, .int _]) (is := []) okX6_within jcX6_59 (mX6_within _ _ _) dX6_bears_11 rfl rfl rfl rfl rfl rfl (fun r9 B9 hq => ?_)
  obtain ⟨rfl, rfl⟩ := hq
  refine ⟨rfl, ?_⟩
  show J _ _ _ _ _ (.int _ :: _) (wC rs v q x n u c l tn) _ _
  refine J.if_ne (tgt := 19) dX6_bears_14 (by decide) (fun c14 => ?_) (fun c14 => absurd c14 (fun h => (jB_0 _).mp h (jw (a := 1) (c := 10) (by decide) hk hk9)))
  refine J.bipush (9) dX6_bears_19 (by decide) ?_
  refine J.istore_n dX6_bears_21 rfl (by decide) rfl ?_
  try dsimp only [List.set]
  exact J.at (mX6_bears_l rs v u c l tn N k hN hk hk9 hr _ 9 (by omega) rfl q x n) rfl rfl rfl
set_option maxRecDepth 100000 in
set_option maxHeartbeats 4000000 in
theorem mX6_bears_bad (rs : Nat → rT) (v : Nat → Nat → Nat) (q : rT) (x : Nat → Nat) (n : Nat → Int64) (u : uT) (c : Nat → Nat → Int32) (l : Nat → Int32) (tn : Int32) (N k : Int32) (hb : ¬ (0 ≤ N ∧ N ≤ 5) ∨ ¬ (1 ≤ k ∧ k ≤ 10)) : J KX6_bears 62 (fun o B => o = some (.int (-1)) ∧ B = (wC rs v q x n u c l tn)) 0 [some (.ref 0), some (.int N), some (.int k), none] [] (wC rs v q x n u c l tn) 0 0 := by
  refine J.iload_n dX6_bears_0 rfl rfl ?_
  refine J.cs (as := [.int _]) (is := []) okX6_foreseen jcX6_143 (mX6_foreseen _) dX6_bears_1 rfl rfl rfl rfl rfl rfl (fun r9 B9 hq => ?_)
  obtain ⟨rfl, rfl⟩ := hq
  refine ⟨rfl, ?_⟩
  show J _ _ _ _ _ (.int _ :: _) (wC rs v q x n u c l tn) _ _
  refine J.if_eq (tgt := 17) dX6_bears_4 (by decide) (fun c4 => ?_) (fun c4 => ?_)
  · refine J.iconst (-1) dX6_bears_17 (by decide) ?_
    exact J.iret dX6_bears_18 rfl rfl (Nat.le_refl _) (Nat.le_refl _) ⟨rfl, rfl⟩
  · refine J.iload_n dX6_bears_7 rfl rfl ?_
    refine J.iconst (1) dX6_bears_8 (by decide) ?_
    refine J.bipush (10) dX6_bears_9 (by decide) ?_
    refine J.cs (as := [.int _, .int _, .int _]) (is := []) okX6_within jcX6_59 (mX6_within _ _ _) dX6_bears_11 rfl rfl rfl rfl rfl rfl (fun r9 B9 hq => ?_)
    obtain ⟨rfl, rfl⟩ := hq
    refine ⟨rfl, ?_⟩
    show J _ _ _ _ _ (.int _ :: _) (wC rs v q x n u c l tn) _ _
    refine J.if_ne (tgt := 19) dX6_bears_14 (by decide) (fun c14 => absurd c14 (fun h => h ((jB_0 _).mpr (fun hC => (fun h => h.elim (fun h => h (Decidable.not_not.mp (fun h9 => c4 ((jB_0 _).mpr h9)))) (fun h => h hC)) hb)))) (fun c14 => ?_)
    refine J.iconst (-1) dX6_bears_17 (by decide) ?_
    exact J.iret dX6_bears_18 rfl rfl (Nat.le_refl _) (Nat.le_refl _) ⟨rfl, rfl⟩
