/-! ===== the reference: by odds ===== -/
theorem dX7_falls_0 : decode cX7_falls 0 = .ok (.iload_n 1, 1) := by decide +kernel
theorem dX7_falls_1 : decode cX7_falls 1 = .ok (.invokestatic 236, 3) := by decide +kernel
theorem dX7_falls_4 : decode cX7_falls 4 = .ok (.ifCond .eq 13, 3) := by decide +kernel
theorem dX7_falls_7 : decode cX7_falls 7 = .ok (.iload_n 2, 1) := by decide +kernel
theorem dX7_falls_8 : decode cX7_falls 8 = .ok (.i2l, 1) := by decide +kernel
theorem dX7_falls_9 : decode cX7_falls 9 = .ok (.lconst 0, 1) := by decide +kernel
theorem dX7_falls_10 : decode cX7_falls 10 = .ok (.lconst 1, 1) := by decide +kernel
theorem dX7_falls_11 : decode cX7_falls 11 = .ok (.invokestatic 74, 3) := by decide +kernel
theorem dX7_falls_14 : decode cX7_falls 14 = .ok (.ifCond .ne 7, 3) := by decide +kernel
theorem dX7_falls_17 : decode cX7_falls 17 = .ok (.ldc2_w 239, 3) := by decide +kernel
theorem dX7_falls_20 : decode cX7_falls 20 = .ok (.lreturn, 1) := by decide +kernel
theorem dX7_falls_21 : decode cX7_falls 21 = .ok (.aload_n 0, 1) := by decide +kernel
theorem dX7_falls_22 : decode cX7_falls 22 = .ok (.invokevirtual 196, 3) := by decide +kernel
theorem dX7_falls_25 : decode cX7_falls 25 = .ok (.aload_n 0, 1) := by decide +kernel
theorem dX7_falls_26 : decode cX7_falls 26 = .ok (.getfield 180, 3) := by decide +kernel
theorem dX7_falls_29 : decode cX7_falls 29 = .ok (.iload_n 1, 1) := by decide +kernel
theorem dX7_falls_30 : decode cX7_falls 30 = .ok (.imul, 1) := by decide +kernel
theorem dX7_falls_31 : decode cX7_falls 31 = .ok (.invokestatic 232, 3) := by decide +kernel
theorem dX7_falls_34 : decode cX7_falls 34 = .ok (.lstore_n 3, 1) := by decide +kernel
theorem dX7_falls_35 : decode cX7_falls 35 = .ok (.lload_n 3, 1) := by decide +kernel
theorem dX7_falls_36 : decode cX7_falls 36 = .ok (.aload_n 0, 1) := by decide +kernel
theorem dX7_falls_37 : decode cX7_falls 37 = .ok (.iload_n 1, 1) := by decide +kernel
theorem dX7_falls_38 : decode cX7_falls 38 = .ok (.invokevirtual 241, 3) := by decide +kernel
theorem dX7_falls_41 : decode cX7_falls 41 = .ok (.lsub, 1) := by decide +kernel
theorem dX7_falls_42 : decode cX7_falls 42 = .ok (.lload_n 3, 1) := by decide +kernel
theorem dX7_falls_43 : decode cX7_falls 43 = .ok (.iload_n 2, 1) := by decide +kernel
theorem dX7_falls_44 : decode cX7_falls 44 = .ok (.invokestatic 244, 3) := by decide +kernel
theorem dX7_falls_47 : decode cX7_falls 47 = .ok (.lreturn, 1) := by decide +kernel
theorem dX7_left_0 : decode cX7_left 0 = .ok (.iload_n 1, 1) := by decide +kernel
theorem dX7_left_1 : decode cX7_left 1 = .ok (.invokestatic 236, 3) := by decide +kernel
theorem dX7_left_4 : decode cX7_left 4 = .ok (.ifCond .eq 25, 3) := by decide +kernel
theorem dX7_left_7 : decode cX7_left 7 = .ok (.iload_n 2, 1) := by decide +kernel
theorem dX7_left_8 : decode cX7_left 8 = .ok (.i2l, 1) := by decide +kernel
theorem dX7_left_9 : decode cX7_left 9 = .ok (.lconst 0, 1) := by decide +kernel
theorem dX7_left_10 : decode cX7_left 10 = .ok (.ldc2_w 143, 3) := by decide +kernel
theorem dX7_left_13 : decode cX7_left 13 = .ok (.invokestatic 74, 3) := by decide +kernel
theorem dX7_left_16 : decode cX7_left 16 = .ok (.ifCond .eq 13, 3) := by decide +kernel
theorem dX7_left_19 : decode cX7_left 19 = .ok (.iload_n 3, 1) := by decide +kernel
theorem dX7_left_20 : decode cX7_left 20 = .ok (.i2l, 1) := by decide +kernel
theorem dX7_left_21 : decode cX7_left 21 = .ok (.lconst 0, 1) := by decide +kernel
theorem dX7_left_22 : decode cX7_left 22 = .ok (.lconst 1, 1) := by decide +kernel
theorem dX7_left_23 : decode cX7_left 23 = .ok (.invokestatic 74, 3) := by decide +kernel
theorem dX7_left_26 : decode cX7_left 26 = .ok (.ifCond .ne 7, 3) := by decide +kernel
theorem dX7_left_29 : decode cX7_left 29 = .ok (.ldc2_w 239, 3) := by decide +kernel
theorem dX7_left_32 : decode cX7_left 32 = .ok (.lreturn, 1) := by decide +kernel
theorem dX7_left_33 : decode cX7_left 33 = .ok (.aload_n 0, 1) := by decide +kernel
theorem dX7_left_34 : decode cX7_left 34 = .ok (.invokevirtual 196, 3) := by decide +kernel
theorem dX7_left_37 : decode cX7_left 37 = .ok (.aload_n 0, 1) := by decide +kernel
theorem dX7_left_38 : decode cX7_left 38 = .ok (.iload_n 1, 1) := by decide +kernel
theorem dX7_left_39 : decode cX7_left 39 = .ok (.invokevirtual 229, 3) := by decide +kernel
theorem dX7_left_42 : decode cX7_left 42 = .ok (.lconst 0, 1) := by decide +kernel
theorem dX7_left_43 : decode cX7_left 43 = .ok (.lstore 4, 2) := by decide +kernel
theorem dX7_left_45 : decode cX7_left 45 = .ok (.iconst 0, 1) := by decide +kernel
theorem dX7_left_46 : decode cX7_left 46 = .ok (.istore 6, 2) := by decide +kernel
theorem dX7_left_48 : decode cX7_left 48 = .ok (.iload 6, 2) := by decide +kernel
theorem dX7_left_50 : decode cX7_left 50 = .ok (.iconst 1, 1) := by decide +kernel
theorem dX7_left_51 : decode cX7_left 51 = .ok (.aload_n 0, 1) := by decide +kernel
theorem dX7_left_52 : decode cX7_left 52 = .ok (.getfield 180, 3) := by decide +kernel
theorem dX7_left_55 : decode cX7_left 55 = .ok (.ishl, 1) := by decide +kernel
theorem dX7_left_56 : decode cX7_left 56 = .ok (.if_icmp .ge 34, 3) := by decide +kernel
theorem dX7_left_59 : decode cX7_left 59 = .ok (.lload 4, 2) := by decide +kernel
theorem dX7_left_61 : decode cX7_left 61 = .ok (.iload 6, 2) := by decide +kernel
theorem dX7_left_63 : decode cX7_left 63 = .ok (.invokestatic 189, 3) := by decide +kernel
theorem dX7_left_66 : decode cX7_left 66 = .ok (.iload_n 2, 1) := by decide +kernel
theorem dX7_left_67 : decode cX7_left 67 = .ok (.if_icmp .ne 13, 3) := by decide +kernel
theorem dX7_left_70 : decode cX7_left 70 = .ok (.aload_n 0, 1) := by decide +kernel
theorem dX7_left_71 : decode cX7_left 71 = .ok (.getfield 37, 3) := by decide +kernel
theorem dX7_left_74 : decode cX7_left 74 = .ok (.iload 6, 2) := by decide +kernel
theorem dX7_left_76 : decode cX7_left 76 = .ok (.laload, 1) := by decide +kernel
theorem dX7_left_77 : decode cX7_left 77 = .ok (.goto 4, 3) := by decide +kernel
theorem dX7_left_80 : decode cX7_left 80 = .ok (.lconst 0, 1) := by decide +kernel
theorem dX7_left_81 : decode cX7_left 81 = .ok (.ladd, 1) := by decide +kernel
theorem dX7_left_82 : decode cX7_left 82 = .ok (.lstore 4, 2) := by decide +kernel
theorem dX7_left_84 : decode cX7_left 84 = .ok (.iinc 6 1, 3) := by decide +kernel
theorem dX7_left_87 : decode cX7_left 87 = .ok (.goto (-39), 3) := by decide +kernel
theorem dX7_left_90 : decode cX7_left 90 = .ok (.lload 4, 2) := by decide +kernel
theorem dX7_left_92 : decode cX7_left 92 = .ok (.aload_n 0, 1) := by decide +kernel
theorem dX7_left_93 : decode cX7_left 93 = .ok (.getfield 180, 3) := by decide +kernel
theorem dX7_left_96 : decode cX7_left 96 = .ok (.iload_n 1, 1) := by decide +kernel
theorem dX7_left_97 : decode cX7_left 97 = .ok (.imul, 1) := by decide +kernel
theorem dX7_left_98 : decode cX7_left 98 = .ok (.invokestatic 232, 3) := by decide +kernel
theorem dX7_left_101 : decode cX7_left 101 = .ok (.iload_n 3, 1) := by decide +kernel
theorem dX7_left_102 : decode cX7_left 102 = .ok (.invokestatic 244, 3) := by decide +kernel
theorem dX7_left_105 : decode cX7_left 105 = .ok (.lreturn, 1) := by decide +kernel
theorem dX7_mean_0 : decode cX7_mean 0 = .ok (.iload_n 1, 1) := by decide +kernel
theorem dX7_mean_1 : decode cX7_mean 1 = .ok (.invokestatic 236, 3) := by decide +kernel
theorem dX7_mean_4 : decode cX7_mean 4 = .ok (.ifCond .eq 13, 3) := by decide +kernel
theorem dX7_mean_7 : decode cX7_mean 7 = .ok (.iload_n 2, 1) := by decide +kernel
theorem dX7_mean_8 : decode cX7_mean 8 = .ok (.i2l, 1) := by decide +kernel
theorem dX7_mean_9 : decode cX7_mean 9 = .ok (.lconst 0, 1) := by decide +kernel
theorem dX7_mean_10 : decode cX7_mean 10 = .ok (.lconst 1, 1) := by decide +kernel
theorem dX7_mean_11 : decode cX7_mean 11 = .ok (.invokestatic 74, 3) := by decide +kernel
theorem dX7_mean_14 : decode cX7_mean 14 = .ok (.ifCond .ne 7, 3) := by decide +kernel
theorem dX7_mean_17 : decode cX7_mean 17 = .ok (.ldc2_w 239, 3) := by decide +kernel
theorem dX7_mean_20 : decode cX7_mean 20 = .ok (.lreturn, 1) := by decide +kernel
theorem dX7_mean_21 : decode cX7_mean 21 = .ok (.aload_n 0, 1) := by decide +kernel
theorem dX7_mean_22 : decode cX7_mean 22 = .ok (.invokevirtual 196, 3) := by decide +kernel
theorem dX7_mean_25 : decode cX7_mean 25 = .ok (.aload_n 0, 1) := by decide +kernel
theorem dX7_mean_26 : decode cX7_mean 26 = .ok (.iload_n 1, 1) := by decide +kernel
theorem dX7_mean_27 : decode cX7_mean 27 = .ok (.invokevirtual 229, 3) := by decide +kernel
theorem dX7_mean_30 : decode cX7_mean 30 = .ok (.lconst 0, 1) := by decide +kernel
theorem dX7_mean_31 : decode cX7_mean 31 = .ok (.lstore_n 3, 1) := by decide +kernel
theorem dX7_mean_32 : decode cX7_mean 32 = .ok (.iconst 0, 1) := by decide +kernel
theorem dX7_mean_33 : decode cX7_mean 33 = .ok (.istore 5, 2) := by decide +kernel
theorem dX7_mean_35 : decode cX7_mean 35 = .ok (.iload 5, 2) := by decide +kernel
theorem dX7_mean_37 : decode cX7_mean 37 = .ok (.iconst 1, 1) := by decide +kernel
theorem dX7_mean_38 : decode cX7_mean 38 = .ok (.aload_n 0, 1) := by decide +kernel
theorem dX7_mean_39 : decode cX7_mean 39 = .ok (.getfield 180, 3) := by decide +kernel
theorem dX7_mean_42 : decode cX7_mean 42 = .ok (.ishl, 1) := by decide +kernel
theorem dX7_mean_43 : decode cX7_mean 43 = .ok (.if_icmp .ge 26, 3) := by decide +kernel
theorem dX7_mean_46 : decode cX7_mean 46 = .ok (.lload_n 3, 1) := by decide +kernel
theorem dX7_mean_47 : decode cX7_mean 47 = .ok (.aload_n 0, 1) := by decide +kernel
theorem dX7_mean_48 : decode cX7_mean 48 = .ok (.getfield 37, 3) := by decide +kernel
theorem dX7_mean_51 : decode cX7_mean 51 = .ok (.iload 5, 2) := by decide +kernel
theorem dX7_mean_53 : decode cX7_mean 53 = .ok (.laload, 1) := by decide +kernel
theorem dX7_mean_54 : decode cX7_mean 54 = .ok (.iload 5, 2) := by decide +kernel
theorem dX7_mean_56 : decode cX7_mean 56 = .ok (.invokestatic 189, 3) := by decide +kernel
theorem dX7_mean_59 : decode cX7_mean 59 = .ok (.i2l, 1) := by decide +kernel
theorem dX7_mean_60 : decode cX7_mean 60 = .ok (.lmul, 1) := by decide +kernel
theorem dX7_mean_61 : decode cX7_mean 61 = .ok (.ladd, 1) := by decide +kernel
theorem dX7_mean_62 : decode cX7_mean 62 = .ok (.lstore_n 3, 1) := by decide +kernel
theorem dX7_mean_63 : decode cX7_mean 63 = .ok (.iinc 5 1, 3) := by decide +kernel
theorem dX7_mean_66 : decode cX7_mean 66 = .ok (.goto (-31), 3) := by decide +kernel
theorem dX7_mean_69 : decode cX7_mean 69 = .ok (.lload_n 3, 1) := by decide +kernel
theorem dX7_mean_70 : decode cX7_mean 70 = .ok (.aload_n 0, 1) := by decide +kernel
theorem dX7_mean_71 : decode cX7_mean 71 = .ok (.getfield 180, 3) := by decide +kernel
theorem dX7_mean_74 : decode cX7_mean 74 = .ok (.iload_n 1, 1) := by decide +kernel
theorem dX7_mean_75 : decode cX7_mean 75 = .ok (.imul, 1) := by decide +kernel
theorem dX7_mean_76 : decode cX7_mean 76 = .ok (.invokestatic 232, 3) := by decide +kernel
theorem dX7_mean_79 : decode cX7_mean 79 = .ok (.iload_n 2, 1) := by decide +kernel
theorem dX7_mean_80 : decode cX7_mean 80 = .ok (.invokestatic 244, 3) := by decide +kernel
theorem dX7_mean_83 : decode cX7_mean 83 = .ok (.lreturn, 1) := by decide +kernel
theorem dX7_test_0 : decode cX7_test 0 = .ok (.iload_n 1, 1) := by decide +kernel
theorem dX7_test_1 : decode cX7_test 1 = .ok (.i2l, 1) := by decide +kernel
theorem dX7_test_2 : decode cX7_test 2 = .ok (.lconst 1, 1) := by decide +kernel
theorem dX7_test_3 : decode cX7_test 3 = .ok (.ldc2_w 206, 3) := by decide +kernel
theorem dX7_test_6 : decode cX7_test 6 = .ok (.invokestatic 74, 3) := by decide +kernel
theorem dX7_test_9 : decode cX7_test 9 = .ok (.ifCond .eq 25, 3) := by decide +kernel
theorem dX7_test_12 : decode cX7_test 12 = .ok (.iload_n 2, 1) := by decide +kernel
theorem dX7_test_13 : decode cX7_test 13 = .ok (.i2l, 1) := by decide +kernel
theorem dX7_test_14 : decode cX7_test 14 = .ok (.lconst 0, 1) := by decide +kernel
theorem dX7_test_15 : decode cX7_test 15 = .ok (.ldc2_w 145, 3) := by decide +kernel
theorem dX7_test_18 : decode cX7_test 18 = .ok (.invokestatic 74, 3) := by decide +kernel
theorem dX7_test_21 : decode cX7_test 21 = .ok (.ifCond .eq 13, 3) := by decide +kernel
theorem dX7_test_24 : decode cX7_test 24 = .ok (.iload_n 3, 1) := by decide +kernel
theorem dX7_test_25 : decode cX7_test 25 = .ok (.i2l, 1) := by decide +kernel
theorem dX7_test_26 : decode cX7_test 26 = .ok (.lconst 0, 1) := by decide +kernel
theorem dX7_test_27 : decode cX7_test 27 = .ok (.lconst 1, 1) := by decide +kernel
theorem dX7_test_28 : decode cX7_test 28 = .ok (.invokestatic 74, 3) := by decide +kernel
theorem dX7_test_31 : decode cX7_test 31 = .ok (.ifCond .ne 7, 3) := by decide +kernel
theorem dX7_test_34 : decode cX7_test 34 = .ok (.ldc2_w 239, 3) := by decide +kernel
theorem dX7_test_37 : decode cX7_test 37 = .ok (.lreturn, 1) := by decide +kernel
theorem dX7_test_38 : decode cX7_test 38 = .ok (.aload_n 0, 1) := by decide +kernel
theorem dX7_test_39 : decode cX7_test 39 = .ok (.invokevirtual 196, 3) := by decide +kernel
theorem dX7_test_42 : decode cX7_test 42 = .ok (.aload_n 0, 1) := by decide +kernel
theorem dX7_test_43 : decode cX7_test 43 = .ok (.invokevirtual 223, 3) := by decide +kernel
theorem dX7_test_46 : decode cX7_test 46 = .ok (.aload_n 0, 1) := by decide +kernel
theorem dX7_test_47 : decode cX7_test 47 = .ok (.iload_n 1, 1) := by decide +kernel
theorem dX7_test_48 : decode cX7_test 48 = .ok (.putfield 186, 3) := by decide +kernel
theorem dX7_test_51 : decode cX7_test 51 = .ok (.aload_n 0, 1) := by decide +kernel
theorem dX7_test_52 : decode cX7_test 52 = .ok (.iconst 0, 1) := by decide +kernel
theorem dX7_test_53 : decode cX7_test 53 = .ok (.invokevirtual 226, 3) := by decide +kernel
theorem dX7_test_56 : decode cX7_test 56 = .ok (.aload_n 0, 1) := by decide +kernel
theorem dX7_test_57 : decode cX7_test 57 = .ok (.aload_n 0, 1) := by decide +kernel
theorem dX7_test_58 : decode cX7_test 58 = .ok (.invokevirtual 171, 3) := by decide +kernel
theorem dX7_test_61 : decode cX7_test 61 = .ok (.putfield 186, 3) := by decide +kernel
theorem dX7_test_64 : decode cX7_test 64 = .ok (.iconst 1, 1) := by decide +kernel
theorem dX7_test_65 : decode cX7_test 65 = .ok (.istore 4, 2) := by decide +kernel
theorem dX7_test_67 : decode cX7_test 67 = .ok (.iload 4, 2) := by decide +kernel
theorem dX7_test_69 : decode cX7_test 69 = .ok (.iload_n 2, 1) := by decide +kernel
theorem dX7_test_70 : decode cX7_test 70 = .ok (.if_icmp .gt 15, 3) := by decide +kernel
theorem dX7_test_73 : decode cX7_test 73 = .ok (.aload_n 0, 1) := by decide +kernel
theorem dX7_test_74 : decode cX7_test 74 = .ok (.iload 4, 2) := by decide +kernel
theorem dX7_test_76 : decode cX7_test 76 = .ok (.invokevirtual 226, 3) := by decide +kernel
theorem dX7_test_79 : decode cX7_test 79 = .ok (.iinc 4 1, 3) := by decide +kernel
theorem dX7_test_82 : decode cX7_test 82 = .ok (.goto (-15), 3) := by decide +kernel
theorem dX7_test_85 : decode cX7_test 85 = .ok (.aload_n 0, 1) := by decide +kernel
theorem dX7_test_86 : decode cX7_test 86 = .ok (.getfield 180, 3) := by decide +kernel
theorem dX7_test_89 : decode cX7_test 89 = .ok (.iload_n 2, 1) := by decide +kernel
theorem dX7_test_90 : decode cX7_test 90 = .ok (.iconst 1, 1) := by decide +kernel
theorem dX7_test_91 : decode cX7_test 91 = .ok (.iadd, 1) := by decide +kernel
theorem dX7_test_92 : decode cX7_test 92 = .ok (.imul, 1) := by decide +kernel
theorem dX7_test_93 : decode cX7_test 93 = .ok (.invokestatic 232, 3) := by decide +kernel
theorem dX7_test_96 : decode cX7_test 96 = .ok (.lstore 4, 2) := by decide +kernel
theorem dX7_test_98 : decode cX7_test 98 = .ok (.lload 4, 2) := by decide +kernel
theorem dX7_test_100 : decode cX7_test 100 = .ok (.aload_n 0, 1) := by decide +kernel
theorem dX7_test_101 : decode cX7_test 101 = .ok (.getfield 37, 3) := by decide +kernel
theorem dX7_test_104 : decode cX7_test 104 = .ok (.iconst 0, 1) := by decide +kernel
theorem dX7_test_105 : decode cX7_test 105 = .ok (.laload, 1) := by decide +kernel
theorem dX7_test_106 : decode cX7_test 106 = .ok (.lsub, 1) := by decide +kernel
theorem dX7_test_107 : decode cX7_test 107 = .ok (.lload 4, 2) := by decide +kernel
theorem dX7_test_109 : decode cX7_test 109 = .ok (.iload_n 3, 1) := by decide +kernel
theorem dX7_test_110 : decode cX7_test 110 = .ok (.invokestatic 244, 3) := by decide +kernel
theorem dX7_test_113 : decode cX7_test 113 = .ok (.lreturn, 1) := by decide +kernel
theorem dX7_holdsBy_0 : decode cX7_holdsBy 0 = .ok (.aload_n 0, 1) := by decide +kernel
theorem dX7_holdsBy_1 : decode cX7_holdsBy 1 = .ok (.iload_n 1, 1) := by decide +kernel
theorem dX7_holdsBy_2 : decode cX7_holdsBy 2 = .ok (.invokevirtual 241, 3) := by decide +kernel
theorem dX7_holdsBy_5 : decode cX7_holdsBy 5 = .ok (.ldc2_w 217, 3) := by decide +kernel
theorem dX7_holdsBy_8 : decode cX7_holdsBy 8 = .ok (.lmul, 1) := by decide +kernel
theorem dX7_holdsBy_9 : decode cX7_holdsBy 9 = .ok (.iload_n 2, 1) := by decide +kernel
theorem dX7_holdsBy_10 : decode cX7_holdsBy 10 = .ok (.i2l, 1) := by decide +kernel
theorem dX7_holdsBy_11 : decode cX7_holdsBy 11 = .ok (.aload_n 0, 1) := by decide +kernel
theorem dX7_holdsBy_12 : decode cX7_holdsBy 12 = .ok (.getfield 180, 3) := by decide +kernel
theorem dX7_holdsBy_15 : decode cX7_holdsBy 15 = .ok (.iload_n 1, 1) := by decide +kernel
theorem dX7_holdsBy_16 : decode cX7_holdsBy 16 = .ok (.imul, 1) := by decide +kernel
theorem dX7_holdsBy_17 : decode cX7_holdsBy 17 = .ok (.invokestatic 232, 3) := by decide +kernel
theorem dX7_holdsBy_20 : decode cX7_holdsBy 20 = .ok (.lmul, 1) := by decide +kernel
theorem dX7_holdsBy_21 : decode cX7_holdsBy 21 = .ok (.lcmp, 1) := by decide +kernel
theorem dX7_holdsBy_22 : decode cX7_holdsBy 22 = .ok (.ifCond .lt 7, 3) := by decide +kernel
theorem dX7_holdsBy_25 : decode cX7_holdsBy 25 = .ok (.iconst 1, 1) := by decide +kernel
theorem dX7_holdsBy_26 : decode cX7_holdsBy 26 = .ok (.goto 4, 3) := by decide +kernel
theorem dX7_holdsBy_29 : decode cX7_holdsBy 29 = .ok (.iconst 0, 1) := by decide +kernel
theorem dX7_holdsBy_30 : decode cX7_holdsBy 30 = .ok (.ireturn, 1) := by decide +kernel
theorem dX7_plait_0 : decode cX7_plait 0 = .ok (.iload_n 1, 1) := by decide +kernel
theorem dX7_plait_1 : decode cX7_plait 1 = .ok (.i2l, 1) := by decide +kernel
theorem dX7_plait_2 : decode cX7_plait 2 = .ok (.lconst 0, 1) := by decide +kernel
theorem dX7_plait_3 : decode cX7_plait 3 = .ok (.ldc2_w 145, 3) := by decide +kernel
theorem dX7_plait_6 : decode cX7_plait 6 = .ok (.invokestatic 74, 3) := by decide +kernel
theorem dX7_plait_9 : decode cX7_plait 9 = .ok (.ifCond .eq 22, 3) := by decide +kernel
theorem dX7_plait_12 : decode cX7_plait 12 = .ok (.iload_n 2, 1) := by decide +kernel
theorem dX7_plait_13 : decode cX7_plait 13 = .ok (.invokestatic 236, 3) := by decide +kernel
theorem dX7_plait_16 : decode cX7_plait 16 = .ok (.ifCond .eq 15, 3) := by decide +kernel
theorem dX7_plait_19 : decode cX7_plait 19 = .ok (.iload_n 3, 1) := by decide +kernel
theorem dX7_plait_20 : decode cX7_plait 20 = .ok (.i2l, 1) := by decide +kernel
theorem dX7_plait_21 : decode cX7_plait 21 = .ok (.lconst 1, 1) := by decide +kernel
theorem dX7_plait_22 : decode cX7_plait 22 = .ok (.ldc2_w 217, 3) := by decide +kernel
theorem dX7_plait_25 : decode cX7_plait 25 = .ok (.invokestatic 74, 3) := by decide +kernel
theorem dX7_plait_28 : decode cX7_plait 28 = .ok (.ifCond .ne 5, 3) := by decide +kernel
theorem dX7_plait_31 : decode cX7_plait 31 = .ok (.iconst (-1), 1) := by decide +kernel
theorem dX7_plait_32 : decode cX7_plait 32 = .ok (.ireturn, 1) := by decide +kernel
theorem dX7_plait_33 : decode cX7_plait 33 = .ok (.iconst 1, 1) := by decide +kernel
theorem dX7_plait_34 : decode cX7_plait 34 = .ok (.istore 4, 2) := by decide +kernel
theorem dX7_plait_36 : decode cX7_plait 36 = .ok (.iload 4, 2) := by decide +kernel
theorem dX7_plait_38 : decode cX7_plait 38 = .ok (.iconst 3, 1) := by decide +kernel
theorem dX7_plait_39 : decode cX7_plait 39 = .ok (.if_icmp .gt 28, 3) := by decide +kernel
theorem dX7_plait_42 : decode cX7_plait 42 = .ok (.aload_n 0, 1) := by decide +kernel
theorem dX7_plait_43 : decode cX7_plait 43 = .ok (.iload_n 1, 1) := by decide +kernel
theorem dX7_plait_44 : decode cX7_plait 44 = .ok (.iload 4, 2) := by decide +kernel
theorem dX7_plait_46 : decode cX7_plait 46 = .ok (.invokevirtual 256, 3) := by decide +kernel
theorem dX7_plait_49 : decode cX7_plait 49 = .ok (.aload_n 0, 1) := by decide +kernel
theorem dX7_plait_50 : decode cX7_plait 50 = .ok (.iload_n 2, 1) := by decide +kernel
theorem dX7_plait_51 : decode cX7_plait 51 = .ok (.iload_n 3, 1) := by decide +kernel
theorem dX7_plait_52 : decode cX7_plait 52 = .ok (.invokevirtual 260, 3) := by decide +kernel
theorem dX7_plait_55 : decode cX7_plait 55 = .ok (.ifCond .eq 6, 3) := by decide +kernel
theorem dX7_plait_58 : decode cX7_plait 58 = .ok (.iload 4, 2) := by decide +kernel
theorem dX7_plait_60 : decode cX7_plait 60 = .ok (.ireturn, 1) := by decide +kernel
theorem dX7_plait_61 : decode cX7_plait 61 = .ok (.iinc 4 1, 3) := by decide +kernel
theorem dX7_plait_64 : decode cX7_plait 64 = .ok (.goto (-28), 3) := by decide +kernel
theorem dX7_plait_67 : decode cX7_plait 67 = .ok (.bipush (-4), 2) := by decide +kernel
theorem dX7_plait_69 : decode cX7_plait 69 = .ok (.ireturn, 1) := by decide +kernel
theorem dX7_bears_0 : decode cX7_bears 0 = .ok (.iload_n 1, 1) := by decide +kernel
theorem dX7_bears_1 : decode cX7_bears 1 = .ok (.invokestatic 236, 3) := by decide +kernel
theorem dX7_bears_4 : decode cX7_bears 4 = .ok (.ifCond .eq 15, 3) := by decide +kernel
theorem dX7_bears_7 : decode cX7_bears 7 = .ok (.iload_n 2, 1) := by decide +kernel
theorem dX7_bears_8 : decode cX7_bears 8 = .ok (.i2l, 1) := by decide +kernel
theorem dX7_bears_9 : decode cX7_bears 9 = .ok (.lconst 1, 1) := by decide +kernel
theorem dX7_bears_10 : decode cX7_bears 10 = .ok (.ldc2_w 217, 3) := by decide +kernel
theorem dX7_bears_13 : decode cX7_bears 13 = .ok (.invokestatic 74, 3) := by decide +kernel
theorem dX7_bears_16 : decode cX7_bears 16 = .ok (.ifCond .ne 5, 3) := by decide +kernel
theorem dX7_bears_19 : decode cX7_bears 19 = .ok (.iconst (-1), 1) := by decide +kernel
theorem dX7_bears_20 : decode cX7_bears 20 = .ok (.ireturn, 1) := by decide +kernel
theorem dX7_bears_21 : decode cX7_bears 21 = .ok (.aload_n 0, 1) := by decide +kernel
theorem dX7_bears_22 : decode cX7_bears 22 = .ok (.invokevirtual 196, 3) := by decide +kernel
theorem dX7_bears_25 : decode cX7_bears 25 = .ok (.bipush 9, 2) := by decide +kernel
theorem dX7_bears_27 : decode cX7_bears 27 = .ok (.istore_n 3, 1) := by decide +kernel
theorem dX7_bears_28 : decode cX7_bears 28 = .ok (.iload_n 3, 1) := by decide +kernel
theorem dX7_bears_29 : decode cX7_bears 29 = .ok (.ifCond .le 25, 3) := by decide +kernel
theorem dX7_bears_32 : decode cX7_bears 32 = .ok (.aload_n 0, 1) := by decide +kernel
theorem dX7_bears_33 : decode cX7_bears 33 = .ok (.iload_n 3, 1) := by decide +kernel
theorem dX7_bears_34 : decode cX7_bears 34 = .ok (.putfield 186, 3) := by decide +kernel
theorem dX7_bears_37 : decode cX7_bears 37 = .ok (.aload_n 0, 1) := by decide +kernel
theorem dX7_bears_38 : decode cX7_bears 38 = .ok (.iload_n 1, 1) := by decide +kernel
theorem dX7_bears_39 : decode cX7_bears 39 = .ok (.iload_n 2, 1) := by decide +kernel
theorem dX7_bears_40 : decode cX7_bears 40 = .ok (.invokevirtual 260, 3) := by decide +kernel
theorem dX7_bears_43 : decode cX7_bears 43 = .ok (.ifCond .eq 5, 3) := by decide +kernel
theorem dX7_bears_46 : decode cX7_bears 46 = .ok (.iload_n 3, 1) := by decide +kernel
theorem dX7_bears_47 : decode cX7_bears 47 = .ok (.ireturn, 1) := by decide +kernel
theorem dX7_bears_48 : decode cX7_bears 48 = .ok (.iinc 3 (-1), 3) := by decide +kernel
theorem dX7_bears_51 : decode cX7_bears 51 = .ok (.goto (-23), 3) := by decide +kernel
theorem dX7_bears_54 : decode cX7_bears 54 = .ok (.bipush (-4), 2) := by decide +kernel
theorem dX7_bears_56 : decode cX7_bears 56 = .ok (.ireturn, 1) := by decide +kernel
theorem dX7_mend_0 : decode cX7_mend 0 = .ok (.iload_n 1, 1) := by decide +kernel
theorem dX7_mend_1 : decode cX7_mend 1 = .ok (.invokestatic 236, 3) := by decide +kernel
theorem dX7_mend_4 : decode cX7_mend 4 = .ok (.ifCond .eq 15, 3) := by decide +kernel
theorem dX7_mend_7 : decode cX7_mend 7 = .ok (.iload_n 2, 1) := by decide +kernel
theorem dX7_mend_8 : decode cX7_mend 8 = .ok (.i2l, 1) := by decide +kernel
theorem dX7_mend_9 : decode cX7_mend 9 = .ok (.lconst 0, 1) := by decide +kernel
theorem dX7_mend_10 : decode cX7_mend 10 = .ok (.ldc2_w 136, 3) := by decide +kernel
theorem dX7_mend_13 : decode cX7_mend 13 = .ok (.invokestatic 74, 3) := by decide +kernel
theorem dX7_mend_16 : decode cX7_mend 16 = .ok (.ifCond .ne 7, 3) := by decide +kernel
theorem dX7_mend_19 : decode cX7_mend 19 = .ok (.ldc2_w 239, 3) := by decide +kernel
theorem dX7_mend_22 : decode cX7_mend 22 = .ok (.lreturn, 1) := by decide +kernel
theorem dX7_mend_23 : decode cX7_mend 23 = .ok (.aload_n 0, 1) := by decide +kernel
theorem dX7_mend_24 : decode cX7_mend 24 = .ok (.invokevirtual 196, 3) := by decide +kernel
theorem dX7_mend_27 : decode cX7_mend 27 = .ok (.aload_n 0, 1) := by decide +kernel
theorem dX7_mend_28 : decode cX7_mend 28 = .ok (.iload_n 1, 1) := by decide +kernel
theorem dX7_mend_29 : decode cX7_mend 29 = .ok (.invokevirtual 241, 3) := by decide +kernel
theorem dX7_mend_32 : decode cX7_mend 32 = .ok (.lstore_n 3, 1) := by decide +kernel
theorem dX7_mend_33 : decode cX7_mend 33 = .ok (.bipush (-4), 2) := by decide +kernel
theorem dX7_mend_35 : decode cX7_mend 35 = .ok (.istore 5, 2) := by decide +kernel
theorem dX7_mend_37 : decode cX7_mend 37 = .ok (.iconst 0, 1) := by decide +kernel
theorem dX7_mend_38 : decode cX7_mend 38 = .ok (.istore 6, 2) := by decide +kernel
theorem dX7_mend_40 : decode cX7_mend 40 = .ok (.iload 6, 2) := by decide +kernel
theorem dX7_mend_42 : decode cX7_mend 42 = .ok (.aload_n 0, 1) := by decide +kernel
theorem dX7_mend_43 : decode cX7_mend 43 = .ok (.getfield 159, 3) := by decide +kernel
theorem dX7_mend_46 : decode cX7_mend 46 = .ok (.if_icmp .ge 71, 3) := by decide +kernel
theorem dX7_mend_49 : decode cX7_mend 49 = .ok (.aload_n 0, 1) := by decide +kernel
theorem dX7_mend_50 : decode cX7_mend 50 = .ok (.invokevirtual 196, 3) := by decide +kernel
theorem dX7_mend_53 : decode cX7_mend 53 = .ok (.aload_n 0, 1) := by decide +kernel
theorem dX7_mend_54 : decode cX7_mend 54 = .ok (.dup, 1) := by decide +kernel
theorem dX7_mend_55 : decode cX7_mend 55 = .ok (.getfield 183, 3) := by decide +kernel
theorem dX7_mend_58 : decode cX7_mend 58 = .ok (.iconst 1, 1) := by decide +kernel
theorem dX7_mend_59 : decode cX7_mend 59 = .ok (.iload 6, 2) := by decide +kernel
theorem dX7_mend_61 : decode cX7_mend 61 = .ok (.ishl, 1) := by decide +kernel
theorem dX7_mend_62 : decode cX7_mend 62 = .ok (.ior, 1) := by decide +kernel
theorem dX7_mend_63 : decode cX7_mend 63 = .ok (.putfield 183, 3) := by decide +kernel
theorem dX7_mend_66 : decode cX7_mend 66 = .ok (.aload_n 0, 1) := by decide +kernel
theorem dX7_mend_67 : decode cX7_mend 67 = .ok (.getfield 34, 3) := by decide +kernel
theorem dX7_mend_70 : decode cX7_mend 70 = .ok (.iload 6, 2) := by decide +kernel
theorem dX7_mend_72 : decode cX7_mend 72 = .ok (.iconst 0, 1) := by decide +kernel
theorem dX7_mend_73 : decode cX7_mend 73 = .ok (.iastore, 1) := by decide +kernel
theorem dX7_mend_74 : decode cX7_mend 74 = .ok (.aload_n 0, 1) := by decide +kernel
theorem dX7_mend_75 : decode cX7_mend 75 = .ok (.iload_n 1, 1) := by decide +kernel
theorem dX7_mend_76 : decode cX7_mend 76 = .ok (.invokevirtual 241, 3) := by decide +kernel
theorem dX7_mend_79 : decode cX7_mend 79 = .ok (.lstore 7, 2) := by decide +kernel
theorem dX7_mend_81 : decode cX7_mend 81 = .ok (.lload 7, 2) := by decide +kernel
theorem dX7_mend_83 : decode cX7_mend 83 = .ok (.lload_n 3, 1) := by decide +kernel
theorem dX7_mend_84 : decode cX7_mend 84 = .ok (.lcmp, 1) := by decide +kernel
theorem dX7_mend_85 : decode cX7_mend 85 = .ok (.ifCond .le 8, 3) := by decide +kernel
theorem dX7_mend_88 : decode cX7_mend 88 = .ok (.iload 6, 2) := by decide +kernel
theorem dX7_mend_90 : decode cX7_mend 90 = .ok (.goto 5, 3) := by decide +kernel
theorem dX7_mend_93 : decode cX7_mend 93 = .ok (.iload 5, 2) := by decide +kernel
theorem dX7_mend_95 : decode cX7_mend 95 = .ok (.istore 5, 2) := by decide +kernel
theorem dX7_mend_97 : decode cX7_mend 97 = .ok (.lload 7, 2) := by decide +kernel
theorem dX7_mend_99 : decode cX7_mend 99 = .ok (.lload_n 3, 1) := by decide +kernel
theorem dX7_mend_100 : decode cX7_mend 100 = .ok (.lcmp, 1) := by decide +kernel
theorem dX7_mend_101 : decode cX7_mend 101 = .ok (.ifCond .le 8, 3) := by decide +kernel
theorem dX7_mend_104 : decode cX7_mend 104 = .ok (.lload 7, 2) := by decide +kernel
theorem dX7_mend_106 : decode cX7_mend 106 = .ok (.goto 4, 3) := by decide +kernel
theorem dX7_mend_109 : decode cX7_mend 109 = .ok (.lload_n 3, 1) := by decide +kernel
theorem dX7_mend_110 : decode cX7_mend 110 = .ok (.lstore_n 3, 1) := by decide +kernel
theorem dX7_mend_111 : decode cX7_mend 111 = .ok (.iinc 6 1, 3) := by decide +kernel
theorem dX7_mend_114 : decode cX7_mend 114 = .ok (.goto (-74), 3) := by decide +kernel
theorem dX7_mend_117 : decode cX7_mend 117 = .ok (.iload 5, 2) := by decide +kernel
theorem dX7_mend_119 : decode cX7_mend 119 = .ok (.bipush (-4), 2) := by decide +kernel
theorem dX7_mend_121 : decode cX7_mend 121 = .ok (.if_icmp .eq 7, 3) := by decide +kernel
theorem dX7_mend_124 : decode cX7_mend 124 = .ok (.iload_n 2, 1) := by decide +kernel
theorem dX7_mend_125 : decode cX7_mend 125 = .ok (.ifCond .ne 9, 3) := by decide +kernel
theorem dX7_mend_128 : decode cX7_mend 128 = .ok (.iload 5, 2) := by decide +kernel
theorem dX7_mend_130 : decode cX7_mend 130 = .ok (.i2l, 1) := by decide +kernel
theorem dX7_mend_131 : decode cX7_mend 131 = .ok (.goto 19, 3) := by decide +kernel
theorem dX7_mend_134 : decode cX7_mend 134 = .ok (.lload_n 3, 1) := by decide +kernel
theorem dX7_mend_135 : decode cX7_mend 135 = .ok (.aload_n 0, 1) := by decide +kernel
theorem dX7_mend_136 : decode cX7_mend 136 = .ok (.getfield 180, 3) := by decide +kernel
theorem dX7_mend_139 : decode cX7_mend 139 = .ok (.iload_n 1, 1) := by decide +kernel
theorem dX7_mend_140 : decode cX7_mend 140 = .ok (.imul, 1) := by decide +kernel
theorem dX7_mend_141 : decode cX7_mend 141 = .ok (.invokestatic 232, 3) := by decide +kernel
theorem dX7_mend_144 : decode cX7_mend 144 = .ok (.iload_n 2, 1) := by decide +kernel
theorem dX7_mend_145 : decode cX7_mend 145 = .ok (.iconst 1, 1) := by decide +kernel
theorem dX7_mend_146 : decode cX7_mend 146 = .ok (.isub, 1) := by decide +kernel
theorem dX7_mend_147 : decode cX7_mend 147 = .ok (.invokestatic 244, 3) := by decide +kernel
theorem dX7_mend_150 : decode cX7_mend 150 = .ok (.lreturn, 1) := by decide +kernel
theorem mX7_lowestN (a m : Nat) (wh : Int32) (ha : a < 2 ^ 63) (hm0 : 0 < m) (hm : m < 2 ^ 63) : J KX7_lowest 0 (fun o B => o = some (.long (lowT (a : Int) m wh)) ∧ B = []) 0 [some (.long (lN a)), none, some (.long (lN m)), none, some (.int wh), none, none, none, none, none, none] [] [] 0 0 := by
  have h := mX7_lowest (a : Int) m wh (by omega) (by omega) hm0 hm
  rw [lI_nat] at h
  exact h
theorem hdR_m {r : rT} (h : rOK r) (N : Nat) : hdR r N = (10 ^ (3 - r 6 0)) ^ N * (10 ^ (r 6 0 * N) - mho (oqR r) (r 6 0) N 0) := by
  rw [← mho_h (mlay_ok h) N]
  exact (mho_sc (mlay_ok h) N).held h.1
theorem fallsE {r : rT} (h : rOK r) (N : Nat) (wh : Int32) : lowT ((10 ^ (r 6 0 * N) - (10 ^ (r 6 0 * N) - mho (oqR r) (r 6 0) N 0) : Nat) : Int) (10 ^ (r 6 0 * N)) wh = lowT ((1000 ^ N - hdR r N : Nat) : Int) (1000 ^ N) wh := by
  rw [← lowT_n (c_pos (r 6 0) N), Nat.mul_sub, ← hdR_m h N, p10_c h.1 N]
theorem leftE {r : rT} (h : rOK r) (N k : Nat) (wh : Int32) : lowT ((sm (only k (mho (oqR r) (r 6 0) N)) (2 ^ r 6 0) : Nat) : Int) (10 ^ (r 6 0 * N)) wh = lowT ((sm (only k (sh (oqR r) (one (r 6 3)) N)) 8 : Nat) : Int) (1000 ^ N) wh := by
  rw [← lowT_n (c_pos (r 6 0) N), p10_c h.1 N, ← (mho_sc (mlay_ok h) N).only h.1 k]
  rfl
theorem meanE {r : rT} (h : rOK r) (N : Nat) (wh : Int32) : lowT ((sm (fun s => mho (oqR r) (r 6 0) N s * pc3 s) (2 ^ r 6 0) : Nat) : Int) (10 ^ (r 6 0 * N)) wh = lowT ((mn (sh (oqR r) (one (r 6 3)) N) 4 : Nat) : Int) (1000 ^ N) wh := by
  rw [← lowT_n (c_pos (r 6 0) N), p10_c h.1 N, mn_wt, ← (mho_sc (mlay_ok h) N).wt h.1]
  rfl
theorem sm_le_of {f : Nat → Nat} {M : Nat} : ∀ n, sm f n ≤ M → ∀ k, k ≤ n → sm f k ≤ M
  | 0, h, k, hk => by rw [show k = 0 by omega]; exact h
  | n + 1, h, k, hk => by
    by_cases e : k = n + 1
    · rw [e]; exact h
    · exact sm_le_of n (Nat.le_trans (Nat.le_add_right _ _) h) k (by omega)
theorem only_leN (k : Nat) (x : Nat → Nat) (n : Nat) : sm (only k x) n ≤ sm x n := sm_le (fun i _ => by unfold only; split <;> omega)
theorem wt_leN (x : Nat → Nat) (n : Nat) : sm (fun s => x s * pc3 s) n ≤ 3 * sm x n := by
  rw [← sm_mul]
  exact sm_le (fun i _ => by rw [Nat.mul_comm]; exact Nat.mul_le_mul_right _ (pc3_le i))
set_option maxRecDepth 100000 in
set_option maxHeartbeats 4000000 in
theorem mX7_falls (s : Nat → Int32) (la : Nat → Int32) (r : rT) (v : vT) (c : Nat → Nat → Int32) (l : Nat → Int32) (tn : Int32) (p : Nat → Int32) (pa : Nat → Nat → Int32) (m : Nat) (q : rT) (b : Int32) (x : Nat → Nat) (h : Nat → Nat → Int64) (N : Nat) (hN : N ≤ 5) (wh : Int32) (hw : 0 ≤ wh ∧ wh ≤ 1) (hS : mS s r) (hr : rOK r) : J KX7_falls 21 (fun o B => o = some (.long (lowT ((1000 ^ N - hdR r N : Nat) : Int) (1000 ^ N) wh)) ∧ ∃ m9 q9 b9 x9 h9, B = (wM s la r v c l tn p pa m9 q9 b9 x9 h9)) 0 [some (.ref 0), some (.int (nI N)), some (.int wh), none, none] [] (wM s la r v c l tn p pa m q b x h) 0 0 := by
  refine J.iload_n dX7_falls_0 rfl rfl ?_
  refine J.cs (as := [.int _]) (is := []) okX7_isLong jcX7_236 (mX7_isLong (nI N)) dX7_falls_1 rfl rfl rfl rfl rfl rfl (fun r9 B9 hq => ?_)
  obtain ⟨rfl, rfl⟩ := hq
  refine ⟨rfl, ?_⟩
  show J _ _ _ _ _ (.int _ :: _) (wM s la r v c l tn p pa m q b x h) _ _
  refine J.if_eq (tgt := 17) dX7_falls_4 (by decide) (fun c4 => absurd c4 (fun h => (jB_0 _).mp h (jw (a := 0) (c := 5) (by decide) (Nat.zero_le _) hN))) (fun c4 => ?_)
  refine J.iload_n dX7_falls_7 rfl rfl ?_
  refine J.i2l dX7_falls_8 ?_
  refine J.lconst 0 dX7_falls_9 (by decide) ?_
  refine J.lconst 1 dX7_falls_10 (by decide) ?_
  refine J.cs (as := [.long _, .long _, .long _]) (is := []) okX7_in jcX7_74 (mX7_inI wh 0 1 (by decide) (by decide)) dX7_falls_11 rfl rfl rfl rfl rfl rfl (fun r9 B9 hq => ?_)
  obtain ⟨rfl, rfl⟩ := hq
  refine ⟨rfl, ?_⟩
  show J _ _ _ _ _ (.int _ :: _) (wM s la r v c l tn p pa m q b x h) _ _
  refine J.if_ne (tgt := 21) dX7_falls_14 (by decide) (fun c14 => ?_) (fun c14 => absurd c14 (fun h => (jB_0 _).mp h hw))
  refine J.aload_n dX7_falls_21 rfl rfl ?_
  refine J.cvM (as := []) s la r v c l tn p pa m q b x h okX7_lays jcX7_196 (mX7_lays s la r v c l tn p pa m q b x h hS hr) dX7_falls_22 rfl rfl rfl rfl (fun r9 B9 hq9 => ?_)
  obtain ⟨rfl, rfl⟩ := hq9
  refine ⟨_, _, _, _, _, _, _, _, _, _, _, _, _, _, rfl, ?_⟩
  show J _ _ _ _ _ [] (wM s la r v c l tn p pa (r 6 0) (mlay q r (r 6 0)) b x h) _ _
  refine J.aload_n dX7_falls_25 rfl rfl ?_
  refine J.mg25 dX7_falls_26 rfl ?_
  refine J.iload_n dX7_falls_29 rfl rfl ?_
  refine J.imul dX7_falls_30 ?_
  rw [ix0 (r 6 0) N]
  refine J.cs (as := [.int _]) (is := []) okX7_tens jcX7_232 (mX7_tens ((r 6 0) * N) (by have := Nat.mul_le_mul hr.1 hN; omega)) dX7_falls_31 rfl rfl rfl rfl rfl rfl (fun r9 B9 hq => ?_)
  obtain ⟨rfl, rfl⟩ := hq
  refine ⟨rfl, ?_⟩
  show J _ _ _ _ _ (.long _ :: _) (wM s la r v c l tn p pa (r 6 0) (mlay q r (r 6 0)) b x h) _ _
  refine J.lstore_n dX7_falls_34 rfl (by decide) rfl ?_
  try dsimp only [List.set]
  refine J.lload_n dX7_falls_35 rfl rfl ?_
  refine J.aload_n dX7_falls_36 rfl rfl ?_
  refine J.iload_n dX7_falls_37 rfl rfl ?_
  refine J.cvM (as := [.int _]) s la r v c l tn p pa (r 6 0) (mlay q r (r 6 0)) b x h okX7_holds jcX7_241 (mX7_holds s la r v c l tn p pa (r 6 0) (mlay q r (r 6 0)) b x h (oqR r) (mlay_q q) (mlay_ok hr) N hN) dX7_falls_38 rfl rfl rfl rfl (fun r9 B9 hq9 => ?_)
  obtain ⟨rfl, h9, rfl⟩ := hq9
  refine ⟨_, _, _, _, _, _, _, _, _, _, _, _, _, _, rfl, ?_⟩
  show J _ _ _ _ _ (.long _ :: .long _ :: _) (wM s la r v c l tn p pa (r 6 0) (mlay q r (r 6 0)) b (mho (oqR r) (r 6 0) N) h9) _ _
  refine J.lsub dX7_falls_41 ?_
  refine J.lload_n dX7_falls_42 rfl rfl ?_
  refine J.iload_n dX7_falls_43 rfl rfl ?_
  rw [lN_sub (Nat.sub_le _ _)]
  refine J.cs (as := [.long _, .long _, .int _]) (is := []) okX7_lowest jcX7_244 (mX7_lowestN (10 ^ ((r 6 0) * N) - (10 ^ ((r 6 0) * N) - mho (oqR r) (r 6 0) N 0)) (10 ^ ((r 6 0) * N)) (wh) (by have := ten_10 hr.1 hN; omega) (by have := ten_10 hr.1 hN; omega) (by have := ten_10 hr.1 hN; omega)) dX7_falls_44 rfl rfl rfl rfl rfl rfl (fun r9 B9 hq => ?_)
  obtain ⟨rfl, rfl⟩ := hq
  refine ⟨rfl, ?_⟩
  show J _ _ _ _ _ (.long _ :: _) (wM s la r v c l tn p pa (r 6 0) (mlay q r (r 6 0)) b (mho (oqR r) (r 6 0) N) h9) _ _
  exact J.lret dX7_falls_47 rfl (Nat.le_refl _) (Nat.le_refl _) ⟨congrArg (fun z => some (Value.long z)) (fallsE hr N wh), _, _, _, _, _, rfl⟩
set_option maxRecDepth 100000 in
set_option maxHeartbeats 4000000 in
theorem mX7_falls_bad (s : Nat → Int32) (la : Nat → Int32) (r : rT) (v : vT) (c : Nat → Nat → Int32) (l : Nat → Int32) (tn : Int32) (p : Nat → Int32) (pa : Nat → Nat → Int32) (m : Nat) (q : rT) (b : Int32) (x : Nat → Nat) (h : Nat → Nat → Int64) (n wh : Int32) (hb : ¬ (0 ≤ n ∧ n ≤ 5) ∨ ¬ (0 ≤ wh ∧ wh ≤ 1)) : J KX7_falls 21 (fun o B => o = some (.long (-1)) ∧ B = (wM s la r v c l tn p pa m q b x h)) 0 [some (.ref 0), some (.int n), some (.int wh), none, none] [] (wM s la r v c l tn p pa m q b x h) 0 0 := by
  refine J.iload_n dX7_falls_0 rfl rfl ?_
  refine J.cs (as := [.int _]) (is := []) okX7_isLong jcX7_236 (mX7_isLong n) dX7_falls_1 rfl rfl rfl rfl rfl rfl (fun r9 B9 hq => ?_)
  obtain ⟨rfl, rfl⟩ := hq
  refine ⟨rfl, ?_⟩
  show J _ _ _ _ _ (.int _ :: _) (wM s la r v c l tn p pa m q b x h) _ _
  refine J.if_eq (tgt := 17) dX7_falls_4 (by decide) (fun c4 => ?_) (fun c4 => ?_)
  · refine J.ldc2 (v := -1) dX7_falls_17 (jt 1049 rfl rfl) ?_
    exact J.lret dX7_falls_20 rfl (Nat.le_refl _) (Nat.le_refl _) ⟨rfl, rfl⟩
  · refine J.iload_n dX7_falls_7 rfl rfl ?_
    refine J.i2l dX7_falls_8 ?_
    refine J.lconst 0 dX7_falls_9 (by decide) ?_
    refine J.lconst 1 dX7_falls_10 (by decide) ?_
    refine J.cs (as := [.long _, .long _, .long _]) (is := []) okX7_in jcX7_74 (mX7_inI wh 0 1 (by decide) (by decide)) dX7_falls_11 rfl rfl rfl rfl rfl rfl (fun r9 B9 hq => ?_)
    obtain ⟨rfl, rfl⟩ := hq
    refine ⟨rfl, ?_⟩
    show J _ _ _ _ _ (.int _ :: _) (wM s la r v c l tn p pa m q b x h) _ _
    refine J.if_ne (tgt := 21) dX7_falls_14 (by decide) (fun c14 => absurd c14 (fun h => h ((jB_0 _).mpr (fun hC => (fun h => h.elim (fun h => h (Decidable.not_not.mp (fun h9 => c4 ((jB_0 _).mpr h9)))) (fun h => h hC)) hb)))) (fun c14 => ?_)
    refine J.ldc2 (v := -1) dX7_falls_17 (jt 1049 rfl rfl) ?_
    exact J.lret dX7_falls_20 rfl (Nat.le_refl _) (Nat.le_refl _) ⟨rfl, rfl⟩
set_option maxRecDepth 100000 in
set_option maxHeartbeats 4000000 in
theorem mX7_left_l (s : Nat → Int32) (la : Nat → Int32) (r : rT) (v : vT) (c : Nat → Nat → Int32) (l : Nat → Int32) (tn : Int32) (p : Nat → Int32) (pa : Nat → Nat → Int32) (m : Nat) (q : rT) (b : Int32) (x : Nat → Nat) (h : Nat → Nat → Int64) (N k : Nat) (hN : N ≤ 5) (hk : k ≤ 3) (wh : Int32) (hr : rOK r) : ∀ (k9 i : Nat), i + k9 = 2 ^ r 6 0 → J KX7_left 21 (fun o B => o = some (.long (lowT ((sm (only k (sh (oqR r) (one (r 6 3)) N)) 8 : Nat) : Int) (1000 ^ N) wh)) ∧ ∃ m9 q9 b9 x9 h9, B = (wM s la r v c l tn p pa m9 q9 b9 x9 h9)) 48 [some (.ref 0), some (.int (nI N)), some (.int (nI k)), some (.int wh), some (.long (lN (sm (only k (mho (oqR r) (r 6 0) N)) i))), none, some (.int (nI i))] [] (wM s la r v c l tn p pa (r 6 0) (mlay q r (r 6 0)) b (mho (oqR r) (r 6 0) N) h) 0 0 := by
  intro k9
  induction k9 with
  | zero =>
    intro i hi
    obtain hiN : i = 2 ^ r 6 0 := by omega
    subst hiN
    refine J.iload dX7_left_48 rfl ?_
    refine J.iconst (1) dX7_left_50 (by decide) ?_
    refine J.aload_n dX7_left_51 rfl rfl ?_
    refine J.mg25 dX7_left_52 rfl ?_
    refine J.ishl dX7_left_55 ?_
    rw [shl_eval (r 6 0) (by have := hr.1; omega)]
    refine J.icmp_ge (tgt := 90) dX7_left_56 (by decide) (fun c56 => ?_) (fun c56 => absurd c56 (fun h => h (Int32.le_refl _)))
    refine J.lload dX7_left_90 rfl ?_
    refine J.aload_n dX7_left_92 rfl rfl ?_
    refine J.mg25 dX7_left_93 rfl ?_
    refine J.iload_n dX7_left_96 rfl rfl ?_
    refine J.imul dX7_left_97 ?_
    rw [ix0 (r 6 0) N]
    refine J.cs (as := [.int _]) (is := []) okX7_tens jcX7_232 (mX7_tens ((r 6 0) * N) (by have := Nat.mul_le_mul hr.1 hN; omega)) dX7_left_98 rfl rfl rfl rfl rfl rfl (fun r9 B9 hq => ?_)
    obtain ⟨rfl, rfl⟩ := hq
    refine ⟨rfl, ?_⟩
    show J _ _ _ _ _ (.long _ :: _) (wM s la r v c l tn p pa (r 6 0) (mlay q r (r 6 0)) b (mho (oqR r) (r 6 0) N) h) _ _
    refine J.iload_n dX7_left_101 rfl rfl ?_
    refine J.cs (as := [.long _, .long _, .int _]) (is := []) okX7_lowest jcX7_244 (mX7_lowestN (sm (only k (mho (oqR r) (r 6 0) N)) (2 ^ r 6 0)) (10 ^ ((r 6 0) * N)) (wh) (by have h1 := only_leN k (mho (oqR r) (r 6 0) N) (2 ^ r 6 0); rw [mho_sum (mlay_ok hr)] at h1; have := ten_10 hr.1 hN; omega) (by have := ten_10 hr.1 hN; omega) (by have := ten_10 hr.1 hN; omega)) dX7_left_102 rfl rfl rfl rfl rfl rfl (fun r9 B9 hq => ?_)
    obtain ⟨rfl, rfl⟩ := hq
    refine ⟨rfl, ?_⟩
    show J _ _ _ _ _ (.long _ :: _) (wM s la r v c l tn p pa (r 6 0) (mlay q r (r 6 0)) b (mho (oqR r) (r 6 0) N) h) _ _
    exact J.lret dX7_left_105 rfl (Nat.le_refl _) (Nat.le_refl _) ⟨congrArg (fun z => some (Value.long z)) (leftE hr N k wh), _, _, _, _, _, rfl⟩
  | succ k9 ih =>
    intro i hi
    have hiN : i < 2 ^ r 6 0 := by omega
    refine J.iload dX7_left_48 rfl ?_
    refine J.iconst (1) dX7_left_50 (by decide) ?_
    refine J.aload_n dX7_left_51 rfl rfl ?_
    refine J.mg25 dX7_left_52 rfl ?_
    refine J.ishl dX7_left_55 ?_
    rw [shl_eval (r 6 0) (by have := hr.1; omega)]
    refine J.icmp_ge (tgt := 90) dX7_left_56 (by decide) (fun c56 => absurd c56 (nI_ge (by omega) (by have := p2_8 hr.1; omega))) (fun c56 => ?_)
    refine J.lload dX7_left_59 rfl ?_
    refine J.iload dX7_left_61 rfl ?_
    refine J.cs (as := [.int _]) (is := []) okX7_bitsOf jcX7_189 (mX7_bitsOf i (by have := p2_8 hr.1; omega)) dX7_left_63 rfl rfl rfl rfl rfl rfl (fun r9 B9 hq => ?_)
    obtain ⟨rfl, rfl⟩ := hq
    refine ⟨rfl, ?_⟩
    show J _ _ _ _ _ (.int _ :: _) (wM s la r v c l tn p pa (r 6 0) (mlay q r (r 6 0)) b (mho (oqR r) (r 6 0) N) h) _ _
    refine J.iload_n dX7_left_66 rfl rfl ?_
    refine J.icmp_ne (tgt := 80) dX7_left_67 (by decide) (fun c67 => ?_) (fun c67 => ?_)
    · refine J.lconst 0 dX7_left_80 (by decide) ?_
      refine J.ladd dX7_left_81 ?_
      refine J.lstore dX7_left_82 (by decide) rfl ?_
      try dsimp only [List.set]
      refine J.iinc (1) dX7_left_84 (by decide) rfl (by decide) rfl ?_
      try dsimp only [List.set]
      refine J.goto (tgt := 48) dX7_left_87 (by decide) ?_
      first
      | (have e9 : only k (mho (oqR r) (r 6 0) N) i = (mho (oqR r) (r 6 0) N) i := if_pos ((nI_eqi (by have := pc3_le i; omega) (by omega)).mp c67)
         exact J.at (ih (i + 1) (by omega)) (by rw [sm, e9, ← lN_add, ← nI_1 i] <;> rfl) rfl rfl)
      | (have e9 : only k (mho (oqR r) (r 6 0) N) i = 0 := if_neg (fun h9 => c67 (congrArg nI h9))
         exact J.at (ih (i + 1) (by omega)) (by rw [sm, e9, ← lN_add, ← nI_1 i] <;> rfl) rfl rfl)
    · refine J.aload_n dX7_left_70 rfl rfl ?_
      refine J.mg28 dX7_left_71 rfl ?_
      refine J.iload dX7_left_74 rfl ?_
      refine J.ml10 (i) dX7_left_76 rfl (by have := p2_8 hr.1; omega) ?_
      refine J.goto (tgt := 81) dX7_left_77 (by decide) ?_
      refine J.ladd dX7_left_81 ?_
      refine J.lstore dX7_left_82 (by decide) rfl ?_
      try dsimp only [List.set]
      refine J.iinc (1) dX7_left_84 (by decide) rfl (by decide) rfl ?_
      try dsimp only [List.set]
      refine J.goto (tgt := 48) dX7_left_87 (by decide) ?_
      first
      | (have e9 : only k (mho (oqR r) (r 6 0) N) i = (mho (oqR r) (r 6 0) N) i := if_pos ((nI_eqi (by have := pc3_le i; omega) (by omega)).mp c67)
         exact J.at (ih (i + 1) (by omega)) (by rw [sm, e9, ← lN_add, ← nI_1 i] <;> rfl) rfl rfl)
      | (have e9 : only k (mho (oqR r) (r 6 0) N) i = 0 := if_neg (fun h9 => c67 (congrArg nI h9))
         exact J.at (ih (i + 1) (by omega)) (by rw [sm, e9, ← lN_add, ← nI_1 i] <;> rfl) rfl rfl)
set_option maxRecDepth 100000 in
set_option maxHeartbeats 4000000 in
theorem mX7_left (s : Nat → Int32) (la : Nat → Int32) (r : rT) (v : vT) (c : Nat → Nat → Int32) (l : Nat → Int32) (tn : Int32) (p : Nat → Int32) (pa : Nat → Nat → Int32) (m : Nat) (q : rT) (b : Int32) (x : Nat → Nat) (h : Nat → Nat → Int64) (N k : Nat) (hN : N ≤ 5) (hk : k ≤ 3) (wh : Int32) (hw : 0 ≤ wh ∧ wh ≤ 1) (hS : mS s r) (hr : rOK r) : J KX7_left 21 (fun o B => o = some (.long (lowT ((sm (only k (sh (oqR r) (one (r 6 3)) N)) 8 : Nat) : Int) (1000 ^ N) wh)) ∧ ∃ m9 q9 b9 x9 h9, B = (wM s la r v c l tn p pa m9 q9 b9 x9 h9)) 0 [some (.ref 0), some (.int (nI N)), some (.int (nI k)), some (.int wh), none, none, none] [] (wM s la r v c l tn p pa m q b x h) 0 0 := by
  refine J.iload_n dX7_left_0 rfl rfl ?_
  refine J.cs (as := [.int _]) (is := []) okX7_isLong jcX7_236 (mX7_isLong (nI N)) dX7_left_1 rfl rfl rfl rfl rfl rfl (fun r9 B9 hq => ?_)
  obtain ⟨rfl, rfl⟩ := hq
  refine ⟨rfl, ?_⟩
  show J _ _ _ _ _ (.int _ :: _) (wM s la r v c l tn p pa m q b x h) _ _
  refine J.if_eq (tgt := 29) dX7_left_4 (by decide) (fun c4 => absurd c4 (fun h => (jB_0 _).mp h (jw (a := 0) (c := 5) (by decide) (Nat.zero_le _) hN))) (fun c4 => ?_)
  refine J.iload_n dX7_left_7 rfl rfl ?_
  refine J.i2l dX7_left_8 ?_
  refine J.lconst 0 dX7_left_9 (by decide) ?_
  refine J.ldc2 (v := 3) dX7_left_10 (jt 946 rfl rfl) ?_
  refine J.cs (as := [.long _, .long _, .long _]) (is := []) okX7_in jcX7_74 (mX7_inI (nI k) 0 3 (by decide) (by decide)) dX7_left_13 rfl rfl rfl rfl rfl rfl (fun r9 B9 hq => ?_)
  obtain ⟨rfl, rfl⟩ := hq
  refine ⟨rfl, ?_⟩
  show J _ _ _ _ _ (.int _ :: _) (wM s la r v c l tn p pa m q b x h) _ _
  refine J.if_eq (tgt := 29) dX7_left_16 (by decide) (fun c16 => absurd c16 (fun h => (jB_0 _).mp h (jw (a := 0) (c := 3) (by decide) (Nat.zero_le _) hk))) (fun c16 => ?_)
  refine J.iload_n dX7_left_19 rfl rfl ?_
  refine J.i2l dX7_left_20 ?_
  refine J.lconst 0 dX7_left_21 (by decide) ?_
  refine J.lconst 1 dX7_left_22 (by decide) ?_
  refine J.cs (as := [.long _, .long _, .long _]) (is := []) okX7_in jcX7_74 (mX7_inI wh 0 1 (by decide) (by decide)) dX7_left_23 rfl rfl rfl rfl rfl rfl (fun r9 B9 hq => ?_)
  obtain ⟨rfl, rfl⟩ := hq
  refine ⟨rfl, ?_⟩
  show J _ _ _ _ _ (.int _ :: _) (wM s la r v c l tn p pa m q b x h) _ _
  refine J.if_ne (tgt := 33) dX7_left_26 (by decide) (fun c26 => ?_) (fun c26 => absurd c26 (fun h => (jB_0 _).mp h hw))
  refine J.aload_n dX7_left_33 rfl rfl ?_
  refine J.cvM (as := []) s la r v c l tn p pa m q b x h okX7_lays jcX7_196 (mX7_lays s la r v c l tn p pa m q b x h hS hr) dX7_left_34 rfl rfl rfl rfl (fun r9 B9 hq9 => ?_)
  obtain ⟨rfl, rfl⟩ := hq9
  refine ⟨_, _, _, _, _, _, _, _, _, _, _, _, _, _, rfl, ?_⟩
  show J _ _ _ _ _ [] (wM s la r v c l tn p pa (r 6 0) (mlay q r (r 6 0)) b x h) _ _
  refine J.aload_n dX7_left_37 rfl rfl ?_
  refine J.iload_n dX7_left_38 rfl rfl ?_
  refine J.cvM (as := [.int _]) s la r v c l tn p pa (r 6 0) (mlay q r (r 6 0)) b x h okX7_hoursOn jcX7_229 (mX7_hoursOn s la r v c l tn p pa (r 6 0) (mlay q r (r 6 0)) b x h (oqR r) (mlay_q q) (mlay_ok hr) N hN) dX7_left_39 rfl rfl rfl rfl (fun r9 B9 hq9 => ?_)
  obtain ⟨rfl, h9, rfl⟩ := hq9
  refine ⟨_, _, _, _, _, _, _, _, _, _, _, _, _, _, rfl, ?_⟩
  show J _ _ _ _ _ [] (wM s la r v c l tn p pa (r 6 0) (mlay q r (r 6 0)) b (mho (oqR r) (r 6 0) N) h9) _ _
  refine J.lconst 0 dX7_left_42 (by decide) ?_
  refine J.lstore dX7_left_43 (by decide) rfl ?_
  try dsimp only [List.set]
  refine J.iconst (0) dX7_left_45 (by decide) ?_
  refine J.istore dX7_left_46 (by decide) rfl ?_
  try dsimp only [List.set]
  exact J.at (mX7_left_l s la r v c l tn p pa m q b x h9 N k hN hk wh hr (2 ^ r 6 0) 0 (by omega)) rfl rfl rfl
set_option maxRecDepth 100000 in
set_option maxHeartbeats 4000000 in
theorem mX7_left_bad (s : Nat → Int32) (la : Nat → Int32) (r : rT) (v : vT) (c : Nat → Nat → Int32) (l : Nat → Int32) (tn : Int32) (p : Nat → Int32) (pa : Nat → Nat → Int32) (m : Nat) (q : rT) (b : Int32) (x : Nat → Nat) (h : Nat → Nat → Int64) (n k wh : Int32) (hb : ¬ (0 ≤ n ∧ n ≤ 5) ∨ ¬ (0 ≤ k ∧ k ≤ 3) ∨ ¬ (0 ≤ wh ∧ wh ≤ 1)) : J KX7_left 21 (fun o B => o = some (.long (-1)) ∧ B = (wM s la r v c l tn p pa m q b x h)) 0 [some (.ref 0), some (.int n), some (.int k), some (.int wh), none, none, none] [] (wM s la r v c l tn p pa m q b x h) 0 0 := by
  refine J.iload_n dX7_left_0 rfl rfl ?_
  refine J.cs (as := [.int _]) (is := []) okX7_isLong jcX7_236 (mX7_isLong n) dX7_left_1 rfl rfl rfl rfl rfl rfl (fun r9 B9 hq => ?_)
  obtain ⟨rfl, rfl⟩ := hq
  refine ⟨rfl, ?_⟩
  show J _ _ _ _ _ (.int _ :: _) (wM s la r v c l tn p pa m q b x h) _ _
  refine J.if_eq (tgt := 29) dX7_left_4 (by decide) (fun c4 => ?_) (fun c4 => ?_)
  · refine J.ldc2 (v := -1) dX7_left_29 (jt 1049 rfl rfl) ?_
    exact J.lret dX7_left_32 rfl (Nat.le_refl _) (Nat.le_refl _) ⟨rfl, rfl⟩
  · refine J.iload_n dX7_left_7 rfl rfl ?_
    refine J.i2l dX7_left_8 ?_
    refine J.lconst 0 dX7_left_9 (by decide) ?_
    refine J.ldc2 (v := 3) dX7_left_10 (jt 946 rfl rfl) ?_
    refine J.cs (as := [.long _, .long _, .long _]) (is := []) okX7_in jcX7_74 (mX7_inI k 0 3 (by decide) (by decide)) dX7_left_13 rfl rfl rfl rfl rfl rfl (fun r9 B9 hq => ?_)
    obtain ⟨rfl, rfl⟩ := hq
    refine ⟨rfl, ?_⟩
    show J _ _ _ _ _ (.int _ :: _) (wM s la r v c l tn p pa m q b x h) _ _
    refine J.if_eq (tgt := 29) dX7_left_16 (by decide) (fun c16 => ?_) (fun c16 => ?_)
    · refine J.ldc2 (v := -1) dX7_left_29 (jt 1049 rfl rfl) ?_
      exact J.lret dX7_left_32 rfl (Nat.le_refl _) (Nat.le_refl _) ⟨rfl, rfl⟩
    · refine J.iload_n dX7_left_19 rfl rfl ?_
      refine J.i2l dX7_left_20 ?_
      refine J.lconst 0 dX7_left_21 (by decide) ?_
      refine J.lconst 1 dX7_left_22 (by decide) ?_
      refine J.cs (as := [.long _, .long _, .long _]) (is := []) okX7_in jcX7_74 (mX7_inI wh 0 1 (by decide) (by decide)) dX7_left_23 rfl rfl rfl rfl rfl rfl (fun r9 B9 hq => ?_)
      obtain ⟨rfl, rfl⟩ := hq
      refine ⟨rfl, ?_⟩
      show J _ _ _ _ _ (.int _ :: _) (wM s la r v c l tn p pa m q b x h) _ _
      refine J.if_ne (tgt := 33) dX7_left_26 (by decide) (fun c26 => absurd c26 (fun h => h ((jB_0 _).mpr (fun hC => (fun h => h.elim (fun h => h (Decidable.not_not.mp (fun h9 => c4 ((jB_0 _).mpr h9)))) (fun h => h.elim (fun h => h (Decidable.not_not.mp (fun h9 => c16 ((jB_0 _).mpr h9)))) (fun h => h hC))) hb)))) (fun c26 => ?_)
      refine J.ldc2 (v := -1) dX7_left_29 (jt 1049 rfl rfl) ?_
      exact J.lret dX7_left_32 rfl (Nat.le_refl _) (Nat.le_refl _) ⟨rfl, rfl⟩
set_option maxRecDepth 100000 in
set_option maxHeartbeats 4000000 in
theorem mX7_mean_l (s : Nat → Int32) (la : Nat → Int32) (r : rT) (v : vT) (c : Nat → Nat → Int32) (l : Nat → Int32) (tn : Int32) (p : Nat → Int32) (pa : Nat → Nat → Int32) (m : Nat) (q : rT) (b : Int32) (x : Nat → Nat) (h : Nat → Nat → Int64) (N : Nat) (hN : N ≤ 5) (wh : Int32) (hr : rOK r) : ∀ (k9 i : Nat), i + k9 = 2 ^ r 6 0 → J KX7_mean 21 (fun o B => o = some (.long (lowT ((mn (sh (oqR r) (one (r 6 3)) N) 4 : Nat) : Int) (1000 ^ N) wh)) ∧ ∃ m9 q9 b9 x9 h9, B = (wM s la r v c l tn p pa m9 q9 b9 x9 h9)) 35 [some (.ref 0), some (.int (nI N)), some (.int wh), some (.long (lN (sm (fun s => (mho (oqR r) (r 6 0) N) s * pc3 s) i))), none, some (.int (nI i))] [] (wM s la r v c l tn p pa (r 6 0) (mlay q r (r 6 0)) b (mho (oqR r) (r 6 0) N) h) 0 0 := by
  intro k9
  induction k9 with
  | zero =>
    intro i hi
    obtain hiN : i = 2 ^ r 6 0 := by omega
    subst hiN
    refine J.iload dX7_mean_35 rfl ?_
    refine J.iconst (1) dX7_mean_37 (by decide) ?_
    refine J.aload_n dX7_mean_38 rfl rfl ?_
    refine J.mg25 dX7_mean_39 rfl ?_
    refine J.ishl dX7_mean_42 ?_
    rw [shl_eval (r 6 0) (by have := hr.1; omega)]
    refine J.icmp_ge (tgt := 69) dX7_mean_43 (by decide) (fun c43 => ?_) (fun c43 => absurd c43 (fun h => h (Int32.le_refl _)))
    refine J.lload_n dX7_mean_69 rfl rfl ?_
    refine J.aload_n dX7_mean_70 rfl rfl ?_
    refine J.mg25 dX7_mean_71 rfl ?_
    refine J.iload_n dX7_mean_74 rfl rfl ?_
    refine J.imul dX7_mean_75 ?_
    rw [ix0 (r 6 0) N]
    refine J.cs (as := [.int _]) (is := []) okX7_tens jcX7_232 (mX7_tens ((r 6 0) * N) (by have := Nat.mul_le_mul hr.1 hN; omega)) dX7_mean_76 rfl rfl rfl rfl rfl rfl (fun r9 B9 hq => ?_)
    obtain ⟨rfl, rfl⟩ := hq
    refine ⟨rfl, ?_⟩
    show J _ _ _ _ _ (.long _ :: _) (wM s la r v c l tn p pa (r 6 0) (mlay q r (r 6 0)) b (mho (oqR r) (r 6 0) N) h) _ _
    refine J.iload_n dX7_mean_79 rfl rfl ?_
    refine J.cs (as := [.long _, .long _, .int _]) (is := []) okX7_lowest jcX7_244 (mX7_lowestN (sm (fun s => (mho (oqR r) (r 6 0) N) s * pc3 s) (2 ^ r 6 0)) (10 ^ ((r 6 0) * N)) (wh) (by have h1 := wt_leN (mho (oqR r) (r 6 0) N) (2 ^ r 6 0); rw [mho_sum (mlay_ok hr)] at h1; have := ten_10 hr.1 hN; omega) (by have := ten_10 hr.1 hN; omega) (by have := ten_10 hr.1 hN; omega)) dX7_mean_80 rfl rfl rfl rfl rfl rfl (fun r9 B9 hq => ?_)
    obtain ⟨rfl, rfl⟩ := hq
    refine ⟨rfl, ?_⟩
    show J _ _ _ _ _ (.long _ :: _) (wM s la r v c l tn p pa (r 6 0) (mlay q r (r 6 0)) b (mho (oqR r) (r 6 0) N) h) _ _
    exact J.lret dX7_mean_83 rfl (Nat.le_refl _) (Nat.le_refl _) ⟨congrArg (fun z => some (Value.long z)) (meanE hr N wh), _, _, _, _, _, rfl⟩
  | succ k9 ih =>
    intro i hi
    have hiN : i < 2 ^ r 6 0 := by omega
    refine J.iload dX7_mean_35 rfl ?_
    refine J.iconst (1) dX7_mean_37 (by decide) ?_
    refine J.aload_n dX7_mean_38 rfl rfl ?_
    refine J.mg25 dX7_mean_39 rfl ?_
    refine J.ishl dX7_mean_42 ?_
    rw [shl_eval (r 6 0) (by have := hr.1; omega)]
    refine J.icmp_ge (tgt := 69) dX7_mean_43 (by decide) (fun c43 => absurd c43 (nI_ge (by omega) (by have := p2_8 hr.1; omega))) (fun c43 => ?_)
    refine J.lload_n dX7_mean_46 rfl rfl ?_
    refine J.aload_n dX7_mean_47 rfl rfl ?_
    refine J.mg28 dX7_mean_48 rfl ?_
    refine J.iload dX7_mean_51 rfl ?_
    refine J.ml10 (i) dX7_mean_53 rfl (by have := p2_8 hr.1; omega) ?_
    refine J.iload dX7_mean_54 rfl ?_
    refine J.cs (as := [.int _]) (is := []) okX7_bitsOf jcX7_189 (mX7_bitsOf i (by have := p2_8 hr.1; omega)) dX7_mean_56 rfl rfl rfl rfl rfl rfl (fun r9 B9 hq => ?_)
    obtain ⟨rfl, rfl⟩ := hq
    refine ⟨rfl, ?_⟩
    show J _ _ _ _ _ (.int _ :: _) (wM s la r v c l tn p pa (r 6 0) (mlay q r (r 6 0)) b (mho (oqR r) (r 6 0) N) h) _ _
    refine J.i2l dX7_mean_59 ?_
    refine J.lmul dX7_mean_60 ?_
    refine J.ladd dX7_mean_61 ?_
    rw [nI_l (by have := pc3_le i; omega), lN_mul, lN_add]
    refine J.lstore_n dX7_mean_62 rfl (by decide) rfl ?_
    try dsimp only [List.set]
    refine J.iinc (1) dX7_mean_63 (by decide) rfl (by decide) rfl ?_
    try dsimp only [List.set]
    refine J.goto (tgt := 35) dX7_mean_66 (by decide) ?_
    exact J.at (ih (i + 1) (by omega)) (by rw [← nI_1 i] <;> rfl) rfl rfl
set_option maxRecDepth 100000 in
set_option maxHeartbeats 4000000 in
theorem mX7_mean (s : Nat → Int32) (la : Nat → Int32) (r : rT) (v : vT) (c : Nat → Nat → Int32) (l : Nat → Int32) (tn : Int32) (p : Nat → Int32) (pa : Nat → Nat → Int32) (m : Nat) (q : rT) (b : Int32) (x : Nat → Nat) (h : Nat → Nat → Int64) (N : Nat) (hN : N ≤ 5) (wh : Int32) (hw : 0 ≤ wh ∧ wh ≤ 1) (hS : mS s r) (hr : rOK r) : J KX7_mean 21 (fun o B => o = some (.long (lowT ((mn (sh (oqR r) (one (r 6 3)) N) 4 : Nat) : Int) (1000 ^ N) wh)) ∧ ∃ m9 q9 b9 x9 h9, B = (wM s la r v c l tn p pa m9 q9 b9 x9 h9)) 0 [some (.ref 0), some (.int (nI N)), some (.int wh), none, none, none] [] (wM s la r v c l tn p pa m q b x h) 0 0 := by
  refine J.iload_n dX7_mean_0 rfl rfl ?_
  refine J.cs (as := [.int _]) (is := []) okX7_isLong jcX7_236 (mX7_isLong (nI N)) dX7_mean_1 rfl rfl rfl rfl rfl rfl (fun r9 B9 hq => ?_)
  obtain ⟨rfl, rfl⟩ := hq
  refine ⟨rfl, ?_⟩
  show J _ _ _ _ _ (.int _ :: _) (wM s la r v c l tn p pa m q b x h) _ _
  refine J.if_eq (tgt := 17) dX7_mean_4 (by decide) (fun c4 => absurd c4 (fun h => (jB_0 _).mp h (jw (a := 0) (c := 5) (by decide) (Nat.zero_le _) hN))) (fun c4 => ?_)
  refine J.iload_n dX7_mean_7 rfl rfl ?_
  refine J.i2l dX7_mean_8 ?_
  refine J.lconst 0 dX7_mean_9 (by decide) ?_
  refine J.lconst 1 dX7_mean_10 (by decide) ?_
  refine J.cs (as := [.long _, .long _, .long _]) (is := []) okX7_in jcX7_74 (mX7_inI wh 0 1 (by decide) (by decide)) dX7_mean_11 rfl rfl rfl rfl rfl rfl (fun r9 B9 hq => ?_)
  obtain ⟨rfl, rfl⟩ := hq
  refine ⟨rfl, ?_⟩
  show J _ _ _ _ _ (.int _ :: _) (wM s la r v c l tn p pa m q b x h) _ _
  refine J.if_ne (tgt := 21) dX7_mean_14 (by decide) (fun c14 => ?_) (fun c14 => absurd c14 (fun h => (jB_0 _).mp h hw))
  refine J.aload_n dX7_mean_21 rfl rfl ?_
  refine J.cvM (as := []) s la r v c l tn p pa m q b x h okX7_lays jcX7_196 (mX7_lays s la r v c l tn p pa m q b x h hS hr) dX7_mean_22 rfl rfl rfl rfl (fun r9 B9 hq9 => ?_)
  obtain ⟨rfl, rfl⟩ := hq9
  refine ⟨_, _, _, _, _, _, _, _, _, _, _, _, _, _, rfl, ?_⟩
  show J _ _ _ _ _ [] (wM s la r v c l tn p pa (r 6 0) (mlay q r (r 6 0)) b x h) _ _
  refine J.aload_n dX7_mean_25 rfl rfl ?_
  refine J.iload_n dX7_mean_26 rfl rfl ?_
  refine J.cvM (as := [.int _]) s la r v c l tn p pa (r 6 0) (mlay q r (r 6 0)) b x h okX7_hoursOn jcX7_229 (mX7_hoursOn s la r v c l tn p pa (r 6 0) (mlay q r (r 6 0)) b x h (oqR r) (mlay_q q) (mlay_ok hr) N hN) dX7_mean_27 rfl rfl rfl rfl (fun r9 B9 hq9 => ?_)
  obtain ⟨rfl, h9, rfl⟩ := hq9
  refine ⟨_, _, _, _, _, _, _, _, _, _, _, _, _, _, rfl, ?_⟩
  show J _ _ _ _ _ [] (wM s la r v c l tn p pa (r 6 0) (mlay q r (r 6 0)) b (mho (oqR r) (r 6 0) N) h9) _ _
  refine J.lconst 0 dX7_mean_30 (by decide) ?_
  refine J.lstore_n dX7_mean_31 rfl (by decide) rfl ?_
  try dsimp only [List.set]
  refine J.iconst (0) dX7_mean_32 (by decide) ?_
  refine J.istore dX7_mean_33 (by decide) rfl ?_
  try dsimp only [List.set]
  exact J.at (mX7_mean_l s la r v c l tn p pa m q b x h9 N hN wh hr (2 ^ r 6 0) 0 (by omega)) rfl rfl rfl
set_option maxRecDepth 100000 in
set_option maxHeartbeats 4000000 in
theorem mX7_mean_bad (s : Nat → Int32) (la : Nat → Int32) (r : rT) (v : vT) (c : Nat → Nat → Int32) (l : Nat → Int32) (tn : Int32) (p : Nat → Int32) (pa : Nat → Nat → Int32) (m : Nat) (q : rT) (b : Int32) (x : Nat → Nat) (h : Nat → Nat → Int64) (n wh : Int32) (hb : ¬ (0 ≤ n ∧ n ≤ 5) ∨ ¬ (0 ≤ wh ∧ wh ≤ 1)) : J KX7_mean 21 (fun o B => o = some (.long (-1)) ∧ B = (wM s la r v c l tn p pa m q b x h)) 0 [some (.ref 0), some (.int n), some (.int wh), none, none, none] [] (wM s la r v c l tn p pa m q b x h) 0 0 := by
  refine J.iload_n dX7_mean_0 rfl rfl ?_
  refine J.cs (as := [.int _]) (is := []) okX7_isLong jcX7_236 (mX7_isLong n) dX7_mean_1 rfl rfl rfl rfl rfl rfl (fun r9 B9 hq => ?_)
  obtain ⟨rfl, rfl⟩ := hq
  refine ⟨rfl, ?_⟩
  show J _ _ _ _ _ (.int _ :: _) (wM s la r v c l tn p pa m q b x h) _ _
  refine J.if_eq (tgt := 17) dX7_mean_4 (by decide) (fun c4 => ?_) (fun c4 => ?_)
  · refine J.ldc2 (v := -1) dX7_mean_17 (jt 1049 rfl rfl) ?_
    exact J.lret dX7_mean_20 rfl (Nat.le_refl _) (Nat.le_refl _) ⟨rfl, rfl⟩
  · refine J.iload_n dX7_mean_7 rfl rfl ?_
    refine J.i2l dX7_mean_8 ?_
    refine J.lconst 0 dX7_mean_9 (by decide) ?_
    refine J.lconst 1 dX7_mean_10 (by decide) ?_
    refine J.cs (as := [.long _, .long _, .long _]) (is := []) okX7_in jcX7_74 (mX7_inI wh 0 1 (by decide) (by decide)) dX7_mean_11 rfl rfl rfl rfl rfl rfl (fun r9 B9 hq => ?_)
    obtain ⟨rfl, rfl⟩ := hq
    refine ⟨rfl, ?_⟩
    show J _ _ _ _ _ (.int _ :: _) (wM s la r v c l tn p pa m q b x h) _ _
    refine J.if_ne (tgt := 21) dX7_mean_14 (by decide) (fun c14 => absurd c14 (fun h => h ((jB_0 _).mpr (fun hC => (fun h => h.elim (fun h => h (Decidable.not_not.mp (fun h9 => c4 ((jB_0 _).mpr h9)))) (fun h => h hC)) hb)))) (fun c14 => ?_)
    refine J.ldc2 (v := -1) dX7_mean_17 (jt 1049 rfl rfl) ?_
    exact J.lret dX7_mean_20 rfl (Nat.le_refl _) (Nat.le_refl _) ⟨rfl, rfl⟩
/-- test(): the reference's odds -/
def mts (r : rT) (V : Nat) : Nat → Nat → Nat
  | 0 => mh (oq (r 0) (r 1) V (r 6 3)) (r 6 0) 0 (one (r 6 3))
  | t + 1 => mh (oqR r) (r 6 0) (t + 1) (mts r V t)
theorem mts_sc {r : rT} (h : rOK r) (V : Nat) : ∀ t, sc ((10 ^ (3 - r 6 0)) ^ (t + 1)) (r 6 0) (tsh r V t) (mts r V t)
  | 0 => by
    have := (sc.one1 h.2.2.2.1).step h.1 (oq (r 0) (r 1) V (r 6 3)) 0
    rw [Nat.one_mul] at this
    rw [Nat.zero_add, Nat.pow_one]
    exact this
  | t + 1 => by
    have := (mts_sc h V t).step h.1 (oqR r) (t + 1)
    rw [← Nat.pow_succ] at this
    exact this
theorem mts_sum {r : rT} (h : rOK r) (V t : Nat) : sm (mts r V t) (2 ^ r 6 0) = 10 ^ (r 6 0 * (t + 1)) := by
  have h1 := (mts_sc h V t).all h.1
  rw [tsh_sum h V t, ← p10_c h.1 (t + 1)] at h1
  exact (Nat.eq_of_mul_eq_mul_left (c_pos (r 6 0) (t + 1)) h1).symm
theorem mts_0 {r : rT} (h : rOK r) (V t : Nat) : mts r V t 0 ≤ 10 ^ (r 6 0 * (t + 1)) := by
  rw [← mts_sum h V t]
  exact sm_get (Nat.two_pow_pos _)
theorem testE {r : rT} (h : rOK r) (V N : Nat) (wh : Int32) : lowT ((10 ^ (r 6 0 * (N + 1)) - mts r V N 0 : Nat) : Int) (10 ^ (r 6 0 * (N + 1))) wh = lowT ((sm (not0 (tsh r V N)) 8 : Nat) : Int) (1000 ^ (N + 1)) wh := by
  have e := not0_sumN (mts r V N) (2 ^ r 6 0) (Nat.two_pow_pos _)
  rw [mts_sum h] at e
  rw [← lowT_n (c_pos (r 6 0) (N + 1)), p10_c h.1 (N + 1), (mts_sc h V N).held h.1, show 10 ^ (r 6 0 * (N + 1)) - mts r V N 0 = sm (not0 (mts r V N)) (2 ^ r 6 0) by omega]
theorem qE_V (q r : rT) (V : Nat) : qE (rset (mlay q r (r 6 0)) 6 1 V) (oq (r 0) (r 1) V (r 6 3)) (r 6 0) := by
  have h := mlay_E q r 0 (r 6 0)
  exact ⟨h.1, h.2.1, rfl⟩
theorem mOK_V {r : rT} (h : rOK r) {V : Nat} (hV : V ≤ 9) : mOK (oq (r 0) (r 1) V (r 6 3)) (r 6 0) := ⟨⟨h.2.2.2.2.2.2.2.2.1, h.2.2.2.2.2.2.2.2.2.1, hV, h.w⟩, h.2.2.2.1, h.1⟩
theorem qE_L (q r : rT) (V : Nat) : qE (rset (rset (mlay q r (r 6 0)) 6 1 V) 6 1 (r 6 4)) (oqR r) (r 6 0) := by
  have h := mlay_E q r 0 (r 6 0)
  exact ⟨h.1, h.2.1, rfl⟩
set_option maxRecDepth 100000 in
set_option maxHeartbeats 4000000 in
theorem mX7_test_l (s : Nat → Int32) (la : Nat → Int32) (r : rT) (v : vT) (c : Nat → Nat → Int32) (l : Nat → Int32) (tn : Int32) (p : Nat → Int32) (pa : Nat → Nat → Int32) (m : Nat) (q : rT) (b : Int32) (V N : Nat) (hN : N ≤ 4) (wh : Int32) (hr : rOK r) : ∀ (k9 i : Nat), i + k9 = N → ∀ (h : Nat → Nat → Int64), J KX7_test 21 (fun o B => o = some (.long (lowT ((sm (not0 (tsh r V N)) 8 : Nat) : Int) (1000 ^ (N + 1)) wh)) ∧ ∃ m9 q9 b9 x9 h9, B = (wM s la r v c l tn p pa m9 q9 b9 x9 h9)) 67 [some (.ref 0), some (.int (nI V)), some (.int (nI N)), some (.int wh), some (.int (nI (i + 1))), none] [] (wM s la r v c l tn p pa (r 6 0) (rset (rset (mlay q r (r 6 0)) 6 1 V) 6 1 (r 6 4)) b (mts r V i) h) 0 0 := by
  intro k9
  induction k9 with
  | zero =>
    intro i hi
    obtain hiN : i = N := by omega
    intro h
    rw [hiN]
    clear hiN hi i
    refine J.iload dX7_test_67 rfl ?_
    refine J.iload_n dX7_test_69 rfl rfl ?_
    refine J.icmp_gt (tgt := 85) dX7_test_70 (by decide) (fun c70 => ?_) (fun c70 => absurd c70 (fun h => h ((nI_lti (by omega) (by omega)).mpr (by omega))))
    refine J.aload_n dX7_test_85 rfl rfl ?_
    refine J.mg25 dX7_test_86 rfl ?_
    refine J.iload_n dX7_test_89 rfl rfl ?_
    refine J.iconst (1) dX7_test_90 (by decide) ?_
    refine J.iadd dX7_test_91 ?_
    refine J.imul dX7_test_92 ?_
    rw [nI_1, ix0 (r 6 0) (N + 1)]
    refine J.cs (as := [.int _]) (is := []) okX7_tens jcX7_232 (mX7_tens ((r 6 0) * (N + 1)) (by have := Nat.mul_le_mul hr.1 (show N + 1 ≤ 5 by omega); omega)) dX7_test_93 rfl rfl rfl rfl rfl rfl (fun r9 B9 hq => ?_)
    obtain ⟨rfl, rfl⟩ := hq
    refine ⟨rfl, ?_⟩
    show J _ _ _ _ _ (.long _ :: _) (wM s la r v c l tn p pa (r 6 0) (rset (rset (mlay q r (r 6 0)) 6 1 V) 6 1 (r 6 4)) b (mts r V N) h) _ _
    refine J.lstore dX7_test_96 (by decide) rfl ?_
    try dsimp only [List.set]
    refine J.lload dX7_test_98 rfl ?_
    refine J.aload_n dX7_test_100 rfl rfl ?_
    refine J.mg28 dX7_test_101 rfl ?_
    refine J.iconst (0) dX7_test_104 (by decide) ?_
    refine J.ml10 (0) dX7_test_105 rfl (by decide) ?_
    refine J.lsub dX7_test_106 ?_
    refine J.lload dX7_test_107 rfl ?_
    refine J.iload_n dX7_test_109 rfl rfl ?_
    rw [lN_sub (mts_0 hr V N)]
    refine J.cs (as := [.long _, .long _, .int _]) (is := []) okX7_lowest jcX7_244 (mX7_lowestN (10 ^ ((r 6 0) * (N + 1)) - mts r V N 0) (10 ^ ((r 6 0) * (N + 1))) wh (by have := ten_10 hr.1 (show N + 1 ≤ 5 by omega); omega) (by have := ten_10 hr.1 (show N + 1 ≤ 5 by omega); omega) (by have := ten_10 hr.1 (show N + 1 ≤ 5 by omega); omega)) dX7_test_110 rfl rfl rfl rfl rfl rfl (fun r9 B9 hq => ?_)
    obtain ⟨rfl, rfl⟩ := hq
    refine ⟨rfl, ?_⟩
    show J _ _ _ _ _ (.long _ :: _) (wM s la r v c l tn p pa (r 6 0) (rset (rset (mlay q r (r 6 0)) 6 1 V) 6 1 (r 6 4)) b (mts r V N) h) _ _
    exact J.lret dX7_test_113 rfl (Nat.le_refl _) (Nat.le_refl _) ⟨congrArg (fun z => some (Value.long z)) (testE hr V N wh), _, _, _, _, _, rfl⟩
  | succ k9 ih =>
    intro i hi
    have hiN : i < N := by omega
    intro h
    refine J.iload dX7_test_67 rfl ?_
    refine J.iload_n dX7_test_69 rfl rfl ?_
    refine J.icmp_gt (tgt := 85) dX7_test_70 (by decide) (fun c70 => absurd c70 (fun h => absurd ((nI_lti (by omega) (by omega)).mp h) (by omega))) (fun c70 => ?_)
    refine J.aload_n dX7_test_73 rfl rfl ?_
    refine J.iload dX7_test_74 rfl ?_
    refine J.cvM (as := [.int _]) s la r v c l tn p pa (r 6 0) (rset (rset (mlay q r (r 6 0)) 6 1 V) 6 1 (r 6 4)) b (mts r V i) h okX7_hourOn jcX7_226 (mX7_hourOn s la r v c l tn p pa (r 6 0) (rset (rset (mlay q r (r 6 0)) 6 1 V) 6 1 (r 6 4)) b (mts r V i) h (oqR r) (qE_L q r V) (mlay_ok hr) (i + 1) (by omega)) dX7_test_76 rfl rfl rfl rfl (fun r9 B9 hq9 => ?_)
    obtain ⟨rfl, h9, rfl⟩ := hq9
    refine ⟨_, _, _, _, _, _, _, _, _, _, _, _, _, _, rfl, ?_⟩
    show J _ _ _ _ _ [] (wM s la r v c l tn p pa (r 6 0) (rset (rset (mlay q r (r 6 0)) 6 1 V) 6 1 (r 6 4)) b (mts r V (i + 1)) h9) _ _
    refine J.iinc (1) dX7_test_79 (by decide) rfl (by decide) rfl ?_
    try dsimp only [List.set]
    refine J.goto (tgt := 67) dX7_test_82 (by decide) ?_
    exact J.at (ih (i + 1) (by omega) h9) (by rw [← nI_1 (i + 1)] <;> rfl) rfl rfl
set_option maxRecDepth 100000 in
set_option maxHeartbeats 4000000 in
theorem mX7_test (s : Nat → Int32) (la : Nat → Int32) (r : rT) (v : vT) (c : Nat → Nat → Int32) (l : Nat → Int32) (tn : Int32) (p : Nat → Int32) (pa : Nat → Nat → Int32) (m : Nat) (q : rT) (b : Int32) (x : Nat → Nat) (h : Nat → Nat → Int64) (V N : Nat) (hV : 1 ≤ V) (hV9 : V ≤ 9) (hN : N ≤ 4) (wh : Int32) (hw : 0 ≤ wh ∧ wh ≤ 1) (hS : mS s r) (hr : rOK r) : J KX7_test 21 (fun o B => o = some (.long (lowT ((sm (not0 (tsh r V N)) 8 : Nat) : Int) (1000 ^ (N + 1)) wh)) ∧ ∃ m9 q9 b9 x9 h9, B = (wM s la r v c l tn p pa m9 q9 b9 x9 h9)) 0 [some (.ref 0), some (.int (nI V)), some (.int (nI N)), some (.int wh), none, none] [] (wM s la r v c l tn p pa m q b x h) 0 0 := by
  refine J.iload_n dX7_test_0 rfl rfl ?_
  refine J.i2l dX7_test_1 ?_
  refine J.lconst 1 dX7_test_2 (by decide) ?_
  refine J.ldc2 (v := 9) dX7_test_3 (jt 1012 rfl rfl) ?_
  refine J.cs (as := [.long _, .long _, .long _]) (is := []) okX7_in jcX7_74 (mX7_inI (nI V) 1 9 (by decide) (by decide)) dX7_test_6 rfl rfl rfl rfl rfl rfl (fun r9 B9 hq => ?_)
  obtain ⟨rfl, rfl⟩ := hq
  refine ⟨rfl, ?_⟩
  show J _ _ _ _ _ (.int _ :: _) (wM s la r v c l tn p pa m q b x h) _ _
  refine J.if_eq (tgt := 34) dX7_test_9 (by decide) (fun c9 => absurd c9 (fun h => (jB_0 _).mp h (jw (a := 1) (c := 9) (by decide) hV hV9))) (fun c9 => ?_)
  refine J.iload_n dX7_test_12 rfl rfl ?_
  refine J.i2l dX7_test_13 ?_
  refine J.lconst 0 dX7_test_14 (by decide) ?_
  refine J.ldc2 (v := 4) dX7_test_15 (jt 947 rfl rfl) ?_
  refine J.cs (as := [.long _, .long _, .long _]) (is := []) okX7_in jcX7_74 (mX7_inI (nI N) 0 4 (by decide) (by decide)) dX7_test_18 rfl rfl rfl rfl rfl rfl (fun r9 B9 hq => ?_)
  obtain ⟨rfl, rfl⟩ := hq
  refine ⟨rfl, ?_⟩
  show J _ _ _ _ _ (.int _ :: _) (wM s la r v c l tn p pa m q b x h) _ _
  refine J.if_eq (tgt := 34) dX7_test_21 (by decide) (fun c21 => absurd c21 (fun h => (jB_0 _).mp h (jw (a := 0) (c := 4) (by decide) (Nat.zero_le _) hN))) (fun c21 => ?_)
  refine J.iload_n dX7_test_24 rfl rfl ?_
  refine J.i2l dX7_test_25 ?_
  refine J.lconst 0 dX7_test_26 (by decide) ?_
  refine J.lconst 1 dX7_test_27 (by decide) ?_
  refine J.cs (as := [.long _, .long _, .long _]) (is := []) okX7_in jcX7_74 (mX7_inI wh 0 1 (by decide) (by decide)) dX7_test_28 rfl rfl rfl rfl rfl rfl (fun r9 B9 hq => ?_)
  obtain ⟨rfl, rfl⟩ := hq
  refine ⟨rfl, ?_⟩
  show J _ _ _ _ _ (.int _ :: _) (wM s la r v c l tn p pa m q b x h) _ _
  refine J.if_ne (tgt := 38) dX7_test_31 (by decide) (fun c31 => ?_) (fun c31 => absurd c31 (fun h => (jB_0 _).mp h hw))
  refine J.aload_n dX7_test_38 rfl rfl ?_
  refine J.cvM (as := []) s la r v c l tn p pa m q b x h okX7_lays jcX7_196 (mX7_lays s la r v c l tn p pa m q b x h hS hr) dX7_test_39 rfl rfl rfl rfl (fun r9 B9 hq9 => ?_)
  obtain ⟨rfl, rfl⟩ := hq9
  refine ⟨_, _, _, _, _, _, _, _, _, _, _, _, _, _, rfl, ?_⟩
  show J _ _ _ _ _ [] (wM s la r v c l tn p pa (r 6 0) (mlay q r (r 6 0)) b x h) _ _
  refine J.aload_n dX7_test_42 rfl rfl ?_
  refine J.cvM (as := []) s la r v c l tn p pa (r 6 0) (mlay q r (r 6 0)) b x h okX7_begins jcX7_223 (mX7_begins s la r v c l tn p pa (r 6 0) (mlay q r (r 6 0)) b x h (by rw [(mlay_E q r 0 (r 6 0)).2.1]; exact hr.w)) dX7_test_43 rfl rfl rfl rfl (fun r9 B9 hq9 => ?_)
  obtain ⟨rfl, rfl⟩ := hq9
  refine ⟨_, _, _, _, _, _, _, _, _, _, _, _, _, _, rfl, ?_⟩
  show J _ _ _ _ _ [] (wM s la r v c l tn p pa (r 6 0) (mlay q r (r 6 0)) b (one ((mlay q r (r 6 0)) 6 0)) h) _ _
  rw [(mlay_E q r 0 (r 6 0)).2.1]
  refine J.aload_n dX7_test_46 rfl rfl ?_
  refine J.iload_n dX7_test_47 rfl rfl ?_
  refine J.mp27 dX7_test_48 rfl ?_
  try dsimp only [List.set]
  refine J.aload_n dX7_test_51 rfl rfl ?_
  refine J.iconst (0) dX7_test_52 (by decide) ?_
  refine J.cvM (as := [.int _]) s la r v c l tn p pa (r 6 0) (rset (mlay q r (r 6 0)) 6 1 V) b (one (r 6 3)) h okX7_hourOn jcX7_226 (mX7_hourOn s la r v c l tn p pa (r 6 0) (rset (mlay q r (r 6 0)) 6 1 V) b (one (r 6 3)) h (oq (r 0) (r 1) V (r 6 3)) (qE_V q r V) (mOK_V hr hV9) 0 (by decide)) dX7_test_53 rfl rfl rfl rfl (fun r9 B9 hq9 => ?_)
  obtain ⟨rfl, h9, rfl⟩ := hq9
  refine ⟨_, _, _, _, _, _, _, _, _, _, _, _, _, _, rfl, ?_⟩
  show J _ _ _ _ _ [] (wM s la r v c l tn p pa (r 6 0) (rset (mlay q r (r 6 0)) 6 1 V) b (mts r V 0) h9) _ _
  refine J.aload_n dX7_test_56 rfl rfl ?_
  refine J.aload_n dX7_test_57 rfl rfl ?_
  refine J.cvM (as := []) s la r v c l tn p pa (r 6 0) (rset (mlay q r (r 6 0)) 6 1 V) b (mts r V 0) h9 okX7_load jcX7_171 (mX7_load s la r v c l tn p pa (r 6 0) (rset (mlay q r (r 6 0)) 6 1 V) b (mts r V 0) h9 hS) dX7_test_58 rfl rfl rfl rfl (fun r9 B9 hq9 => ?_)
  obtain ⟨rfl, rfl⟩ := hq9
  refine ⟨_, _, _, _, _, _, _, _, _, _, _, _, _, _, rfl, ?_⟩
  show J _ _ _ _ _ (.int _ :: .ref 0 :: _) (wM s la r v c l tn p pa (r 6 0) (rset (mlay q r (r 6 0)) 6 1 V) b (mts r V 0) h9) _ _
  refine J.mp27 dX7_test_61 rfl ?_
  try dsimp only [List.set]
  refine J.iconst (1) dX7_test_64 (by decide) ?_
  refine J.istore dX7_test_65 (by decide) rfl ?_
  try dsimp only [List.set]
  exact J.at (mX7_test_l s la r v c l tn p pa m q b V N hN wh hr N 0 (by omega) h9) rfl rfl rfl
set_option maxRecDepth 100000 in
set_option maxHeartbeats 4000000 in
theorem mX7_test_bad (s : Nat → Int32) (la : Nat → Int32) (r : rT) (v : vT) (c : Nat → Nat → Int32) (l : Nat → Int32) (tn : Int32) (p : Nat → Int32) (pa : Nat → Nat → Int32) (m : Nat) (q : rT) (b : Int32) (x : Nat → Nat) (h : Nat → Nat → Int64) (v0 n wh : Int32) (hb : ¬ (1 ≤ v0 ∧ v0 ≤ 9) ∨ ¬ (0 ≤ n ∧ n ≤ 4) ∨ ¬ (0 ≤ wh ∧ wh ≤ 1)) : J KX7_test 21 (fun o B => o = some (.long (-1)) ∧ B = (wM s la r v c l tn p pa m q b x h)) 0 [some (.ref 0), some (.int v0), some (.int n), some (.int wh), none, none] [] (wM s la r v c l tn p pa m q b x h) 0 0 := by
  refine J.iload_n dX7_test_0 rfl rfl ?_
  refine J.i2l dX7_test_1 ?_
  refine J.lconst 1 dX7_test_2 (by decide) ?_
  refine J.ldc2 (v := 9) dX7_test_3 (jt 1012 rfl rfl) ?_
  refine J.cs (as := [.long _, .long _, .long _]) (is := []) okX7_in jcX7_74 (mX7_inI v0 1 9 (by decide) (by decide)) dX7_test_6 rfl rfl rfl rfl rfl rfl (fun r9 B9 hq => ?_)
  obtain ⟨rfl, rfl⟩ := hq
  refine ⟨rfl, ?_⟩
  show J _ _ _ _ _ (.int _ :: _) (wM s la r v c l tn p pa m q b x h) _ _
  refine J.if_eq (tgt := 34) dX7_test_9 (by decide) (fun c9 => ?_) (fun c9 => ?_)
  · refine J.ldc2 (v := -1) dX7_test_34 (jt 1049 rfl rfl) ?_
    exact J.lret dX7_test_37 rfl (Nat.le_refl _) (Nat.le_refl _) ⟨rfl, rfl⟩
  · refine J.iload_n dX7_test_12 rfl rfl ?_
    refine J.i2l dX7_test_13 ?_
    refine J.lconst 0 dX7_test_14 (by decide) ?_
    refine J.ldc2 (v := 4) dX7_test_15 (jt 947 rfl rfl) ?_
    refine J.cs (as := [.long _, .long _, .long _]) (is := []) okX7_in jcX7_74 (mX7_inI n 0 4 (by decide) (by decide)) dX7_test_18 rfl rfl rfl rfl rfl rfl (fun r9 B9 hq => ?_)
    obtain ⟨rfl, rfl⟩ := hq
    refine ⟨rfl, ?_⟩
    show J _ _ _ _ _ (.int _ :: _) (wM s la r v c l tn p pa m q b x h) _ _
    refine J.if_eq (tgt := 34) dX7_test_21 (by decide) (fun c21 => ?_) (fun c21 => ?_)
    · refine J.ldc2 (v := -1) dX7_test_34 (jt 1049 rfl rfl) ?_
      exact J.lret dX7_test_37 rfl (Nat.le_refl _) (Nat.le_refl _) ⟨rfl, rfl⟩
    · refine J.iload_n dX7_test_24 rfl rfl ?_
      refine J.i2l dX7_test_25 ?_
      refine J.lconst 0 dX7_test_26 (by decide) ?_
      refine J.lconst 1 dX7_test_27 (by decide) ?_
      refine J.cs (as := [.long _, .long _, .long _]) (is := []) okX7_in jcX7_74 (mX7_inI wh 0 1 (by decide) (by decide)) dX7_test_28 rfl rfl rfl rfl rfl rfl (fun r9 B9 hq => ?_)
      obtain ⟨rfl, rfl⟩ := hq
      refine ⟨rfl, ?_⟩
      show J _ _ _ _ _ (.int _ :: _) (wM s la r v c l tn p pa m q b x h) _ _
      refine J.if_ne (tgt := 38) dX7_test_31 (by decide) (fun c31 => absurd c31 (fun h => h ((jB_0 _).mpr (fun hC => (fun h => h.elim (fun h => h (Decidable.not_not.mp (fun h9 => c9 ((jB_0 _).mpr h9)))) (fun h => h.elim (fun h => h (Decidable.not_not.mp (fun h9 => c21 ((jB_0 _).mpr h9)))) (fun h => h hC))) hb)))) (fun c31 => ?_)
      refine J.ldc2 (v := -1) dX7_test_34 (jt 1049 rfl rfl) ?_
      exact J.lret dX7_test_37 rfl (Nat.le_refl _) (Nat.le_refl _) ⟨rfl, rfl⟩
set_option maxRecDepth 100000 in
set_option maxHeartbeats 4000000 in
theorem mX7_holdsBy (s : Nat → Int32) (la : Nat → Int32) (r : rT) (v : vT) (c : Nat → Nat → Int32) (l : Nat → Int32) (tn : Int32) (p : Nat → Int32) (pa : Nat → Nat → Int32) (m : Nat) (q : rT) (b : Int32) (x : Nat → Nat) (h : Nat → Nat → Int64) (qc : rT) (hE : qE q qc m) (hM : mOK qc m) (N k : Nat) (hN : N ≤ 5) (hk : k ≤ 10) : J KX7_holdsBy 21 (fun o B => o = some (.int (jB (k * 10 ^ (m * N) ≤ (10 ^ (m * N) - mho qc m N 0) * 10))) ∧ ∃ h9, B = (wM s la r v c l tn p pa m q b (mho qc m N) h9)) 0 [some (.ref 0), some (.int (nI N)), some (.int (nI k))] [] (wM s la r v c l tn p pa m q b x h) 0 0 := by
  refine J.aload_n dX7_holdsBy_0 rfl rfl ?_
  refine J.iload_n dX7_holdsBy_1 rfl rfl ?_
  refine J.cvM (as := [.int _]) s la r v c l tn p pa m q b x h okX7_holds jcX7_241 (mX7_holds s la r v c l tn p pa m q b x h qc hE hM N hN) dX7_holdsBy_2 rfl rfl rfl rfl (fun r9 B9 hq9 => ?_)
  obtain ⟨rfl, h9, rfl⟩ := hq9
  refine ⟨_, _, _, _, _, _, _, _, _, _, _, _, _, _, rfl, ?_⟩
  show J _ _ _ _ _ (.long _ :: _) (wM s la r v c l tn p pa m q b (mho qc m N) h9) _ _
  refine J.ldc2 (v := 10) dX7_holdsBy_5 (jt 1053 rfl rfl) ?_
  refine J.lmul dX7_holdsBy_8 ?_
  refine J.iload_n dX7_holdsBy_9 rfl rfl ?_
  refine J.i2l dX7_holdsBy_10 ?_
  refine J.aload_n dX7_holdsBy_11 rfl rfl ?_
  refine J.mg25 dX7_holdsBy_12 rfl ?_
  refine J.iload_n dX7_holdsBy_15 rfl rfl ?_
  refine J.imul dX7_holdsBy_16 ?_
  rw [ix0 m N]
  refine J.cs (as := [.int _]) (is := []) okX7_tens jcX7_232 (mX7_tens (m * N) (by have := Nat.mul_le_mul hM.2.2 hN; omega)) dX7_holdsBy_17 rfl rfl rfl rfl rfl rfl (fun r9 B9 hq => ?_)
  obtain ⟨rfl, rfl⟩ := hq
  refine ⟨rfl, ?_⟩
  show J _ _ _ _ _ (.long _ :: _) (wM s la r v c l tn p pa m q b (mho qc m N) h9) _ _
  refine J.lmul dX7_holdsBy_20 ?_
  rw [nI_l (by omega), lN_mul, show (10 : Int64) = lN 10 from rfl, lN_mul]
  refine J.lcmp dX7_holdsBy_21 ?_
  refine J.if_lt (tgt := 29) dX7_holdsBy_22 (by decide) (fun c22 => ?_) (fun c22 => ?_)
  · refine J.iconst (0) dX7_holdsBy_29 (by decide) ?_
    first | exact J.iret dX7_holdsBy_30 rfl (by decide) (Nat.le_refl _) (Nat.le_refl _) ⟨congrArg (fun z => some (Value.int z)) ((jB_t _ ((lN_le63 (by have := ten_10 hM.2.2 hN; have := Nat.mul_le_mul hk (ten_10 hM.2.2 hN).2; omega) (by have := ten_10 hM.2.2 hN; omega)).mp (Int64.not_lt.mp (fun h9 => c22 ((lg_cmp_lt _ _).mpr h9))))).symm), h9, rfl⟩ | exact J.iret dX7_holdsBy_30 rfl (by decide) (Nat.le_refl _) (Nat.le_refl _) ⟨congrArg (fun z => some (Value.int z)) ((jB_f _ (fun h8 => Int64.not_lt.mpr ((lN_le63 (by have := ten_10 hM.2.2 hN; have := Nat.mul_le_mul hk (ten_10 hM.2.2 hN).2; omega) (by have := ten_10 hM.2.2 hN; omega)).mpr h8) ((lg_cmp_lt _ _).mp c22))).symm), h9, rfl⟩
  · refine J.iconst (1) dX7_holdsBy_25 (by decide) ?_
    refine J.goto (tgt := 30) dX7_holdsBy_26 (by decide) ?_
    first | exact J.iret dX7_holdsBy_30 rfl (by decide) (Nat.le_refl _) (Nat.le_refl _) ⟨congrArg (fun z => some (Value.int z)) ((jB_t _ ((lN_le63 (by have := ten_10 hM.2.2 hN; have := Nat.mul_le_mul hk (ten_10 hM.2.2 hN).2; omega) (by have := ten_10 hM.2.2 hN; omega)).mp (Int64.not_lt.mp (fun h9 => c22 ((lg_cmp_lt _ _).mpr h9))))).symm), h9, rfl⟩ | exact J.iret dX7_holdsBy_30 rfl (by decide) (Nat.le_refl _) (Nat.le_refl _) ⟨congrArg (fun z => some (Value.int z)) ((jB_f _ (fun h8 => Int64.not_lt.mpr ((lN_le63 (by have := ten_10 hM.2.2 hN; have := Nat.mul_le_mul hk (ten_10 hM.2.2 hN).2; omega) (by have := ten_10 hM.2.2 hN; omega)).mpr h8) ((lg_cmp_lt _ _).mp c22))).symm), h9, rfl⟩
theorem hold_iff {qc : rT} {m : Nat} (hM : mOK qc m) (N k : Nat) : k * 10 ^ (m * N) ≤ (10 ^ (m * N) - mho qc m N 0) * 10 ↔ k * 1000 ^ N ≤ sm (not0 (sh qc (one (qc 6 0)) N)) 8 * 10 := by
  rw [(mho_sc hM N).held hM.2.2, mho_h hM, ← p10_c hM.2.2 N, Nat.mul_assoc, Nat.mul_left_comm k]
  exact ⟨Nat.mul_le_mul_left _, fun h => Nat.le_of_mul_le_mul_left h (c_pos m N)⟩
theorem plP_iff {r : rT} (h : rOK r) {kd m : Nat} (hd : kd ≤ 4) (hm : m ≤ 3) (N k : Nat) : plP r kd N k m = true ↔ k * 10 ^ (m * N) ≤ (10 ^ (m * N) - mho (nqq kd m (r 6 4)) m N 0) * 10 := by
  rw [hold_iff (mnew_ok hd hm h.2.2.2.2.2.1)]
  unfold plP
  rw [decide_eq_true_iff]
  exact Iff.rfl
theorem brP_iff {r : rT} (h : rOK r) {V : Nat} (hV : V ≤ 9) (N k : Nat) : brP r N k V = true ↔ k * 10 ^ (r 6 0 * N) ≤ (10 ^ (r 6 0 * N) - mho (oq (r 0) (r 1) V (r 6 3)) (r 6 0) N 0) * 10 := by
  rw [hold_iff (mOK_V h hV)]
  unfold brP
  rw [decide_eq_true_iff]
  exact Iff.rfl
set_option maxRecDepth 100000 in
set_option maxHeartbeats 4000000 in
theorem mX7_plait_l (s : Nat → Int32) (la : Nat → Int32) (r : rT) (v : vT) (c : Nat → Nat → Int32) (l : Nat → Int32) (tn : Int32) (p : Nat → Int32) (pa : Nat → Nat → Int32) (b : Int32) (kd N k : Nat) (hd : kd ≤ 4) (hN : N ≤ 5) (hk : 1 ≤ k) (hk9 : k ≤ 10) (hS : mS s r) (hr : rOK r) (R9 : Int32) : ∀ (k9 i : Nat), i + k9 = 3 → ∀ (m : Nat) (q : rT) (x : Nat → Nat) (h : Nat → Nat → Int64), fst1 (plP r kd N k) k9 (i + 1) = R9 → J KX7_plait 21 (fun o B => o = some (.int R9) ∧ ∃ m9 q9 b9 x9 h9, B = (wM s la r v c l tn p pa m9 q9 b9 x9 h9)) 36 [some (.ref 0), some (.int (nI kd)), some (.int (nI N)), some (.int (nI k)), some (.int (nI (i + 1)))] [] (wM s la r v c l tn p pa m q b x h) 0 0 := by
  intro k9
  induction k9 with
  | zero =>
    intro i hi
    obtain hiN : i = 3 := by omega
    intro m q x h hh
    subst hiN
    refine J.iload dX7_plait_36 rfl ?_
    refine J.iconst (3) dX7_plait_38 (by decide) ?_
    refine J.icmp_gt (tgt := 67) dX7_plait_39 (by decide) (fun c39 => ?_) (fun c39 => absurd c39 (fun h => h (by decide)))
    refine J.bipush (-4) dX7_plait_67 (by decide) ?_
    exact J.iret dX7_plait_69 rfl rfl (Nat.le_refl _) (Nat.le_refl _) ⟨congrArg (fun z => some (Value.int z)) hh, _, _, _, _, _, rfl⟩
  | succ k9 ih =>
    intro i hi
    have hiN : i < 3 := by omega
    intro m q x h hh
    refine J.iload dX7_plait_36 rfl ?_
    refine J.iconst (3) dX7_plait_38 (by decide) ?_
    refine J.icmp_gt (tgt := 67) dX7_plait_39 (by decide) (fun c39 => absurd c39 (fun h => absurd ((nI_lti (a := 3) (by decide) (by omega)).mp h) (by omega))) (fun c39 => ?_)
    refine J.aload_n dX7_plait_42 rfl rfl ?_
    refine J.iload_n dX7_plait_43 rfl rfl ?_
    refine J.iload dX7_plait_44 rfl ?_
    refine J.cvM (as := [.int _, .int _]) s la r v c l tn p pa m q b x h okX7_laysNew jcX7_256 (mX7_laysNew s la r v c l tn p pa m q b x h kd (i + 1) (by omega) hS) dX7_plait_46 rfl rfl rfl rfl (fun r9 B9 hq9 => ?_)
    obtain ⟨rfl, rfl⟩ := hq9
    refine ⟨_, _, _, _, _, _, _, _, _, _, _, _, _, _, rfl, ?_⟩
    show J _ _ _ _ _ [] (wM s la r v c l tn p pa (i + 1) (mnew q kd (i + 1) (r 6 4) (i + 1)) b x h) _ _
    refine J.aload_n dX7_plait_49 rfl rfl ?_
    refine J.iload_n dX7_plait_50 rfl rfl ?_
    refine J.iload_n dX7_plait_51 rfl rfl ?_
    refine J.cvM (as := [.int _, .int _]) s la r v c l tn p pa (i + 1) (mnew q kd (i + 1) (r 6 4) (i + 1)) b x h okX7_holdsBy jcX7_260 (mX7_holdsBy s la r v c l tn p pa (i + 1) (mnew q kd (i + 1) (r 6 4) (i + 1)) b x h (nqq kd (i + 1) (r 6 4)) (mnew_q q kd (i + 1) (r 6 4)) (mnew_ok hd (by omega) hr.2.2.2.2.2.1) N k hN hk9) dX7_plait_52 rfl rfl rfl rfl (fun r9 B9 hq9 => ?_)
    obtain ⟨rfl, h9, rfl⟩ := hq9
    refine ⟨_, _, _, _, _, _, _, _, _, _, _, _, _, _, rfl, ?_⟩
    show J _ _ _ _ _ (.int _ :: _) (wM s la r v c l tn p pa (i + 1) (mnew q kd (i + 1) (r 6 4) (i + 1)) b (mho (nqq kd (i + 1) (r 6 4)) (i + 1) N) h9) _ _
    refine J.if_eq (tgt := 61) dX7_plait_55 (by decide) (fun c55 => ?_) (fun c55 => ?_)
    · refine J.iinc (1) dX7_plait_61 (by decide) rfl (by decide) rfl ?_
      try dsimp only [List.set]
      refine J.goto (tgt := 36) dX7_plait_64 (by decide) ?_
      exact J.at (ih (i + 1) (by omega) _ _ _ _ (by rw [← hh, fst1, if_neg (fun h9 => (jB_0 _).mp c55 ((plP_iff hr hd (by omega) N k).mp h9))])) (by rw [← nI_1 (i + 1)] <;> rfl) rfl rfl
    · refine J.iload dX7_plait_58 rfl ?_
      exact J.iret dX7_plait_60 rfl rfl (Nat.le_refl _) (Nat.le_refl _) ⟨congrArg (fun z => some (Value.int z)) (by rw [← hh, fst1, if_pos ((plP_iff hr hd (by omega) N k).mpr (Decidable.not_not.mp (fun h9 => c55 ((jB_0 _).mpr h9))))]), _, _, _, _, _, rfl⟩
set_option maxRecDepth 100000 in
set_option maxHeartbeats 4000000 in
theorem mX7_plait (s : Nat → Int32) (la : Nat → Int32) (r : rT) (v : vT) (c : Nat → Nat → Int32) (l : Nat → Int32) (tn : Int32) (p : Nat → Int32) (pa : Nat → Nat → Int32) (m : Nat) (q : rT) (b : Int32) (x : Nat → Nat) (h : Nat → Nat → Int64) (kd N k : Nat) (hd : kd ≤ 4) (hN : N ≤ 5) (hk : 1 ≤ k) (hk9 : k ≤ 10) (hS : mS s r) (hr : rOK r) : J KX7_plait 21 (fun o B => o = some (.int (fst1 (plP r kd N k) 3 1)) ∧ ∃ m9 q9 b9 x9 h9, B = (wM s la r v c l tn p pa m9 q9 b9 x9 h9)) 0 [some (.ref 0), some (.int (nI kd)), some (.int (nI N)), some (.int (nI k)), none] [] (wM s la r v c l tn p pa m q b x h) 0 0 := by
  refine J.iload_n dX7_plait_0 rfl rfl ?_
  refine J.i2l dX7_plait_1 ?_
  refine J.lconst 0 dX7_plait_2 (by decide) ?_
  refine J.ldc2 (v := 4) dX7_plait_3 (jt 947 rfl rfl) ?_
  refine J.cs (as := [.long _, .long _, .long _]) (is := []) okX7_in jcX7_74 (mX7_inI (nI kd) 0 4 (by decide) (by decide)) dX7_plait_6 rfl rfl rfl rfl rfl rfl (fun r9 B9 hq => ?_)
  obtain ⟨rfl, rfl⟩ := hq
  refine ⟨rfl, ?_⟩
  show J _ _ _ _ _ (.int _ :: _) (wM s la r v c l tn p pa m q b x h) _ _
  refine J.if_eq (tgt := 31) dX7_plait_9 (by decide) (fun c9 => absurd c9 (fun h => (jB_0 _).mp h (jw (a := 0) (c := 4) (by decide) (Nat.zero_le _) hd))) (fun c9 => ?_)
  refine J.iload_n dX7_plait_12 rfl rfl ?_
  refine J.cs (as := [.int _]) (is := []) okX7_isLong jcX7_236 (mX7_isLong (nI N)) dX7_plait_13 rfl rfl rfl rfl rfl rfl (fun r9 B9 hq => ?_)
  obtain ⟨rfl, rfl⟩ := hq
  refine ⟨rfl, ?_⟩
  show J _ _ _ _ _ (.int _ :: _) (wM s la r v c l tn p pa m q b x h) _ _
  refine J.if_eq (tgt := 31) dX7_plait_16 (by decide) (fun c16 => absurd c16 (fun h => (jB_0 _).mp h (jw (a := 0) (c := 5) (by decide) (Nat.zero_le _) hN))) (fun c16 => ?_)
  refine J.iload_n dX7_plait_19 rfl rfl ?_
  refine J.i2l dX7_plait_20 ?_
  refine J.lconst 1 dX7_plait_21 (by decide) ?_
  refine J.ldc2 (v := 10) dX7_plait_22 (jt 1053 rfl rfl) ?_
  refine J.cs (as := [.long _, .long _, .long _]) (is := []) okX7_in jcX7_74 (mX7_inI (nI k) 1 10 (by decide) (by decide)) dX7_plait_25 rfl rfl rfl rfl rfl rfl (fun r9 B9 hq => ?_)
  obtain ⟨rfl, rfl⟩ := hq
  refine ⟨rfl, ?_⟩
  show J _ _ _ _ _ (.int _ :: _) (wM s la r v c l tn p pa m q b x h) _ _
  refine J.if_ne (tgt := 33) dX7_plait_28 (by decide) (fun c28 => ?_) (fun c28 => absurd c28 (fun h => (jB_0 _).mp h (jw (a := 1) (c := 10) (by decide) hk hk9)))
  refine J.iconst (1) dX7_plait_33 (by decide) ?_
  refine J.istore dX7_plait_34 (by decide) rfl ?_
  try dsimp only [List.set]
  exact J.at (mX7_plait_l s la r v c l tn p pa b kd N k hd hN hk hk9 hS hr _ 3 0 (by omega) m q x h rfl) rfl rfl rfl
set_option maxRecDepth 100000 in
set_option maxHeartbeats 4000000 in
theorem mX7_plait_bad (s : Nat → Int32) (la : Nat → Int32) (r : rT) (v : vT) (c : Nat → Nat → Int32) (l : Nat → Int32) (tn : Int32) (p : Nat → Int32) (pa : Nat → Nat → Int32) (m : Nat) (q : rT) (b : Int32) (x : Nat → Nat) (h : Nat → Nat → Int64) (kd n k : Int32) (hb : ¬ (0 ≤ kd ∧ kd ≤ 4) ∨ ¬ (0 ≤ n ∧ n ≤ 5) ∨ ¬ (1 ≤ k ∧ k ≤ 10)) : J KX7_plait 21 (fun o B => o = some (.int (-1)) ∧ B = (wM s la r v c l tn p pa m q b x h)) 0 [some (.ref 0), some (.int kd), some (.int n), some (.int k), none] [] (wM s la r v c l tn p pa m q b x h) 0 0 := by
  refine J.iload_n dX7_plait_0 rfl rfl ?_
  refine J.i2l dX7_plait_1 ?_
  refine J.lconst 0 dX7_plait_2 (by decide) ?_
  refine J.ldc2 (v := 4) dX7_plait_3 (jt 947 rfl rfl) ?_
  refine J.cs (as := [.long _, .long _, .long _]) (is := []) okX7_in jcX7_74 (mX7_inI kd 0 4 (by decide) (by decide)) dX7_plait_6 rfl rfl rfl rfl rfl rfl (fun r9 B9 hq => ?_)
  obtain ⟨rfl, rfl⟩ := hq
  refine ⟨rfl, ?_⟩
  show J _ _ _ _ _ (.int _ :: _) (wM s la r v c l tn p pa m q b x h) _ _
  refine J.if_eq (tgt := 31) dX7_plait_9 (by decide) (fun c9 => ?_) (fun c9 => ?_)
  · refine J.iconst (-1) dX7_plait_31 (by decide) ?_
    exact J.iret dX7_plait_32 rfl rfl (Nat.le_refl _) (Nat.le_refl _) ⟨rfl, rfl⟩
  · refine J.iload_n dX7_plait_12 rfl rfl ?_
    refine J.cs (as := [.int _]) (is := []) okX7_isLong jcX7_236 (mX7_isLong n) dX7_plait_13 rfl rfl rfl rfl rfl rfl (fun r9 B9 hq => ?_)
    obtain ⟨rfl, rfl⟩ := hq
    refine ⟨rfl, ?_⟩
    show J _ _ _ _ _ (.int _ :: _) (wM s la r v c l tn p pa m q b x h) _ _
    refine J.if_eq (tgt := 31) dX7_plait_16 (by decide) (fun c16 => ?_) (fun c16 => ?_)
    · refine J.iconst (-1) dX7_plait_31 (by decide) ?_
      exact J.iret dX7_plait_32 rfl rfl (Nat.le_refl _) (Nat.le_refl _) ⟨rfl, rfl⟩
    · refine J.iload_n dX7_plait_19 rfl rfl ?_
      refine J.i2l dX7_plait_20 ?_
      refine J.lconst 1 dX7_plait_21 (by decide) ?_
      refine J.ldc2 (v := 10) dX7_plait_22 (jt 1053 rfl rfl) ?_
      refine J.cs (as := [.long _, .long _, .long _]) (is := []) okX7_in jcX7_74 (mX7_inI k 1 10 (by decide) (by decide)) dX7_plait_25 rfl rfl rfl rfl rfl rfl (fun r9 B9 hq => ?_)
      obtain ⟨rfl, rfl⟩ := hq
      refine ⟨rfl, ?_⟩
      show J _ _ _ _ _ (.int _ :: _) (wM s la r v c l tn p pa m q b x h) _ _
      refine J.if_ne (tgt := 33) dX7_plait_28 (by decide) (fun c28 => absurd c28 (fun h => h ((jB_0 _).mpr (fun hC => (fun h => h.elim (fun h => h (Decidable.not_not.mp (fun h9 => c9 ((jB_0 _).mpr h9)))) (fun h => h.elim (fun h => h (Decidable.not_not.mp (fun h9 => c16 ((jB_0 _).mpr h9)))) (fun h => h hC))) hb)))) (fun c28 => ?_)
      refine J.iconst (-1) dX7_plait_31 (by decide) ?_
      exact J.iret dX7_plait_32 rfl rfl (Nat.le_refl _) (Nat.le_refl _) ⟨rfl, rfl⟩
set_option maxRecDepth 100000 in
set_option maxHeartbeats 4000000 in
theorem mX7_bears_l (s : Nat → Int32) (la : Nat → Int32) (r : rT) (v : vT) (c : Nat → Nat → Int32) (l : Nat → Int32) (tn : Int32) (p : Nat → Int32) (pa : Nat → Nat → Int32) (b : Int32) (N k : Nat) (hN : N ≤ 5) (hk : 1 ≤ k) (hk9 : k ≤ 10) (hS : mS s r) (hr : rOK r) (R9 : Int32) : ∀ i, i ≤ 9 → ∀ (q : rT) (x : Nat → Nat) (h : Nat → Nat → Int64), ((∀ j, j < r 6 0 → q 0 j = r 0 j ∧ q 1 j = r 1 j) ∧ q 6 0 = r 6 3) → lst1 (brP r N k) i = R9 → J KX7_bears 21 (fun o B => o = some (.int R9) ∧ ∃ m9 q9 b9 x9 h9, B = (wM s la r v c l tn p pa m9 q9 b9 x9 h9)) 28 [some (.ref 0), some (.int (nI N)), some (.int (nI k)), some (.int (nI i))] [] (wM s la r v c l tn p pa (r 6 0) q b x h) 0 0 := by
  intro i
  induction i with
  | zero =>
    intro hi q x h hq hh
    refine J.iload_n dX7_bears_28 rfl rfl ?_
    refine J.if_le (tgt := 54) dX7_bears_29 (by decide) (fun c29 => ?_) (fun c29 => absurd c29 (fun h => h (Int32.le_refl _)))
    refine J.bipush (-4) dX7_bears_54 (by decide) ?_
    exact J.iret dX7_bears_56 rfl rfl (Nat.le_refl _) (Nat.le_refl _) ⟨congrArg (fun z => some (Value.int z)) hh, _, _, _, _, _, rfl⟩
  | succ i ih =>
    intro hi q x h hq hh
    refine J.iload_n dX7_bears_28 rfl rfl ?_
    refine J.if_le (tgt := 54) dX7_bears_29 (by decide) (fun c29 => absurd c29 (nI_nle (by omega) (by omega))) (fun c29 => ?_)
    refine J.aload_n dX7_bears_32 rfl rfl ?_
    refine J.iload_n dX7_bears_33 rfl rfl ?_
    refine J.mp27 dX7_bears_34 rfl ?_
    try dsimp only [List.set]
    refine J.aload_n dX7_bears_37 rfl rfl ?_
    refine J.iload_n dX7_bears_38 rfl rfl ?_
    refine J.iload_n dX7_bears_39 rfl rfl ?_
    refine J.cvM (as := [.int _, .int _]) s la r v c l tn p pa (r 6 0) (rset q 6 1 (i + 1)) b x h okX7_holdsBy jcX7_260 (mX7_holdsBy s la r v c l tn p pa (r 6 0) (rset q 6 1 (i + 1)) b x h (oq (r 0) (r 1) (i + 1) (r 6 3)) ⟨hq.1, hq.2, rfl⟩ (mOK_V hr hi) N k hN hk9) dX7_bears_40 rfl rfl rfl rfl (fun r9 B9 hq9 => ?_)
    obtain ⟨rfl, h9, rfl⟩ := hq9
    refine ⟨_, _, _, _, _, _, _, _, _, _, _, _, _, _, rfl, ?_⟩
    show J _ _ _ _ _ (.int _ :: _) (wM s la r v c l tn p pa (r 6 0) (rset q 6 1 (i + 1)) b (mho (oq (r 0) (r 1) (i + 1) (r 6 3)) (r 6 0) N) h9) _ _
    refine J.if_eq (tgt := 48) dX7_bears_43 (by decide) (fun c43 => ?_) (fun c43 => ?_)
    · refine J.iinc (-1) dX7_bears_48 (by decide) rfl (by decide) rfl ?_
      try dsimp only [List.set]
      refine J.goto (tgt := 28) dX7_bears_51 (by decide) ?_
      exact J.at (ih (by omega) (rset q 6 1 (i + 1)) _ _ hq (by rw [← hh, lst1, if_neg (fun h9 => (jB_0 _).mp c43 ((brP_iff hr hi N k).mp h9))])) (by rw [← nI_m1 i]) rfl rfl
    · refine J.iload_n dX7_bears_46 rfl rfl ?_
      exact J.iret dX7_bears_47 rfl rfl (Nat.le_refl _) (Nat.le_refl _) ⟨congrArg (fun z => some (Value.int z)) (by rw [← hh, lst1, if_pos ((brP_iff hr hi N k).mpr (Decidable.not_not.mp (fun h9 => c43 ((jB_0 _).mpr h9))))]), _, _, _, _, _, rfl⟩
set_option maxRecDepth 100000 in
set_option maxHeartbeats 4000000 in
theorem mX7_bears (s : Nat → Int32) (la : Nat → Int32) (r : rT) (v : vT) (c : Nat → Nat → Int32) (l : Nat → Int32) (tn : Int32) (p : Nat → Int32) (pa : Nat → Nat → Int32) (m : Nat) (q : rT) (b : Int32) (x : Nat → Nat) (h : Nat → Nat → Int64) (N k : Nat) (hN : N ≤ 5) (hk : 1 ≤ k) (hk9 : k ≤ 10) (hS : mS s r) (hr : rOK r) : J KX7_bears 21 (fun o B => o = some (.int (lst1 (brP r N k) 9)) ∧ ∃ m9 q9 b9 x9 h9, B = (wM s la r v c l tn p pa m9 q9 b9 x9 h9)) 0 [some (.ref 0), some (.int (nI N)), some (.int (nI k)), none] [] (wM s la r v c l tn p pa m q b x h) 0 0 := by
  refine J.iload_n dX7_bears_0 rfl rfl ?_
  refine J.cs (as := [.int _]) (is := []) okX7_isLong jcX7_236 (mX7_isLong (nI N)) dX7_bears_1 rfl rfl rfl rfl rfl rfl (fun r9 B9 hq => ?_)
  obtain ⟨rfl, rfl⟩ := hq
  refine ⟨rfl, ?_⟩
  show J _ _ _ _ _ (.int _ :: _) (wM s la r v c l tn p pa m q b x h) _ _
  refine J.if_eq (tgt := 19) dX7_bears_4 (by decide) (fun c4 => absurd c4 (fun h => (jB_0 _).mp h (jw (a := 0) (c := 5) (by decide) (Nat.zero_le _) hN))) (fun c4 => ?_)
  refine J.iload_n dX7_bears_7 rfl rfl ?_
  refine J.i2l dX7_bears_8 ?_
  refine J.lconst 1 dX7_bears_9 (by decide) ?_
  refine J.ldc2 (v := 10) dX7_bears_10 (jt 1053 rfl rfl) ?_
  refine J.cs (as := [.long _, .long _, .long _]) (is := []) okX7_in jcX7_74 (mX7_inI (nI k) 1 10 (by decide) (by decide)) dX7_bears_13 rfl rfl rfl rfl rfl rfl (fun r9 B9 hq => ?_)
  obtain ⟨rfl, rfl⟩ := hq
  refine ⟨rfl, ?_⟩
  show J _ _ _ _ _ (.int _ :: _) (wM s la r v c l tn p pa m q b x h) _ _
  refine J.if_ne (tgt := 21) dX7_bears_16 (by decide) (fun c16 => ?_) (fun c16 => absurd c16 (fun h => (jB_0 _).mp h (jw (a := 1) (c := 10) (by decide) hk hk9)))
  refine J.aload_n dX7_bears_21 rfl rfl ?_
  refine J.cvM (as := []) s la r v c l tn p pa m q b x h okX7_lays jcX7_196 (mX7_lays s la r v c l tn p pa m q b x h hS hr) dX7_bears_22 rfl rfl rfl rfl (fun r9 B9 hq9 => ?_)
  obtain ⟨rfl, rfl⟩ := hq9
  refine ⟨_, _, _, _, _, _, _, _, _, _, _, _, _, _, rfl, ?_⟩
  show J _ _ _ _ _ [] (wM s la r v c l tn p pa (r 6 0) (mlay q r (r 6 0)) b x h) _ _
  refine J.bipush (9) dX7_bears_25 (by decide) ?_
  refine J.istore_n dX7_bears_27 rfl (by decide) rfl ?_
  try dsimp only [List.set]
  exact J.at (mX7_bears_l s la r v c l tn p pa b N k hN hk hk9 hS hr _ 9 (by decide) (mlay q r (r 6 0)) x h ⟨(mlay_E q r 0 (r 6 0)).1, (mlay_E q r 0 (r 6 0)).2.1⟩ rfl) rfl rfl rfl
set_option maxRecDepth 100000 in
set_option maxHeartbeats 4000000 in
theorem mX7_bears_bad (s : Nat → Int32) (la : Nat → Int32) (r : rT) (v : vT) (c : Nat → Nat → Int32) (l : Nat → Int32) (tn : Int32) (p : Nat → Int32) (pa : Nat → Nat → Int32) (m : Nat) (q : rT) (b : Int32) (x : Nat → Nat) (h : Nat → Nat → Int64) (n k : Int32) (hb : ¬ (0 ≤ n ∧ n ≤ 5) ∨ ¬ (1 ≤ k ∧ k ≤ 10)) : J KX7_bears 21 (fun o B => o = some (.int (-1)) ∧ B = (wM s la r v c l tn p pa m q b x h)) 0 [some (.ref 0), some (.int n), some (.int k), none] [] (wM s la r v c l tn p pa m q b x h) 0 0 := by
  refine J.iload_n dX7_bears_0 rfl rfl ?_
  refine J.cs (as := [.int _]) (is := []) okX7_isLong jcX7_236 (mX7_isLong n) dX7_bears_1 rfl rfl rfl rfl rfl rfl (fun r9 B9 hq => ?_)
  obtain ⟨rfl, rfl⟩ := hq
  refine ⟨rfl, ?_⟩
  show J _ _ _ _ _ (.int _ :: _) (wM s la r v c l tn p pa m q b x h) _ _
  refine J.if_eq (tgt := 19) dX7_bears_4 (by decide) (fun c4 => ?_) (fun c4 => ?_)
  · refine J.iconst (-1) dX7_bears_19 (by decide) ?_
    exact J.iret dX7_bears_20 rfl rfl (Nat.le_refl _) (Nat.le_refl _) ⟨rfl, rfl⟩
  · refine J.iload_n dX7_bears_7 rfl rfl ?_
    refine J.i2l dX7_bears_8 ?_
    refine J.lconst 1 dX7_bears_9 (by decide) ?_
    refine J.ldc2 (v := 10) dX7_bears_10 (jt 1053 rfl rfl) ?_
    refine J.cs (as := [.long _, .long _, .long _]) (is := []) okX7_in jcX7_74 (mX7_inI k 1 10 (by decide) (by decide)) dX7_bears_13 rfl rfl rfl rfl rfl rfl (fun r9 B9 hq => ?_)
    obtain ⟨rfl, rfl⟩ := hq
    refine ⟨rfl, ?_⟩
    show J _ _ _ _ _ (.int _ :: _) (wM s la r v c l tn p pa m q b x h) _ _
    refine J.if_ne (tgt := 21) dX7_bears_16 (by decide) (fun c16 => absurd c16 (fun h => h ((jB_0 _).mpr (fun hC => (fun h => h.elim (fun h => h (Decidable.not_not.mp (fun h9 => c4 ((jB_0 _).mpr h9)))) (fun h => h hC)) hb)))) (fun c16 => ?_)
    refine J.iconst (-1) dX7_bears_19 (by decide) ?_
    exact J.iret dX7_bears_20 rfl rfl (Nat.le_refl _) (Nat.le_refl _) ⟨rfl, rfl⟩
def mdV (r : rT) (N i : Nat) : Nat := 10 ^ (r 6 0 * N) - mho (oqM r i) (r 6 0) N 0
def mmd (r : rT) (N : Nat) : Nat → Nat × Int32
  | 0 => (10 ^ (r 6 0 * N) - mho (oqR r) (r 6 0) N 0, -4)
  | i + 1 => if (mmd r N i).1 < mdV r N i then (mdV r N i, nI i) else mmd r N i
theorem mOK_M {r : rT} (h : rOK r) {i : Nat} (hi : i < r 6 0) : mOK (oqM r i) (r 6 0) := by
  have h3 := h.1
  refine ⟨⟨h.2.2.2.2.2.2.2.2.1, fun j => ?_, h.2.2.2.2.2.1, ws_lt _ h.w i (by omega)⟩, Nat.or_lt_two_pow h.2.2.2.1 (Nat.pow_lt_pow_right (by decide) hi), h.1⟩
  show (if j = i then 0 else r 1 j) ≤ 9
  have := h.2.2.2.2.2.2.2.2.2.1 j
  split <;> omega
theorem mdH_m {r : rT} (h : rOK r) (N : Nat) {i : Nat} (hi : i < r 6 0) : mdH r N i = (10 ^ (3 - r 6 0)) ^ N * mdV r N i := by
  unfold mdV
  rw [← mho_h (mOK_M h hi) N]
  exact (mho_sc (mOK_M h hi) N).held h.1
theorem md_m {r : rT} (h : rOK r) (N : Nat) : ∀ i, i ≤ r 6 0 → md r N i = ((10 ^ (3 - r 6 0)) ^ N * (mmd r N i).1, (mmd r N i).2)
  | 0, _ => by rw [md, mmd, hdR_m h N]
  | i + 1, hi => by
    have ih := md_m h N i (by omega)
    rw [md, mmd, ih, mdH_m h N (by omega)]
    dsimp only
    by_cases hc : (mmd r N i).1 < mdV r N i
    · rw [if_pos hc, if_pos ((Nat.mul_lt_mul_left (c_pos _ _)).mpr hc)]
    · rw [if_neg hc, if_neg (fun h9 => hc ((Nat.mul_lt_mul_left (c_pos _ _)).mp h9))]
theorem mmd_le {r : rT} (N : Nat) : ∀ i, (mmd r N i).1 ≤ 10 ^ (r 6 0 * N)
  | 0 => Nat.sub_le _ _
  | i + 1 => by
    rw [mmd]
    split
    · exact Nat.sub_le _ _
    · exact mmd_le N i
theorem mendE {r : rT} (h : rOK r) (N : Nat) (wh : Int32) : mendA r N wh = if (mmd r N (r 6 0)).2 = -4 ∨ wh = 0 then (mmd r N (r 6 0)).2.toInt64 else lowT ((mmd r N (r 6 0)).1 : Int) (10 ^ (r 6 0 * N)) (wh - 1) := by
  rw [mendA, md_m h N (r 6 0) (Nat.le_refl _)]
  dsimp only
  rw [← p10_c h.1 N, lowT_n (c_pos (r 6 0) N)]
  by_cases h1 : (mmd r N (r 6 0)).2 = -4 ∨ wh = 0
  · rw [if_pos h1, if_pos h1.symm]
  · rw [if_neg h1, if_neg (fun h9 => h1 h9.symm)]
theorem qE_M (q : rT) {r : rT} {i : Nat} : qE (rset (rset (mlay q r (r 6 0)) 6 0 (r 6 3 ||| 2 ^ i)) 1 i 0) (oqM r i) (r 6 0) := by
  have h := mlay_E q r 0 (r 6 0)
  refine ⟨fun j hj => ⟨(h.1 j hj).1, ?_⟩, rfl, h.2.2⟩
  show (if j = i then 0 else mlay q r (r 6 0) 1 j) = if j = i then 0 else r 1 j
  split
  · rfl
  · exact (h.1 j hj).2
set_option maxRecDepth 100000 in
set_option maxHeartbeats 4000000 in
theorem mX7_mend_l (s : Nat → Int32) (la : Nat → Int32) (r : rT) (v : vT) (c : Nat → Nat → Int32) (l : Nat → Int32) (tn : Int32) (p : Nat → Int32) (pa : Nat → Nat → Int32) (b : Int32) (N : Nat) (hN : N ≤ 5) (wh : Int32) (hw : 0 ≤ wh ∧ wh ≤ 2) (hS : mS s r) (hr : rOK r) : ∀ (k9 i : Nat), i + k9 = r 6 0 → ∀ (z7 z8 : Option Value) (q : rT) (x : Nat → Nat) (h : Nat → Nat → Int64), J KX7_mend 21 (fun o B => o = some (.long (mendA r N wh)) ∧ ∃ m9 q9 b9 x9 h9, B = (wM s la r v c l tn p pa m9 q9 b9 x9 h9)) 40 [some (.ref 0), some (.int (nI N)), some (.int wh), some (.long (lN (mmd r N i).1)), none, some (.int (mmd r N i).2), some (.int (nI i)), z7, z8] [] (wM s la r v c l tn p pa (r 6 0) q b x h) 0 0 := by
  intro k9
  induction k9 with
  | zero =>
    intro i hi
    obtain hiN : i = r 6 0 := by omega
    intro z7 z8 q x h
    subst hiN
    refine J.iload dX7_mend_40 rfl ?_
    refine J.aload_n dX7_mend_42 rfl rfl ?_
    refine J.mg1 dX7_mend_43 rfl ?_
    refine J.icmp_ge (tgt := 117) dX7_mend_46 (by decide) (fun c46 => ?_) (fun c46 => absurd c46 (fun h => h (Int32.le_refl _)))
    refine J.iload dX7_mend_117 rfl ?_
    refine J.bipush (-4) dX7_mend_119 (by decide) ?_
    refine J.icmp_eq (tgt := 128) dX7_mend_121 (by decide) (fun c121 => ?_) (fun c121 => ?_)
    · refine J.iload dX7_mend_128 rfl ?_
      refine J.i2l dX7_mend_130 ?_
      refine J.goto (tgt := 150) dX7_mend_131 (by decide) ?_
      first
      | exact J.lret dX7_mend_150 rfl (Nat.le_refl _) (Nat.le_refl _) ⟨congrArg (fun z => some (Value.long z)) (by rw [mendE hr N wh, if_pos (Or.inl c121)] <;> rfl), _, _, _, _, _, rfl⟩
      | exact J.lret dX7_mend_150 rfl (Nat.le_refl _) (Nat.le_refl _) ⟨congrArg (fun z => some (Value.long z)) (by rw [mendE hr N wh, if_pos (Or.inr c125)] <;> rfl), _, _, _, _, _, rfl⟩
      | exact J.lret dX7_mend_150 rfl (Nat.le_refl _) (Nat.le_refl _) ⟨congrArg (fun z => some (Value.long z)) (by rw [mendE hr N wh, if_neg (fun h9 => h9.elim c121 c125)] <;> rfl), _, _, _, _, _, rfl⟩
    · refine J.iload_n dX7_mend_124 rfl rfl ?_
      refine J.if_ne (tgt := 134) dX7_mend_125 (by decide) (fun c125 => ?_) (fun c125 => ?_)
      · refine J.lload_n dX7_mend_134 rfl rfl ?_
        refine J.aload_n dX7_mend_135 rfl rfl ?_
        refine J.mg25 dX7_mend_136 rfl ?_
        refine J.iload_n dX7_mend_139 rfl rfl ?_
        refine J.imul dX7_mend_140 ?_
        rw [ix0 (r 6 0) N]
        refine J.cs (as := [.int _]) (is := []) okX7_tens jcX7_232 (mX7_tens ((r 6 0) * N) (by have := Nat.mul_le_mul hr.1 hN; omega)) dX7_mend_141 rfl rfl rfl rfl rfl rfl (fun r9 B9 hq => ?_)
        obtain ⟨rfl, rfl⟩ := hq
        refine ⟨rfl, ?_⟩
        show J _ _ _ _ _ (.long _ :: _) (wM s la r v c l tn p pa (r 6 0) q b x h) _ _
        refine J.iload_n dX7_mend_144 rfl rfl ?_
        refine J.iconst (1) dX7_mend_145 (by decide) ?_
        refine J.isub dX7_mend_146 ?_
        refine J.cs (as := [.long _, .long _, .int _]) (is := []) okX7_lowest jcX7_244 (mX7_lowestN ((mmd r N (r 6 0)).1) (10 ^ ((r 6 0) * N)) (wh - 1) (by have h1 := mmd_le (r := r) N (r 6 0); have := ten_10 hr.1 hN; omega) (by have := ten_10 hr.1 hN; omega) (by have := ten_10 hr.1 hN; omega)) dX7_mend_147 rfl rfl rfl rfl rfl rfl (fun r9 B9 hq => ?_)
        obtain ⟨rfl, rfl⟩ := hq
        refine ⟨rfl, ?_⟩
        show J _ _ _ _ _ (.long _ :: _) (wM s la r v c l tn p pa (r 6 0) q b x h) _ _
        first
        | exact J.lret dX7_mend_150 rfl (Nat.le_refl _) (Nat.le_refl _) ⟨congrArg (fun z => some (Value.long z)) (by rw [mendE hr N wh, if_pos (Or.inl c121)] <;> rfl), _, _, _, _, _, rfl⟩
        | exact J.lret dX7_mend_150 rfl (Nat.le_refl _) (Nat.le_refl _) ⟨congrArg (fun z => some (Value.long z)) (by rw [mendE hr N wh, if_pos (Or.inr c125)] <;> rfl), _, _, _, _, _, rfl⟩
        | exact J.lret dX7_mend_150 rfl (Nat.le_refl _) (Nat.le_refl _) ⟨congrArg (fun z => some (Value.long z)) (by rw [mendE hr N wh, if_neg (fun h9 => h9.elim c121 c125)] <;> rfl), _, _, _, _, _, rfl⟩
      · refine J.iload dX7_mend_128 rfl ?_
        refine J.i2l dX7_mend_130 ?_
        refine J.goto (tgt := 150) dX7_mend_131 (by decide) ?_
        first
        | exact J.lret dX7_mend_150 rfl (Nat.le_refl _) (Nat.le_refl _) ⟨congrArg (fun z => some (Value.long z)) (by rw [mendE hr N wh, if_pos (Or.inl c121)] <;> rfl), _, _, _, _, _, rfl⟩
        | exact J.lret dX7_mend_150 rfl (Nat.le_refl _) (Nat.le_refl _) ⟨congrArg (fun z => some (Value.long z)) (by rw [mendE hr N wh, if_pos (Or.inr c125)] <;> rfl), _, _, _, _, _, rfl⟩
        | exact J.lret dX7_mend_150 rfl (Nat.le_refl _) (Nat.le_refl _) ⟨congrArg (fun z => some (Value.long z)) (by rw [mendE hr N wh, if_neg (fun h9 => h9.elim c121 c125)] <;> rfl), _, _, _, _, _, rfl⟩
  | succ k9 ih =>
    intro i hi
    have hiN : i < r 6 0 := by omega
    intro z7 z8 q x h
    by_cases hc : lN (mmd r N i).1 < lN (mdV r N i)
    · skip
      refine J.iload dX7_mend_40 rfl ?_
      refine J.aload_n dX7_mend_42 rfl rfl ?_
      refine J.mg1 dX7_mend_43 rfl ?_
      refine J.icmp_ge (tgt := 117) dX7_mend_46 (by decide) (fun c46 => absurd c46 (nI_ge (by omega) (by have := hr.1; omega))) (fun c46 => ?_)
      refine J.aload_n dX7_mend_49 rfl rfl ?_
      refine J.cvM (as := []) s la r v c l tn p pa (r 6 0) q b x h okX7_lays jcX7_196 (mX7_lays s la r v c l tn p pa (r 6 0) q b x h hS hr) dX7_mend_50 rfl rfl rfl rfl (fun r9 B9 hq9 => ?_)
      obtain ⟨rfl, rfl⟩ := hq9
      refine ⟨_, _, _, _, _, _, _, _, _, _, _, _, _, _, rfl, ?_⟩
      show J _ _ _ _ _ [] (wM s la r v c l tn p pa (r 6 0) (mlay q r (r 6 0)) b x h) _ _
      refine J.aload_n dX7_mend_53 rfl rfl ?_
      refine J.dup dX7_mend_54 rfl ?_
      refine J.mg26 dX7_mend_55 rfl ?_
      rw [(mlay_E q r 0 (r 6 0)).2.1]
      refine J.iconst (1) dX7_mend_58 (by decide) ?_
      refine J.iload dX7_mend_59 rfl ?_
      refine J.ishl dX7_mend_61 ?_
      refine J.ior dX7_mend_62 ?_
      rw [ws_eval _ hr.w i (by have := hr.1; omega)]
      refine J.mp26 dX7_mend_63 rfl ?_
      try dsimp only [List.set]
      refine J.aload_n dX7_mend_66 rfl rfl ?_
      refine J.mg24 dX7_mend_67 rfl ?_
      refine J.iload dX7_mend_70 rfl ?_
      refine J.iconst (0) dX7_mend_72 (by decide) ?_
      rw [show (0 : Int32) = nI 0 from rfl]
      refine J.ms9 (i) dX7_mend_73 rfl (by have := hr.1; omega) ?_
      try dsimp only [List.set]
      refine J.aload_n dX7_mend_74 rfl rfl ?_
      refine J.iload_n dX7_mend_75 rfl rfl ?_
      refine J.cvM (as := [.int _]) s la r v c l tn p pa (r 6 0) (rset (rset (mlay q r (r 6 0)) 6 0 (r 6 3 ||| 2 ^ i)) 1 i 0) b x h okX7_holds jcX7_241 (mX7_holds s la r v c l tn p pa (r 6 0) (rset (rset (mlay q r (r 6 0)) 6 0 (r 6 3 ||| 2 ^ i)) 1 i 0) b x h (oqM r i) (qE_M q) (mOK_M hr hiN) N hN) dX7_mend_76 rfl rfl rfl rfl (fun r9 B9 hq9 => ?_)
      obtain ⟨rfl, h9, rfl⟩ := hq9
      refine ⟨_, _, _, _, _, _, _, _, _, _, _, _, _, _, rfl, ?_⟩
      show J _ _ _ _ _ (.long _ :: _) (wM s la r v c l tn p pa (r 6 0) (rset (rset (mlay q r (r 6 0)) 6 0 (r 6 3 ||| 2 ^ i)) 1 i 0) b (mho (oqM r i) (r 6 0) N) h9) _ _
      refine J.lstore dX7_mend_79 (by decide) rfl ?_
      try dsimp only [List.set]
      refine J.lload dX7_mend_81 rfl ?_
      refine J.lload_n dX7_mend_83 rfl rfl ?_
      refine J.lcmp dX7_mend_84 ?_
      refine J.if_le (tgt := 93) dX7_mend_85 (by decide) (fun c85 => absurd c85 (fun h9 => cmpN h9 hc)) (fun c85 => ?_)
      refine J.iload dX7_mend_88 rfl ?_
      refine J.goto (tgt := 95) dX7_mend_90 (by decide) ?_
      refine J.istore dX7_mend_95 (by decide) rfl ?_
      try dsimp only [List.set]
      refine J.lload dX7_mend_97 rfl ?_
      refine J.lload_n dX7_mend_99 rfl rfl ?_
      refine J.lcmp dX7_mend_100 ?_
      refine J.if_le (tgt := 109) dX7_mend_101 (by decide) (fun c101 => absurd c101 (fun h9 => cmpN h9 hc)) (fun c101 => ?_)
      refine J.lload dX7_mend_104 rfl ?_
      refine J.goto (tgt := 110) dX7_mend_106 (by decide) ?_
      refine J.lstore_n dX7_mend_110 rfl (by decide) rfl ?_
      try dsimp only [List.set]
      refine J.iinc (1) dX7_mend_111 (by decide) rfl (by decide) rfl ?_
      try dsimp only [List.set]
      refine J.goto (tgt := 40) dX7_mend_114 (by decide) ?_
      exact J.at (ih (i + 1) (by omega) _ _ _ _ _) (by rw [(show mmd r N (i + 1) = (mdV r N i, nI i) from if_pos ((lN_lt63 (by have h1 := mmd_le (r := r) N i; have := ten_10 hr.1 hN; omega) (by have : mdV r N i ≤ 10 ^ (r 6 0 * N) := Nat.sub_le _ _; have := ten_10 hr.1 hN; omega)).mp hc)), ← nI_1 i] <;> rfl) rfl rfl
    · skip
      refine J.iload dX7_mend_40 rfl ?_
      refine J.aload_n dX7_mend_42 rfl rfl ?_
      refine J.mg1 dX7_mend_43 rfl ?_
      refine J.icmp_ge (tgt := 117) dX7_mend_46 (by decide) (fun c46 => absurd c46 (nI_ge (by omega) (by have := hr.1; omega))) (fun c46 => ?_)
      refine J.aload_n dX7_mend_49 rfl rfl ?_
      refine J.cvM (as := []) s la r v c l tn p pa (r 6 0) q b x h okX7_lays jcX7_196 (mX7_lays s la r v c l tn p pa (r 6 0) q b x h hS hr) dX7_mend_50 rfl rfl rfl rfl (fun r9 B9 hq9 => ?_)
      obtain ⟨rfl, rfl⟩ := hq9
      refine ⟨_, _, _, _, _, _, _, _, _, _, _, _, _, _, rfl, ?_⟩
      show J _ _ _ _ _ [] (wM s la r v c l tn p pa (r 6 0) (mlay q r (r 6 0)) b x h) _ _
      refine J.aload_n dX7_mend_53 rfl rfl ?_
      refine J.dup dX7_mend_54 rfl ?_
      refine J.mg26 dX7_mend_55 rfl ?_
      rw [(mlay_E q r 0 (r 6 0)).2.1]
      refine J.iconst (1) dX7_mend_58 (by decide) ?_
      refine J.iload dX7_mend_59 rfl ?_
      refine J.ishl dX7_mend_61 ?_
      refine J.ior dX7_mend_62 ?_
      rw [ws_eval _ hr.w i (by have := hr.1; omega)]
      refine J.mp26 dX7_mend_63 rfl ?_
      try dsimp only [List.set]
      refine J.aload_n dX7_mend_66 rfl rfl ?_
      refine J.mg24 dX7_mend_67 rfl ?_
      refine J.iload dX7_mend_70 rfl ?_
      refine J.iconst (0) dX7_mend_72 (by decide) ?_
      rw [show (0 : Int32) = nI 0 from rfl]
      refine J.ms9 (i) dX7_mend_73 rfl (by have := hr.1; omega) ?_
      try dsimp only [List.set]
      refine J.aload_n dX7_mend_74 rfl rfl ?_
      refine J.iload_n dX7_mend_75 rfl rfl ?_
      refine J.cvM (as := [.int _]) s la r v c l tn p pa (r 6 0) (rset (rset (mlay q r (r 6 0)) 6 0 (r 6 3 ||| 2 ^ i)) 1 i 0) b x h okX7_holds jcX7_241 (mX7_holds s la r v c l tn p pa (r 6 0) (rset (rset (mlay q r (r 6 0)) 6 0 (r 6 3 ||| 2 ^ i)) 1 i 0) b x h (oqM r i) (qE_M q) (mOK_M hr hiN) N hN) dX7_mend_76 rfl rfl rfl rfl (fun r9 B9 hq9 => ?_)
      obtain ⟨rfl, h9, rfl⟩ := hq9
      refine ⟨_, _, _, _, _, _, _, _, _, _, _, _, _, _, rfl, ?_⟩
      show J _ _ _ _ _ (.long _ :: _) (wM s la r v c l tn p pa (r 6 0) (rset (rset (mlay q r (r 6 0)) 6 0 (r 6 3 ||| 2 ^ i)) 1 i 0) b (mho (oqM r i) (r 6 0) N) h9) _ _
      refine J.lstore dX7_mend_79 (by decide) rfl ?_
      try dsimp only [List.set]
      refine J.lload dX7_mend_81 rfl ?_
      refine J.lload_n dX7_mend_83 rfl rfl ?_
      refine J.lcmp dX7_mend_84 ?_
      refine J.if_le (tgt := 93) dX7_mend_85 (by decide) (fun c85 => ?_) (fun c85 => absurd c85 (fun h9 => hc (cmpP h9)))
      refine J.iload dX7_mend_93 rfl ?_
      refine J.istore dX7_mend_95 (by decide) rfl ?_
      try dsimp only [List.set]
      refine J.lload dX7_mend_97 rfl ?_
      refine J.lload_n dX7_mend_99 rfl rfl ?_
      refine J.lcmp dX7_mend_100 ?_
      refine J.if_le (tgt := 109) dX7_mend_101 (by decide) (fun c101 => ?_) (fun c101 => absurd c101 (fun h9 => hc (cmpP h9)))
      refine J.lload_n dX7_mend_109 rfl rfl ?_
      refine J.lstore_n dX7_mend_110 rfl (by decide) rfl ?_
      try dsimp only [List.set]
      refine J.iinc (1) dX7_mend_111 (by decide) rfl (by decide) rfl ?_
      try dsimp only [List.set]
      refine J.goto (tgt := 40) dX7_mend_114 (by decide) ?_
      exact J.at (ih (i + 1) (by omega) _ _ _ _ _) (by rw [(show mmd r N (i + 1) = mmd r N i from if_neg (fun h9 => hc ((lN_lt63 (by have h1 := mmd_le (r := r) N i; have := ten_10 hr.1 hN; omega) (by have : mdV r N i ≤ 10 ^ (r 6 0 * N) := Nat.sub_le _ _; have := ten_10 hr.1 hN; omega)).mpr h9))), ← nI_1 i] <;> rfl) rfl rfl
set_option maxRecDepth 100000 in
set_option maxHeartbeats 4000000 in
theorem mX7_mend (s : Nat → Int32) (la : Nat → Int32) (r : rT) (v : vT) (c : Nat → Nat → Int32) (l : Nat → Int32) (tn : Int32) (p : Nat → Int32) (pa : Nat → Nat → Int32) (m : Nat) (q : rT) (b : Int32) (x : Nat → Nat) (h : Nat → Nat → Int64) (N : Nat) (hN : N ≤ 5) (wh : Int32) (hw : 0 ≤ wh ∧ wh ≤ 2) (hS : mS s r) (hr : rOK r) : J KX7_mend 21 (fun o B => o = some (.long (mendA r N wh)) ∧ ∃ m9 q9 b9 x9 h9, B = (wM s la r v c l tn p pa m9 q9 b9 x9 h9)) 0 [some (.ref 0), some (.int (nI N)), some (.int wh), none, none, none, none, none, none] [] (wM s la r v c l tn p pa m q b x h) 0 0 := by
  refine J.iload_n dX7_mend_0 rfl rfl ?_
  refine J.cs (as := [.int _]) (is := []) okX7_isLong jcX7_236 (mX7_isLong (nI N)) dX7_mend_1 rfl rfl rfl rfl rfl rfl (fun r9 B9 hq => ?_)
  obtain ⟨rfl, rfl⟩ := hq
  refine ⟨rfl, ?_⟩
  show J _ _ _ _ _ (.int _ :: _) (wM s la r v c l tn p pa m q b x h) _ _
  refine J.if_eq (tgt := 19) dX7_mend_4 (by decide) (fun c4 => absurd c4 (fun h => (jB_0 _).mp h (jw (a := 0) (c := 5) (by decide) (Nat.zero_le _) hN))) (fun c4 => ?_)
  refine J.iload_n dX7_mend_7 rfl rfl ?_
  refine J.i2l dX7_mend_8 ?_
  refine J.lconst 0 dX7_mend_9 (by decide) ?_
  refine J.ldc2 (v := 2) dX7_mend_10 (jt 956 rfl rfl) ?_
  refine J.cs (as := [.long _, .long _, .long _]) (is := []) okX7_in jcX7_74 (mX7_inI wh 0 2 (by decide) (by decide)) dX7_mend_13 rfl rfl rfl rfl rfl rfl (fun r9 B9 hq => ?_)
  obtain ⟨rfl, rfl⟩ := hq
  refine ⟨rfl, ?_⟩
  show J _ _ _ _ _ (.int _ :: _) (wM s la r v c l tn p pa m q b x h) _ _
  refine J.if_ne (tgt := 23) dX7_mend_16 (by decide) (fun c16 => ?_) (fun c16 => absurd c16 (fun h => (jB_0 _).mp h hw))
  refine J.aload_n dX7_mend_23 rfl rfl ?_
  refine J.cvM (as := []) s la r v c l tn p pa m q b x h okX7_lays jcX7_196 (mX7_lays s la r v c l tn p pa m q b x h hS hr) dX7_mend_24 rfl rfl rfl rfl (fun r9 B9 hq9 => ?_)
  obtain ⟨rfl, rfl⟩ := hq9
  refine ⟨_, _, _, _, _, _, _, _, _, _, _, _, _, _, rfl, ?_⟩
  show J _ _ _ _ _ [] (wM s la r v c l tn p pa (r 6 0) (mlay q r (r 6 0)) b x h) _ _
  refine J.aload_n dX7_mend_27 rfl rfl ?_
  refine J.iload_n dX7_mend_28 rfl rfl ?_
  refine J.cvM (as := [.int _]) s la r v c l tn p pa (r 6 0) (mlay q r (r 6 0)) b x h okX7_holds jcX7_241 (mX7_holds s la r v c l tn p pa (r 6 0) (mlay q r (r 6 0)) b x h (oqR r) (mlay_q q) (mlay_ok hr) N hN) dX7_mend_29 rfl rfl rfl rfl (fun r9 B9 hq9 => ?_)
  obtain ⟨rfl, h9, rfl⟩ := hq9
  refine ⟨_, _, _, _, _, _, _, _, _, _, _, _, _, _, rfl, ?_⟩
  show J _ _ _ _ _ (.long _ :: _) (wM s la r v c l tn p pa (r 6 0) (mlay q r (r 6 0)) b (mho (oqR r) (r 6 0) N) h9) _ _
  refine J.lstore_n dX7_mend_32 rfl (by decide) rfl ?_
  try dsimp only [List.set]
  refine J.bipush (-4) dX7_mend_33 (by decide) ?_
  refine J.istore dX7_mend_35 (by decide) rfl ?_
  try dsimp only [List.set]
  refine J.iconst (0) dX7_mend_37 (by decide) ?_
  refine J.istore dX7_mend_38 (by decide) rfl ?_
  try dsimp only [List.set]
  exact J.at (mX7_mend_l s la r v c l tn p pa b N hN wh hw hS hr (r 6 0) 0 (by omega) none none (mlay q r (r 6 0)) _ h9) rfl rfl rfl
set_option maxRecDepth 100000 in
set_option maxHeartbeats 4000000 in
theorem mX7_mend_bad (s : Nat → Int32) (la : Nat → Int32) (r : rT) (v : vT) (c : Nat → Nat → Int32) (l : Nat → Int32) (tn : Int32) (p : Nat → Int32) (pa : Nat → Nat → Int32) (m : Nat) (q : rT) (b : Int32) (x : Nat → Nat) (h : Nat → Nat → Int64) (n wh : Int32) (hb : ¬ (0 ≤ n ∧ n ≤ 5) ∨ ¬ (0 ≤ wh ∧ wh ≤ 2)) : J KX7_mend 21 (fun o B => o = some (.long (-1)) ∧ B = (wM s la r v c l tn p pa m q b x h)) 0 [some (.ref 0), some (.int n), some (.int wh), none, none, none, none, none, none] [] (wM s la r v c l tn p pa m q b x h) 0 0 := by
  refine J.iload_n dX7_mend_0 rfl rfl ?_
  refine J.cs (as := [.int _]) (is := []) okX7_isLong jcX7_236 (mX7_isLong n) dX7_mend_1 rfl rfl rfl rfl rfl rfl (fun r9 B9 hq => ?_)
  obtain ⟨rfl, rfl⟩ := hq
  refine ⟨rfl, ?_⟩
  show J _ _ _ _ _ (.int _ :: _) (wM s la r v c l tn p pa m q b x h) _ _
  refine J.if_eq (tgt := 19) dX7_mend_4 (by decide) (fun c4 => ?_) (fun c4 => ?_)
  · refine J.ldc2 (v := -1) dX7_mend_19 (jt 1049 rfl rfl) ?_
    exact J.lret dX7_mend_22 rfl (Nat.le_refl _) (Nat.le_refl _) ⟨rfl, rfl⟩
  · refine J.iload_n dX7_mend_7 rfl rfl ?_
    refine J.i2l dX7_mend_8 ?_
    refine J.lconst 0 dX7_mend_9 (by decide) ?_
    refine J.ldc2 (v := 2) dX7_mend_10 (jt 956 rfl rfl) ?_
    refine J.cs (as := [.long _, .long _, .long _]) (is := []) okX7_in jcX7_74 (mX7_inI wh 0 2 (by decide) (by decide)) dX7_mend_13 rfl rfl rfl rfl rfl rfl (fun r9 B9 hq => ?_)
    obtain ⟨rfl, rfl⟩ := hq
    refine ⟨rfl, ?_⟩
    show J _ _ _ _ _ (.int _ :: _) (wM s la r v c l tn p pa m q b x h) _ _
    refine J.if_ne (tgt := 23) dX7_mend_16 (by decide) (fun c16 => absurd c16 (fun h => h ((jB_0 _).mpr (fun hC => (fun h => h.elim (fun h => h (Decidable.not_not.mp (fun h9 => c4 ((jB_0 _).mpr h9)))) (fun h => h hC)) hb)))) (fun c16 => ?_)
    refine J.ldc2 (v := -1) dX7_mend_19 (jt 1049 rfl rfl) ?_
    exact J.lret dX7_mend_22 rfl (Nat.le_refl _) (Nat.le_refl _) ⟨rfl, rfl⟩
