theorem dX6_heldFromNow_0 : decode cX6_heldFromNow 0 = .ok (.aload_n 0, 1) := by decide +kernel
theorem dX6_heldFromNow_1 : decode cX6_heldFromNow 1 = .ok (.getfield 37, 3) := by decide +kernel
theorem dX6_heldFromNow_4 : decode cX6_heldFromNow 4 = .ok (.aload_n 0, 1) := by decide +kernel
theorem dX6_heldFromNow_5 : decode cX6_heldFromNow 5 = .ok (.getfield 12, 3) := by decide +kernel
theorem dX6_heldFromNow_8 : decode cX6_heldFromNow 8 = .ok (.invokevirtual 159, 3) := by decide +kernel
theorem dX6_heldFromNow_11 : decode cX6_heldFromNow 11 = .ok (.aload_n 0, 1) := by decide +kernel
theorem dX6_heldFromNow_12 : decode cX6_heldFromNow 12 = .ok (.getfield 37, 3) := by decide +kernel
theorem dX6_heldFromNow_15 : decode cX6_heldFromNow 15 = .ok (.iload_n 1, 1) := by decide +kernel
theorem dX6_heldFromNow_16 : decode cX6_heldFromNow 16 = .ok (.invokevirtual 162, 3) := by decide +kernel
theorem dX6_heldFromNow_19 : decode cX6_heldFromNow 19 = .ok (.aload_n 0, 1) := by decide +kernel
theorem dX6_heldFromNow_20 : decode cX6_heldFromNow 20 = .ok (.getfield 37, 3) := by decide +kernel
theorem dX6_heldFromNow_23 : decode cX6_heldFromNow 23 = .ok (.invokevirtual 181, 3) := by decide +kernel
theorem dX6_heldFromNow_26 : decode cX6_heldFromNow 26 = .ok (.lreturn, 1) := by decide +kernel
theorem dX6_seeingGain_0 : decode cX6_seeingGain 0 = .ok (.aload_n 0, 1) := by decide +kernel
theorem dX6_seeingGain_1 : decode cX6_seeingGain 1 = .ok (.getfield 37, 3) := by decide +kernel
theorem dX6_seeingGain_4 : decode cX6_seeingGain 4 = .ok (.aload_n 0, 1) := by decide +kernel
theorem dX6_seeingGain_5 : decode cX6_seeingGain 5 = .ok (.getfield 12, 3) := by decide +kernel
theorem dX6_seeingGain_8 : decode cX6_seeingGain 8 = .ok (.invokevirtual 159, 3) := by decide +kernel
theorem dX6_seeingGain_11 : decode cX6_seeingGain 11 = .ok (.aload_n 0, 1) := by decide +kernel
theorem dX6_seeingGain_12 : decode cX6_seeingGain 12 = .ok (.getfield 37, 3) := by decide +kernel
theorem dX6_seeingGain_15 : decode cX6_seeingGain 15 = .ok (.aload_n 0, 1) := by decide +kernel
theorem dX6_seeingGain_16 : decode cX6_seeingGain 16 = .ok (.getfield 12, 3) := by decide +kernel
theorem dX6_seeingGain_19 : decode cX6_seeingGain 19 = .ok (.getfield 128, 3) := by decide +kernel
theorem dX6_seeingGain_22 : decode cX6_seeingGain 22 = .ok (.iload_n 1, 1) := by decide +kernel
theorem dX6_seeingGain_23 : decode cX6_seeingGain 23 = .ok (.iaload, 1) := by decide +kernel
theorem dX6_seeingGain_24 : decode cX6_seeingGain 24 = .ok (.aload_n 0, 1) := by decide +kernel
theorem dX6_seeingGain_25 : decode cX6_seeingGain 25 = .ok (.getfield 12, 3) := by decide +kernel
theorem dX6_seeingGain_28 : decode cX6_seeingGain 28 = .ok (.getfield 131, 3) := by decide +kernel
theorem dX6_seeingGain_31 : decode cX6_seeingGain 31 = .ok (.iload_n 1, 1) := by decide +kernel
theorem dX6_seeingGain_32 : decode cX6_seeingGain 32 = .ok (.iaload, 1) := by decide +kernel
theorem dX6_seeingGain_33 : decode cX6_seeingGain 33 = .ok (.iload_n 2, 1) := by decide +kernel
theorem dX6_seeingGain_34 : decode cX6_seeingGain 34 = .ok (.iconst 1, 1) := by decide +kernel
theorem dX6_seeingGain_35 : decode cX6_seeingGain 35 = .ok (.invokevirtual 169, 3) := by decide +kernel
theorem dX6_seeingGain_38 : decode cX6_seeingGain 38 = .ok (.lreturn, 1) := by decide +kernel
theorem dX6_worthOfLaws_0 : decode cX6_worthOfLaws 0 = .ok (.lconst 0, 1) := by decide +kernel
theorem dX6_worthOfLaws_1 : decode cX6_worthOfLaws 1 = .ok (.lstore_n 2, 1) := by decide +kernel
theorem dX6_worthOfLaws_2 : decode cX6_worthOfLaws 2 = .ok (.iconst 0, 1) := by decide +kernel
theorem dX6_worthOfLaws_3 : decode cX6_worthOfLaws 3 = .ok (.istore 4, 2) := by decide +kernel
theorem dX6_worthOfLaws_5 : decode cX6_worthOfLaws 5 = .ok (.iconst 0, 1) := by decide +kernel
theorem dX6_worthOfLaws_6 : decode cX6_worthOfLaws 6 = .ok (.istore 5, 2) := by decide +kernel
theorem dX6_worthOfLaws_8 : decode cX6_worthOfLaws 8 = .ok (.iload 5, 2) := by decide +kernel
theorem dX6_worthOfLaws_10 : decode cX6_worthOfLaws 10 = .ok (.aload_n 0, 1) := by decide +kernel
theorem dX6_worthOfLaws_11 : decode cX6_worthOfLaws 11 = .ok (.getfield 12, 3) := by decide +kernel
theorem dX6_worthOfLaws_14 : decode cX6_worthOfLaws 14 = .ok (.getfield 99, 3) := by decide +kernel
theorem dX6_worthOfLaws_17 : decode cX6_worthOfLaws 17 = .ok (.if_icmp .ge 69, 3) := by decide +kernel
theorem dX6_worthOfLaws_20 : decode cX6_worthOfLaws 20 = .ok (.iload_n 1, 1) := by decide +kernel
theorem dX6_worthOfLaws_21 : decode cX6_worthOfLaws 21 = .ok (.iload 5, 2) := by decide +kernel
theorem dX6_worthOfLaws_23 : decode cX6_worthOfLaws 23 = .ok (.ishr, 1) := by decide +kernel
theorem dX6_worthOfLaws_24 : decode cX6_worthOfLaws 24 = .ok (.iconst 1, 1) := by decide +kernel
theorem dX6_worthOfLaws_25 : decode cX6_worthOfLaws 25 = .ok (.iand, 1) := by decide +kernel
theorem dX6_worthOfLaws_26 : decode cX6_worthOfLaws 26 = .ok (.iconst 1, 1) := by decide +kernel
theorem dX6_worthOfLaws_27 : decode cX6_worthOfLaws 27 = .ok (.if_icmp .ne 53, 3) := by decide +kernel
theorem dX6_worthOfLaws_30 : decode cX6_worthOfLaws 30 = .ok (.iload 4, 2) := by decide +kernel
theorem dX6_worthOfLaws_32 : decode cX6_worthOfLaws 32 = .ok (.aload_n 0, 1) := by decide +kernel
theorem dX6_worthOfLaws_33 : decode cX6_worthOfLaws 33 = .ok (.getfield 12, 3) := by decide +kernel
theorem dX6_worthOfLaws_36 : decode cX6_worthOfLaws 36 = .ok (.getfield 134, 3) := by decide +kernel
theorem dX6_worthOfLaws_39 : decode cX6_worthOfLaws 39 = .ok (.iload 5, 2) := by decide +kernel
theorem dX6_worthOfLaws_41 : decode cX6_worthOfLaws 41 = .ok (.iaload, 1) := by decide +kernel
theorem dX6_worthOfLaws_42 : decode cX6_worthOfLaws 42 = .ok (.iadd, 1) := by decide +kernel
theorem dX6_worthOfLaws_43 : decode cX6_worthOfLaws 43 = .ok (.istore 4, 2) := by decide +kernel
theorem dX6_worthOfLaws_45 : decode cX6_worthOfLaws 45 = .ok (.lload_n 2, 1) := by decide +kernel
theorem dX6_worthOfLaws_46 : decode cX6_worthOfLaws 46 = .ok (.iload 4, 2) := by decide +kernel
theorem dX6_worthOfLaws_48 : decode cX6_worthOfLaws 48 = .ok (.iconst 5, 1) := by decide +kernel
theorem dX6_worthOfLaws_49 : decode cX6_worthOfLaws 49 = .ok (.if_icmp .gt 28, 3) := by decide +kernel
theorem dX6_worthOfLaws_52 : decode cX6_worthOfLaws 52 = .ok (.aload_n 0, 1) := by decide +kernel
theorem dX6_worthOfLaws_53 : decode cX6_worthOfLaws 53 = .ok (.getfield 12, 3) := by decide +kernel
theorem dX6_worthOfLaws_56 : decode cX6_worthOfLaws 56 = .ok (.getfield 137, 3) := by decide +kernel
theorem dX6_worthOfLaws_59 : decode cX6_worthOfLaws 59 = .ok (.iload 5, 2) := by decide +kernel
theorem dX6_worthOfLaws_61 : decode cX6_worthOfLaws 61 = .ok (.iaload, 1) := by decide +kernel
theorem dX6_worthOfLaws_62 : decode cX6_worthOfLaws 62 = .ok (.i2l, 1) := by decide +kernel
theorem dX6_worthOfLaws_63 : decode cX6_worthOfLaws 63 = .ok (.aload_n 0, 1) := by decide +kernel
theorem dX6_worthOfLaws_64 : decode cX6_worthOfLaws 64 = .ok (.getfield 37, 3) := by decide +kernel
theorem dX6_worthOfLaws_67 : decode cX6_worthOfLaws 67 = .ok (.getfield 274, 3) := by decide +kernel
theorem dX6_worthOfLaws_70 : decode cX6_worthOfLaws 70 = .ok (.iload 4, 2) := by decide +kernel
theorem dX6_worthOfLaws_72 : decode cX6_worthOfLaws 72 = .ok (.laload, 1) := by decide +kernel
theorem dX6_worthOfLaws_73 : decode cX6_worthOfLaws 73 = .ok (.lmul, 1) := by decide +kernel
theorem dX6_worthOfLaws_74 : decode cX6_worthOfLaws 74 = .ok (.goto 4, 3) := by decide +kernel
theorem dX6_worthOfLaws_77 : decode cX6_worthOfLaws 77 = .ok (.lconst 0, 1) := by decide +kernel
theorem dX6_worthOfLaws_78 : decode cX6_worthOfLaws 78 = .ok (.ladd, 1) := by decide +kernel
theorem dX6_worthOfLaws_79 : decode cX6_worthOfLaws 79 = .ok (.lstore_n 2, 1) := by decide +kernel
theorem dX6_worthOfLaws_80 : decode cX6_worthOfLaws 80 = .ok (.iinc 5 1, 3) := by decide +kernel
theorem dX6_worthOfLaws_83 : decode cX6_worthOfLaws 83 = .ok (.goto (-75), 3) := by decide +kernel
theorem dX6_worthOfLaws_86 : decode cX6_worthOfLaws 86 = .ok (.lload_n 2, 1) := by decide +kernel
theorem dX6_worthOfLaws_87 : decode cX6_worthOfLaws 87 = .ok (.lreturn, 1) := by decide +kernel
theorem dX6_likelihood_0 : decode cX6_likelihood 0 = .ok (.aload_n 0, 1) := by decide +kernel
theorem dX6_likelihood_1 : decode cX6_likelihood 1 = .ok (.getfield 37, 3) := by decide +kernel
theorem dX6_likelihood_4 : decode cX6_likelihood 4 = .ok (.iload_n 1, 1) := by decide +kernel
theorem dX6_likelihood_5 : decode cX6_likelihood 5 = .ok (.iload_n 2, 1) := by decide +kernel
theorem dX6_likelihood_6 : decode cX6_likelihood 6 = .ok (.aload_n 0, 1) := by decide +kernel
theorem dX6_likelihood_7 : decode cX6_likelihood 7 = .ok (.getfield 12, 3) := by decide +kernel
theorem dX6_likelihood_10 : decode cX6_likelihood 10 = .ok (.getfield 102, 3) := by decide +kernel
theorem dX6_likelihood_13 : decode cX6_likelihood 13 = .ok (.invokevirtual 185, 3) := by decide +kernel
theorem dX6_likelihood_16 : decode cX6_likelihood 16 = .ok (.aload_n 0, 1) := by decide +kernel
theorem dX6_likelihood_17 : decode cX6_likelihood 17 = .ok (.getfield 44, 3) := by decide +kernel
theorem dX6_likelihood_20 : decode cX6_likelihood 20 = .ok (.invokevirtual 220, 3) := by decide +kernel
theorem dX6_likelihood_23 : decode cX6_likelihood 23 = .ok (.istore_n 3, 1) := by decide +kernel
theorem dX6_likelihood_24 : decode cX6_likelihood 24 = .ok (.iconst 0, 1) := by decide +kernel
theorem dX6_likelihood_25 : decode cX6_likelihood 25 = .ok (.istore 4, 2) := by decide +kernel
theorem dX6_likelihood_27 : decode cX6_likelihood 27 = .ok (.iload 4, 2) := by decide +kernel
theorem dX6_likelihood_29 : decode cX6_likelihood 29 = .ok (.iload_n 3, 1) := by decide +kernel
theorem dX6_likelihood_30 : decode cX6_likelihood 30 = .ok (.if_icmp .gt 77, 3) := by decide +kernel
theorem dX6_likelihood_33 : decode cX6_likelihood 33 = .ok (.iconst 0, 1) := by decide +kernel
theorem dX6_likelihood_34 : decode cX6_likelihood 34 = .ok (.istore 5, 2) := by decide +kernel
theorem dX6_likelihood_36 : decode cX6_likelihood 36 = .ok (.iload 5, 2) := by decide +kernel
theorem dX6_likelihood_38 : decode cX6_likelihood 38 = .ok (.aload_n 0, 1) := by decide +kernel
theorem dX6_likelihood_39 : decode cX6_likelihood 39 = .ok (.getfield 44, 3) := by decide +kernel
theorem dX6_likelihood_42 : decode cX6_likelihood 42 = .ok (.getfield 90, 3) := by decide +kernel
theorem dX6_likelihood_45 : decode cX6_likelihood 45 = .ok (.if_icmp .ge 41, 3) := by decide +kernel
theorem dX6_likelihood_48 : decode cX6_likelihood 48 = .ok (.aload_n 0, 1) := by decide +kernel
theorem dX6_likelihood_49 : decode cX6_likelihood 49 = .ok (.getfield 44, 3) := by decide +kernel
theorem dX6_likelihood_52 : decode cX6_likelihood 52 = .ok (.getfield 278, 3) := by decide +kernel
theorem dX6_likelihood_55 : decode cX6_likelihood 55 = .ok (.iload 5, 2) := by decide +kernel
theorem dX6_likelihood_57 : decode cX6_likelihood 57 = .ok (.iaload, 1) := by decide +kernel
theorem dX6_likelihood_58 : decode cX6_likelihood 58 = .ok (.iload 4, 2) := by decide +kernel
theorem dX6_likelihood_60 : decode cX6_likelihood 60 = .ok (.if_icmp .ne 20, 3) := by decide +kernel
theorem dX6_likelihood_63 : decode cX6_likelihood 63 = .ok (.aload_n 0, 1) := by decide +kernel
theorem dX6_likelihood_64 : decode cX6_likelihood 64 = .ok (.getfield 37, 3) := by decide +kernel
theorem dX6_likelihood_67 : decode cX6_likelihood 67 = .ok (.aload_n 0, 1) := by decide +kernel
theorem dX6_likelihood_68 : decode cX6_likelihood 68 = .ok (.getfield 44, 3) := by decide +kernel
theorem dX6_likelihood_71 : decode cX6_likelihood 71 = .ok (.getfield 281, 3) := by decide +kernel
theorem dX6_likelihood_74 : decode cX6_likelihood 74 = .ok (.iload 5, 2) := by decide +kernel
theorem dX6_likelihood_76 : decode cX6_likelihood 76 = .ok (.iaload, 1) := by decide +kernel
theorem dX6_likelihood_77 : decode cX6_likelihood 77 = .ok (.invokevirtual 283, 3) := by decide +kernel
theorem dX6_likelihood_80 : decode cX6_likelihood 80 = .ok (.iinc 5 1, 3) := by decide +kernel
theorem dX6_likelihood_83 : decode cX6_likelihood 83 = .ok (.goto (-47), 3) := by decide +kernel
theorem dX6_likelihood_86 : decode cX6_likelihood 86 = .ok (.iload 4, 2) := by decide +kernel
theorem dX6_likelihood_88 : decode cX6_likelihood 88 = .ok (.iload_n 3, 1) := by decide +kernel
theorem dX6_likelihood_89 : decode cX6_likelihood 89 = .ok (.if_icmp .ge 12, 3) := by decide +kernel
theorem dX6_likelihood_92 : decode cX6_likelihood 92 = .ok (.aload_n 0, 1) := by decide +kernel
theorem dX6_likelihood_93 : decode cX6_likelihood 93 = .ok (.getfield 37, 3) := by decide +kernel
theorem dX6_likelihood_96 : decode cX6_likelihood 96 = .ok (.iload 4, 2) := by decide +kernel
theorem dX6_likelihood_98 : decode cX6_likelihood 98 = .ok (.invokevirtual 178, 3) := by decide +kernel
theorem dX6_likelihood_101 : decode cX6_likelihood 101 = .ok (.iinc 4 1, 3) := by decide +kernel
theorem dX6_likelihood_104 : decode cX6_likelihood 104 = .ok (.goto (-77), 3) := by decide +kernel
theorem dX6_likelihood_107 : decode cX6_likelihood 107 = .ok (.aload_n 0, 1) := by decide +kernel
theorem dX6_likelihood_108 : decode cX6_likelihood 108 = .ok (.getfield 37, 3) := by decide +kernel
theorem dX6_likelihood_111 : decode cX6_likelihood 111 = .ok (.invokevirtual 286, 3) := by decide +kernel
theorem dX6_likelihood_114 : decode cX6_likelihood 114 = .ok (.lreturn, 1) := by decide +kernel
theorem dX6_falls_0 : decode cX6_falls 0 = .ok (.iload_n 1, 1) := by decide +kernel
theorem dX6_falls_1 : decode cX6_falls 1 = .ok (.invokestatic 143, 3) := by decide +kernel
theorem dX6_falls_4 : decode cX6_falls 4 = .ok (.ifCond .eq 12, 3) := by decide +kernel
theorem dX6_falls_7 : decode cX6_falls 7 = .ok (.iload_n 2, 1) := by decide +kernel
theorem dX6_falls_8 : decode cX6_falls 8 = .ok (.iconst 0, 1) := by decide +kernel
theorem dX6_falls_9 : decode cX6_falls 9 = .ok (.iconst 1, 1) := by decide +kernel
theorem dX6_falls_10 : decode cX6_falls 10 = .ok (.invokestatic 59, 3) := by decide +kernel
theorem dX6_falls_13 : decode cX6_falls 13 = .ok (.ifCond .ne 7, 3) := by decide +kernel
theorem dX6_falls_16 : decode cX6_falls 16 = .ok (.ldc2_w 146, 3) := by decide +kernel
theorem dX6_falls_19 : decode cX6_falls 19 = .ok (.lreturn, 1) := by decide +kernel
theorem dX6_falls_20 : decode cX6_falls 20 = .ok (.iload_n 1, 1) := by decide +kernel
theorem dX6_falls_21 : decode cX6_falls 21 = .ok (.invokestatic 148, 3) := by decide +kernel
theorem dX6_falls_24 : decode cX6_falls 24 = .ok (.lstore_n 3, 1) := by decide +kernel
theorem dX6_falls_25 : decode cX6_falls 25 = .ok (.lload_n 3, 1) := by decide +kernel
theorem dX6_falls_26 : decode cX6_falls 26 = .ok (.aload_n 0, 1) := by decide +kernel
theorem dX6_falls_27 : decode cX6_falls 27 = .ok (.iload_n 1, 1) := by decide +kernel
theorem dX6_falls_28 : decode cX6_falls 28 = .ok (.invokevirtual 152, 3) := by decide +kernel
theorem dX6_falls_31 : decode cX6_falls 31 = .ok (.lsub, 1) := by decide +kernel
theorem dX6_falls_32 : decode cX6_falls 32 = .ok (.lload_n 3, 1) := by decide +kernel
theorem dX6_falls_33 : decode cX6_falls 33 = .ok (.iload_n 2, 1) := by decide +kernel
theorem dX6_falls_34 : decode cX6_falls 34 = .ok (.invokestatic 155, 3) := by decide +kernel
theorem dX6_falls_37 : decode cX6_falls 37 = .ok (.lreturn, 1) := by decide +kernel
theorem dX6_left_0 : decode cX6_left 0 = .ok (.iload_n 1, 1) := by decide +kernel
theorem dX6_left_1 : decode cX6_left 1 = .ok (.invokestatic 143, 3) := by decide +kernel
theorem dX6_left_4 : decode cX6_left 4 = .ok (.ifCond .eq 21, 3) := by decide +kernel
theorem dX6_left_7 : decode cX6_left 7 = .ok (.iload_n 2, 1) := by decide +kernel
theorem dX6_left_8 : decode cX6_left 8 = .ok (.iconst 0, 1) := by decide +kernel
theorem dX6_left_9 : decode cX6_left 9 = .ok (.iconst 3, 1) := by decide +kernel
theorem dX6_left_10 : decode cX6_left 10 = .ok (.invokestatic 59, 3) := by decide +kernel
theorem dX6_left_13 : decode cX6_left 13 = .ok (.ifCond .eq 12, 3) := by decide +kernel
theorem dX6_left_16 : decode cX6_left 16 = .ok (.iload_n 3, 1) := by decide +kernel
theorem dX6_left_17 : decode cX6_left 17 = .ok (.iconst 0, 1) := by decide +kernel
theorem dX6_left_18 : decode cX6_left 18 = .ok (.iconst 1, 1) := by decide +kernel
theorem dX6_left_19 : decode cX6_left 19 = .ok (.invokestatic 59, 3) := by decide +kernel
theorem dX6_left_22 : decode cX6_left 22 = .ok (.ifCond .ne 7, 3) := by decide +kernel
theorem dX6_left_25 : decode cX6_left 25 = .ok (.ldc2_w 146, 3) := by decide +kernel
theorem dX6_left_28 : decode cX6_left 28 = .ok (.lreturn, 1) := by decide +kernel
theorem dX6_left_29 : decode cX6_left 29 = .ok (.aload_n 0, 1) := by decide +kernel
theorem dX6_left_30 : decode cX6_left 30 = .ok (.getfield 37, 3) := by decide +kernel
theorem dX6_left_33 : decode cX6_left 33 = .ok (.aload_n 0, 1) := by decide +kernel
theorem dX6_left_34 : decode cX6_left 34 = .ok (.getfield 12, 3) := by decide +kernel
theorem dX6_left_37 : decode cX6_left 37 = .ok (.invokevirtual 159, 3) := by decide +kernel
theorem dX6_left_40 : decode cX6_left 40 = .ok (.aload_n 0, 1) := by decide +kernel
theorem dX6_left_41 : decode cX6_left 41 = .ok (.getfield 37, 3) := by decide +kernel
theorem dX6_left_44 : decode cX6_left 44 = .ok (.iload_n 1, 1) := by decide +kernel
theorem dX6_left_45 : decode cX6_left 45 = .ok (.invokevirtual 162, 3) := by decide +kernel
theorem dX6_left_48 : decode cX6_left 48 = .ok (.aload_n 0, 1) := by decide +kernel
theorem dX6_left_49 : decode cX6_left 49 = .ok (.getfield 37, 3) := by decide +kernel
theorem dX6_left_52 : decode cX6_left 52 = .ok (.iload_n 2, 1) := by decide +kernel
theorem dX6_left_53 : decode cX6_left 53 = .ok (.invokevirtual 166, 3) := by decide +kernel
theorem dX6_left_56 : decode cX6_left 56 = .ok (.iload_n 1, 1) := by decide +kernel
theorem dX6_left_57 : decode cX6_left 57 = .ok (.invokestatic 148, 3) := by decide +kernel
theorem dX6_left_60 : decode cX6_left 60 = .ok (.iload_n 3, 1) := by decide +kernel
theorem dX6_left_61 : decode cX6_left 61 = .ok (.invokestatic 155, 3) := by decide +kernel
theorem dX6_left_64 : decode cX6_left 64 = .ok (.lreturn, 1) := by decide +kernel
theorem dX6_mean_0 : decode cX6_mean 0 = .ok (.iload_n 1, 1) := by decide +kernel
theorem dX6_mean_1 : decode cX6_mean 1 = .ok (.invokestatic 143, 3) := by decide +kernel
theorem dX6_mean_4 : decode cX6_mean 4 = .ok (.ifCond .eq 12, 3) := by decide +kernel
theorem dX6_mean_7 : decode cX6_mean 7 = .ok (.iload_n 2, 1) := by decide +kernel
theorem dX6_mean_8 : decode cX6_mean 8 = .ok (.iconst 0, 1) := by decide +kernel
theorem dX6_mean_9 : decode cX6_mean 9 = .ok (.iconst 1, 1) := by decide +kernel
theorem dX6_mean_10 : decode cX6_mean 10 = .ok (.invokestatic 59, 3) := by decide +kernel
theorem dX6_mean_13 : decode cX6_mean 13 = .ok (.ifCond .ne 7, 3) := by decide +kernel
theorem dX6_mean_16 : decode cX6_mean 16 = .ok (.ldc2_w 146, 3) := by decide +kernel
theorem dX6_mean_19 : decode cX6_mean 19 = .ok (.lreturn, 1) := by decide +kernel
theorem dX6_mean_20 : decode cX6_mean 20 = .ok (.aload_n 0, 1) := by decide +kernel
theorem dX6_mean_21 : decode cX6_mean 21 = .ok (.getfield 37, 3) := by decide +kernel
theorem dX6_mean_24 : decode cX6_mean 24 = .ok (.aload_n 0, 1) := by decide +kernel
theorem dX6_mean_25 : decode cX6_mean 25 = .ok (.getfield 12, 3) := by decide +kernel
theorem dX6_mean_28 : decode cX6_mean 28 = .ok (.invokevirtual 159, 3) := by decide +kernel
theorem dX6_mean_31 : decode cX6_mean 31 = .ok (.aload_n 0, 1) := by decide +kernel
theorem dX6_mean_32 : decode cX6_mean 32 = .ok (.getfield 37, 3) := by decide +kernel
theorem dX6_mean_35 : decode cX6_mean 35 = .ok (.iload_n 1, 1) := by decide +kernel
theorem dX6_mean_36 : decode cX6_mean 36 = .ok (.invokevirtual 162, 3) := by decide +kernel
theorem dX6_mean_39 : decode cX6_mean 39 = .ok (.lconst 0, 1) := by decide +kernel
theorem dX6_mean_40 : decode cX6_mean 40 = .ok (.lstore_n 3, 1) := by decide +kernel
theorem dX6_mean_41 : decode cX6_mean 41 = .ok (.iconst 1, 1) := by decide +kernel
theorem dX6_mean_42 : decode cX6_mean 42 = .ok (.istore 5, 2) := by decide +kernel
theorem dX6_mean_44 : decode cX6_mean 44 = .ok (.iload 5, 2) := by decide +kernel
theorem dX6_mean_46 : decode cX6_mean 46 = .ok (.iconst 3, 1) := by decide +kernel
theorem dX6_mean_47 : decode cX6_mean 47 = .ok (.if_icmp .gt 25, 3) := by decide +kernel
theorem dX6_mean_50 : decode cX6_mean 50 = .ok (.lload_n 3, 1) := by decide +kernel
theorem dX6_mean_51 : decode cX6_mean 51 = .ok (.iload 5, 2) := by decide +kernel
theorem dX6_mean_53 : decode cX6_mean 53 = .ok (.i2l, 1) := by decide +kernel
theorem dX6_mean_54 : decode cX6_mean 54 = .ok (.aload_n 0, 1) := by decide +kernel
theorem dX6_mean_55 : decode cX6_mean 55 = .ok (.getfield 37, 3) := by decide +kernel
theorem dX6_mean_58 : decode cX6_mean 58 = .ok (.iload 5, 2) := by decide +kernel
theorem dX6_mean_60 : decode cX6_mean 60 = .ok (.invokevirtual 166, 3) := by decide +kernel
theorem dX6_mean_63 : decode cX6_mean 63 = .ok (.lmul, 1) := by decide +kernel
theorem dX6_mean_64 : decode cX6_mean 64 = .ok (.ladd, 1) := by decide +kernel
theorem dX6_mean_65 : decode cX6_mean 65 = .ok (.lstore_n 3, 1) := by decide +kernel
theorem dX6_mean_66 : decode cX6_mean 66 = .ok (.iinc 5 1, 3) := by decide +kernel
theorem dX6_mean_69 : decode cX6_mean 69 = .ok (.goto (-25), 3) := by decide +kernel
theorem dX6_mean_72 : decode cX6_mean 72 = .ok (.lload_n 3, 1) := by decide +kernel
theorem dX6_mean_73 : decode cX6_mean 73 = .ok (.iload_n 1, 1) := by decide +kernel
theorem dX6_mean_74 : decode cX6_mean 74 = .ok (.invokestatic 148, 3) := by decide +kernel
theorem dX6_mean_77 : decode cX6_mean 77 = .ok (.iload_n 2, 1) := by decide +kernel
theorem dX6_mean_78 : decode cX6_mean 78 = .ok (.invokestatic 155, 3) := by decide +kernel
theorem dX6_mean_81 : decode cX6_mean 81 = .ok (.lreturn, 1) := by decide +kernel
theorem dX6_sits_0 : decode cX6_sits 0 = .ok (.iload_n 1, 1) := by decide +kernel
theorem dX6_sits_1 : decode cX6_sits 1 = .ok (.iconst 0, 1) := by decide +kernel
theorem dX6_sits_2 : decode cX6_sits 2 = .ok (.aload_n 0, 1) := by decide +kernel
theorem dX6_sits_3 : decode cX6_sits 3 = .ok (.getfield 12, 3) := by decide +kernel
theorem dX6_sits_6 : decode cX6_sits 6 = .ok (.getfield 96, 3) := by decide +kernel
theorem dX6_sits_9 : decode cX6_sits 9 = .ok (.iconst 1, 1) := by decide +kernel
theorem dX6_sits_10 : decode cX6_sits 10 = .ok (.isub, 1) := by decide +kernel
theorem dX6_sits_11 : decode cX6_sits 11 = .ok (.invokestatic 59, 3) := by decide +kernel
theorem dX6_sits_14 : decode cX6_sits 14 = .ok (.ifCond .eq 19, 3) := by decide +kernel
theorem dX6_sits_17 : decode cX6_sits 17 = .ok (.iload_n 2, 1) := by decide +kernel
theorem dX6_sits_18 : decode cX6_sits 18 = .ok (.invokestatic 143, 3) := by decide +kernel
theorem dX6_sits_21 : decode cX6_sits 21 = .ok (.ifCond .eq 12, 3) := by decide +kernel
theorem dX6_sits_24 : decode cX6_sits 24 = .ok (.iload_n 3, 1) := by decide +kernel
theorem dX6_sits_25 : decode cX6_sits 25 = .ok (.iconst 0, 1) := by decide +kernel
theorem dX6_sits_26 : decode cX6_sits 26 = .ok (.iconst 1, 1) := by decide +kernel
theorem dX6_sits_27 : decode cX6_sits 27 = .ok (.invokestatic 59, 3) := by decide +kernel
theorem dX6_sits_30 : decode cX6_sits 30 = .ok (.ifCond .ne 7, 3) := by decide +kernel
theorem dX6_sits_33 : decode cX6_sits 33 = .ok (.ldc2_w 146, 3) := by decide +kernel
theorem dX6_sits_36 : decode cX6_sits 36 = .ok (.lreturn, 1) := by decide +kernel
theorem dX6_sits_37 : decode cX6_sits 37 = .ok (.aload_n 0, 1) := by decide +kernel
theorem dX6_sits_38 : decode cX6_sits 38 = .ok (.getfield 37, 3) := by decide +kernel
theorem dX6_sits_41 : decode cX6_sits 41 = .ok (.aload_n 0, 1) := by decide +kernel
theorem dX6_sits_42 : decode cX6_sits 42 = .ok (.getfield 12, 3) := by decide +kernel
theorem dX6_sits_45 : decode cX6_sits 45 = .ok (.invokevirtual 159, 3) := by decide +kernel
theorem dX6_sits_48 : decode cX6_sits 48 = .ok (.aload_n 0, 1) := by decide +kernel
theorem dX6_sits_49 : decode cX6_sits 49 = .ok (.getfield 37, 3) := by decide +kernel
theorem dX6_sits_52 : decode cX6_sits 52 = .ok (.aload_n 0, 1) := by decide +kernel
theorem dX6_sits_53 : decode cX6_sits 53 = .ok (.getfield 12, 3) := by decide +kernel
theorem dX6_sits_56 : decode cX6_sits 56 = .ok (.getfield 128, 3) := by decide +kernel
theorem dX6_sits_59 : decode cX6_sits 59 = .ok (.iload_n 1, 1) := by decide +kernel
theorem dX6_sits_60 : decode cX6_sits 60 = .ok (.iaload, 1) := by decide +kernel
theorem dX6_sits_61 : decode cX6_sits 61 = .ok (.aload_n 0, 1) := by decide +kernel
theorem dX6_sits_62 : decode cX6_sits 62 = .ok (.getfield 12, 3) := by decide +kernel
theorem dX6_sits_65 : decode cX6_sits 65 = .ok (.getfield 131, 3) := by decide +kernel
theorem dX6_sits_68 : decode cX6_sits 68 = .ok (.iload_n 1, 1) := by decide +kernel
theorem dX6_sits_69 : decode cX6_sits 69 = .ok (.iaload, 1) := by decide +kernel
theorem dX6_sits_70 : decode cX6_sits 70 = .ok (.iload_n 2, 1) := by decide +kernel
theorem dX6_sits_71 : decode cX6_sits 71 = .ok (.iconst 0, 1) := by decide +kernel
theorem dX6_sits_72 : decode cX6_sits 72 = .ok (.invokevirtual 169, 3) := by decide +kernel
theorem dX6_sits_75 : decode cX6_sits 75 = .ok (.iload_n 2, 1) := by decide +kernel
theorem dX6_sits_76 : decode cX6_sits 76 = .ok (.invokestatic 148, 3) := by decide +kernel
theorem dX6_sits_79 : decode cX6_sits 79 = .ok (.iload_n 3, 1) := by decide +kernel
theorem dX6_sits_80 : decode cX6_sits 80 = .ok (.invokestatic 155, 3) := by decide +kernel
theorem dX6_sits_83 : decode cX6_sits 83 = .ok (.lreturn, 1) := by decide +kernel
theorem dX6_best_0 : decode cX6_best 0 = .ok (.iload_n 1, 1) := by decide +kernel
theorem dX6_best_1 : decode cX6_best 1 = .ok (.iconst 0, 1) := by decide +kernel
theorem dX6_best_2 : decode cX6_best 2 = .ok (.aload_n 0, 1) := by decide +kernel
theorem dX6_best_3 : decode cX6_best 3 = .ok (.getfield 12, 3) := by decide +kernel
theorem dX6_best_6 : decode cX6_best 6 = .ok (.getfield 96, 3) := by decide +kernel
theorem dX6_best_9 : decode cX6_best 9 = .ok (.iconst 1, 1) := by decide +kernel
theorem dX6_best_10 : decode cX6_best 10 = .ok (.isub, 1) := by decide +kernel
theorem dX6_best_11 : decode cX6_best 11 = .ok (.invokestatic 59, 3) := by decide +kernel
theorem dX6_best_14 : decode cX6_best 14 = .ok (.ifCond .eq 19, 3) := by decide +kernel
theorem dX6_best_17 : decode cX6_best 17 = .ok (.iload_n 2, 1) := by decide +kernel
theorem dX6_best_18 : decode cX6_best 18 = .ok (.invokestatic 143, 3) := by decide +kernel
theorem dX6_best_21 : decode cX6_best 21 = .ok (.ifCond .eq 12, 3) := by decide +kernel
theorem dX6_best_24 : decode cX6_best 24 = .ok (.iload_n 3, 1) := by decide +kernel
theorem dX6_best_25 : decode cX6_best 25 = .ok (.iconst 0, 1) := by decide +kernel
theorem dX6_best_26 : decode cX6_best 26 = .ok (.iconst 2, 1) := by decide +kernel
theorem dX6_best_27 : decode cX6_best 27 = .ok (.invokestatic 59, 3) := by decide +kernel
theorem dX6_best_30 : decode cX6_best 30 = .ok (.ifCond .ne 7, 3) := by decide +kernel
theorem dX6_best_33 : decode cX6_best 33 = .ok (.ldc2_w 146, 3) := by decide +kernel
theorem dX6_best_36 : decode cX6_best 36 = .ok (.lreturn, 1) := by decide +kernel
theorem dX6_best_37 : decode cX6_best 37 = .ok (.aload_n 0, 1) := by decide +kernel
theorem dX6_best_38 : decode cX6_best 38 = .ok (.iload_n 1, 1) := by decide +kernel
theorem dX6_best_39 : decode cX6_best 39 = .ok (.iload_n 2, 1) := by decide +kernel
theorem dX6_best_40 : decode cX6_best 40 = .ok (.invokevirtual 173, 3) := by decide +kernel
theorem dX6_best_43 : decode cX6_best 43 = .ok (.lstore 4, 2) := by decide +kernel
theorem dX6_best_45 : decode cX6_best 45 = .ok (.iload_n 3, 1) := by decide +kernel
theorem dX6_best_46 : decode cX6_best 46 = .ok (.iconst 2, 1) := by decide +kernel
theorem dX6_best_47 : decode cX6_best 47 = .ok (.if_icmp .ne 16, 3) := by decide +kernel
theorem dX6_best_50 : decode cX6_best 50 = .ok (.lload 4, 2) := by decide +kernel
theorem dX6_best_52 : decode cX6_best 52 = .ok (.lconst 0, 1) := by decide +kernel
theorem dX6_best_53 : decode cX6_best 53 = .ok (.lcmp, 1) := by decide +kernel
theorem dX6_best_54 : decode cX6_best 54 = .ok (.ifCond .le 7, 3) := by decide +kernel
theorem dX6_best_57 : decode cX6_best 57 = .ok (.lconst 1, 1) := by decide +kernel
theorem dX6_best_58 : decode cX6_best 58 = .ok (.goto 4, 3) := by decide +kernel
theorem dX6_best_61 : decode cX6_best 61 = .ok (.lconst 0, 1) := by decide +kernel
theorem dX6_best_62 : decode cX6_best 62 = .ok (.lreturn, 1) := by decide +kernel
theorem dX6_best_63 : decode cX6_best 63 = .ok (.lload 4, 2) := by decide +kernel
theorem dX6_best_65 : decode cX6_best 65 = .ok (.iload_n 2, 1) := by decide +kernel
theorem dX6_best_66 : decode cX6_best 66 = .ok (.invokestatic 148, 3) := by decide +kernel
theorem dX6_best_69 : decode cX6_best 69 = .ok (.iload_n 3, 1) := by decide +kernel
theorem dX6_best_70 : decode cX6_best 70 = .ok (.invokestatic 155, 3) := by decide +kernel
theorem dX6_best_73 : decode cX6_best 73 = .ok (.lreturn, 1) := by decide +kernel
theorem dX6_test_0 : decode cX6_test 0 = .ok (.iload_n 1, 1) := by decide +kernel
theorem dX6_test_1 : decode cX6_test 1 = .ok (.iconst 1, 1) := by decide +kernel
theorem dX6_test_2 : decode cX6_test 2 = .ok (.bipush 9, 2) := by decide +kernel
theorem dX6_test_4 : decode cX6_test 4 = .ok (.invokestatic 59, 3) := by decide +kernel
theorem dX6_test_7 : decode cX6_test 7 = .ok (.ifCond .eq 21, 3) := by decide +kernel
theorem dX6_test_10 : decode cX6_test 10 = .ok (.iload_n 2, 1) := by decide +kernel
theorem dX6_test_11 : decode cX6_test 11 = .ok (.iconst 0, 1) := by decide +kernel
theorem dX6_test_12 : decode cX6_test 12 = .ok (.iconst 4, 1) := by decide +kernel
theorem dX6_test_13 : decode cX6_test 13 = .ok (.invokestatic 59, 3) := by decide +kernel
theorem dX6_test_16 : decode cX6_test 16 = .ok (.ifCond .eq 12, 3) := by decide +kernel
theorem dX6_test_19 : decode cX6_test 19 = .ok (.iload_n 3, 1) := by decide +kernel
theorem dX6_test_20 : decode cX6_test 20 = .ok (.iconst 0, 1) := by decide +kernel
theorem dX6_test_21 : decode cX6_test 21 = .ok (.iconst 1, 1) := by decide +kernel
theorem dX6_test_22 : decode cX6_test 22 = .ok (.invokestatic 59, 3) := by decide +kernel
theorem dX6_test_25 : decode cX6_test 25 = .ok (.ifCond .ne 7, 3) := by decide +kernel
theorem dX6_test_28 : decode cX6_test 28 = .ok (.ldc2_w 146, 3) := by decide +kernel
theorem dX6_test_31 : decode cX6_test 31 = .ok (.lreturn, 1) := by decide +kernel
theorem dX6_test_32 : decode cX6_test 32 = .ok (.aload_n 0, 1) := by decide +kernel
theorem dX6_test_33 : decode cX6_test 33 = .ok (.getfield 37, 3) := by decide +kernel
theorem dX6_test_36 : decode cX6_test 36 = .ok (.aload_n 0, 1) := by decide +kernel
theorem dX6_test_37 : decode cX6_test 37 = .ok (.getfield 12, 3) := by decide +kernel
theorem dX6_test_40 : decode cX6_test 40 = .ok (.invokevirtual 159, 3) := by decide +kernel
theorem dX6_test_43 : decode cX6_test 43 = .ok (.aload_n 0, 1) := by decide +kernel
theorem dX6_test_44 : decode cX6_test 44 = .ok (.getfield 37, 3) := by decide +kernel
theorem dX6_test_47 : decode cX6_test 47 = .ok (.iload_n 1, 1) := by decide +kernel
theorem dX6_test_48 : decode cX6_test 48 = .ok (.putfield 177, 3) := by decide +kernel
theorem dX6_test_51 : decode cX6_test 51 = .ok (.aload_n 0, 1) := by decide +kernel
theorem dX6_test_52 : decode cX6_test 52 = .ok (.getfield 37, 3) := by decide +kernel
theorem dX6_test_55 : decode cX6_test 55 = .ok (.iconst 0, 1) := by decide +kernel
theorem dX6_test_56 : decode cX6_test 56 = .ok (.invokevirtual 178, 3) := by decide +kernel
theorem dX6_test_59 : decode cX6_test 59 = .ok (.aload_n 0, 1) := by decide +kernel
theorem dX6_test_60 : decode cX6_test 60 = .ok (.getfield 37, 3) := by decide +kernel
theorem dX6_test_63 : decode cX6_test 63 = .ok (.aload_n 0, 1) := by decide +kernel
theorem dX6_test_64 : decode cX6_test 64 = .ok (.getfield 12, 3) := by decide +kernel
theorem dX6_test_67 : decode cX6_test 67 = .ok (.getfield 102, 3) := by decide +kernel
theorem dX6_test_70 : decode cX6_test 70 = .ok (.putfield 177, 3) := by decide +kernel
theorem dX6_test_73 : decode cX6_test 73 = .ok (.iconst 1, 1) := by decide +kernel
theorem dX6_test_74 : decode cX6_test 74 = .ok (.istore 4, 2) := by decide +kernel
theorem dX6_test_76 : decode cX6_test 76 = .ok (.iload 4, 2) := by decide +kernel
theorem dX6_test_78 : decode cX6_test 78 = .ok (.iload_n 2, 1) := by decide +kernel
theorem dX6_test_79 : decode cX6_test 79 = .ok (.if_icmp .gt 18, 3) := by decide +kernel
theorem dX6_test_82 : decode cX6_test 82 = .ok (.aload_n 0, 1) := by decide +kernel
theorem dX6_test_83 : decode cX6_test 83 = .ok (.getfield 37, 3) := by decide +kernel
theorem dX6_test_86 : decode cX6_test 86 = .ok (.iload 4, 2) := by decide +kernel
theorem dX6_test_88 : decode cX6_test 88 = .ok (.invokevirtual 178, 3) := by decide +kernel
theorem dX6_test_91 : decode cX6_test 91 = .ok (.iinc 4 1, 3) := by decide +kernel
theorem dX6_test_94 : decode cX6_test 94 = .ok (.goto (-18), 3) := by decide +kernel
theorem dX6_test_97 : decode cX6_test 97 = .ok (.aload_n 0, 1) := by decide +kernel
theorem dX6_test_98 : decode cX6_test 98 = .ok (.getfield 37, 3) := by decide +kernel
theorem dX6_test_101 : decode cX6_test 101 = .ok (.invokevirtual 181, 3) := by decide +kernel
theorem dX6_test_104 : decode cX6_test 104 = .ok (.iload_n 2, 1) := by decide +kernel
theorem dX6_test_105 : decode cX6_test 105 = .ok (.iconst 1, 1) := by decide +kernel
theorem dX6_test_106 : decode cX6_test 106 = .ok (.iadd, 1) := by decide +kernel
theorem dX6_test_107 : decode cX6_test 107 = .ok (.invokestatic 148, 3) := by decide +kernel
theorem dX6_test_110 : decode cX6_test 110 = .ok (.iload_n 3, 1) := by decide +kernel
theorem dX6_test_111 : decode cX6_test 111 = .ok (.invokestatic 155, 3) := by decide +kernel
theorem dX6_test_114 : decode cX6_test 114 = .ok (.lreturn, 1) := by decide +kernel
/-- what holds behind N HOURS, of 1000 ^ N -/
def hdR (r : rT) (N : Nat) : Nat := sm (not0 (sh (oqR r) (one (r 6 3)) N)) 8
theorem hdR_le {r : rT} (h : rOK r) (N : Nat) : hdR r N + sh (oqR r) (one (r 6 3)) N 0 = 1000 ^ N := by rw [hdR, not0_sum, sh1_sum _ h.w]
def gnR (r : rT) (k N : Nat) (sees : Prop) [Decidable sees] : Int64 := gg (oqR r) (nI (r 2 k)).toInt64 (-nI (r 3 k)).toInt64 sees (r 6 3) N N (r 6 3)
/-- the LAWS' hours, worth -/
def lwH (r : rT) (s : Nat) : Nat → Nat
  | 0 => 0
  | l + 1 => lwH r s l + if bit s l = 1 then r 4 l else 0
def lwS (r : rT) (hb : Nat → Nat) (s : Nat) : Nat → Nat
  | 0 => 0
  | l + 1 => lwS r hb s l + if bit s l = 1 ∧ lwH r s (l + 1) ≤ 5 then r 5 l * hb (lwH r s (l + 1)) else 0
theorem lwH_le {r : rT} (h : ∀ i, r 4 i ≤ 5) (s : Nat) : ∀ l, lwH r s l ≤ 5 * l
  | 0 => Nat.le_refl _
  | l + 1 => by have := lwH_le h s l; have := h l; simp only [lwH]; split <;> omega
/-- SEEN taken into account; before HOUR t's -/
def sf (a b : Nat → Nat) (t : Nat) (x : Nat → Nat) : Nat → Nat → Nat
  | 0 => x
  | j + 1 => if a j = t then only (b j) (sf a b t x j) else sf a b t x j
def lk (q : rT) (a b : Nat → Nat) (m w : Nat) : Nat → Nat → Nat
  | 0 => one w
  | t + 1 => acc q (sf a b t (lk q a b m w t) m) t 8
def lkA (q : rT) (a b : Nat → Nat) (m w : Nat) : Nat := sm (sf a b (mxs a m) (lk q a b m w (mxs a m)) m) 8
theorem lk_c {q q' : rT} (h : ten q = ten q') (a b : Nat → Nat) (m w : Nat) : ∀ t, lk q a b m w t = lk q' a b m w t
  | 0 => rfl
  | t + 1 => by
    rw [lk, lk, lk_c h a b m w t]
    exact funext (acc_c h _ t 8)
def nqq (k m l : Nat) : rT := oq (fun _ => k) (fun _ => 0) l (2 ^ m - 1)
set_option maxRecDepth 100000 in
set_option maxHeartbeats 4000000 in
theorem mX6_heldFromNow (rs : Nat → rT) (v : Nat → Nat → Nat) (q : rT) (x : Nat → Nat) (n : Nat → Int64) (u : uT) (c : Nat → Nat → Int32) (l : Nat → Int32) (tn : Int32) (N : Nat) (hN : N ≤ 5) (hr : rOK (rs 0)) : J KX6_heldFromNow 62 (fun o B => o = some (.long (lN (hdR (rs 0) N))) ∧ ∃ q9 x9 n9 u9, B = wC rs v q9 x9 n9 u9 c l tn) 0 [some (.ref 0), some (.int (nI N))] [] (wC rs v q x n u c l tn) 0 0 := by
  refine J.aload_n dX6_heldFromNow_0 rfl rfl ?_
  refine J.getfield dX6_heldFromNow_1 jFX6_37 rfl rfl ?_
  refine J.aload_n dX6_heldFromNow_4 rfl rfl ?_
  refine J.getfield dX6_heldFromNow_5 jFX6_12 rfl rfl ?_
  refine J.cv (as := [.ref 9]) (is := [27, 28, 29, 30, 31, 32, 33, 34, 35, 1, 2, 3, 4, 5, 6, 7]) (o := 0) okX0_take jcX6_159 (mX0_take q x n u (rs 0) hr.w) dX6_heldFromNow_8 rfl rfl rfl rfl rfl rfl rfl (fun r9 B9 hq => ?_)
  obtain ⟨rfl, rfl⟩ := hq
  refine ⟨rfl, ?_⟩
  show J _ _ _ _ _ [] (wC rs v (otake q (rs 0)) (one (rs 0 6 3)) n u c l tn) _ _
  refine J.aload_n dX6_heldFromNow_11 rfl rfl ?_
  refine J.getfield dX6_heldFromNow_12 jFX6_37 rfl rfl ?_
  refine J.iload_n dX6_heldFromNow_15 rfl rfl ?_
  refine J.cv (as := [.int _]) (is := [27, 28, 29, 30, 31, 32, 33, 34, 35]) (o := 0) okX0_passHours jcX6_162 (mX0_passHours (otake q (rs 0)) (one (rs 0 6 3)) n u N (hr.o q) (by omega)) dX6_heldFromNow_16 rfl rfl rfl rfl rfl rfl rfl (fun r9 B9 hq9 => ?_)
  obtain ⟨rfl, g9, n9, rfl⟩ := hq9
  refine ⟨rfl, ?_⟩
  show J _ _ _ _ _ [] (wC rs v (rrow (otake q (rs 0)) 2 g9) (sh (otake q (rs 0)) (one (rs 0 6 3)) N) n9 u c l tn) _ _
  refine J.aload_n dX6_heldFromNow_19 rfl rfl ?_
  refine J.getfield dX6_heldFromNow_20 jFX6_37 rfl rfl ?_
  refine J.cv (as := []) (is := [27, 28, 29, 30, 31, 32, 33, 34, 35]) (o := 0) okX0_held jcX6_181 (mX0_held (rrow (otake q (rs 0)) 2 g9) (sh (otake q (rs 0)) (one (rs 0 6 3)) N) n9 u) dX6_heldFromNow_23 rfl rfl rfl rfl rfl rfl rfl (fun r9 B9 hq => ?_)
  obtain ⟨rfl, rfl⟩ := hq
  refine ⟨rfl, ?_⟩
  show J _ _ _ _ _ (.long _ :: _) (wC rs v (rrow (otake q (rs 0)) 2 g9) (sh (otake q (rs 0)) (one (rs 0 6 3)) N) n9 u c l tn) _ _
  exact J.lret dX6_heldFromNow_26 rfl (Nat.le_refl _) (Nat.le_refl _) ⟨congrArg (fun z => some (Value.long z)) (congrArg (fun z => lN (sm (not0 z) 8)) (sh_c (ten_take q (rs 0)) _ N)), _, _, _, _, rfl⟩
set_option maxRecDepth 100000 in
set_option maxHeartbeats 4000000 in
theorem mX6_seeingGain (rs : Nat → rT) (v : Nat → Nat → Nat) (q : rT) (x : Nat → Nat) (n : Nat → Int64) (u : uT) (c : Nat → Nat → Int32) (l : Nat → Int32) (tn : Int32) (k N : Nat) (hk : k < 4) (hN : N ≤ 5) (hr : rOK (rs 0)) : J KX6_seeingGain 62 (fun o B => o = some (.long (gnR (rs 0) k N True)) ∧ ∃ q9 x9 n9 u9, B = wC rs v q9 x9 n9 u9 c l tn) 0 [some (.ref 0), some (.int (nI k)), some (.int (nI N))] [] (wC rs v q x n u c l tn) 0 0 := by
  refine J.aload_n dX6_seeingGain_0 rfl rfl ?_
  refine J.getfield dX6_seeingGain_1 jFX6_37 rfl rfl ?_
  refine J.aload_n dX6_seeingGain_4 rfl rfl ?_
  refine J.getfield dX6_seeingGain_5 jFX6_12 rfl rfl ?_
  refine J.cv (as := [.ref 9]) (is := [27, 28, 29, 30, 31, 32, 33, 34, 35, 1, 2, 3, 4, 5, 6, 7]) (o := 0) okX0_take jcX6_159 (mX0_take q x n u (rs 0) hr.w) dX6_seeingGain_8 rfl rfl rfl rfl rfl rfl rfl (fun r9 B9 hq => ?_)
  obtain ⟨rfl, rfl⟩ := hq
  refine ⟨rfl, ?_⟩
  show J _ _ _ _ _ [] (wC rs v (otake q (rs 0)) (one (rs 0 6 3)) n u c l tn) _ _
  refine J.aload_n dX6_seeingGain_11 rfl rfl ?_
  refine J.getfield dX6_seeingGain_12 jFX6_37 rfl rfl ?_
  refine J.aload_n dX6_seeingGain_15 rfl rfl ?_
  refine J.getfield dX6_seeingGain_16 jFX6_12 rfl rfl ?_
  refine J.getfield dX6_seeingGain_19 jFX6_128 rfl rfl ?_
  refine J.iload_n dX6_seeingGain_22 rfl rfl ?_
  refine J.ialoadN dX6_seeingGain_23 rfl (show k < 4 by omega) ?_
  refine J.aload_n dX6_seeingGain_24 rfl rfl ?_
  refine J.getfield dX6_seeingGain_25 jFX6_12 rfl rfl ?_
  refine J.getfield dX6_seeingGain_28 jFX6_131 rfl rfl ?_
  refine J.iload_n dX6_seeingGain_31 rfl rfl ?_
  refine J.ialoadN dX6_seeingGain_32 rfl (show k < 4 by omega) ?_
  refine J.iload_n dX6_seeingGain_33 rfl rfl ?_
  refine J.iconst (1) dX6_seeingGain_34 (by decide) ?_
  refine J.cv (as := [.int _, .int _, .int _, .int _]) (is := [27, 28, 29, 30, 31, 32, 33, 34, 35]) (o := 0) okX0_sitting jcX6_169 (mX0_sitting (otake q (rs 0)) (one (rs 0 6 3)) n u (rs 0 2 k) (rs 0 3 k) True inferInstance N (hr.o q) (by omega)) dX6_seeingGain_35 rfl rfl rfl rfl rfl rfl rfl (fun r9 B9 hq9 => ?_)
  obtain ⟨rfl, g9, f9, rfl⟩ := hq9
  refine ⟨rfl, ?_⟩
  show J _ _ _ _ _ (.long _ :: _) (wC rs v (rrow (otake q (rs 0)) 2 g9) (one (rs 0 6 3)) n (urow u 0 f9) c l tn) _ _
  exact J.lret dX6_seeingGain_38 rfl (Nat.le_refl _) (Nat.le_refl _) ⟨congrArg (fun z => some (Value.long z)) (gg_c (ten_take q (rs 0)) _ _ _ _ N N _), _, _, _, _, rfl⟩
set_option maxRecDepth 100000 in
set_option maxHeartbeats 4000000 in
theorem mX6_worthOfLaws_l (rs : Nat → rT) (v : Nat → Nat → Nat) (q : rT) (x : Nat → Nat) (n : Nat → Int64) (u : uT) (c : Nat → Nat → Int32) (l : Nat → Int32) (tn : Int32) (hb : Nat → Nat) (s : Nat) (hs : s < 8) (hr : rOK (rs 0)) : ∀ (k9 i : Nat), i + k9 = rs 0 6 2 → J KX6_worthOfLaws 62 (fun o B => o = some (.long (lN (lwS (rs 0) hb s (rs 0 6 2)))) ∧ B = (wC rs v q x n (urow u 2 (fun t => lN (hb t))) c l tn)) 8 [some (.ref 0), some (.int (nI s)), some (.long (lN (lwS (rs 0) hb s i))), none, some (.int (nI (lwH (rs 0) s i))), some (.int (nI i))] [] (wC rs v q x n (urow u 2 (fun t => lN (hb t))) c l tn) 0 0 := by
  intro k9
  induction k9 with
  | zero =>
    intro i hi
    obtain hiN : i = rs 0 6 2 := by omega
    subst hiN
    refine J.iload dX6_worthOfLaws_8 rfl ?_
    refine J.aload_n dX6_worthOfLaws_10 rfl rfl ?_
    refine J.getfield dX6_worthOfLaws_11 jFX6_12 rfl rfl ?_
    refine J.getfield dX6_worthOfLaws_14 jFX6_99 rfl rfl ?_
    refine J.icmp_ge (tgt := 86) dX6_worthOfLaws_17 (by decide) (fun c17 => ?_) (fun c17 => absurd c17 (fun h => h (Int32.le_refl _)))
    refine J.lload_n dX6_worthOfLaws_86 rfl rfl ?_
    exact J.lret dX6_worthOfLaws_87 rfl (Nat.le_refl _) (Nat.le_refl _) ⟨rfl, rfl⟩
  | succ k9 ih =>
    intro i hi
    have hiN : i < rs 0 6 2 := by omega
    refine J.iload dX6_worthOfLaws_8 rfl ?_
    refine J.aload_n dX6_worthOfLaws_10 rfl rfl ?_
    refine J.getfield dX6_worthOfLaws_11 jFX6_12 rfl rfl ?_
    refine J.getfield dX6_worthOfLaws_14 jFX6_99 rfl rfl ?_
    refine J.icmp_ge (tgt := 86) dX6_worthOfLaws_17 (by decide) (fun c17 => absurd c17 (nI_ge hiN (by have := hr.2.2.1; omega))) (fun c17 => ?_)
    refine J.iload_n dX6_worthOfLaws_20 rfl rfl ?_
    refine J.iload dX6_worthOfLaws_21 rfl ?_
    refine J.ishr dX6_worthOfLaws_23 ?_
    refine J.iconst (1) dX6_worthOfLaws_24 (by decide) ?_
    refine J.iand dX6_worthOfLaws_25 ?_
    refine J.iconst (1) dX6_worthOfLaws_26 (by decide) ?_
    rw [bit_eval s hs i (by have := hr.2.2.1; omega)]
    refine J.icmp_ne (tgt := 80) dX6_worthOfLaws_27 (by decide) (fun c27 => ?_) (fun c27 => ?_)
    · refine J.iinc (1) dX6_worthOfLaws_80 (by decide) rfl (by decide) rfl ?_
      try dsimp only [List.set]
      refine J.goto (tgt := 8) dX6_worthOfLaws_83 (by decide) ?_
      have h1 : lwH (rs 0) s (i + 1) = lwH (rs 0) s i := congrArg (lwH (rs 0) s i + ·) (if_neg (show ¬ bit s i = 1 from fun h9 => c27 (by rw [h9] <;> rfl)))
      have h2 : lwS (rs 0) hb s (i + 1) = lwS (rs 0) hb s i := congrArg (lwS (rs 0) hb s i + ·) (if_neg (fun h9 => absurd h9.1 (show ¬ bit s i = 1 from fun h9 => c27 (by rw [h9] <;> rfl))))
      exact J.at (ih (i + 1) (by omega)) (by rw [h1, h2, ← nI_1]) rfl rfl
    · refine J.iload dX6_worthOfLaws_30 rfl ?_
      refine J.aload_n dX6_worthOfLaws_32 rfl rfl ?_
      refine J.getfield dX6_worthOfLaws_33 jFX6_12 rfl rfl ?_
      refine J.getfield dX6_worthOfLaws_36 jFX6_134 rfl rfl ?_
      refine J.iload dX6_worthOfLaws_39 rfl ?_
      refine J.ialoadN dX6_worthOfLaws_41 rfl (show i < 3 by have := hr.2.2.1; omega) ?_
      refine J.iadd dX6_worthOfLaws_42 ?_
      rw [nI_add]
      refine J.istore dX6_worthOfLaws_43 (by decide) rfl ?_
      try dsimp only [List.set]
      refine J.lload_n dX6_worthOfLaws_45 rfl rfl ?_
      refine J.iload dX6_worthOfLaws_46 rfl ?_
      refine J.iconst (5) dX6_worthOfLaws_48 (by decide) ?_
      refine J.icmp_gt (tgt := 77) dX6_worthOfLaws_49 (by decide) (fun c49 => ?_) (fun c49 => ?_)
      · have hgt : ¬ lwH (rs 0) s i + rs 0 4 i ≤ 5 := fun h9 => absurd ((nI_lti (a := 5) (b := lwH (rs 0) s i + rs 0 4 i) (by decide) (by have := lwH_le hr.2.2.2.2.2.2.2.2.2.2.2.2.1 s i; have := hr.2.2.2.2.2.2.2.2.2.2.2.2.1 i; have := hr.2.2.1; omega)).mp c49) (by omega)
        refine J.lconst 0 dX6_worthOfLaws_77 (by decide) ?_
        refine J.ladd dX6_worthOfLaws_78 ?_
        refine J.lstore_n dX6_worthOfLaws_79 rfl (by decide) rfl ?_
        try dsimp only [List.set]
        refine J.iinc (1) dX6_worthOfLaws_80 (by decide) rfl (by decide) rfl ?_
        try dsimp only [List.set]
        refine J.goto (tgt := 8) dX6_worthOfLaws_83 (by decide) ?_
        have h1 : lwH (rs 0) s (i + 1) = lwH (rs 0) s i + rs 0 4 i := congrArg (lwH (rs 0) s i + ·) (if_pos (show bit s i = 1 from (nI_eqi (b := 1) (by have := bit_le s i; omega) (by decide)).mp c27))
        have h2 : lwS (rs 0) hb s (i + 1) = lwS (rs 0) hb s i := congrArg (lwS (rs 0) hb s i + ·) (if_neg (fun h9 => hgt (by rw [← h1]; exact h9.2)))
        exact J.at (ih (i + 1) (by omega)) (by rw [h1, h2, ← nI_1, Int64.add_zero]) rfl rfl
      · have hle : lwH (rs 0) s i + rs 0 4 i ≤ 5 := Nat.le_of_not_lt (fun h9 => c49 ((nI_lti (a := 5) (b := lwH (rs 0) s i + rs 0 4 i) (by decide) (by have := lwH_le hr.2.2.2.2.2.2.2.2.2.2.2.2.1 s i; have := hr.2.2.2.2.2.2.2.2.2.2.2.2.1 i; have := hr.2.2.1; omega)).mpr h9))
        refine J.aload_n dX6_worthOfLaws_52 rfl rfl ?_
        refine J.getfield dX6_worthOfLaws_53 jFX6_12 rfl rfl ?_
        refine J.getfield dX6_worthOfLaws_56 jFX6_137 rfl rfl ?_
        refine J.iload dX6_worthOfLaws_59 rfl ?_
        refine J.ialoadN dX6_worthOfLaws_61 rfl (show i < 3 by have := hr.2.2.1; omega) ?_
        refine J.i2l dX6_worthOfLaws_62 ?_
        refine J.aload_n dX6_worthOfLaws_63 rfl rfl ?_
        refine J.getfield dX6_worthOfLaws_64 jFX6_37 rfl rfl ?_
        refine J.getfield dX6_worthOfLaws_67 jFX6_274 rfl rfl ?_
        refine J.iload dX6_worthOfLaws_70 rfl ?_
        refine J.laloadN dX6_worthOfLaws_72 rfl (show lwH (rs 0) s i + rs 0 4 i < 6 from Nat.lt_succ_of_le hle) ?_
        rw [nI_l (by have := hr.2.2.2.2.2.2.2.2.2.2.2.2.2 i; omega), show urow u 2 (fun t => lN (hb t)) 2 (lwH (rs 0) s i + rs 0 4 i) = lN (hb (lwH (rs 0) s i + rs 0 4 i)) from rfl]
        refine J.lmul dX6_worthOfLaws_73 ?_
        rw [lN_mul]
        refine J.goto (tgt := 78) dX6_worthOfLaws_74 (by decide) ?_
        refine J.ladd dX6_worthOfLaws_78 ?_
        refine J.lstore_n dX6_worthOfLaws_79 rfl (by decide) rfl ?_
        try dsimp only [List.set]
        refine J.iinc (1) dX6_worthOfLaws_80 (by decide) rfl (by decide) rfl ?_
        try dsimp only [List.set]
        refine J.goto (tgt := 8) dX6_worthOfLaws_83 (by decide) ?_
        have h1 : lwH (rs 0) s (i + 1) = lwH (rs 0) s i + rs 0 4 i := congrArg (lwH (rs 0) s i + ·) (if_pos (show bit s i = 1 from (nI_eqi (b := 1) (by have := bit_le s i; omega) (by decide)).mp c27))
        have h2 : lwS (rs 0) hb s (i + 1) = lwS (rs 0) hb s i + rs 0 5 i * hb (lwH (rs 0) s i + rs 0 4 i) := (congrArg (lwS (rs 0) hb s i + ·) (if_pos ⟨(show bit s i = 1 from (nI_eqi (b := 1) (by have := bit_le s i; omega) (by decide)).mp c27), by rw [h1]; exact hle⟩)).trans (by rw [h1])
        exact J.at (ih (i + 1) (by omega)) (by rw [h1, h2, ← nI_1, ← lN_add]) rfl rfl
set_option maxRecDepth 100000 in
set_option maxHeartbeats 4000000 in
theorem mX6_worthOfLaws (rs : Nat → rT) (v : Nat → Nat → Nat) (q : rT) (x : Nat → Nat) (n : Nat → Int64) (u : uT) (c : Nat → Nat → Int32) (l : Nat → Int32) (tn : Int32) (hb : Nat → Nat) (s : Nat) (hs : s < 8) (hr : rOK (rs 0)) : J KX6_worthOfLaws 62 (fun o B => o = some (.long (lN (lwS (rs 0) hb s (rs 0 6 2)))) ∧ B = (wC rs v q x n (urow u 2 (fun t => lN (hb t))) c l tn)) 0 [some (.ref 0), some (.int (nI s)), none, none, none, none] [] (wC rs v q x n (urow u 2 (fun t => lN (hb t))) c l tn) 0 0 := by
  refine J.lconst 0 dX6_worthOfLaws_0 (by decide) ?_
  refine J.lstore_n dX6_worthOfLaws_1 rfl (by decide) rfl ?_
  try dsimp only [List.set]
  refine J.iconst (0) dX6_worthOfLaws_2 (by decide) ?_
  refine J.istore dX6_worthOfLaws_3 (by decide) rfl ?_
  try dsimp only [List.set]
  refine J.iconst (0) dX6_worthOfLaws_5 (by decide) ?_
  refine J.istore dX6_worthOfLaws_6 (by decide) rfl ?_
  try dsimp only [List.set]
  exact J.at (mX6_worthOfLaws_l rs v q x n u c l tn hb s hs hr (rs 0 6 2) 0 (by omega)) rfl rfl rfl
