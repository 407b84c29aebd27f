/-! ===== the reference: what there is, what is changed ===== -/
theorem dX7_hair_0 : decode cX7_hair 0 = .ok (.aload_n 0, 1) := by decide +kernel
theorem dX7_hair_1 : decode cX7_hair 1 = .ok (.iload_n 1, 1) := by decide +kernel
theorem dX7_hair_2 : decode cX7_hair 2 = .ok (.invokevirtual 192, 3) := by decide +kernel
theorem dX7_hair_5 : decode cX7_hair 5 = .ok (.ifCond .ne 5, 3) := by decide +kernel
theorem dX7_hair_8 : decode cX7_hair 8 = .ok (.iconst (-1), 1) := by decide +kernel
theorem dX7_hair_9 : decode cX7_hair 9 = .ok (.ireturn, 1) := by decide +kernel
theorem dX7_hair_10 : decode cX7_hair 10 = .ok (.aload_n 0, 1) := by decide +kernel
theorem dX7_hair_11 : decode cX7_hair 11 = .ok (.invokevirtual 196, 3) := by decide +kernel
theorem dX7_hair_14 : decode cX7_hair 14 = .ok (.iload_n 2, 1) := by decide +kernel
theorem dX7_hair_15 : decode cX7_hair 15 = .ok (.tableswitch 82 0 3 #[29, 29, 40, 53], 29) := by decide +kernel
theorem dX7_hair_44 : decode cX7_hair 44 = .ok (.aload_n 0, 1) := by decide +kernel
theorem dX7_hair_45 : decode cX7_hair 45 = .ok (.getfield 7, 3) := by decide +kernel
theorem dX7_hair_48 : decode cX7_hair 48 = .ok (.iconst 3, 1) := by decide +kernel
theorem dX7_hair_49 : decode cX7_hair 49 = .ok (.iload_n 1, 1) := by decide +kernel
theorem dX7_hair_50 : decode cX7_hair 50 = .ok (.imul, 1) := by decide +kernel
theorem dX7_hair_51 : decode cX7_hair 51 = .ok (.iload_n 2, 1) := by decide +kernel
theorem dX7_hair_52 : decode cX7_hair 52 = .ok (.iadd, 1) := by decide +kernel
theorem dX7_hair_53 : decode cX7_hair 53 = .ok (.iaload, 1) := by decide +kernel
theorem dX7_hair_54 : decode cX7_hair 54 = .ok (.ireturn, 1) := by decide +kernel
theorem dX7_hair_55 : decode cX7_hair 55 = .ok (.iconst 1, 1) := by decide +kernel
theorem dX7_hair_56 : decode cX7_hair 56 = .ok (.aload_n 0, 1) := by decide +kernel
theorem dX7_hair_57 : decode cX7_hair 57 = .ok (.getfield 7, 3) := by decide +kernel
theorem dX7_hair_60 : decode cX7_hair 60 = .ok (.iconst 3, 1) := by decide +kernel
theorem dX7_hair_61 : decode cX7_hair 61 = .ok (.iload_n 1, 1) := by decide +kernel
theorem dX7_hair_62 : decode cX7_hair 62 = .ok (.imul, 1) := by decide +kernel
theorem dX7_hair_63 : decode cX7_hair 63 = .ok (.iconst 2, 1) := by decide +kernel
theorem dX7_hair_64 : decode cX7_hair 64 = .ok (.iadd, 1) := by decide +kernel
theorem dX7_hair_65 : decode cX7_hair 65 = .ok (.iaload, 1) := by decide +kernel
theorem dX7_hair_66 : decode cX7_hair 66 = .ok (.isub, 1) := by decide +kernel
theorem dX7_hair_67 : decode cX7_hair 67 = .ok (.ireturn, 1) := by decide +kernel
theorem dX7_hair_68 : decode cX7_hair 68 = .ok (.aload_n 0, 1) := by decide +kernel
theorem dX7_hair_69 : decode cX7_hair 69 = .ok (.getfield 7, 3) := by decide +kernel
theorem dX7_hair_72 : decode cX7_hair 72 = .ok (.iconst 3, 1) := by decide +kernel
theorem dX7_hair_73 : decode cX7_hair 73 = .ok (.iload_n 1, 1) := by decide +kernel
theorem dX7_hair_74 : decode cX7_hair 74 = .ok (.imul, 1) := by decide +kernel
theorem dX7_hair_75 : decode cX7_hair 75 = .ok (.iconst 2, 1) := by decide +kernel
theorem dX7_hair_76 : decode cX7_hair 76 = .ok (.iadd, 1) := by decide +kernel
theorem dX7_hair_77 : decode cX7_hair 77 = .ok (.iaload, 1) := by decide +kernel
theorem dX7_hair_78 : decode cX7_hair 78 = .ok (.iconst 1, 1) := by decide +kernel
theorem dX7_hair_79 : decode cX7_hair 79 = .ok (.if_icmp .ne 7, 3) := by decide +kernel
theorem dX7_hair_82 : decode cX7_hair 82 = .ok (.iconst 0, 1) := by decide +kernel
theorem dX7_hair_83 : decode cX7_hair 83 = .ok (.goto 13, 3) := by decide +kernel
theorem dX7_hair_86 : decode cX7_hair 86 = .ok (.aload_n 0, 1) := by decide +kernel
theorem dX7_hair_87 : decode cX7_hair 87 = .ok (.iload_n 1, 1) := by decide +kernel
theorem dX7_hair_88 : decode cX7_hair 88 = .ok (.iconst 0, 1) := by decide +kernel
theorem dX7_hair_89 : decode cX7_hair 89 = .ok (.aload_n 0, 1) := by decide +kernel
theorem dX7_hair_90 : decode cX7_hair 90 = .ok (.getfield 183, 3) := by decide +kernel
theorem dX7_hair_93 : decode cX7_hair 93 = .ok (.invokevirtual 199, 3) := by decide +kernel
theorem dX7_hair_96 : decode cX7_hair 96 = .ok (.ireturn, 1) := by decide +kernel
theorem dX7_hair_97 : decode cX7_hair 97 = .ok (.iconst (-1), 1) := by decide +kernel
theorem dX7_hair_98 : decode cX7_hair 98 = .ok (.ireturn, 1) := by decide +kernel
theorem dX7_king_0 : decode cX7_king 0 = .ok (.aload_n 0, 1) := by decide +kernel
theorem dX7_king_1 : decode cX7_king 1 = .ok (.iload_n 1, 1) := by decide +kernel
theorem dX7_king_2 : decode cX7_king 2 = .ok (.invokevirtual 203, 3) := by decide +kernel
theorem dX7_king_5 : decode cX7_king 5 = .ok (.ifCond .eq 29, 3) := by decide +kernel
theorem dX7_king_8 : decode cX7_king 8 = .ok (.iload_n 2, 1) := by decide +kernel
theorem dX7_king_9 : decode cX7_king 9 = .ok (.i2l, 1) := by decide +kernel
theorem dX7_king_10 : decode cX7_king 10 = .ok (.lconst 0, 1) := by decide +kernel
theorem dX7_king_11 : decode cX7_king 11 = .ok (.lconst 1, 1) := by decide +kernel
theorem dX7_king_12 : decode cX7_king 12 = .ok (.invokestatic 74, 3) := by decide +kernel
theorem dX7_king_15 : decode cX7_king 15 = .ok (.ifCond .eq 19, 3) := by decide +kernel
theorem dX7_king_18 : decode cX7_king 18 = .ok (.aload_n 0, 1) := by decide +kernel
theorem dX7_king_19 : decode cX7_king 19 = .ok (.getfield 7, 3) := by decide +kernel
theorem dX7_king_22 : decode cX7_king 22 = .ok (.bipush 10, 2) := by decide +kernel
theorem dX7_king_24 : decode cX7_king 24 = .ok (.iconst 2, 1) := by decide +kernel
theorem dX7_king_25 : decode cX7_king 25 = .ok (.iload_n 1, 1) := by decide +kernel
theorem dX7_king_26 : decode cX7_king 26 = .ok (.imul, 1) := by decide +kernel
theorem dX7_king_27 : decode cX7_king 27 = .ok (.iadd, 1) := by decide +kernel
theorem dX7_king_28 : decode cX7_king 28 = .ok (.iload_n 2, 1) := by decide +kernel
theorem dX7_king_29 : decode cX7_king 29 = .ok (.iadd, 1) := by decide +kernel
theorem dX7_king_30 : decode cX7_king 30 = .ok (.iaload, 1) := by decide +kernel
theorem dX7_king_31 : decode cX7_king 31 = .ok (.goto 4, 3) := by decide +kernel
theorem dX7_king_34 : decode cX7_king 34 = .ok (.iconst (-1), 1) := by decide +kernel
theorem dX7_king_35 : decode cX7_king 35 = .ok (.ireturn, 1) := by decide +kernel
theorem dX7_law_0 : decode cX7_law 0 = .ok (.iload_n 1, 1) := by decide +kernel
theorem dX7_law_1 : decode cX7_law 1 = .ok (.i2l, 1) := by decide +kernel
theorem dX7_law_2 : decode cX7_law 2 = .ok (.lconst 0, 1) := by decide +kernel
theorem dX7_law_3 : decode cX7_law 3 = .ok (.aload_n 0, 1) := by decide +kernel
theorem dX7_law_4 : decode cX7_law 4 = .ok (.getfield 165, 3) := by decide +kernel
theorem dX7_law_7 : decode cX7_law 7 = .ok (.iconst 1, 1) := by decide +kernel
theorem dX7_law_8 : decode cX7_law 8 = .ok (.isub, 1) := by decide +kernel
theorem dX7_law_9 : decode cX7_law 9 = .ok (.i2l, 1) := by decide +kernel
theorem dX7_law_10 : decode cX7_law 10 = .ok (.invokestatic 74, 3) := by decide +kernel
theorem dX7_law_13 : decode cX7_law 13 = .ok (.ifCond .eq 26, 3) := by decide +kernel
theorem dX7_law_16 : decode cX7_law 16 = .ok (.iload_n 2, 1) := by decide +kernel
theorem dX7_law_17 : decode cX7_law 17 = .ok (.i2l, 1) := by decide +kernel
theorem dX7_law_18 : decode cX7_law 18 = .ok (.lconst 0, 1) := by decide +kernel
theorem dX7_law_19 : decode cX7_law 19 = .ok (.lconst 1, 1) := by decide +kernel
theorem dX7_law_20 : decode cX7_law 20 = .ok (.invokestatic 74, 3) := by decide +kernel
theorem dX7_law_23 : decode cX7_law 23 = .ok (.ifCond .eq 16, 3) := by decide +kernel
theorem dX7_law_26 : decode cX7_law 26 = .ok (.aload_n 0, 1) := by decide +kernel
theorem dX7_law_27 : decode cX7_law 27 = .ok (.getfield 13, 3) := by decide +kernel
theorem dX7_law_30 : decode cX7_law 30 = .ok (.iconst 2, 1) := by decide +kernel
theorem dX7_law_31 : decode cX7_law 31 = .ok (.iload_n 1, 1) := by decide +kernel
theorem dX7_law_32 : decode cX7_law 32 = .ok (.imul, 1) := by decide +kernel
theorem dX7_law_33 : decode cX7_law 33 = .ok (.iload_n 2, 1) := by decide +kernel
theorem dX7_law_34 : decode cX7_law 34 = .ok (.iadd, 1) := by decide +kernel
theorem dX7_law_35 : decode cX7_law 35 = .ok (.iaload, 1) := by decide +kernel
theorem dX7_law_36 : decode cX7_law 36 = .ok (.goto 4, 3) := by decide +kernel
theorem dX7_law_39 : decode cX7_law 39 = .ok (.iconst (-1), 1) := by decide +kernel
theorem dX7_law_40 : decode cX7_law 40 = .ok (.ireturn, 1) := by decide +kernel
theorem dX7_puts_0 : decode cX7_puts 0 = .ok (.iload_n 1, 1) := by decide +kernel
theorem dX7_puts_1 : decode cX7_puts 1 = .ok (.ifCond .ne 5, 3) := by decide +kernel
theorem dX7_puts_4 : decode cX7_puts 4 = .ok (.iconst (-1), 1) := by decide +kernel
theorem dX7_puts_5 : decode cX7_puts 5 = .ok (.ireturn, 1) := by decide +kernel
theorem dX7_puts_6 : decode cX7_puts 6 = .ok (.aload_n 0, 1) := by decide +kernel
theorem dX7_puts_7 : decode cX7_puts 7 = .ok (.getfield 7, 3) := by decide +kernel
theorem dX7_puts_10 : decode cX7_puts 10 = .ok (.iload_n 2, 1) := by decide +kernel
theorem dX7_puts_11 : decode cX7_puts 11 = .ok (.iaload, 1) := by decide +kernel
theorem dX7_puts_12 : decode cX7_puts 12 = .ok (.iload 4, 2) := by decide +kernel
theorem dX7_puts_14 : decode cX7_puts 14 = .ok (.iadd, 1) := by decide +kernel
theorem dX7_puts_15 : decode cX7_puts 15 = .ok (.istore 5, 2) := by decide +kernel
theorem dX7_puts_17 : decode cX7_puts 17 = .ok (.aload_n 0, 1) := by decide +kernel
theorem dX7_puts_18 : decode cX7_puts 18 = .ok (.getfield 7, 3) := by decide +kernel
theorem dX7_puts_21 : decode cX7_puts 21 = .ok (.iload_n 2, 1) := by decide +kernel
theorem dX7_puts_22 : decode cX7_puts 22 = .ok (.iload_n 3, 1) := by decide +kernel
theorem dX7_puts_23 : decode cX7_puts 23 = .ok (.iload 4, 2) := by decide +kernel
theorem dX7_puts_25 : decode cX7_puts 25 = .ok (.isub, 1) := by decide +kernel
theorem dX7_puts_26 : decode cX7_puts 26 = .ok (.iastore, 1) := by decide +kernel
theorem dX7_puts_27 : decode cX7_puts 27 = .ok (.iload 5, 2) := by decide +kernel
theorem dX7_puts_29 : decode cX7_puts 29 = .ok (.ireturn, 1) := by decide +kernel
theorem dX7_set_0 : decode cX7_set 0 = .ok (.iload_n 1, 1) := by decide +kernel
theorem dX7_set_1 : decode cX7_set 1 = .ok (.ifCond .ne 23, 3) := by decide +kernel
theorem dX7_set_4 : decode cX7_set 4 = .ok (.aload_n 0, 1) := by decide +kernel
theorem dX7_set_5 : decode cX7_set 5 = .ok (.iload_n 2, 1) := by decide +kernel
theorem dX7_set_6 : decode cX7_set 6 = .ok (.i2l, 1) := by decide +kernel
theorem dX7_set_7 : decode cX7_set 7 = .ok (.lconst 1, 1) := by decide +kernel
theorem dX7_set_8 : decode cX7_set 8 = .ok (.ldc2_w 206, 3) := by decide +kernel
theorem dX7_set_11 : decode cX7_set 11 = .ok (.invokestatic 74, 3) := by decide +kernel
theorem dX7_set_14 : decode cX7_set 14 = .ok (.bipush 9, 2) := by decide +kernel
theorem dX7_set_16 : decode cX7_set 16 = .ok (.iload_n 2, 1) := by decide +kernel
theorem dX7_set_17 : decode cX7_set 17 = .ok (.iconst 3, 1) := by decide +kernel
theorem dX7_set_18 : decode cX7_set 18 = .ok (.invokevirtual 208, 3) := by decide +kernel
theorem dX7_set_21 : decode cX7_set 21 = .ok (.goto 34, 3) := by decide +kernel
theorem dX7_set_24 : decode cX7_set 24 = .ok (.aload_n 0, 1) := by decide +kernel
theorem dX7_set_25 : decode cX7_set 25 = .ok (.iload_n 1, 1) := by decide +kernel
theorem dX7_set_26 : decode cX7_set 26 = .ok (.iconst 1, 1) := by decide +kernel
theorem dX7_set_27 : decode cX7_set 27 = .ok (.if_icmp .ne 19, 3) := by decide +kernel
theorem dX7_set_30 : decode cX7_set 30 = .ok (.iload_n 2, 1) := by decide +kernel
theorem dX7_set_31 : decode cX7_set 31 = .ok (.i2l, 1) := by decide +kernel
theorem dX7_set_32 : decode cX7_set 32 = .ok (.lconst 0, 1) := by decide +kernel
theorem dX7_set_33 : decode cX7_set 33 = .ok (.ldc2_w 212, 3) := by decide +kernel
theorem dX7_set_36 : decode cX7_set 36 = .ok (.invokestatic 74, 3) := by decide +kernel
theorem dX7_set_39 : decode cX7_set 39 = .ok (.ifCond .eq 7, 3) := by decide +kernel
theorem dX7_set_42 : decode cX7_set 42 = .ok (.iconst 1, 1) := by decide +kernel
theorem dX7_set_43 : decode cX7_set 43 = .ok (.goto 4, 3) := by decide +kernel
theorem dX7_set_46 : decode cX7_set 46 = .ok (.iconst 0, 1) := by decide +kernel
theorem dX7_set_47 : decode cX7_set 47 = .ok (.bipush 18, 2) := by decide +kernel
theorem dX7_set_49 : decode cX7_set 49 = .ok (.iload_n 2, 1) := by decide +kernel
theorem dX7_set_50 : decode cX7_set 50 = .ok (.bipush 9, 2) := by decide +kernel
theorem dX7_set_52 : decode cX7_set 52 = .ok (.invokevirtual 208, 3) := by decide +kernel
theorem dX7_set_55 : decode cX7_set 55 = .ok (.ireturn, 1) := by decide +kernel
theorem dX7_age_0 : decode cX7_age 0 = .ok (.aload_n 0, 1) := by decide +kernel
theorem dX7_age_1 : decode cX7_age 1 = .ok (.aload_n 0, 1) := by decide +kernel
theorem dX7_age_2 : decode cX7_age 2 = .ok (.iload_n 1, 1) := by decide +kernel
theorem dX7_age_3 : decode cX7_age 3 = .ok (.invokevirtual 192, 3) := by decide +kernel
theorem dX7_age_6 : decode cX7_age 6 = .ok (.ifCond .eq 19, 3) := by decide +kernel
theorem dX7_age_9 : decode cX7_age 9 = .ok (.iload_n 2, 1) := by decide +kernel
theorem dX7_age_10 : decode cX7_age 10 = .ok (.i2l, 1) := by decide +kernel
theorem dX7_age_11 : decode cX7_age 11 = .ok (.lconst 0, 1) := by decide +kernel
theorem dX7_age_12 : decode cX7_age 12 = .ok (.ldc2_w 206, 3) := by decide +kernel
theorem dX7_age_15 : decode cX7_age 15 = .ok (.invokestatic 74, 3) := by decide +kernel
theorem dX7_age_18 : decode cX7_age 18 = .ok (.ifCond .eq 7, 3) := by decide +kernel
theorem dX7_age_21 : decode cX7_age 21 = .ok (.iconst 1, 1) := by decide +kernel
theorem dX7_age_22 : decode cX7_age 22 = .ok (.goto 4, 3) := by decide +kernel
theorem dX7_age_25 : decode cX7_age 25 = .ok (.iconst 0, 1) := by decide +kernel
theorem dX7_age_26 : decode cX7_age 26 = .ok (.iconst 3, 1) := by decide +kernel
theorem dX7_age_27 : decode cX7_age 27 = .ok (.iload_n 1, 1) := by decide +kernel
theorem dX7_age_28 : decode cX7_age 28 = .ok (.imul, 1) := by decide +kernel
theorem dX7_age_29 : decode cX7_age 29 = .ok (.iconst 1, 1) := by decide +kernel
theorem dX7_age_30 : decode cX7_age 30 = .ok (.iadd, 1) := by decide +kernel
theorem dX7_age_31 : decode cX7_age 31 = .ok (.iload_n 2, 1) := by decide +kernel
theorem dX7_age_32 : decode cX7_age 32 = .ok (.iconst 0, 1) := by decide +kernel
theorem dX7_age_33 : decode cX7_age 33 = .ok (.invokevirtual 208, 3) := by decide +kernel
theorem dX7_age_36 : decode cX7_age 36 = .ok (.ireturn, 1) := by decide +kernel
theorem dX7_dye_0 : decode cX7_dye 0 = .ok (.aload_n 0, 1) := by decide +kernel
theorem dX7_dye_1 : decode cX7_dye 1 = .ok (.aload_n 0, 1) := by decide +kernel
theorem dX7_dye_2 : decode cX7_dye 2 = .ok (.iload_n 1, 1) := by decide +kernel
theorem dX7_dye_3 : decode cX7_dye 3 = .ok (.invokevirtual 192, 3) := by decide +kernel
theorem dX7_dye_6 : decode cX7_dye 6 = .ok (.ifCond .eq 19, 3) := by decide +kernel
theorem dX7_dye_9 : decode cX7_dye 9 = .ok (.iload_n 2, 1) := by decide +kernel
theorem dX7_dye_10 : decode cX7_dye 10 = .ok (.i2l, 1) := by decide +kernel
theorem dX7_dye_11 : decode cX7_dye 11 = .ok (.lconst 0, 1) := by decide +kernel
theorem dX7_dye_12 : decode cX7_dye 12 = .ok (.ldc2_w 145, 3) := by decide +kernel
theorem dX7_dye_15 : decode cX7_dye 15 = .ok (.invokestatic 74, 3) := by decide +kernel
theorem dX7_dye_18 : decode cX7_dye 18 = .ok (.ifCond .eq 7, 3) := by decide +kernel
theorem dX7_dye_21 : decode cX7_dye 21 = .ok (.iconst 1, 1) := by decide +kernel
theorem dX7_dye_22 : decode cX7_dye 22 = .ok (.goto 4, 3) := by decide +kernel
theorem dX7_dye_25 : decode cX7_dye 25 = .ok (.iconst 0, 1) := by decide +kernel
theorem dX7_dye_26 : decode cX7_dye 26 = .ok (.iconst 3, 1) := by decide +kernel
theorem dX7_dye_27 : decode cX7_dye 27 = .ok (.iload_n 1, 1) := by decide +kernel
theorem dX7_dye_28 : decode cX7_dye 28 = .ok (.imul, 1) := by decide +kernel
theorem dX7_dye_29 : decode cX7_dye 29 = .ok (.iload_n 2, 1) := by decide +kernel
theorem dX7_dye_30 : decode cX7_dye 30 = .ok (.iconst 0, 1) := by decide +kernel
theorem dX7_dye_31 : decode cX7_dye 31 = .ok (.invokevirtual 208, 3) := by decide +kernel
theorem dX7_dye_34 : decode cX7_dye 34 = .ok (.ireturn, 1) := by decide +kernel
theorem dX7_knot_0 : decode cX7_knot 0 = .ok (.aload_n 0, 1) := by decide +kernel
theorem dX7_knot_1 : decode cX7_knot 1 = .ok (.iload_n 1, 1) := by decide +kernel
theorem dX7_knot_2 : decode cX7_knot 2 = .ok (.invokevirtual 192, 3) := by decide +kernel
theorem dX7_knot_5 : decode cX7_knot 5 = .ok (.ifCond .ne 5, 3) := by decide +kernel
theorem dX7_knot_8 : decode cX7_knot 8 = .ok (.iconst (-1), 1) := by decide +kernel
theorem dX7_knot_9 : decode cX7_knot 9 = .ok (.ireturn, 1) := by decide +kernel
theorem dX7_knot_10 : decode cX7_knot 10 = .ok (.aload_n 0, 1) := by decide +kernel
theorem dX7_knot_11 : decode cX7_knot 11 = .ok (.getfield 7, 3) := by decide +kernel
theorem dX7_knot_14 : decode cX7_knot 14 = .ok (.iconst 3, 1) := by decide +kernel
theorem dX7_knot_15 : decode cX7_knot 15 = .ok (.iload_n 1, 1) := by decide +kernel
theorem dX7_knot_16 : decode cX7_knot 16 = .ok (.imul, 1) := by decide +kernel
theorem dX7_knot_17 : decode cX7_knot 17 = .ok (.iconst 1, 1) := by decide +kernel
theorem dX7_knot_18 : decode cX7_knot 18 = .ok (.iadd, 1) := by decide +kernel
theorem dX7_knot_19 : decode cX7_knot 19 = .ok (.iload_n 2, 1) := by decide +kernel
theorem dX7_knot_20 : decode cX7_knot 20 = .ok (.ifCond .eq 7, 3) := by decide +kernel
theorem dX7_knot_23 : decode cX7_knot 23 = .ok (.iconst 0, 1) := by decide +kernel
theorem dX7_knot_24 : decode cX7_knot 24 = .ok (.goto 13, 3) := by decide +kernel
theorem dX7_knot_27 : decode cX7_knot 27 = .ok (.aload_n 0, 1) := by decide +kernel
theorem dX7_knot_28 : decode cX7_knot 28 = .ok (.getfield 7, 3) := by decide +kernel
theorem dX7_knot_31 : decode cX7_knot 31 = .ok (.iconst 3, 1) := by decide +kernel
theorem dX7_knot_32 : decode cX7_knot 32 = .ok (.iload_n 1, 1) := by decide +kernel
theorem dX7_knot_33 : decode cX7_knot 33 = .ok (.imul, 1) := by decide +kernel
theorem dX7_knot_34 : decode cX7_knot 34 = .ok (.iconst 1, 1) := by decide +kernel
theorem dX7_knot_35 : decode cX7_knot 35 = .ok (.iadd, 1) := by decide +kernel
theorem dX7_knot_36 : decode cX7_knot 36 = .ok (.iaload, 1) := by decide +kernel
theorem dX7_knot_37 : decode cX7_knot 37 = .ok (.iastore, 1) := by decide +kernel
theorem dX7_knot_38 : decode cX7_knot 38 = .ok (.iconst 1, 1) := by decide +kernel
theorem dX7_knot_39 : decode cX7_knot 39 = .ok (.aload_n 0, 1) := by decide +kernel
theorem dX7_knot_40 : decode cX7_knot 40 = .ok (.iconst 1, 1) := by decide +kernel
theorem dX7_knot_41 : decode cX7_knot 41 = .ok (.iconst 3, 1) := by decide +kernel
theorem dX7_knot_42 : decode cX7_knot 42 = .ok (.iload_n 1, 1) := by decide +kernel
theorem dX7_knot_43 : decode cX7_knot 43 = .ok (.imul, 1) := by decide +kernel
theorem dX7_knot_44 : decode cX7_knot 44 = .ok (.iconst 2, 1) := by decide +kernel
theorem dX7_knot_45 : decode cX7_knot 45 = .ok (.iadd, 1) := by decide +kernel
theorem dX7_knot_46 : decode cX7_knot 46 = .ok (.iload_n 2, 1) := by decide +kernel
theorem dX7_knot_47 : decode cX7_knot 47 = .ok (.ifCond .eq 7, 3) := by decide +kernel
theorem dX7_knot_50 : decode cX7_knot 50 = .ok (.iconst 0, 1) := by decide +kernel
theorem dX7_knot_51 : decode cX7_knot 51 = .ok (.goto 4, 3) := by decide +kernel
theorem dX7_knot_54 : decode cX7_knot 54 = .ok (.iconst 1, 1) := by decide +kernel
theorem dX7_knot_55 : decode cX7_knot 55 = .ok (.iconst 0, 1) := by decide +kernel
theorem dX7_knot_56 : decode cX7_knot 56 = .ok (.invokevirtual 208, 3) := by decide +kernel
theorem dX7_knot_59 : decode cX7_knot 59 = .ok (.isub, 1) := by decide +kernel
theorem dX7_knot_60 : decode cX7_knot 60 = .ok (.ireturn, 1) := by decide +kernel
theorem dX7_pay_0 : decode cX7_pay 0 = .ok (.aload_n 0, 1) := by decide +kernel
theorem dX7_pay_1 : decode cX7_pay 1 = .ok (.aload_n 0, 1) := by decide +kernel
theorem dX7_pay_2 : decode cX7_pay 2 = .ok (.iload_n 1, 1) := by decide +kernel
theorem dX7_pay_3 : decode cX7_pay 3 = .ok (.invokevirtual 203, 3) := by decide +kernel
theorem dX7_pay_6 : decode cX7_pay 6 = .ok (.ifCond .eq 39, 3) := by decide +kernel
theorem dX7_pay_9 : decode cX7_pay 9 = .ok (.iload_n 2, 1) := by decide +kernel
theorem dX7_pay_10 : decode cX7_pay 10 = .ok (.i2l, 1) := by decide +kernel
theorem dX7_pay_11 : decode cX7_pay 11 = .ok (.lconst 0, 1) := by decide +kernel
theorem dX7_pay_12 : decode cX7_pay 12 = .ok (.lconst 1, 1) := by decide +kernel
theorem dX7_pay_13 : decode cX7_pay 13 = .ok (.invokestatic 74, 3) := by decide +kernel
theorem dX7_pay_16 : decode cX7_pay 16 = .ok (.ifCond .eq 29, 3) := by decide +kernel
theorem dX7_pay_19 : decode cX7_pay 19 = .ok (.iload_n 3, 1) := by decide +kernel
theorem dX7_pay_20 : decode cX7_pay 20 = .ok (.i2l, 1) := by decide +kernel
theorem dX7_pay_21 : decode cX7_pay 21 = .ok (.lconst 0, 1) := by decide +kernel
theorem dX7_pay_22 : decode cX7_pay 22 = .ok (.iload_n 2, 1) := by decide +kernel
theorem dX7_pay_23 : decode cX7_pay 23 = .ok (.ifCond .ne 9, 3) := by decide +kernel
theorem dX7_pay_26 : decode cX7_pay 26 = .ok (.ldc2_w 206, 3) := by decide +kernel
theorem dX7_pay_29 : decode cX7_pay 29 = .ok (.goto 6, 3) := by decide +kernel
theorem dX7_pay_32 : decode cX7_pay 32 = .ok (.ldc2_w 212, 3) := by decide +kernel
theorem dX7_pay_35 : decode cX7_pay 35 = .ok (.invokestatic 74, 3) := by decide +kernel
theorem dX7_pay_38 : decode cX7_pay 38 = .ok (.ifCond .eq 7, 3) := by decide +kernel
theorem dX7_pay_41 : decode cX7_pay 41 = .ok (.iconst 1, 1) := by decide +kernel
theorem dX7_pay_42 : decode cX7_pay 42 = .ok (.goto 4, 3) := by decide +kernel
theorem dX7_pay_45 : decode cX7_pay 45 = .ok (.iconst 0, 1) := by decide +kernel
theorem dX7_pay_46 : decode cX7_pay 46 = .ok (.bipush 10, 2) := by decide +kernel
theorem dX7_pay_48 : decode cX7_pay 48 = .ok (.iconst 2, 1) := by decide +kernel
theorem dX7_pay_49 : decode cX7_pay 49 = .ok (.iload_n 1, 1) := by decide +kernel
theorem dX7_pay_50 : decode cX7_pay 50 = .ok (.imul, 1) := by decide +kernel
theorem dX7_pay_51 : decode cX7_pay 51 = .ok (.iadd, 1) := by decide +kernel
theorem dX7_pay_52 : decode cX7_pay 52 = .ok (.iload_n 2, 1) := by decide +kernel
theorem dX7_pay_53 : decode cX7_pay 53 = .ok (.iadd, 1) := by decide +kernel
theorem dX7_pay_54 : decode cX7_pay 54 = .ok (.iload_n 3, 1) := by decide +kernel
theorem dX7_pay_55 : decode cX7_pay 55 = .ok (.iconst 0, 1) := by decide +kernel
theorem dX7_pay_56 : decode cX7_pay 56 = .ok (.invokevirtual 208, 3) := by decide +kernel
theorem dX7_pay_59 : decode cX7_pay 59 = .ok (.ireturn, 1) := by decide +kernel
theorem dX7_hours_0 : decode cX7_hours 0 = .ok (.iload_n 1, 1) := by decide +kernel
theorem dX7_hours_1 : decode cX7_hours 1 = .ok (.i2l, 1) := by decide +kernel
theorem dX7_hours_2 : decode cX7_hours 2 = .ok (.lconst 0, 1) := by decide +kernel
theorem dX7_hours_3 : decode cX7_hours 3 = .ok (.iconst 1, 1) := by decide +kernel
theorem dX7_hours_4 : decode cX7_hours 4 = .ok (.aload_n 0, 1) := by decide +kernel
theorem dX7_hours_5 : decode cX7_hours 5 = .ok (.getfield 159, 3) := by decide +kernel
theorem dX7_hours_8 : decode cX7_hours 8 = .ok (.ishl, 1) := by decide +kernel
theorem dX7_hours_9 : decode cX7_hours 9 = .ok (.iconst 1, 1) := by decide +kernel
theorem dX7_hours_10 : decode cX7_hours 10 = .ok (.isub, 1) := by decide +kernel
theorem dX7_hours_11 : decode cX7_hours 11 = .ok (.i2l, 1) := by decide +kernel
theorem dX7_hours_12 : decode cX7_hours 12 = .ok (.invokestatic 74, 3) := by decide +kernel
theorem dX7_hours_15 : decode cX7_hours 15 = .ok (.ifCond .eq 14, 3) := by decide +kernel
theorem dX7_hours_18 : decode cX7_hours 18 = .ok (.iload_n 1, 1) := by decide +kernel
theorem dX7_hours_19 : decode cX7_hours 19 = .ok (.aload_n 0, 1) := by decide +kernel
theorem dX7_hours_20 : decode cX7_hours 20 = .ok (.invokevirtual 177, 3) := by decide +kernel
theorem dX7_hours_23 : decode cX7_hours 23 = .ok (.iconst (-1), 1) := by decide +kernel
theorem dX7_hours_24 : decode cX7_hours 24 = .ok (.ixor, 1) := by decide +kernel
theorem dX7_hours_25 : decode cX7_hours 25 = .ok (.iand, 1) := by decide +kernel
theorem dX7_hours_26 : decode cX7_hours 26 = .ok (.ifCond .eq 5, 3) := by decide +kernel
theorem dX7_hours_29 : decode cX7_hours 29 = .ok (.iconst (-1), 1) := by decide +kernel
theorem dX7_hours_30 : decode cX7_hours 30 = .ok (.ireturn, 1) := by decide +kernel
theorem dX7_hours_31 : decode cX7_hours 31 = .ok (.aload_n 0, 1) := by decide +kernel
theorem dX7_hours_32 : decode cX7_hours 32 = .ok (.invokevirtual 177, 3) := by decide +kernel
theorem dX7_hours_35 : decode cX7_hours 35 = .ok (.ifCond .ne 6, 3) := by decide +kernel
theorem dX7_hours_38 : decode cX7_hours 38 = .ok (.bipush (-2), 2) := by decide +kernel
theorem dX7_hours_40 : decode cX7_hours 40 = .ok (.ireturn, 1) := by decide +kernel
theorem dX7_hours_41 : decode cX7_hours 41 = .ok (.aload_n 0, 1) := by decide +kernel
theorem dX7_hours_42 : decode cX7_hours 42 = .ok (.getfield 7, 3) := by decide +kernel
theorem dX7_hours_45 : decode cX7_hours 45 = .ok (.bipush 19, 2) := by decide +kernel
theorem dX7_hours_47 : decode cX7_hours 47 = .ok (.iaload, 1) := by decide +kernel
theorem dX7_hours_48 : decode cX7_hours 48 = .ok (.bipush 99, 2) := by decide +kernel
theorem dX7_hours_50 : decode cX7_hours 50 = .ok (.if_icmp .ne 6, 3) := by decide +kernel
theorem dX7_hours_53 : decode cX7_hours 53 = .ok (.bipush (-3), 2) := by decide +kernel
theorem dX7_hours_55 : decode cX7_hours 55 = .ok (.ireturn, 1) := by decide +kernel
theorem dX7_hours_56 : decode cX7_hours 56 = .ok (.iconst 0, 1) := by decide +kernel
theorem dX7_hours_57 : decode cX7_hours 57 = .ok (.istore_n 2, 1) := by decide +kernel
theorem dX7_hours_58 : decode cX7_hours 58 = .ok (.iload_n 2, 1) := by decide +kernel
theorem dX7_hours_59 : decode cX7_hours 59 = .ok (.aload_n 0, 1) := by decide +kernel
theorem dX7_hours_60 : decode cX7_hours 60 = .ok (.getfield 159, 3) := by decide +kernel
theorem dX7_hours_63 : decode cX7_hours 63 = .ok (.if_icmp .ge 60, 3) := by decide +kernel
theorem dX7_hours_66 : decode cX7_hours 66 = .ok (.aload_n 0, 1) := by decide +kernel
theorem dX7_hours_67 : decode cX7_hours 67 = .ok (.getfield 7, 3) := by decide +kernel
theorem dX7_hours_70 : decode cX7_hours 70 = .ok (.iconst 3, 1) := by decide +kernel
theorem dX7_hours_71 : decode cX7_hours 71 = .ok (.iload_n 2, 1) := by decide +kernel
theorem dX7_hours_72 : decode cX7_hours 72 = .ok (.imul, 1) := by decide +kernel
theorem dX7_hours_73 : decode cX7_hours 73 = .ok (.iconst 2, 1) := by decide +kernel
theorem dX7_hours_74 : decode cX7_hours 74 = .ok (.iadd, 1) := by decide +kernel
theorem dX7_hours_75 : decode cX7_hours 75 = .ok (.dup2, 1) := by decide +kernel
theorem dX7_hours_76 : decode cX7_hours 76 = .ok (.iaload, 1) := by decide +kernel
theorem dX7_hours_77 : decode cX7_hours 77 = .ok (.iload_n 1, 1) := by decide +kernel
theorem dX7_hours_78 : decode cX7_hours 78 = .ok (.iload_n 2, 1) := by decide +kernel
theorem dX7_hours_79 : decode cX7_hours 79 = .ok (.ishr, 1) := by decide +kernel
theorem dX7_hours_80 : decode cX7_hours 80 = .ok (.iconst 1, 1) := by decide +kernel
theorem dX7_hours_81 : decode cX7_hours 81 = .ok (.iand, 1) := by decide +kernel
theorem dX7_hours_82 : decode cX7_hours 82 = .ok (.ior, 1) := by decide +kernel
theorem dX7_hours_83 : decode cX7_hours 83 = .ok (.iastore, 1) := by decide +kernel
theorem dX7_hours_84 : decode cX7_hours 84 = .ok (.aload_n 0, 1) := by decide +kernel
theorem dX7_hours_85 : decode cX7_hours 85 = .ok (.getfield 7, 3) := by decide +kernel
theorem dX7_hours_88 : decode cX7_hours 88 = .ok (.iconst 3, 1) := by decide +kernel
theorem dX7_hours_89 : decode cX7_hours 89 = .ok (.iload_n 2, 1) := by decide +kernel
theorem dX7_hours_90 : decode cX7_hours 90 = .ok (.imul, 1) := by decide +kernel
theorem dX7_hours_91 : decode cX7_hours 91 = .ok (.iconst 1, 1) := by decide +kernel
theorem dX7_hours_92 : decode cX7_hours 92 = .ok (.iadd, 1) := by decide +kernel
theorem dX7_hours_93 : decode cX7_hours 93 = .ok (.dup2, 1) := by decide +kernel
theorem dX7_hours_94 : decode cX7_hours 94 = .ok (.iaload, 1) := by decide +kernel
theorem dX7_hours_95 : decode cX7_hours 95 = .ok (.aload_n 0, 1) := by decide +kernel
theorem dX7_hours_96 : decode cX7_hours 96 = .ok (.getfield 7, 3) := by decide +kernel
theorem dX7_hours_99 : decode cX7_hours 99 = .ok (.iconst 3, 1) := by decide +kernel
theorem dX7_hours_100 : decode cX7_hours 100 = .ok (.iload_n 2, 1) := by decide +kernel
theorem dX7_hours_101 : decode cX7_hours 101 = .ok (.imul, 1) := by decide +kernel
theorem dX7_hours_102 : decode cX7_hours 102 = .ok (.iconst 1, 1) := by decide +kernel
theorem dX7_hours_103 : decode cX7_hours 103 = .ok (.iadd, 1) := by decide +kernel
theorem dX7_hours_104 : decode cX7_hours 104 = .ok (.iaload, 1) := by decide +kernel
theorem dX7_hours_105 : decode cX7_hours 105 = .ok (.bipush 9, 2) := by decide +kernel
theorem dX7_hours_107 : decode cX7_hours 107 = .ok (.if_icmp .ge 7, 3) := by decide +kernel
theorem dX7_hours_110 : decode cX7_hours 110 = .ok (.iconst 1, 1) := by decide +kernel
theorem dX7_hours_111 : decode cX7_hours 111 = .ok (.goto 4, 3) := by decide +kernel
theorem dX7_hours_114 : decode cX7_hours 114 = .ok (.iconst 0, 1) := by decide +kernel
theorem dX7_hours_115 : decode cX7_hours 115 = .ok (.iadd, 1) := by decide +kernel
theorem dX7_hours_116 : decode cX7_hours 116 = .ok (.iastore, 1) := by decide +kernel
theorem dX7_hours_117 : decode cX7_hours 117 = .ok (.iinc 2 1, 3) := by decide +kernel
theorem dX7_hours_120 : decode cX7_hours 120 = .ok (.goto (-62), 3) := by decide +kernel
theorem dX7_hours_123 : decode cX7_hours 123 = .ok (.aload_n 0, 1) := by decide +kernel
theorem dX7_hours_124 : decode cX7_hours 124 = .ok (.getfield 7, 3) := by decide +kernel
theorem dX7_hours_127 : decode cX7_hours 127 = .ok (.bipush 19, 2) := by decide +kernel
theorem dX7_hours_129 : decode cX7_hours 129 = .ok (.dup2, 1) := by decide +kernel
theorem dX7_hours_130 : decode cX7_hours 130 = .ok (.iaload, 1) := by decide +kernel
theorem dX7_hours_131 : decode cX7_hours 131 = .ok (.iconst 1, 1) := by decide +kernel
theorem dX7_hours_132 : decode cX7_hours 132 = .ok (.iadd, 1) := by decide +kernel
theorem dX7_hours_133 : decode cX7_hours 133 = .ok (.iastore, 1) := by decide +kernel
theorem dX7_hours_134 : decode cX7_hours 134 = .ok (.aload_n 0, 1) := by decide +kernel
theorem dX7_hours_135 : decode cX7_hours 135 = .ok (.invokevirtual 177, 3) := by decide +kernel
theorem dX7_hours_138 : decode cX7_hours 138 = .ok (.invokestatic 189, 3) := by decide +kernel
theorem dX7_hours_141 : decode cX7_hours 141 = .ok (.ireturn, 1) := by decide +kernel
theorem dX7_hour_0 : decode cX7_hour 0 = .ok (.aload_n 0, 1) := by decide +kernel
theorem dX7_hour_1 : decode cX7_hour 1 = .ok (.iload_n 1, 1) := by decide +kernel
theorem dX7_hour_2 : decode cX7_hour 2 = .ok (.invokevirtual 214, 3) := by decide +kernel
theorem dX7_hour_5 : decode cX7_hour 5 = .ok (.ireturn, 1) := by decide +kernel
theorem dX7_see_0 : decode cX7_see 0 = .ok (.iload_n 1, 1) := by decide +kernel
theorem dX7_see_1 : decode cX7_see 1 = .ok (.invokestatic 236, 3) := by decide +kernel
theorem dX7_see_4 : decode cX7_see 4 = .ok (.ifCond .eq 15, 3) := by decide +kernel
theorem dX7_see_7 : decode cX7_see 7 = .ok (.iload_n 2, 1) := by decide +kernel
theorem dX7_see_8 : decode cX7_see 8 = .ok (.i2l, 1) := by decide +kernel
theorem dX7_see_9 : decode cX7_see 9 = .ok (.lconst 0, 1) := by decide +kernel
theorem dX7_see_10 : decode cX7_see 10 = .ok (.ldc2_w 143, 3) := by decide +kernel
theorem dX7_see_13 : decode cX7_see 13 = .ok (.invokestatic 74, 3) := by decide +kernel
theorem dX7_see_16 : decode cX7_see 16 = .ok (.ifCond .ne 5, 3) := by decide +kernel
theorem dX7_see_19 : decode cX7_see 19 = .ok (.iconst (-1), 1) := by decide +kernel
theorem dX7_see_20 : decode cX7_see 20 = .ok (.ireturn, 1) := by decide +kernel
theorem dX7_see_21 : decode cX7_see 21 = .ok (.aload_n 0, 1) := by decide +kernel
theorem dX7_see_22 : decode cX7_see 22 = .ok (.getfield 168, 3) := by decide +kernel
theorem dX7_see_25 : decode cX7_see 25 = .ok (.bipush 6, 2) := by decide +kernel
theorem dX7_see_27 : decode cX7_see 27 = .ok (.if_icmp .ne 6, 3) := by decide +kernel
theorem dX7_see_30 : decode cX7_see 30 = .ok (.bipush (-3), 2) := by decide +kernel
theorem dX7_see_32 : decode cX7_see 32 = .ok (.ireturn, 1) := by decide +kernel
theorem dX7_see_33 : decode cX7_see 33 = .ok (.aload_n 0, 1) := by decide +kernel
theorem dX7_see_34 : decode cX7_see 34 = .ok (.getfield 56, 3) := by decide +kernel
theorem dX7_see_37 : decode cX7_see 37 = .ok (.iconst 2, 1) := by decide +kernel
theorem dX7_see_38 : decode cX7_see 38 = .ok (.aload_n 0, 1) := by decide +kernel
theorem dX7_see_39 : decode cX7_see 39 = .ok (.getfield 168, 3) := by decide +kernel
theorem dX7_see_42 : decode cX7_see 42 = .ok (.imul, 1) := by decide +kernel
theorem dX7_see_43 : decode cX7_see 43 = .ok (.iload_n 1, 1) := by decide +kernel
theorem dX7_see_44 : decode cX7_see 44 = .ok (.iastore, 1) := by decide +kernel
theorem dX7_see_45 : decode cX7_see 45 = .ok (.aload_n 0, 1) := by decide +kernel
theorem dX7_see_46 : decode cX7_see 46 = .ok (.getfield 56, 3) := by decide +kernel
theorem dX7_see_49 : decode cX7_see 49 = .ok (.iconst 2, 1) := by decide +kernel
theorem dX7_see_50 : decode cX7_see 50 = .ok (.aload_n 0, 1) := by decide +kernel
theorem dX7_see_51 : decode cX7_see 51 = .ok (.getfield 168, 3) := by decide +kernel
theorem dX7_see_54 : decode cX7_see 54 = .ok (.imul, 1) := by decide +kernel
theorem dX7_see_55 : decode cX7_see 55 = .ok (.iconst 1, 1) := by decide +kernel
theorem dX7_see_56 : decode cX7_see 56 = .ok (.iadd, 1) := by decide +kernel
theorem dX7_see_57 : decode cX7_see 57 = .ok (.iload_n 2, 1) := by decide +kernel
theorem dX7_see_58 : decode cX7_see 58 = .ok (.iastore, 1) := by decide +kernel
theorem dX7_see_59 : decode cX7_see 59 = .ok (.aload_n 0, 1) := by decide +kernel
theorem dX7_see_60 : decode cX7_see 60 = .ok (.dup, 1) := by decide +kernel
theorem dX7_see_61 : decode cX7_see 61 = .ok (.getfield 168, 3) := by decide +kernel
theorem dX7_see_64 : decode cX7_see 64 = .ok (.iconst 1, 1) := by decide +kernel
theorem dX7_see_65 : decode cX7_see 65 = .ok (.iadd, 1) := by decide +kernel
theorem dX7_see_66 : decode cX7_see 66 = .ok (.putfield 168, 3) := by decide +kernel
theorem dX7_see_69 : decode cX7_see 69 = .ok (.aload_n 0, 1) := by decide +kernel
theorem dX7_see_70 : decode cX7_see 70 = .ok (.getfield 168, 3) := by decide +kernel
theorem dX7_see_73 : decode cX7_see 73 = .ok (.ireturn, 1) := by decide +kernel
theorem dX7_forget_0 : decode cX7_forget 0 = .ok (.iload_n 1, 1) := by decide +kernel
theorem dX7_forget_1 : decode cX7_forget 1 = .ok (.i2l, 1) := by decide +kernel
theorem dX7_forget_2 : decode cX7_forget 2 = .ok (.lconst 0, 1) := by decide +kernel
theorem dX7_forget_3 : decode cX7_forget 3 = .ok (.aload_n 0, 1) := by decide +kernel
theorem dX7_forget_4 : decode cX7_forget 4 = .ok (.getfield 168, 3) := by decide +kernel
theorem dX7_forget_7 : decode cX7_forget 7 = .ok (.i2l, 1) := by decide +kernel
theorem dX7_forget_8 : decode cX7_forget 8 = .ok (.invokestatic 74, 3) := by decide +kernel
theorem dX7_forget_11 : decode cX7_forget 11 = .ok (.ifCond .ne 5, 3) := by decide +kernel
theorem dX7_forget_14 : decode cX7_forget 14 = .ok (.iconst (-1), 1) := by decide +kernel
theorem dX7_forget_15 : decode cX7_forget 15 = .ok (.ireturn, 1) := by decide +kernel
theorem dX7_forget_16 : decode cX7_forget 16 = .ok (.aload_n 0, 1) := by decide +kernel
theorem dX7_forget_17 : decode cX7_forget 17 = .ok (.getfield 168, 3) := by decide +kernel
theorem dX7_forget_20 : decode cX7_forget 20 = .ok (.istore_n 2, 1) := by decide +kernel
theorem dX7_forget_21 : decode cX7_forget 21 = .ok (.aload_n 0, 1) := by decide +kernel
theorem dX7_forget_22 : decode cX7_forget 22 = .ok (.iload_n 1, 1) := by decide +kernel
theorem dX7_forget_23 : decode cX7_forget 23 = .ok (.putfield 168, 3) := by decide +kernel
theorem dX7_forget_26 : decode cX7_forget 26 = .ok (.iload_n 2, 1) := by decide +kernel
theorem dX7_forget_27 : decode cX7_forget 27 = .ok (.ireturn, 1) := by decide +kernel
theorem dX7_copies_0 : decode cX7_copies 0 = .ok (.iconst 0, 1) := by decide +kernel
theorem dX7_copies_1 : decode cX7_copies 1 = .ok (.istore_n 3, 1) := by decide +kernel
theorem dX7_copies_2 : decode cX7_copies 2 = .ok (.iload_n 3, 1) := by decide +kernel
theorem dX7_copies_3 : decode cX7_copies 3 = .ok (.bipush 20, 2) := by decide +kernel
theorem dX7_copies_5 : decode cX7_copies 5 = .ok (.if_icmp .ge 25, 3) := by decide +kernel
theorem dX7_copies_8 : decode cX7_copies 8 = .ok (.aload_n 0, 1) := by decide +kernel
theorem dX7_copies_9 : decode cX7_copies 9 = .ok (.getfield 7, 3) := by decide +kernel
theorem dX7_copies_12 : decode cX7_copies 12 = .ok (.iload_n 2, 1) := by decide +kernel
theorem dX7_copies_13 : decode cX7_copies 13 = .ok (.iload_n 3, 1) := by decide +kernel
theorem dX7_copies_14 : decode cX7_copies 14 = .ok (.iadd, 1) := by decide +kernel
theorem dX7_copies_15 : decode cX7_copies 15 = .ok (.aload_n 0, 1) := by decide +kernel
theorem dX7_copies_16 : decode cX7_copies 16 = .ok (.getfield 7, 3) := by decide +kernel
theorem dX7_copies_19 : decode cX7_copies 19 = .ok (.iload_n 1, 1) := by decide +kernel
theorem dX7_copies_20 : decode cX7_copies 20 = .ok (.iload_n 3, 1) := by decide +kernel
theorem dX7_copies_21 : decode cX7_copies 21 = .ok (.iadd, 1) := by decide +kernel
theorem dX7_copies_22 : decode cX7_copies 22 = .ok (.iaload, 1) := by decide +kernel
theorem dX7_copies_23 : decode cX7_copies 23 = .ok (.iastore, 1) := by decide +kernel
theorem dX7_copies_24 : decode cX7_copies 24 = .ok (.iinc 3 1, 3) := by decide +kernel
theorem dX7_copies_27 : decode cX7_copies 27 = .ok (.goto (-25), 3) := by decide +kernel
theorem dX7_copies_30 : decode cX7_copies 30 = .ok (.return_, 1) := by decide +kernel
theorem dX7_keep_0 : decode cX7_keep 0 = .ok (.iload_n 1, 1) := by decide +kernel
theorem dX7_keep_1 : decode cX7_keep 1 = .ok (.i2l, 1) := by decide +kernel
theorem dX7_keep_2 : decode cX7_keep 2 = .ok (.lconst 0, 1) := by decide +kernel
theorem dX7_keep_3 : decode cX7_keep 3 = .ok (.lconst 1, 1) := by decide +kernel
theorem dX7_keep_4 : decode cX7_keep 4 = .ok (.invokestatic 74, 3) := by decide +kernel
theorem dX7_keep_7 : decode cX7_keep 7 = .ok (.ifCond .ne 5, 3) := by decide +kernel
theorem dX7_keep_10 : decode cX7_keep 10 = .ok (.iconst (-1), 1) := by decide +kernel
theorem dX7_keep_11 : decode cX7_keep 11 = .ok (.ireturn, 1) := by decide +kernel
theorem dX7_keep_12 : decode cX7_keep 12 = .ok (.aload_n 0, 1) := by decide +kernel
theorem dX7_keep_13 : decode cX7_keep 13 = .ok (.iconst 0, 1) := by decide +kernel
theorem dX7_keep_14 : decode cX7_keep 14 = .ok (.bipush 20, 2) := by decide +kernel
theorem dX7_keep_16 : decode cX7_keep 16 = .ok (.iload_n 1, 1) := by decide +kernel
theorem dX7_keep_17 : decode cX7_keep 17 = .ok (.iconst 1, 1) := by decide +kernel
theorem dX7_keep_18 : decode cX7_keep 18 = .ok (.iadd, 1) := by decide +kernel
theorem dX7_keep_19 : decode cX7_keep 19 = .ok (.imul, 1) := by decide +kernel
theorem dX7_keep_20 : decode cX7_keep 20 = .ok (.invokevirtual 282, 3) := by decide +kernel
theorem dX7_keep_23 : decode cX7_keep 23 = .ok (.aload_n 0, 1) := by decide +kernel
theorem dX7_keep_24 : decode cX7_keep 24 = .ok (.getfield 59, 3) := by decide +kernel
theorem dX7_keep_27 : decode cX7_keep 27 = .ok (.iload_n 1, 1) := by decide +kernel
theorem dX7_keep_28 : decode cX7_keep 28 = .ok (.baload, 1) := by decide +kernel
theorem dX7_keep_29 : decode cX7_keep 29 = .ok (.ifCond .eq 7, 3) := by decide +kernel
theorem dX7_keep_32 : decode cX7_keep 32 = .ok (.iconst 1, 1) := by decide +kernel
theorem dX7_keep_33 : decode cX7_keep 33 = .ok (.goto 4, 3) := by decide +kernel
theorem dX7_keep_36 : decode cX7_keep 36 = .ok (.iconst 0, 1) := by decide +kernel
theorem dX7_keep_37 : decode cX7_keep 37 = .ok (.istore_n 2, 1) := by decide +kernel
theorem dX7_keep_38 : decode cX7_keep 38 = .ok (.aload_n 0, 1) := by decide +kernel
theorem dX7_keep_39 : decode cX7_keep 39 = .ok (.getfield 59, 3) := by decide +kernel
theorem dX7_keep_42 : decode cX7_keep 42 = .ok (.iload_n 1, 1) := by decide +kernel
theorem dX7_keep_43 : decode cX7_keep 43 = .ok (.iconst 1, 1) := by decide +kernel
theorem dX7_keep_44 : decode cX7_keep 44 = .ok (.bastore, 1) := by decide +kernel
theorem dX7_keep_45 : decode cX7_keep 45 = .ok (.iload_n 2, 1) := by decide +kernel
theorem dX7_keep_46 : decode cX7_keep 46 = .ok (.ireturn, 1) := by decide +kernel
theorem dX7_back_0 : decode cX7_back 0 = .ok (.iload_n 1, 1) := by decide +kernel
theorem dX7_back_1 : decode cX7_back 1 = .ok (.i2l, 1) := by decide +kernel
theorem dX7_back_2 : decode cX7_back 2 = .ok (.lconst 0, 1) := by decide +kernel
theorem dX7_back_3 : decode cX7_back 3 = .ok (.lconst 1, 1) := by decide +kernel
theorem dX7_back_4 : decode cX7_back 4 = .ok (.invokestatic 74, 3) := by decide +kernel
theorem dX7_back_7 : decode cX7_back 7 = .ok (.ifCond .ne 5, 3) := by decide +kernel
theorem dX7_back_10 : decode cX7_back 10 = .ok (.iconst (-1), 1) := by decide +kernel
theorem dX7_back_11 : decode cX7_back 11 = .ok (.ireturn, 1) := by decide +kernel
theorem dX7_back_12 : decode cX7_back 12 = .ok (.aload_n 0, 1) := by decide +kernel
theorem dX7_back_13 : decode cX7_back 13 = .ok (.getfield 59, 3) := by decide +kernel
theorem dX7_back_16 : decode cX7_back 16 = .ok (.iload_n 1, 1) := by decide +kernel
theorem dX7_back_17 : decode cX7_back 17 = .ok (.baload, 1) := by decide +kernel
theorem dX7_back_18 : decode cX7_back 18 = .ok (.ifCond .ne 6, 3) := by decide +kernel
theorem dX7_back_21 : decode cX7_back 21 = .ok (.bipush (-2), 2) := by decide +kernel
theorem dX7_back_23 : decode cX7_back 23 = .ok (.ireturn, 1) := by decide +kernel
theorem dX7_back_24 : decode cX7_back 24 = .ok (.aload_n 0, 1) := by decide +kernel
theorem dX7_back_25 : decode cX7_back 25 = .ok (.bipush 20, 2) := by decide +kernel
theorem dX7_back_27 : decode cX7_back 27 = .ok (.iload_n 1, 1) := by decide +kernel
theorem dX7_back_28 : decode cX7_back 28 = .ok (.iconst 1, 1) := by decide +kernel
theorem dX7_back_29 : decode cX7_back 29 = .ok (.iadd, 1) := by decide +kernel
theorem dX7_back_30 : decode cX7_back 30 = .ok (.imul, 1) := by decide +kernel
theorem dX7_back_31 : decode cX7_back 31 = .ok (.iconst 0, 1) := by decide +kernel
theorem dX7_back_32 : decode cX7_back 32 = .ok (.invokevirtual 282, 3) := by decide +kernel
theorem dX7_back_35 : decode cX7_back 35 = .ok (.aload_n 0, 1) := by decide +kernel
theorem dX7_back_36 : decode cX7_back 36 = .ok (.getfield 7, 3) := by decide +kernel
theorem dX7_back_39 : decode cX7_back 39 = .ok (.bipush 19, 2) := by decide +kernel
theorem dX7_back_41 : decode cX7_back 41 = .ok (.iaload, 1) := by decide +kernel
theorem dX7_back_42 : decode cX7_back 42 = .ok (.ireturn, 1) := by decide +kernel
theorem ix_0 (a i : Nat) : nI a * nI i + 0 = nI (a * i) := ix a i 0
theorem ixk_0 (k a i : Nat) : nI k + nI a * nI i + 0 = nI (k + a * i) := ixk1 k a i 0
theorem b1_ev : ∀ b, b < 2 → 1 - nI (1 - b) = nI b := by decide +kernel
theorem b1_1 : ∀ b, b < 2 → (nI (1 - b) = 1 ↔ b = 0) := by decide +kernel
set_option maxRecDepth 100000 in
set_option maxHeartbeats 4000000 in
theorem mX7_hair (s : Nat → Int32) (la : Nat → Int32) (r : rT) (v : vT) (c : Nat → Nat → Int32) (l : Nat → Int32) (tn : Int32) (p : Nat → Int32) (pa : Nat → Nat → Int32) (m : Nat) (q : rT) (b : Int32) (x : Nat → Nat) (h : Nat → Nat → Int64) (i : Nat) (z : Int32) (hS : mS s r) (hr : rOK r) (hi : i < r 6 0) : J KX7_hair 21 (fun o B => o = some (.int (hairA r i z)) ∧ B = (wM s la r v c l tn p pa (r 6 0) (mlay q r (r 6 0)) b x h)) 0 [some (.ref 0), some (.int (nI i)), some (.int z)] [] (wM s la r v c l tn p pa m q b x h) 0 0 := by
  refine J.aload_n dX7_hair_0 rfl rfl ?_
  refine J.iload_n dX7_hair_1 rfl rfl ?_
  refine J.cvM (as := [.int _]) s la r v c l tn p pa m q b x h okX7_isHair jcX7_192 (mX7_isHair s la r v c l tn p pa m q b x h (nI i)) dX7_hair_2 rfl rfl rfl rfl (fun r9 B9 hq9 => ?_)
  obtain ⟨rfl, rfl⟩ := hq9
  refine ⟨_, _, _, _, _, _, _, _, _, _, _, _, _, _, rfl, ?_⟩
  show J _ _ _ _ _ (.int _ :: _) (wM s la r v c l tn p pa m q b x h) _ _
  refine J.if_ne (tgt := 10) dX7_hair_5 (by decide) (fun c5 => ?_) (fun c5 => absurd c5 (fun h => (jB_0 _).mp h (jin_ge (by have := hr.1; omega) hi)))
  refine J.aload_n dX7_hair_10 rfl rfl ?_
  refine J.cvM (as := []) s la r v c l tn p pa m q b x h okX7_lays jcX7_196 (mX7_lays s la r v c l tn p pa m q b x h hS hr) dX7_hair_11 rfl rfl rfl rfl (fun r9 B9 hq9 => ?_)
  obtain ⟨rfl, rfl⟩ := hq9
  refine ⟨_, _, _, _, _, _, _, _, _, _, _, _, _, _, rfl, ?_⟩
  show J _ _ _ _ _ [] (wM s la r v c l tn p pa (r 6 0) (mlay q r (r 6 0)) b x h) _ _
  refine J.iload_n dX7_hair_14 rfl rfl ?_
  by_cases sw0 : z = 0
  · subst sw0
    refine J.tableIn (off := 29) (tgt := 44) dX7_hair_15 (by decide) (by decide) (by decide) (by decide) ?_
    refine J.aload_n dX7_hair_44 rfl rfl ?_
    refine J.mg0 dX7_hair_45 rfl ?_
    refine J.iconst (3) dX7_hair_48 (by decide) ?_
    refine J.iload_n dX7_hair_49 rfl rfl ?_
    refine J.imul dX7_hair_50 ?_
    refine J.iload_n dX7_hair_51 rfl rfl ?_
    refine J.iadd dX7_hair_52 ?_
    first | (refine J.ml1 (3 * i) dX7_hair_53 (ix_0 3 i) (by have := hr.1; omega) ?_; rw [(hS.1 i hi).1]) | (refine J.ml1 (3 * i + 1) dX7_hair_53 (ix 3 i 1) (by have := hr.1; omega) ?_; rw [(hS.1 i hi).2.1])
    exact J.iret dX7_hair_54 rfl rfl (Nat.le_refl _) (Nat.le_refl _) ⟨rfl, rfl⟩
  by_cases sw1 : z = 1
  · subst sw1
    refine J.tableIn (off := 29) (tgt := 44) dX7_hair_15 (by decide) (by decide) (by decide) (by decide) ?_
    refine J.aload_n dX7_hair_44 rfl rfl ?_
    refine J.mg0 dX7_hair_45 rfl ?_
    refine J.iconst (3) dX7_hair_48 (by decide) ?_
    refine J.iload_n dX7_hair_49 rfl rfl ?_
    refine J.imul dX7_hair_50 ?_
    refine J.iload_n dX7_hair_51 rfl rfl ?_
    refine J.iadd dX7_hair_52 ?_
    first | (refine J.ml1 (3 * i) dX7_hair_53 (ix_0 3 i) (by have := hr.1; omega) ?_; rw [(hS.1 i hi).1]) | (refine J.ml1 (3 * i + 1) dX7_hair_53 (ix 3 i 1) (by have := hr.1; omega) ?_; rw [(hS.1 i hi).2.1])
    exact J.iret dX7_hair_54 rfl rfl (Nat.le_refl _) (Nat.le_refl _) ⟨rfl, rfl⟩
  by_cases sw2 : z = 2
  · subst sw2
    refine J.tableIn (off := 40) (tgt := 55) dX7_hair_15 (by decide) (by decide) (by decide) (by decide) ?_
    refine J.iconst (1) dX7_hair_55 (by decide) ?_
    refine J.aload_n dX7_hair_56 rfl rfl ?_
    refine J.mg0 dX7_hair_57 rfl ?_
    refine J.iconst (3) dX7_hair_60 (by decide) ?_
    refine J.iload_n dX7_hair_61 rfl rfl ?_
    refine J.imul dX7_hair_62 ?_
    refine J.iconst (2) dX7_hair_63 (by decide) ?_
    refine J.iadd dX7_hair_64 ?_
    refine J.ml1 (3 * i + 2) dX7_hair_65 (ix 3 i 2) (by have := hr.1; omega) ?_
    rw [(hS.1 i hi).2.2]
    refine J.isub dX7_hair_66 ?_
    exact J.iret dX7_hair_67 rfl rfl (Nat.le_refl _) (Nat.le_refl _) ⟨congrArg (fun x => some (Value.int x)) (b1_ev _ (Nat.lt_succ_of_le (bit_le _ _))), rfl⟩
  by_cases sw3 : z = 3
  · subst sw3
    refine J.tableIn (off := 53) (tgt := 68) dX7_hair_15 (by decide) (by decide) (by decide) (by decide) ?_
    refine J.aload_n dX7_hair_68 rfl rfl ?_
    refine J.mg0 dX7_hair_69 rfl ?_
    refine J.iconst (3) dX7_hair_72 (by decide) ?_
    refine J.iload_n dX7_hair_73 rfl rfl ?_
    refine J.imul dX7_hair_74 ?_
    refine J.iconst (2) dX7_hair_75 (by decide) ?_
    refine J.iadd dX7_hair_76 ?_
    refine J.ml1 (3 * i + 2) dX7_hair_77 (ix 3 i 2) (by have := hr.1; omega) ?_
    rw [(hS.1 i hi).2.2]
    refine J.iconst (1) dX7_hair_78 (by decide) ?_
    refine J.icmp_ne (tgt := 86) dX7_hair_79 (by decide) (fun c79 => ?_) (fun c79 => ?_)
    · refine J.aload_n dX7_hair_86 rfl rfl ?_
      refine J.iload_n dX7_hair_87 rfl rfl ?_
      refine J.iconst (0) dX7_hair_88 (by decide) ?_
      refine J.aload_n dX7_hair_89 rfl rfl ?_
      refine J.mg26 dX7_hair_90 rfl ?_
      rw [(mlay_E q r 0 (r 6 0)).2.1]
      have hb9 : bit (r 6 3) i = 1 := by have := bit_le (r 6 3) i; have : ¬ bit (r 6 3) i = 0 := fun h9 => c79 ((b1_1 _ (by omega)).mpr h9); omega
      have hp9 : 0 < r 6 3 := bit_pos hb9
      refine J.cvM (as := [.int _, .int _, .int _]) s la r v c l tn p pa (r 6 0) (mlay q r (r 6 0)) b x h okX7_breaksOf jcX7_199 (mX7_breaksOf s la r v c l tn p pa (r 6 0) (mlay q r (r 6 0)) b x h (oqR r) i 0 (r 6 3) (mlay_q q) (mlay_ok hr) hi (by decide) hr.w hp9) dX7_hair_93 rfl rfl rfl rfl (fun r9 B9 hq9 => ?_)
      obtain ⟨rfl, rfl⟩ := hq9
      refine ⟨_, _, _, _, _, _, _, _, _, _, _, _, _, _, rfl, ?_⟩
      show J _ _ _ _ _ (.int _ :: _) (wM s la r v c l tn p pa (r 6 0) (mlay q r (r 6 0)) b x h) _ _
      first | exact J.iret dX7_hair_96 rfl rfl (Nat.le_refl _) (Nat.le_refl _) ⟨congrArg (fun x => some (Value.int x)) (show (0 : Int32) = nI (rbrk r i) by rw [rbrk, if_pos ((b1_1 _ (Nat.lt_succ_of_le (bit_le _ _))).mp c79)] <;> rfl), rfl⟩ | exact J.iret dX7_hair_96 rfl rfl (Nat.le_refl _) (Nat.le_refl _) ⟨congrArg (fun x => some (Value.int x)) (show nI (ten (oqR r) (r 6 3) 0 i) = nI (rbrk r i) by rw [rbrk, if_neg (by omega)]; show nI (brk (r 0 i) (min 9 (r 1 i + 0)) (r 6 4) (pc3 (r 6 3))) = _; rw [Nat.min_eq_right (by have := hr.2.2.2.2.2.2.2.2.2.1 i; omega)] <;> rfl), rfl⟩
    · refine J.iconst (0) dX7_hair_82 (by decide) ?_
      refine J.goto (tgt := 96) dX7_hair_83 (by decide) ?_
      first | exact J.iret dX7_hair_96 rfl rfl (Nat.le_refl _) (Nat.le_refl _) ⟨congrArg (fun x => some (Value.int x)) (show (0 : Int32) = nI (rbrk r i) by rw [rbrk, if_pos ((b1_1 _ (Nat.lt_succ_of_le (bit_le _ _))).mp c79)] <;> rfl), rfl⟩ | exact J.iret dX7_hair_96 rfl rfl (Nat.le_refl _) (Nat.le_refl _) ⟨congrArg (fun x => some (Value.int x)) (show nI (ten (oqR r) (r 6 3) 0 i) = nI (rbrk r i) by rw [rbrk, if_neg (by omega)]; show nI (brk (r 0 i) (min 9 (r 1 i + 0)) (r 6 4) (pc3 (r 6 3))) = _; rw [Nat.min_eq_right (by have := hr.2.2.2.2.2.2.2.2.2.1 i; omega)] <;> rfl), rfl⟩
  refine J.tableOut (tgt := 97) dX7_hair_15 (by have t0 := lv_neT sw0 (show (0 : Int32).toInt = 0 from rfl); have t1 := lv_neT sw1 (show (1 : Int32).toInt = 1 from rfl); have t2 := lv_neT sw2 (show (2 : Int32).toInt = 2 from rfl); have t3 := lv_neT sw3 (show (3 : Int32).toInt = 3 from rfl); omega) (by decide) ?_
  refine J.iconst (-1) dX7_hair_97 (by decide) ?_
  exact J.iret dX7_hair_98 rfl rfl (Nat.le_refl _) (Nat.le_refl _) ⟨congrArg (fun x => some (Value.int x)) (by rw [hairA, if_neg sw0, if_neg sw1, if_neg sw2, if_neg sw3]), rfl⟩
set_option maxRecDepth 100000 in
set_option maxHeartbeats 4000000 in
theorem mX7_hair_bad (s : Nat → Int32) (la : Nat → Int32) (r : rT) (v : vT) (c : Nat → Nat → Int32) (l : Nat → Int32) (tn : Int32) (p : Nat → Int32) (pa : Nat → Nat → Int32) (m : Nat) (q : rT) (b : Int32) (x : Nat → Nat) (h : Nat → Nat → Int64) (i z : Int32) (hb : ¬ (0 ≤ i ∧ i ≤ nI (r 6 0) - 1)) : J KX7_hair 21 (fun o B => o = some (.int (-1)) ∧ B = (wM s la r v c l tn p pa m q b x h)) 0 [some (.ref 0), some (.int i), some (.int z)] [] (wM s la r v c l tn p pa m q b x h) 0 0 := by
  refine J.aload_n dX7_hair_0 rfl rfl ?_
  refine J.iload_n dX7_hair_1 rfl rfl ?_
  refine J.cvM (as := [.int _]) s la r v c l tn p pa m q b x h okX7_isHair jcX7_192 (mX7_isHair s la r v c l tn p pa m q b x h i) dX7_hair_2 rfl rfl rfl rfl (fun r9 B9 hq9 => ?_)
  obtain ⟨rfl, rfl⟩ := hq9
  refine ⟨_, _, _, _, _, _, _, _, _, _, _, _, _, _, rfl, ?_⟩
  show J _ _ _ _ _ (.int _ :: _) (wM s la r v c l tn p pa m q b x h) _ _
  refine J.if_ne (tgt := 10) dX7_hair_5 (by decide) (fun c5 => absurd c5 (fun h => h ((jB_0 _).mpr hb))) (fun c5 => ?_)
  refine J.iconst (-1) dX7_hair_8 (by decide) ?_
  exact J.iret dX7_hair_9 rfl rfl (Nat.le_refl _) (Nat.le_refl _) ⟨rfl, rfl⟩
set_option maxRecDepth 100000 in
set_option maxHeartbeats 4000000 in
theorem mX7_king0 (s : Nat → Int32) (la : Nat → Int32) (r : rT) (v : vT) (c : Nat → Nat → Int32) (l : Nat → Int32) (tn : Int32) (p : Nat → Int32) (pa : Nat → Nat → Int32) (m : Nat) (q : rT) (b : Int32) (x : Nat → Nat) (h : Nat → Nat → Int64) (i : Nat) (hS : mS s r) (hr : rOK r) (hi : i < r 6 1) : J KX7_king 21 (fun o B => o = some (.int (nI (r 2 i))) ∧ B = (wM s la r v c l tn p pa m q b x h)) 0 [some (.ref 0), some (.int (nI i)), some (.int 0)] [] (wM s la r v c l tn p pa m q b x h) 0 0 := by
  refine J.aload_n dX7_king_0 rfl rfl ?_
  refine J.iload_n dX7_king_1 rfl rfl ?_
  refine J.cvM (as := [.int _]) s la r v c l tn p pa m q b x h okX7_isKing jcX7_203 (mX7_isKing s la r v c l tn p pa m q b x h (nI i)) dX7_king_2 rfl rfl rfl rfl (fun r9 B9 hq9 => ?_)
  obtain ⟨rfl, rfl⟩ := hq9
  refine ⟨_, _, _, _, _, _, _, _, _, _, _, _, _, _, rfl, ?_⟩
  show J _ _ _ _ _ (.int _ :: _) (wM s la r v c l tn p pa m q b x h) _ _
  refine J.if_eq (tgt := 34) dX7_king_5 (by decide) (fun c5 => absurd c5 (fun h => (jB_0 _).mp h (jin_ge (by have := hr.2.1; omega) hi))) (fun c5 => ?_)
  refine J.iload_n dX7_king_8 rfl rfl ?_
  refine J.i2l dX7_king_9 ?_
  refine J.lconst 0 dX7_king_10 (by decide) ?_
  refine J.lconst 1 dX7_king_11 (by decide) ?_
  refine J.cs (as := [.long _, .long _, .long _]) (is := []) okX7_in jcX7_74 (mX7_inI 0 0 1 (by decide) (by decide)) dX7_king_12 rfl rfl rfl rfl rfl rfl (fun r9 B9 hq => ?_)
  obtain ⟨rfl, rfl⟩ := hq
  refine ⟨rfl, ?_⟩
  show J _ _ _ _ _ (.int _ :: _) (wM s la r v c l tn p pa m q b x h) _ _
  refine J.if_eq (tgt := 34) dX7_king_15 (by decide) (fun c15 => absurd c15 (fun h => (jB_0 _).mp h (by decide))) (fun c15 => ?_)
  refine J.aload_n dX7_king_18 rfl rfl ?_
  refine J.mg0 dX7_king_19 rfl ?_
  refine J.bipush (10) dX7_king_22 (by decide) ?_
  refine J.iconst (2) dX7_king_24 (by decide) ?_
  refine J.iload_n dX7_king_25 rfl rfl ?_
  refine J.imul dX7_king_26 ?_
  refine J.iadd dX7_king_27 ?_
  refine J.iload_n dX7_king_28 rfl rfl ?_
  refine J.iadd dX7_king_29 ?_
  refine J.ml1 (10 + 2 * i) dX7_king_30 (ixk_0 10 2 i) (by have := hr.2.1; omega) ?_
  rw [(hS.2.2.1 i hi).1]
  refine J.goto (tgt := 35) dX7_king_31 (by decide) ?_
  exact J.iret dX7_king_35 rfl rfl (Nat.le_refl _) (Nat.le_refl _) ⟨rfl, rfl⟩
set_option maxRecDepth 100000 in
set_option maxHeartbeats 4000000 in
theorem mX7_law0 (s : Nat → Int32) (la : Nat → Int32) (r : rT) (v : vT) (c : Nat → Nat → Int32) (l : Nat → Int32) (tn : Int32) (p : Nat → Int32) (pa : Nat → Nat → Int32) (m : Nat) (q : rT) (b : Int32) (x : Nat → Nat) (h : Nat → Nat → Int64) (i : Nat) (hLw : mL la r) (hr : rOK r) (hi : i < r 6 2) : J KX7_law 21 (fun o B => o = some (.int (nI (r 4 i))) ∧ B = (wM s la r v c l tn p pa m q b x h)) 0 [some (.ref 0), some (.int (nI i)), some (.int 0)] [] (wM s la r v c l tn p pa m q b x h) 0 0 := by
  refine J.iload_n dX7_law_0 rfl rfl ?_
  refine J.i2l dX7_law_1 ?_
  refine J.lconst 0 dX7_law_2 (by decide) ?_
  refine J.aload_n dX7_law_3 rfl rfl ?_
  refine J.mg4 dX7_law_4 rfl ?_
  refine J.iconst (1) dX7_law_7 (by decide) ?_
  refine J.isub dX7_law_8 ?_
  refine J.i2l dX7_law_9 ?_
  refine J.cs (as := [.long _, .long _, .long _]) (is := []) okX7_in jcX7_74 (mX7_inI (nI i) 0 (nI (r 6 2) - 1) (by decide) rfl) dX7_law_10 rfl rfl rfl rfl rfl rfl (fun r9 B9 hq => ?_)
  obtain ⟨rfl, rfl⟩ := hq
  refine ⟨rfl, ?_⟩
  show J _ _ _ _ _ (.int _ :: _) (wM s la r v c l tn p pa m q b x h) _ _
  refine J.if_eq (tgt := 39) dX7_law_13 (by decide) (fun c13 => absurd c13 (fun h => (jB_0 _).mp h (jin_ge (by have := hr.2.2.1; omega) hi))) (fun c13 => ?_)
  refine J.iload_n dX7_law_16 rfl rfl ?_
  refine J.i2l dX7_law_17 ?_
  refine J.lconst 0 dX7_law_18 (by decide) ?_
  refine J.lconst 1 dX7_law_19 (by decide) ?_
  refine J.cs (as := [.long _, .long _, .long _]) (is := []) okX7_in jcX7_74 (mX7_inI 0 0 1 (by decide) (by decide)) dX7_law_20 rfl rfl rfl rfl rfl rfl (fun r9 B9 hq => ?_)
  obtain ⟨rfl, rfl⟩ := hq
  refine ⟨rfl, ?_⟩
  show J _ _ _ _ _ (.int _ :: _) (wM s la r v c l tn p pa m q b x h) _ _
  refine J.if_eq (tgt := 39) dX7_law_23 (by decide) (fun c23 => absurd c23 (fun h => (jB_0 _).mp h (by decide))) (fun c23 => ?_)
  refine J.aload_n dX7_law_26 rfl rfl ?_
  refine J.mg3 dX7_law_27 rfl ?_
  refine J.iconst (2) dX7_law_30 (by decide) ?_
  refine J.iload_n dX7_law_31 rfl rfl ?_
  refine J.imul dX7_law_32 ?_
  refine J.iload_n dX7_law_33 rfl rfl ?_
  refine J.iadd dX7_law_34 ?_
  refine J.ml2 (2 * i) dX7_law_35 (ix_0 2 i) (by have := hr.2.2.1; omega) ?_
  rw [(hLw i hi).1]
  refine J.goto (tgt := 40) dX7_law_36 (by decide) ?_
  exact J.iret dX7_law_40 rfl rfl (Nat.le_refl _) (Nat.le_refl _) ⟨rfl, rfl⟩
set_option maxRecDepth 100000 in
set_option maxHeartbeats 4000000 in
theorem mX7_king1 (s : Nat → Int32) (la : Nat → Int32) (r : rT) (v : vT) (c : Nat → Nat → Int32) (l : Nat → Int32) (tn : Int32) (p : Nat → Int32) (pa : Nat → Nat → Int32) (m : Nat) (q : rT) (b : Int32) (x : Nat → Nat) (h : Nat → Nat → Int64) (i : Nat) (hS : mS s r) (hr : rOK r) (hi : i < r 6 1) : J KX7_king 21 (fun o B => o = some (.int (nI (r 3 i))) ∧ B = (wM s la r v c l tn p pa m q b x h)) 0 [some (.ref 0), some (.int (nI i)), some (.int 1)] [] (wM s la r v c l tn p pa m q b x h) 0 0 := by
  refine J.aload_n dX7_king_0 rfl rfl ?_
  refine J.iload_n dX7_king_1 rfl rfl ?_
  refine J.cvM (as := [.int _]) s la r v c l tn p pa m q b x h okX7_isKing jcX7_203 (mX7_isKing s la r v c l tn p pa m q b x h (nI i)) dX7_king_2 rfl rfl rfl rfl (fun r9 B9 hq9 => ?_)
  obtain ⟨rfl, rfl⟩ := hq9
  refine ⟨_, _, _, _, _, _, _, _, _, _, _, _, _, _, rfl, ?_⟩
  show J _ _ _ _ _ (.int _ :: _) (wM s la r v c l tn p pa m q b x h) _ _
  refine J.if_eq (tgt := 34) dX7_king_5 (by decide) (fun c5 => absurd c5 (fun h => (jB_0 _).mp h (jin_ge (by have := hr.2.1; omega) hi))) (fun c5 => ?_)
  refine J.iload_n dX7_king_8 rfl rfl ?_
  refine J.i2l dX7_king_9 ?_
  refine J.lconst 0 dX7_king_10 (by decide) ?_
  refine J.lconst 1 dX7_king_11 (by decide) ?_
  refine J.cs (as := [.long _, .long _, .long _]) (is := []) okX7_in jcX7_74 (mX7_inI 1 0 1 (by decide) (by decide)) dX7_king_12 rfl rfl rfl rfl rfl rfl (fun r9 B9 hq => ?_)
  obtain ⟨rfl, rfl⟩ := hq
  refine ⟨rfl, ?_⟩
  show J _ _ _ _ _ (.int _ :: _) (wM s la r v c l tn p pa m q b x h) _ _
  refine J.if_eq (tgt := 34) dX7_king_15 (by decide) (fun c15 => absurd c15 (fun h => (jB_0 _).mp h (by decide))) (fun c15 => ?_)
  refine J.aload_n dX7_king_18 rfl rfl ?_
  refine J.mg0 dX7_king_19 rfl ?_
  refine J.bipush (10) dX7_king_22 (by decide) ?_
  refine J.iconst (2) dX7_king_24 (by decide) ?_
  refine J.iload_n dX7_king_25 rfl rfl ?_
  refine J.imul dX7_king_26 ?_
  refine J.iadd dX7_king_27 ?_
  refine J.iload_n dX7_king_28 rfl rfl ?_
  refine J.iadd dX7_king_29 ?_
  refine J.ml1 (10 + 2 * i + 1) dX7_king_30 (ixk1 10 2 i 1) (by have := hr.2.1; omega) ?_
  rw [(hS.2.2.1 i hi).2]
  refine J.goto (tgt := 35) dX7_king_31 (by decide) ?_
  exact J.iret dX7_king_35 rfl rfl (Nat.le_refl _) (Nat.le_refl _) ⟨rfl, rfl⟩
set_option maxRecDepth 100000 in
set_option maxHeartbeats 4000000 in
theorem mX7_law1 (s : Nat → Int32) (la : Nat → Int32) (r : rT) (v : vT) (c : Nat → Nat → Int32) (l : Nat → Int32) (tn : Int32) (p : Nat → Int32) (pa : Nat → Nat → Int32) (m : Nat) (q : rT) (b : Int32) (x : Nat → Nat) (h : Nat → Nat → Int64) (i : Nat) (hLw : mL la r) (hr : rOK r) (hi : i < r 6 2) : J KX7_law 21 (fun o B => o = some (.int (nI (r 5 i))) ∧ B = (wM s la r v c l tn p pa m q b x h)) 0 [some (.ref 0), some (.int (nI i)), some (.int 1)] [] (wM s la r v c l tn p pa m q b x h) 0 0 := by
  refine J.iload_n dX7_law_0 rfl rfl ?_
  refine J.i2l dX7_law_1 ?_
  refine J.lconst 0 dX7_law_2 (by decide) ?_
  refine J.aload_n dX7_law_3 rfl rfl ?_
  refine J.mg4 dX7_law_4 rfl ?_
  refine J.iconst (1) dX7_law_7 (by decide) ?_
  refine J.isub dX7_law_8 ?_
  refine J.i2l dX7_law_9 ?_
  refine J.cs (as := [.long _, .long _, .long _]) (is := []) okX7_in jcX7_74 (mX7_inI (nI i) 0 (nI (r 6 2) - 1) (by decide) rfl) dX7_law_10 rfl rfl rfl rfl rfl rfl (fun r9 B9 hq => ?_)
  obtain ⟨rfl, rfl⟩ := hq
  refine ⟨rfl, ?_⟩
  show J _ _ _ _ _ (.int _ :: _) (wM s la r v c l tn p pa m q b x h) _ _
  refine J.if_eq (tgt := 39) dX7_law_13 (by decide) (fun c13 => absurd c13 (fun h => (jB_0 _).mp h (jin_ge (by have := hr.2.2.1; omega) hi))) (fun c13 => ?_)
  refine J.iload_n dX7_law_16 rfl rfl ?_
  refine J.i2l dX7_law_17 ?_
  refine J.lconst 0 dX7_law_18 (by decide) ?_
  refine J.lconst 1 dX7_law_19 (by decide) ?_
  refine J.cs (as := [.long _, .long _, .long _]) (is := []) okX7_in jcX7_74 (mX7_inI 1 0 1 (by decide) (by decide)) dX7_law_20 rfl rfl rfl rfl rfl rfl (fun r9 B9 hq => ?_)
  obtain ⟨rfl, rfl⟩ := hq
  refine ⟨rfl, ?_⟩
  show J _ _ _ _ _ (.int _ :: _) (wM s la r v c l tn p pa m q b x h) _ _
  refine J.if_eq (tgt := 39) dX7_law_23 (by decide) (fun c23 => absurd c23 (fun h => (jB_0 _).mp h (by decide))) (fun c23 => ?_)
  refine J.aload_n dX7_law_26 rfl rfl ?_
  refine J.mg3 dX7_law_27 rfl ?_
  refine J.iconst (2) dX7_law_30 (by decide) ?_
  refine J.iload_n dX7_law_31 rfl rfl ?_
  refine J.imul dX7_law_32 ?_
  refine J.iload_n dX7_law_33 rfl rfl ?_
  refine J.iadd dX7_law_34 ?_
  refine J.ml2 (2 * i + 1) dX7_law_35 (ix 2 i 1) (by have := hr.2.2.1; omega) ?_
  rw [(hLw i hi).2]
  refine J.goto (tgt := 40) dX7_law_36 (by decide) ?_
  exact J.iret dX7_law_40 rfl rfl (Nat.le_refl _) (Nat.le_refl _) ⟨rfl, rfl⟩
set_option maxRecDepth 100000 in
set_option maxHeartbeats 4000000 in
theorem mX7_king_bad (s : Nat → Int32) (la : Nat → Int32) (r : rT) (v : vT) (c : Nat → Nat → Int32) (l : Nat → Int32) (tn : Int32) (p : Nat → Int32) (pa : Nat → Nat → Int32) (m : Nat) (q : rT) (b : Int32) (x : Nat → Nat) (h : Nat → Nat → Int64) (i z : Int32) (hb : ¬ (0 ≤ i ∧ i ≤ nI (r 6 1) - 1) ∨ ¬ (0 ≤ z ∧ z ≤ 1)) : J KX7_king 21 (fun o B => o = some (.int (-1)) ∧ B = (wM s la r v c l tn p pa m q b x h)) 0 [some (.ref 0), some (.int i), some (.int z)] [] (wM s la r v c l tn p pa m q b x h) 0 0 := by
  refine J.aload_n dX7_king_0 rfl rfl ?_
  refine J.iload_n dX7_king_1 rfl rfl ?_
  refine J.cvM (as := [.int _]) s la r v c l tn p pa m q b x h okX7_isKing jcX7_203 (mX7_isKing s la r v c l tn p pa m q b x h i) dX7_king_2 rfl rfl rfl rfl (fun r9 B9 hq9 => ?_)
  obtain ⟨rfl, rfl⟩ := hq9
  refine ⟨_, _, _, _, _, _, _, _, _, _, _, _, _, _, rfl, ?_⟩
  show J _ _ _ _ _ (.int _ :: _) (wM s la r v c l tn p pa m q b x h) _ _
  refine J.if_eq (tgt := 34) dX7_king_5 (by decide) (fun c5 => ?_) (fun c5 => ?_)
  · refine J.iconst (-1) dX7_king_34 (by decide) ?_
    exact J.iret dX7_king_35 rfl rfl (Nat.le_refl _) (Nat.le_refl _) ⟨rfl, rfl⟩
  · refine J.iload_n dX7_king_8 rfl rfl ?_
    refine J.i2l dX7_king_9 ?_
    refine J.lconst 0 dX7_king_10 (by decide) ?_
    refine J.lconst 1 dX7_king_11 (by decide) ?_
    refine J.cs (as := [.long _, .long _, .long _]) (is := []) okX7_in jcX7_74 (mX7_inI z 0 1 (by decide) (by decide)) dX7_king_12 rfl rfl rfl rfl rfl rfl (fun r9 B9 hq => ?_)
    obtain ⟨rfl, rfl⟩ := hq
    refine ⟨rfl, ?_⟩
    show J _ _ _ _ _ (.int _ :: _) (wM s la r v c l tn p pa m q b x h) _ _
    refine J.if_eq (tgt := 34) dX7_king_15 (by decide) (fun c15 => ?_) (fun c15 => absurd c15 (fun h => h ((jB_0 _).mpr (hb.resolve_left (fun h => h (Decidable.not_not.mp (fun h9 => c5 ((jB_0 _).mpr h9))))))))
    refine J.iconst (-1) dX7_king_34 (by decide) ?_
    exact J.iret dX7_king_35 rfl rfl (Nat.le_refl _) (Nat.le_refl _) ⟨rfl, rfl⟩
set_option maxRecDepth 100000 in
set_option maxHeartbeats 4000000 in
theorem mX7_law_bad (s : Nat → Int32) (la : Nat → Int32) (r : rT) (v : vT) (c : Nat → Nat → Int32) (l : Nat → Int32) (tn : Int32) (p : Nat → Int32) (pa : Nat → Nat → Int32) (m : Nat) (q : rT) (b : Int32) (x : Nat → Nat) (h : Nat → Nat → Int64) (i z : Int32) (hb : ¬ (0 ≤ i ∧ i ≤ nI (r 6 2) - 1) ∨ ¬ (0 ≤ z ∧ z ≤ 1)) : J KX7_law 21 (fun o B => o = some (.int (-1)) ∧ B = (wM s la r v c l tn p pa m q b x h)) 0 [some (.ref 0), some (.int i), some (.int z)] [] (wM s la r v c l tn p pa m q b x h) 0 0 := by
  refine J.iload_n dX7_law_0 rfl rfl ?_
  refine J.i2l dX7_law_1 ?_
  refine J.lconst 0 dX7_law_2 (by decide) ?_
  refine J.aload_n dX7_law_3 rfl rfl ?_
  refine J.mg4 dX7_law_4 rfl ?_
  refine J.iconst (1) dX7_law_7 (by decide) ?_
  refine J.isub dX7_law_8 ?_
  refine J.i2l dX7_law_9 ?_
  refine J.cs (as := [.long _, .long _, .long _]) (is := []) okX7_in jcX7_74 (mX7_inI i 0 (nI (r 6 2) - 1) (by decide) rfl) dX7_law_10 rfl rfl rfl rfl rfl rfl (fun r9 B9 hq => ?_)
  obtain ⟨rfl, rfl⟩ := hq
  refine ⟨rfl, ?_⟩
  show J _ _ _ _ _ (.int _ :: _) (wM s la r v c l tn p pa m q b x h) _ _
  refine J.if_eq (tgt := 39) dX7_law_13 (by decide) (fun c13 => ?_) (fun c13 => ?_)
  · refine J.iconst (-1) dX7_law_39 (by decide) ?_
    exact J.iret dX7_law_40 rfl rfl (Nat.le_refl _) (Nat.le_refl _) ⟨rfl, rfl⟩
  · refine J.iload_n dX7_law_16 rfl rfl ?_
    refine J.i2l dX7_law_17 ?_
    refine J.lconst 0 dX7_law_18 (by decide) ?_
    refine J.lconst 1 dX7_law_19 (by decide) ?_
    refine J.cs (as := [.long _, .long _, .long _]) (is := []) okX7_in jcX7_74 (mX7_inI z 0 1 (by decide) (by decide)) dX7_law_20 rfl rfl rfl rfl rfl rfl (fun r9 B9 hq => ?_)
    obtain ⟨rfl, rfl⟩ := hq
    refine ⟨rfl, ?_⟩
    show J _ _ _ _ _ (.int _ :: _) (wM s la r v c l tn p pa m q b x h) _ _
    refine J.if_eq (tgt := 39) dX7_law_23 (by decide) (fun c23 => ?_) (fun c23 => absurd c23 (fun h => h ((jB_0 _).mpr (hb.resolve_left (fun h => h (Decidable.not_not.mp (fun h9 => c13 ((jB_0 _).mpr h9))))))))
    refine J.iconst (-1) dX7_law_39 (by decide) ?_
    exact J.iret dX7_law_40 rfl rfl (Nat.le_refl _) (Nat.le_refl _) ⟨rfl, rfl⟩
set_option maxRecDepth 100000 in
set_option maxHeartbeats 4000000 in
theorem mX7_puts (s : Nat → Int32) (la : Nat → Int32) (r : rT) (v : vT) (c : Nat → Nat → Int32) (l : Nat → Int32) (tn : Int32) (p : Nat → Int32) (pa : Nat → Nat → Int32) (m : Nat) (q : rT) (b : Int32) (x : Nat → Nat) (h : Nat → Nat → Int64) (a : Nat) (e z le : Int32) (he : e = nI a) (ha : a < 80) : J KX7_puts 21 (fun o B => o = some (.int (s a + le)) ∧ B = (wM (upd s a (z - le)) la r v c l tn p pa m q b x h)) 0 [some (.ref 0), some (.int 1), some (.int e), some (.int z), some (.int le), none] [] (wM s la r v c l tn p pa m q b x h) 0 0 := by
  refine J.iload_n dX7_puts_0 rfl rfl ?_
  refine J.if_ne (tgt := 6) dX7_puts_1 (by decide) (fun c1 => ?_) (fun c1 => absurd c1 (by decide))
  refine J.aload_n dX7_puts_6 rfl rfl ?_
  refine J.mg0 dX7_puts_7 rfl ?_
  refine J.iload_n dX7_puts_10 rfl rfl ?_
  refine J.ml1 (a) dX7_puts_11 he ha ?_
  refine J.iload dX7_puts_12 rfl ?_
  refine J.iadd dX7_puts_14 ?_
  refine J.istore dX7_puts_15 (by decide) rfl ?_
  try dsimp only [List.set]
  refine J.aload_n dX7_puts_17 rfl rfl ?_
  refine J.mg0 dX7_puts_18 rfl ?_
  refine J.iload_n dX7_puts_21 rfl rfl ?_
  refine J.iload_n dX7_puts_22 rfl rfl ?_
  refine J.iload dX7_puts_23 rfl ?_
  refine J.isub dX7_puts_25 ?_
  refine J.ms1 (a) dX7_puts_26 he ha ?_
  try dsimp only [List.set]
  refine J.iload dX7_puts_27 rfl ?_
  exact J.iret dX7_puts_29 rfl rfl (Nat.le_refl _) (Nat.le_refl _) ⟨rfl, rfl⟩
set_option maxRecDepth 100000 in
set_option maxHeartbeats 4000000 in
theorem mX7_puts_bad (s : Nat → Int32) (la : Nat → Int32) (r : rT) (v : vT) (c : Nat → Nat → Int32) (l : Nat → Int32) (tn : Int32) (p : Nat → Int32) (pa : Nat → Nat → Int32) (m : Nat) (q : rT) (b : Int32) (x : Nat → Nat) (h : Nat → Nat → Int64) (e z le : Int32) : J KX7_puts 21 (fun o B => o = some (.int (-1)) ∧ B = (wM s la r v c l tn p pa m q b x h)) 0 [some (.ref 0), some (.int 0), some (.int e), some (.int z), some (.int le), none] [] (wM s la r v c l tn p pa m q b x h) 0 0 := by
  refine J.iload_n dX7_puts_0 rfl rfl ?_
  refine J.if_ne (tgt := 6) dX7_puts_1 (by decide) (fun c1 => absurd c1 (fun h => h rfl)) (fun c1 => ?_)
  refine J.iconst (-1) dX7_puts_4 (by decide) ?_
  exact J.iret dX7_puts_5 rfl rfl (Nat.le_refl _) (Nat.le_refl _) ⟨rfl, rfl⟩
set_option maxRecDepth 100000 in
set_option maxHeartbeats 4000000 in
theorem mX7_set0 (s : Nat → Int32) (la : Nat → Int32) (r : rT) (v : vT) (c : Nat → Nat → Int32) (l : Nat → Int32) (tn : Int32) (p : Nat → Int32) (pa : Nat → Nat → Int32) (m : Nat) (q : rT) (b : Int32) (x : Nat → Nat) (h : Nat → Nat → Int64) (z : Nat) (h1 : 1 ≤ z) (h2 : z ≤ 9) (hS : mS s r) : J KX7_set 21 (fun o B => o = some (.int (nI (r 6 4))) ∧ B = (wM (upd s 9 (nI z - 3)) la r v c l tn p pa m q b x h)) 0 [some (.ref 0), some (.int 0), some (.int (nI z))] [] (wM s la r v c l tn p pa m q b x h) 0 0 := by
  refine J.iload_n dX7_set_0 rfl rfl ?_
  refine J.if_ne (tgt := 24) dX7_set_1 (by decide) (fun c1 => absurd c1 (fun h => h rfl)) (fun c1 => ?_)
  refine J.aload_n dX7_set_4 rfl rfl ?_
  refine J.iload_n dX7_set_5 rfl rfl ?_
  refine J.i2l dX7_set_6 ?_
  refine J.lconst 1 dX7_set_7 (by decide) ?_
  refine J.ldc2 (v := 9) dX7_set_8 (jt 1012 rfl rfl) ?_
  refine J.cs (as := [.long _, .long _, .long _]) (is := []) okX7_in jcX7_74 (mX7_inI (nI z) 1 9 (by decide) (by decide)) dX7_set_11 rfl rfl rfl rfl rfl rfl (fun r9 B9 hq => ?_)
  obtain ⟨rfl, rfl⟩ := hq
  refine ⟨rfl, ?_⟩
  show J _ _ _ _ _ (.int _ :: _) (wM s la r v c l tn p pa m q b x h) _ _
  rw [jB_t _ (show (1 : Int32) ≤ nI z ∧ nI z ≤ 9 from (jw (a := 1) (c := 9) (by decide) h1 h2))]
  refine J.bipush (9) dX7_set_14 (by decide) ?_
  refine J.iload_n dX7_set_16 rfl rfl ?_
  refine J.iconst (3) dX7_set_17 (by decide) ?_
  refine J.cvM (as := [.int _, .int _, .int _, .int _]) s la r v c l tn p pa m q b x h okX7_puts jcX7_208 (mX7_puts s la r v c l tn p pa m q b x h (9) (9) (nI z) (3) rfl (by decide)) dX7_set_18 rfl rfl rfl rfl (fun r9 B9 hq9 => ?_)
  obtain ⟨rfl, rfl⟩ := hq9
  refine ⟨_, _, _, _, _, _, _, _, _, _, _, _, _, _, rfl, ?_⟩
  show J _ _ _ _ _ (.int _ :: _) (wM (upd s 9 (nI z - 3)) la r v c l tn p pa m q b x h) _ _
  refine J.goto (tgt := 55) dX7_set_21 (by decide) ?_
  exact J.iret dX7_set_55 rfl rfl (Nat.le_refl _) (Nat.le_refl _) ⟨congrArg (fun x => some (Value.int x)) (by rw [hS.2.1, Int32.sub_add_cancel]), rfl⟩
set_option maxRecDepth 100000 in
set_option maxHeartbeats 4000000 in
theorem mX7_set1 (s : Nat → Int32) (la : Nat → Int32) (r : rT) (v : vT) (c : Nat → Nat → Int32) (l : Nat → Int32) (tn : Int32) (p : Nat → Int32) (pa : Nat → Nat → Int32) (m : Nat) (q : rT) (b : Int32) (x : Nat → Nat) (h : Nat → Nat → Int64) (z : Nat) (h1 : 0 ≤ z) (h2 : z ≤ 99) (hS : mS s r) : J KX7_set 21 (fun o B => o = some (.int (nI (r 6 5))) ∧ B = (wM (upd s 18 (nI z - 9)) la r v c l tn p pa m q b x h)) 0 [some (.ref 0), some (.int 1), some (.int (nI z))] [] (wM s la r v c l tn p pa m q b x h) 0 0 := by
  refine J.iload_n dX7_set_0 rfl rfl ?_
  refine J.if_ne (tgt := 24) dX7_set_1 (by decide) (fun c1 => ?_) (fun c1 => absurd c1 (by decide))
  refine J.aload_n dX7_set_24 rfl rfl ?_
  refine J.iload_n dX7_set_25 rfl rfl ?_
  refine J.iconst (1) dX7_set_26 (by decide) ?_
  refine J.icmp_ne (tgt := 46) dX7_set_27 (by decide) (fun c27 => absurd c27 (fun h => h rfl)) (fun c27 => ?_)
  refine J.iload_n dX7_set_30 rfl rfl ?_
  refine J.i2l dX7_set_31 ?_
  refine J.lconst 0 dX7_set_32 (by decide) ?_
  refine J.ldc2 (v := 99) dX7_set_33 (jt 1017 rfl rfl) ?_
  refine J.cs (as := [.long _, .long _, .long _]) (is := []) okX7_in jcX7_74 (mX7_inI (nI z) 0 99 (by decide) (by decide)) dX7_set_36 rfl rfl rfl rfl rfl rfl (fun r9 B9 hq => ?_)
  obtain ⟨rfl, rfl⟩ := hq
  refine ⟨rfl, ?_⟩
  show J _ _ _ _ _ (.int _ :: _) (wM s la r v c l tn p pa m q b x h) _ _
  refine J.if_eq (tgt := 46) dX7_set_39 (by decide) (fun c39 => absurd c39 (fun h => (jB_0 _).mp h (jw (a := 0) (c := 99) (by decide) h1 h2))) (fun c39 => ?_)
  refine J.iconst (1) dX7_set_42 (by decide) ?_
  refine J.goto (tgt := 47) dX7_set_43 (by decide) ?_
  refine J.bipush (18) dX7_set_47 (by decide) ?_
  refine J.iload_n dX7_set_49 rfl rfl ?_
  refine J.bipush (9) dX7_set_50 (by decide) ?_
  refine J.cvM (as := [.int _, .int _, .int _, .int _]) s la r v c l tn p pa m q b x h okX7_puts jcX7_208 (mX7_puts s la r v c l tn p pa m q b x h (18) (18) (nI z) (9) rfl (by decide)) dX7_set_52 rfl rfl rfl rfl (fun r9 B9 hq9 => ?_)
  obtain ⟨rfl, rfl⟩ := hq9
  refine ⟨_, _, _, _, _, _, _, _, _, _, _, _, _, _, rfl, ?_⟩
  show J _ _ _ _ _ (.int _ :: _) (wM (upd s 18 (nI z - 9)) la r v c l tn p pa m q b x h) _ _
  exact J.iret dX7_set_55 rfl rfl (Nat.le_refl _) (Nat.le_refl _) ⟨congrArg (fun x => some (Value.int x)) (by rw [hS.2.2.2.1, Int32.sub_add_cancel]), rfl⟩
set_option maxRecDepth 100000 in
set_option maxHeartbeats 4000000 in
theorem mX7_set_bad (s : Nat → Int32) (la : Nat → Int32) (r : rT) (v : vT) (c : Nat → Nat → Int32) (l : Nat → Int32) (tn : Int32) (p : Nat → Int32) (pa : Nat → Nat → Int32) (m : Nat) (q : rT) (b : Int32) (x : Nat → Nat) (h : Nat → Nat → Int64) (a z : Int32) (h0 : ¬ (a = 0 ∧ 1 ≤ z ∧ z ≤ 9)) (h1 : ¬ (a = 1 ∧ 0 ≤ z ∧ z ≤ 99)) : J KX7_set 21 (fun o B => o = some (.int (-1)) ∧ B = (wM s la r v c l tn p pa m q b x h)) 0 [some (.ref 0), some (.int a), some (.int z)] [] (wM s la r v c l tn p pa m q b x h) 0 0 := by
  refine J.iload_n dX7_set_0 rfl rfl ?_
  refine J.if_ne (tgt := 24) dX7_set_1 (by decide) (fun c1 => ?_) (fun c1 => ?_)
  · refine J.aload_n dX7_set_24 rfl rfl ?_
    refine J.iload_n dX7_set_25 rfl rfl ?_
    refine J.iconst (1) dX7_set_26 (by decide) ?_
    refine J.icmp_ne (tgt := 46) dX7_set_27 (by decide) (fun c27 => ?_) (fun c27 => ?_)
    · refine J.iconst (0) dX7_set_46 (by decide) ?_
      refine J.bipush (18) dX7_set_47 (by decide) ?_
      refine J.iload_n dX7_set_49 rfl rfl ?_
      refine J.bipush (9) dX7_set_50 (by decide) ?_
      refine J.cvM (as := [.int _, .int _, .int _, .int _]) s la r v c l tn p pa m q b x h okX7_puts jcX7_208 (mX7_puts_bad s la r v c l tn p pa m q b x h (18) (z) (9)) dX7_set_52 rfl rfl rfl rfl (fun r9 B9 hq9 => ?_)
      obtain ⟨rfl, rfl⟩ := hq9
      refine ⟨_, _, _, _, _, _, _, _, _, _, _, _, _, _, rfl, ?_⟩
      show J _ _ _ _ _ (.int _ :: _) (wM s la r v c l tn p pa m q b x h) _ _
      exact J.iret dX7_set_55 rfl rfl (Nat.le_refl _) (Nat.le_refl _) ⟨rfl, rfl⟩
    · refine J.iload_n dX7_set_30 rfl rfl ?_
      refine J.i2l dX7_set_31 ?_
      refine J.lconst 0 dX7_set_32 (by decide) ?_
      refine J.ldc2 (v := 99) dX7_set_33 (jt 1017 rfl rfl) ?_
      refine J.cs (as := [.long _, .long _, .long _]) (is := []) okX7_in jcX7_74 (mX7_inI z 0 99 (by decide) (by decide)) dX7_set_36 rfl rfl rfl rfl rfl rfl (fun r9 B9 hq => ?_)
      obtain ⟨rfl, rfl⟩ := hq
      refine ⟨rfl, ?_⟩
      show J _ _ _ _ _ (.int _ :: _) (wM s la r v c l tn p pa m q b x h) _ _
      refine J.if_eq (tgt := 46) dX7_set_39 (by decide) (fun c39 => ?_) (fun c39 => absurd c39 (fun h => h ((jB_0 _).mpr (fun h => h1 ⟨c27, h⟩))))
      refine J.iconst (0) dX7_set_46 (by decide) ?_
      refine J.bipush (18) dX7_set_47 (by decide) ?_
      refine J.iload_n dX7_set_49 rfl rfl ?_
      refine J.bipush (9) dX7_set_50 (by decide) ?_
      refine J.cvM (as := [.int _, .int _, .int _, .int _]) s la r v c l tn p pa m q b x h okX7_puts jcX7_208 (mX7_puts_bad s la r v c l tn p pa m q b x h (18) (z) (9)) dX7_set_52 rfl rfl rfl rfl (fun r9 B9 hq9 => ?_)
      obtain ⟨rfl, rfl⟩ := hq9
      refine ⟨_, _, _, _, _, _, _, _, _, _, _, _, _, _, rfl, ?_⟩
      show J _ _ _ _ _ (.int _ :: _) (wM s la r v c l tn p pa m q b x h) _ _
      exact J.iret dX7_set_55 rfl rfl (Nat.le_refl _) (Nat.le_refl _) ⟨rfl, rfl⟩
  · refine J.aload_n dX7_set_4 rfl rfl ?_
    refine J.iload_n dX7_set_5 rfl rfl ?_
    refine J.i2l dX7_set_6 ?_
    refine J.lconst 1 dX7_set_7 (by decide) ?_
    refine J.ldc2 (v := 9) dX7_set_8 (jt 1012 rfl rfl) ?_
    refine J.cs (as := [.long _, .long _, .long _]) (is := []) okX7_in jcX7_74 (mX7_inI z 1 9 (by decide) (by decide)) dX7_set_11 rfl rfl rfl rfl rfl rfl (fun r9 B9 hq => ?_)
    obtain ⟨rfl, rfl⟩ := hq
    refine ⟨rfl, ?_⟩
    show J _ _ _ _ _ (.int _ :: _) (wM s la r v c l tn p pa m q b x h) _ _
    rw [jB_f _ (show ¬ (1 ≤ z ∧ z ≤ 9) from fun h => h0 ⟨c1, h⟩)]
    refine J.bipush (9) dX7_set_14 (by decide) ?_
    refine J.iload_n dX7_set_16 rfl rfl ?_
    refine J.iconst (3) dX7_set_17 (by decide) ?_
    refine J.cvM (as := [.int _, .int _, .int _, .int _]) s la r v c l tn p pa m q b x h okX7_puts jcX7_208 (mX7_puts_bad s la r v c l tn p pa m q b x h (9) (z) (3)) dX7_set_18 rfl rfl rfl rfl (fun r9 B9 hq9 => ?_)
    obtain ⟨rfl, rfl⟩ := hq9
    refine ⟨_, _, _, _, _, _, _, _, _, _, _, _, _, _, rfl, ?_⟩
    show J _ _ _ _ _ (.int _ :: _) (wM s la r v c l tn p pa m q b x h) _ _
    refine J.goto (tgt := 55) dX7_set_21 (by decide) ?_
    exact J.iret dX7_set_55 rfl rfl (Nat.le_refl _) (Nat.le_refl _) ⟨rfl, rfl⟩
set_option maxRecDepth 100000 in
set_option maxHeartbeats 4000000 in
theorem mX7_age (s : Nat → Int32) (la : Nat → Int32) (r : rT) (v : vT) (c : Nat → Nat → Int32) (l : Nat → Int32) (tn : Int32) (p : Nat → Int32) (pa : Nat → Nat → Int32) (m : Nat) (q : rT) (b : Int32) (x : Nat → Nat) (h : Nat → Nat → Int64) (i z : Nat) (hS : mS s r) (hr : rOK r) (hi : i < r 6 0) (h2 : z ≤ 9) : J KX7_age 21 (fun o B => o = some (.int (nI (r 1 i))) ∧ B = (wM (upd s (3 * i + 1) (nI z)) la r v c l tn p pa m q b x h)) 0 [some (.ref 0), some (.int (nI i)), some (.int (nI z))] [] (wM s la r v c l tn p pa m q b x h) 0 0 := by
  refine J.aload_n dX7_age_0 rfl rfl ?_
  refine J.aload_n dX7_age_1 rfl rfl ?_
  refine J.iload_n dX7_age_2 rfl rfl ?_
  refine J.cvM (as := [.int _]) s la r v c l tn p pa m q b x h okX7_isHair jcX7_192 (mX7_isHair s la r v c l tn p pa m q b x h (nI i)) dX7_age_3 rfl rfl rfl rfl (fun r9 B9 hq9 => ?_)
  obtain ⟨rfl, rfl⟩ := hq9
  refine ⟨_, _, _, _, _, _, _, _, _, _, _, _, _, _, rfl, ?_⟩
  show J _ _ _ _ _ (.int _ :: _) (wM s la r v c l tn p pa m q b x h) _ _
  refine J.if_eq (tgt := 25) dX7_age_6 (by decide) (fun c6 => absurd c6 (fun h => (jB_0 _).mp h (jin_ge (by have := hr.1; omega) hi))) (fun c6 => ?_)
  refine J.iload_n dX7_age_9 rfl rfl ?_
  refine J.i2l dX7_age_10 ?_
  refine J.lconst 0 dX7_age_11 (by decide) ?_
  refine J.ldc2 (v := 9) dX7_age_12 (jt 1012 rfl rfl) ?_
  refine J.cs (as := [.long _, .long _, .long _]) (is := []) okX7_in jcX7_74 (mX7_inI (nI z) 0 9 (by decide) (by decide)) dX7_age_15 rfl rfl rfl rfl rfl rfl (fun r9 B9 hq => ?_)
  obtain ⟨rfl, rfl⟩ := hq
  refine ⟨rfl, ?_⟩
  show J _ _ _ _ _ (.int _ :: _) (wM s la r v c l tn p pa m q b x h) _ _
  refine J.if_eq (tgt := 25) dX7_age_18 (by decide) (fun c18 => absurd c18 (fun h => (jB_0 _).mp h (jw (a := 0) (c := 9) (by decide) (Nat.zero_le _) h2))) (fun c18 => ?_)
  refine J.iconst (1) dX7_age_21 (by decide) ?_
  refine J.goto (tgt := 26) dX7_age_22 (by decide) ?_
  refine J.iconst (3) dX7_age_26 (by decide) ?_
  refine J.iload_n dX7_age_27 rfl rfl ?_
  refine J.imul dX7_age_28 ?_
  refine J.iconst (1) dX7_age_29 (by decide) ?_
  refine J.iadd dX7_age_30 ?_
  refine J.iload_n dX7_age_31 rfl rfl ?_
  refine J.iconst (0) dX7_age_32 (by decide) ?_
  refine J.cvM (as := [.int _, .int _, .int _, .int _]) s la r v c l tn p pa m q b x h okX7_puts jcX7_208 (mX7_puts s la r v c l tn p pa m q b x h (3 * i + 1) (3 * nI i + 1) (nI z) (0) (ix 3 i 1) (by have := hr.1; omega)) dX7_age_33 rfl rfl rfl rfl (fun r9 B9 hq9 => ?_)
  obtain ⟨rfl, rfl⟩ := hq9
  refine ⟨_, _, _, _, _, _, _, _, _, _, _, _, _, _, rfl, ?_⟩
  show J _ _ _ _ _ (.int _ :: _) (wM (upd s (3 * i + 1) (nI z - 0)) la r v c l tn p pa m q b x h) _ _
  exact J.iret dX7_age_36 rfl rfl (Nat.le_refl _) (Nat.le_refl _) ⟨congrArg (fun x => some (Value.int x)) (by rw [Int32.add_zero, (hS.1 i hi).2.1]), by rw [Int32.sub_zero]⟩
set_option maxRecDepth 100000 in
set_option maxHeartbeats 4000000 in
theorem mX7_age_bad (s : Nat → Int32) (la : Nat → Int32) (r : rT) (v : vT) (c : Nat → Nat → Int32) (l : Nat → Int32) (tn : Int32) (p : Nat → Int32) (pa : Nat → Nat → Int32) (m : Nat) (q : rT) (b : Int32) (x : Nat → Nat) (h : Nat → Nat → Int64) (i z : Int32) (hb : ¬ (0 ≤ i ∧ i ≤ nI (r 6 0) - 1) ∨ ¬ (0 ≤ z ∧ z ≤ 9)) : J KX7_age 21 (fun o B => o = some (.int (-1)) ∧ B = (wM s la r v c l tn p pa m q b x h)) 0 [some (.ref 0), some (.int i), some (.int z)] [] (wM s la r v c l tn p pa m q b x h) 0 0 := by
  refine J.aload_n dX7_age_0 rfl rfl ?_
  refine J.aload_n dX7_age_1 rfl rfl ?_
  refine J.iload_n dX7_age_2 rfl rfl ?_
  refine J.cvM (as := [.int _]) s la r v c l tn p pa m q b x h okX7_isHair jcX7_192 (mX7_isHair s la r v c l tn p pa m q b x h i) dX7_age_3 rfl rfl rfl rfl (fun r9 B9 hq9 => ?_)
  obtain ⟨rfl, rfl⟩ := hq9
  refine ⟨_, _, _, _, _, _, _, _, _, _, _, _, _, _, rfl, ?_⟩
  show J _ _ _ _ _ (.int _ :: _) (wM s la r v c l tn p pa m q b x h) _ _
  refine J.if_eq (tgt := 25) dX7_age_6 (by decide) (fun c6 => ?_) (fun c6 => ?_)
  · refine J.iconst (0) dX7_age_25 (by decide) ?_
    refine J.iconst (3) dX7_age_26 (by decide) ?_
    refine J.iload_n dX7_age_27 rfl rfl ?_
    refine J.imul dX7_age_28 ?_
    refine J.iconst (1) dX7_age_29 (by decide) ?_
    refine J.iadd dX7_age_30 ?_
    refine J.iload_n dX7_age_31 rfl rfl ?_
    refine J.iconst (0) dX7_age_32 (by decide) ?_
    refine J.cvM (as := [.int _, .int _, .int _, .int _]) s la r v c l tn p pa m q b x h okX7_puts jcX7_208 (mX7_puts_bad s la r v c l tn p pa m q b x h (_) (_) (_)) dX7_age_33 rfl rfl rfl rfl (fun r9 B9 hq9 => ?_)
    obtain ⟨rfl, rfl⟩ := hq9
    refine ⟨_, _, _, _, _, _, _, _, _, _, _, _, _, _, rfl, ?_⟩
    show J _ _ _ _ _ (.int _ :: _) (wM s la r v c l tn p pa m q b x h) _ _
    exact J.iret dX7_age_36 rfl rfl (Nat.le_refl _) (Nat.le_refl _) ⟨rfl, rfl⟩
  · refine J.iload_n dX7_age_9 rfl rfl ?_
    refine J.i2l dX7_age_10 ?_
    refine J.lconst 0 dX7_age_11 (by decide) ?_
    refine J.ldc2 (v := 9) dX7_age_12 (jt 1012 rfl rfl) ?_
    refine J.cs (as := [.long _, .long _, .long _]) (is := []) okX7_in jcX7_74 (mX7_inI z 0 9 (by decide) (by decide)) dX7_age_15 rfl rfl rfl rfl rfl rfl (fun r9 B9 hq => ?_)
    obtain ⟨rfl, rfl⟩ := hq
    refine ⟨rfl, ?_⟩
    show J _ _ _ _ _ (.int _ :: _) (wM s la r v c l tn p pa m q b x h) _ _
    refine J.if_eq (tgt := 25) dX7_age_18 (by decide) (fun c18 => ?_) (fun c18 => absurd c18 (fun h => h ((jB_0 _).mpr (hb.resolve_left (fun h => h (Decidable.not_not.mp (fun h9 => c6 ((jB_0 _).mpr h9))))))))
    refine J.iconst (0) dX7_age_25 (by decide) ?_
    refine J.iconst (3) dX7_age_26 (by decide) ?_
    refine J.iload_n dX7_age_27 rfl rfl ?_
    refine J.imul dX7_age_28 ?_
    refine J.iconst (1) dX7_age_29 (by decide) ?_
    refine J.iadd dX7_age_30 ?_
    refine J.iload_n dX7_age_31 rfl rfl ?_
    refine J.iconst (0) dX7_age_32 (by decide) ?_
    refine J.cvM (as := [.int _, .int _, .int _, .int _]) s la r v c l tn p pa m q b x h okX7_puts jcX7_208 (mX7_puts_bad s la r v c l tn p pa m q b x h (_) (_) (_)) dX7_age_33 rfl rfl rfl rfl (fun r9 B9 hq9 => ?_)
    obtain ⟨rfl, rfl⟩ := hq9
    refine ⟨_, _, _, _, _, _, _, _, _, _, _, _, _, _, rfl, ?_⟩
    show J _ _ _ _ _ (.int _ :: _) (wM s la r v c l tn p pa m q b x h) _ _
    exact J.iret dX7_age_36 rfl rfl (Nat.le_refl _) (Nat.le_refl _) ⟨rfl, rfl⟩
set_option maxRecDepth 100000 in
set_option maxHeartbeats 4000000 in
theorem mX7_dye (s : Nat → Int32) (la : Nat → Int32) (r : rT) (v : vT) (c : Nat → Nat → Int32) (l : Nat → Int32) (tn : Int32) (p : Nat → Int32) (pa : Nat → Nat → Int32) (m : Nat) (q : rT) (b : Int32) (x : Nat → Nat) (h : Nat → Nat → Int64) (i z : Nat) (hS : mS s r) (hr : rOK r) (hi : i < r 6 0) (h2 : z ≤ 4) : J KX7_dye 21 (fun o B => o = some (.int (nI (r 0 i))) ∧ B = (wM (upd s (3 * i) (nI z)) la r v c l tn p pa m q b x h)) 0 [some (.ref 0), some (.int (nI i)), some (.int (nI z))] [] (wM s la r v c l tn p pa m q b x h) 0 0 := by
  refine J.aload_n dX7_dye_0 rfl rfl ?_
  refine J.aload_n dX7_dye_1 rfl rfl ?_
  refine J.iload_n dX7_dye_2 rfl rfl ?_
  refine J.cvM (as := [.int _]) s la r v c l tn p pa m q b x h okX7_isHair jcX7_192 (mX7_isHair s la r v c l tn p pa m q b x h (nI i)) dX7_dye_3 rfl rfl rfl rfl (fun r9 B9 hq9 => ?_)
  obtain ⟨rfl, rfl⟩ := hq9
  refine ⟨_, _, _, _, _, _, _, _, _, _, _, _, _, _, rfl, ?_⟩
  show J _ _ _ _ _ (.int _ :: _) (wM s la r v c l tn p pa m q b x h) _ _
  refine J.if_eq (tgt := 25) dX7_dye_6 (by decide) (fun c6 => absurd c6 (fun h => (jB_0 _).mp h (jin_ge (by have := hr.1; omega) hi))) (fun c6 => ?_)
  refine J.iload_n dX7_dye_9 rfl rfl ?_
  refine J.i2l dX7_dye_10 ?_
  refine J.lconst 0 dX7_dye_11 (by decide) ?_
  refine J.ldc2 (v := 4) dX7_dye_12 (jt 947 rfl rfl) ?_
  refine J.cs (as := [.long _, .long _, .long _]) (is := []) okX7_in jcX7_74 (mX7_inI (nI z) 0 4 (by decide) (by decide)) dX7_dye_15 rfl rfl rfl rfl rfl rfl (fun r9 B9 hq => ?_)
  obtain ⟨rfl, rfl⟩ := hq
  refine ⟨rfl, ?_⟩
  show J _ _ _ _ _ (.int _ :: _) (wM s la r v c l tn p pa m q b x h) _ _
  refine J.if_eq (tgt := 25) dX7_dye_18 (by decide) (fun c18 => absurd c18 (fun h => (jB_0 _).mp h (jw (a := 0) (c := 4) (by decide) (Nat.zero_le _) h2))) (fun c18 => ?_)
  refine J.iconst (1) dX7_dye_21 (by decide) ?_
  refine J.goto (tgt := 26) dX7_dye_22 (by decide) ?_
  refine J.iconst (3) dX7_dye_26 (by decide) ?_
  refine J.iload_n dX7_dye_27 rfl rfl ?_
  refine J.imul dX7_dye_28 ?_
  refine J.iload_n dX7_dye_29 rfl rfl ?_
  refine J.iconst (0) dX7_dye_30 (by decide) ?_
  refine J.cvM (as := [.int _, .int _, .int _, .int _]) s la r v c l tn p pa m q b x h okX7_puts jcX7_208 (mX7_puts s la r v c l tn p pa m q b x h (3 * i) (3 * nI i) (nI z) (0) (ix0 3 i) (by have := hr.1; omega)) dX7_dye_31 rfl rfl rfl rfl (fun r9 B9 hq9 => ?_)
  obtain ⟨rfl, rfl⟩ := hq9
  refine ⟨_, _, _, _, _, _, _, _, _, _, _, _, _, _, rfl, ?_⟩
  show J _ _ _ _ _ (.int _ :: _) (wM (upd s (3 * i) (nI z - 0)) la r v c l tn p pa m q b x h) _ _
  exact J.iret dX7_dye_34 rfl rfl (Nat.le_refl _) (Nat.le_refl _) ⟨congrArg (fun x => some (Value.int x)) (by rw [Int32.add_zero, (hS.1 i hi).1]), by rw [Int32.sub_zero]⟩
set_option maxRecDepth 100000 in
set_option maxHeartbeats 4000000 in
theorem mX7_dye_bad (s : Nat → Int32) (la : Nat → Int32) (r : rT) (v : vT) (c : Nat → Nat → Int32) (l : Nat → Int32) (tn : Int32) (p : Nat → Int32) (pa : Nat → Nat → Int32) (m : Nat) (q : rT) (b : Int32) (x : Nat → Nat) (h : Nat → Nat → Int64) (i z : Int32) (hb : ¬ (0 ≤ i ∧ i ≤ nI (r 6 0) - 1) ∨ ¬ (0 ≤ z ∧ z ≤ 4)) : J KX7_dye 21 (fun o B => o = some (.int (-1)) ∧ B = (wM s la r v c l tn p pa m q b x h)) 0 [some (.ref 0), some (.int i), some (.int z)] [] (wM s la r v c l tn p pa m q b x h) 0 0 := by
  refine J.aload_n dX7_dye_0 rfl rfl ?_
  refine J.aload_n dX7_dye_1 rfl rfl ?_
  refine J.iload_n dX7_dye_2 rfl rfl ?_
  refine J.cvM (as := [.int _]) s la r v c l tn p pa m q b x h okX7_isHair jcX7_192 (mX7_isHair s la r v c l tn p pa m q b x h i) dX7_dye_3 rfl rfl rfl rfl (fun r9 B9 hq9 => ?_)
  obtain ⟨rfl, rfl⟩ := hq9
  refine ⟨_, _, _, _, _, _, _, _, _, _, _, _, _, _, rfl, ?_⟩
  show J _ _ _ _ _ (.int _ :: _) (wM s la r v c l tn p pa m q b x h) _ _
  refine J.if_eq (tgt := 25) dX7_dye_6 (by decide) (fun c6 => ?_) (fun c6 => ?_)
  · refine J.iconst (0) dX7_dye_25 (by decide) ?_
    refine J.iconst (3) dX7_dye_26 (by decide) ?_
    refine J.iload_n dX7_dye_27 rfl rfl ?_
    refine J.imul dX7_dye_28 ?_
    refine J.iload_n dX7_dye_29 rfl rfl ?_
    refine J.iconst (0) dX7_dye_30 (by decide) ?_
    refine J.cvM (as := [.int _, .int _, .int _, .int _]) s la r v c l tn p pa m q b x h okX7_puts jcX7_208 (mX7_puts_bad s la r v c l tn p pa m q b x h (_) (_) (_)) dX7_dye_31 rfl rfl rfl rfl (fun r9 B9 hq9 => ?_)
    obtain ⟨rfl, rfl⟩ := hq9
    refine ⟨_, _, _, _, _, _, _, _, _, _, _, _, _, _, rfl, ?_⟩
    show J _ _ _ _ _ (.int _ :: _) (wM s la r v c l tn p pa m q b x h) _ _
    exact J.iret dX7_dye_34 rfl rfl (Nat.le_refl _) (Nat.le_refl _) ⟨rfl, rfl⟩
  · refine J.iload_n dX7_dye_9 rfl rfl ?_
    refine J.i2l dX7_dye_10 ?_
    refine J.lconst 0 dX7_dye_11 (by decide) ?_
    refine J.ldc2 (v := 4) dX7_dye_12 (jt 947 rfl rfl) ?_
    refine J.cs (as := [.long _, .long _, .long _]) (is := []) okX7_in jcX7_74 (mX7_inI z 0 4 (by decide) (by decide)) dX7_dye_15 rfl rfl rfl rfl rfl rfl (fun r9 B9 hq => ?_)
    obtain ⟨rfl, rfl⟩ := hq
    refine ⟨rfl, ?_⟩
    show J _ _ _ _ _ (.int _ :: _) (wM s la r v c l tn p pa m q b x h) _ _
    refine J.if_eq (tgt := 25) dX7_dye_18 (by decide) (fun c18 => ?_) (fun c18 => absurd c18 (fun h => h ((jB_0 _).mpr (hb.resolve_left (fun h => h (Decidable.not_not.mp (fun h9 => c6 ((jB_0 _).mpr h9))))))))
    refine J.iconst (0) dX7_dye_25 (by decide) ?_
    refine J.iconst (3) dX7_dye_26 (by decide) ?_
    refine J.iload_n dX7_dye_27 rfl rfl ?_
    refine J.imul dX7_dye_28 ?_
    refine J.iload_n dX7_dye_29 rfl rfl ?_
    refine J.iconst (0) dX7_dye_30 (by decide) ?_
    refine J.cvM (as := [.int _, .int _, .int _, .int _]) s la r v c l tn p pa m q b x h okX7_puts jcX7_208 (mX7_puts_bad s la r v c l tn p pa m q b x h (_) (_) (_)) dX7_dye_31 rfl rfl rfl rfl (fun r9 B9 hq9 => ?_)
    obtain ⟨rfl, rfl⟩ := hq9
    refine ⟨_, _, _, _, _, _, _, _, _, _, _, _, _, _, rfl, ?_⟩
    show J _ _ _ _ _ (.int _ :: _) (wM s la r v c l tn p pa m q b x h) _ _
    exact J.iret dX7_dye_34 rfl rfl (Nat.le_refl _) (Nat.le_refl _) ⟨rfl, rfl⟩
set_option maxRecDepth 100000 in
set_option maxHeartbeats 4000000 in
theorem mX7_knot1 (s : Nat → Int32) (la : Nat → Int32) (r : rT) (v : vT) (c : Nat → Nat → Int32) (l : Nat → Int32) (tn : Int32) (p : Nat → Int32) (pa : Nat → Nat → Int32) (m : Nat) (q : rT) (b : Int32) (x : Nat → Nat) (h : Nat → Nat → Int64) (i : Nat) (hS : mS s r) (hr : rOK r) (hi : i < r 6 0) : J KX7_knot 21 (fun o B => o = some (.int (nI (bit (r 6 3) i))) ∧ B = (wM (upd (upd s (3 * i + 1) 0) (3 * i + 2) 0) la r v c l tn p pa m q b x h)) 0 [some (.ref 0), some (.int (nI i)), some (.int 1)] [] (wM s la r v c l tn p pa m q b x h) 0 0 := by
  refine J.aload_n dX7_knot_0 rfl rfl ?_
  refine J.iload_n dX7_knot_1 rfl rfl ?_
  refine J.cvM (as := [.int _]) s la r v c l tn p pa m q b x h okX7_isHair jcX7_192 (mX7_isHair s la r v c l tn p pa m q b x h (nI i)) dX7_knot_2 rfl rfl rfl rfl (fun r9 B9 hq9 => ?_)
  obtain ⟨rfl, rfl⟩ := hq9
  refine ⟨_, _, _, _, _, _, _, _, _, _, _, _, _, _, rfl, ?_⟩
  show J _ _ _ _ _ (.int _ :: _) (wM s la r v c l tn p pa m q b x h) _ _
  refine J.if_ne (tgt := 10) dX7_knot_5 (by decide) (fun c5 => ?_) (fun c5 => absurd c5 (fun h => (jB_0 _).mp h (jin_ge (by have := hr.1; omega) hi)))
  refine J.aload_n dX7_knot_10 rfl rfl ?_
  refine J.mg0 dX7_knot_11 rfl ?_
  refine J.iconst (3) dX7_knot_14 (by decide) ?_
  refine J.iload_n dX7_knot_15 rfl rfl ?_
  refine J.imul dX7_knot_16 ?_
  refine J.iconst (1) dX7_knot_17 (by decide) ?_
  refine J.iadd dX7_knot_18 ?_
  refine J.iload_n dX7_knot_19 rfl rfl ?_
  refine J.if_eq (tgt := 27) dX7_knot_20 (by decide) (fun c20 => absurd c20 (by decide)) (fun c20 => ?_)
  refine J.iconst (0) dX7_knot_23 (by decide) ?_
  refine J.goto (tgt := 37) dX7_knot_24 (by decide) ?_
  refine J.ms1 (3 * i + 1) dX7_knot_37 (ix 3 i 1) (by have := hr.1; omega) ?_
  try dsimp only [List.set]
  refine J.iconst (1) dX7_knot_38 (by decide) ?_
  refine J.aload_n dX7_knot_39 rfl rfl ?_
  refine J.iconst (1) dX7_knot_40 (by decide) ?_
  refine J.iconst (3) dX7_knot_41 (by decide) ?_
  refine J.iload_n dX7_knot_42 rfl rfl ?_
  refine J.imul dX7_knot_43 ?_
  refine J.iconst (2) dX7_knot_44 (by decide) ?_
  refine J.iadd dX7_knot_45 ?_
  refine J.iload_n dX7_knot_46 rfl rfl ?_
  refine J.if_eq (tgt := 54) dX7_knot_47 (by decide) (fun c47 => absurd c47 (by decide)) (fun c47 => ?_)
  refine J.iconst (0) dX7_knot_50 (by decide) ?_
  refine J.goto (tgt := 55) dX7_knot_51 (by decide) ?_
  refine J.iconst (0) dX7_knot_55 (by decide) ?_
  refine J.cvM (as := [.int _, .int _, .int _, .int _]) (upd s (3 * i + 1) 0) la r v c l tn p pa m q b x h okX7_puts jcX7_208 (mX7_puts (upd s (3 * i + 1) 0) la r v c l tn p pa m q b x h (3 * i + 2) (3 * nI i + 2) (0) (0) (ix 3 i 2) (by have := hr.1; omega)) dX7_knot_56 rfl rfl rfl rfl (fun r9 B9 hq9 => ?_)
  obtain ⟨rfl, rfl⟩ := hq9
  refine ⟨_, _, _, _, _, _, _, _, _, _, _, _, _, _, rfl, ?_⟩
  show J _ _ _ _ _ (.int _ :: _) (wM (upd (upd s (3 * i + 1) 0) (3 * i + 2) (0 - 0)) la r v c l tn p pa m q b x h) _ _
  refine J.isub dX7_knot_59 ?_
  exact J.iret dX7_knot_60 rfl rfl (Nat.le_refl _) (Nat.le_refl _) ⟨congrArg (fun x => some (Value.int x)) (by rw [Int32.add_zero, pk_un (by omega), (hS.1 i hi).2.2, b1_ev _ (Nat.lt_succ_of_le (bit_le _ _))]), by rw [Int32.sub_zero]⟩
set_option maxRecDepth 100000 in
set_option maxHeartbeats 4000000 in
theorem mX7_knot0 (s : Nat → Int32) (la : Nat → Int32) (r : rT) (v : vT) (c : Nat → Nat → Int32) (l : Nat → Int32) (tn : Int32) (p : Nat → Int32) (pa : Nat → Nat → Int32) (m : Nat) (q : rT) (b : Int32) (x : Nat → Nat) (h : Nat → Nat → Int64) (i : Nat) (hS : mS s r) (hr : rOK r) (hi : i < r 6 0) : J KX7_knot 21 (fun o B => o = some (.int (nI (bit (r 6 3) i))) ∧ B = (wM (upd (upd s (3 * i + 1) (nI (r 1 i))) (3 * i + 2) 1) la r v c l tn p pa m q b x h)) 0 [some (.ref 0), some (.int (nI i)), some (.int 0)] [] (wM s la r v c l tn p pa m q b x h) 0 0 := by
  refine J.aload_n dX7_knot_0 rfl rfl ?_
  refine J.iload_n dX7_knot_1 rfl rfl ?_
  refine J.cvM (as := [.int _]) s la r v c l tn p pa m q b x h okX7_isHair jcX7_192 (mX7_isHair s la r v c l tn p pa m q b x h (nI i)) dX7_knot_2 rfl rfl rfl rfl (fun r9 B9 hq9 => ?_)
  obtain ⟨rfl, rfl⟩ := hq9
  refine ⟨_, _, _, _, _, _, _, _, _, _, _, _, _, _, rfl, ?_⟩
  show J _ _ _ _ _ (.int _ :: _) (wM s la r v c l tn p pa m q b x h) _ _
  refine J.if_ne (tgt := 10) dX7_knot_5 (by decide) (fun c5 => ?_) (fun c5 => absurd c5 (fun h => (jB_0 _).mp h (jin_ge (by have := hr.1; omega) hi)))
  refine J.aload_n dX7_knot_10 rfl rfl ?_
  refine J.mg0 dX7_knot_11 rfl ?_
  refine J.iconst (3) dX7_knot_14 (by decide) ?_
  refine J.iload_n dX7_knot_15 rfl rfl ?_
  refine J.imul dX7_knot_16 ?_
  refine J.iconst (1) dX7_knot_17 (by decide) ?_
  refine J.iadd dX7_knot_18 ?_
  refine J.iload_n dX7_knot_19 rfl rfl ?_
  refine J.if_eq (tgt := 27) dX7_knot_20 (by decide) (fun c20 => ?_) (fun c20 => absurd c20 (fun h => h rfl))
  refine J.aload_n dX7_knot_27 rfl rfl ?_
  refine J.mg0 dX7_knot_28 rfl ?_
  refine J.iconst (3) dX7_knot_31 (by decide) ?_
  refine J.iload_n dX7_knot_32 rfl rfl ?_
  refine J.imul dX7_knot_33 ?_
  refine J.iconst (1) dX7_knot_34 (by decide) ?_
  refine J.iadd dX7_knot_35 ?_
  refine J.ml1 (3 * i + 1) dX7_knot_36 (ix 3 i 1) (by have := hr.1; omega) ?_
  rw [(hS.1 i hi).2.1]
  refine J.ms1 (3 * i + 1) dX7_knot_37 (ix 3 i 1) (by have := hr.1; omega) ?_
  try dsimp only [List.set]
  refine J.iconst (1) dX7_knot_38 (by decide) ?_
  refine J.aload_n dX7_knot_39 rfl rfl ?_
  refine J.iconst (1) dX7_knot_40 (by decide) ?_
  refine J.iconst (3) dX7_knot_41 (by decide) ?_
  refine J.iload_n dX7_knot_42 rfl rfl ?_
  refine J.imul dX7_knot_43 ?_
  refine J.iconst (2) dX7_knot_44 (by decide) ?_
  refine J.iadd dX7_knot_45 ?_
  refine J.iload_n dX7_knot_46 rfl rfl ?_
  refine J.if_eq (tgt := 54) dX7_knot_47 (by decide) (fun c47 => ?_) (fun c47 => absurd c47 (fun h => h rfl))
  refine J.iconst (1) dX7_knot_54 (by decide) ?_
  refine J.iconst (0) dX7_knot_55 (by decide) ?_
  refine J.cvM (as := [.int _, .int _, .int _, .int _]) (upd s (3 * i + 1) (nI (r 1 i))) la r v c l tn p pa m q b x h okX7_puts jcX7_208 (mX7_puts (upd s (3 * i + 1) (nI (r 1 i))) la r v c l tn p pa m q b x h (3 * i + 2) (3 * nI i + 2) (1) (0) (ix 3 i 2) (by have := hr.1; omega)) dX7_knot_56 rfl rfl rfl rfl (fun r9 B9 hq9 => ?_)
  obtain ⟨rfl, rfl⟩ := hq9
  refine ⟨_, _, _, _, _, _, _, _, _, _, _, _, _, _, rfl, ?_⟩
  show J _ _ _ _ _ (.int _ :: _) (wM (upd (upd s (3 * i + 1) (nI (r 1 i))) (3 * i + 2) (1 - 0)) la r v c l tn p pa m q b x h) _ _
  refine J.isub dX7_knot_59 ?_
  exact J.iret dX7_knot_60 rfl rfl (Nat.le_refl _) (Nat.le_refl _) ⟨congrArg (fun x => some (Value.int x)) (by rw [Int32.add_zero, pk_un (by omega), (hS.1 i hi).2.2, b1_ev _ (Nat.lt_succ_of_le (bit_le _ _))]), by rw [Int32.sub_zero]⟩
set_option maxRecDepth 100000 in
set_option maxHeartbeats 4000000 in
theorem mX7_knot_bad (s : Nat → Int32) (la : Nat → Int32) (r : rT) (v : vT) (c : Nat → Nat → Int32) (l : Nat → Int32) (tn : Int32) (p : Nat → Int32) (pa : Nat → Nat → Int32) (m : Nat) (q : rT) (b : Int32) (x : Nat → Nat) (h : Nat → Nat → Int64) (i z : Int32) (hb : ¬ (0 ≤ i ∧ i ≤ nI (r 6 0) - 1)) : J KX7_knot 21 (fun o B => o = some (.int (-1)) ∧ B = (wM s la r v c l tn p pa m q b x h)) 0 [some (.ref 0), some (.int i), some (.int z)] [] (wM s la r v c l tn p pa m q b x h) 0 0 := by
  refine J.aload_n dX7_knot_0 rfl rfl ?_
  refine J.iload_n dX7_knot_1 rfl rfl ?_
  refine J.cvM (as := [.int _]) s la r v c l tn p pa m q b x h okX7_isHair jcX7_192 (mX7_isHair s la r v c l tn p pa m q b x h i) dX7_knot_2 rfl rfl rfl rfl (fun r9 B9 hq9 => ?_)
  obtain ⟨rfl, rfl⟩ := hq9
  refine ⟨_, _, _, _, _, _, _, _, _, _, _, _, _, _, rfl, ?_⟩
  show J _ _ _ _ _ (.int _ :: _) (wM s la r v c l tn p pa m q b x h) _ _
  refine J.if_ne (tgt := 10) dX7_knot_5 (by decide) (fun c5 => absurd c5 (fun h => h ((jB_0 _).mpr hb))) (fun c5 => ?_)
  refine J.iconst (-1) dX7_knot_8 (by decide) ?_
  exact J.iret dX7_knot_9 rfl rfl (Nat.le_refl _) (Nat.le_refl _) ⟨rfl, rfl⟩
set_option maxRecDepth 100000 in
set_option maxHeartbeats 4000000 in
theorem mX7_pay0 (s : Nat → Int32) (la : Nat → Int32) (r : rT) (v : vT) (c : Nat → Nat → Int32) (l : Nat → Int32) (tn : Int32) (p : Nat → Int32) (pa : Nat → Nat → Int32) (m : Nat) (q : rT) (b : Int32) (x : Nat → Nat) (h : Nat → Nat → Int64) (i z : Nat) (hS : mS s r) (hr : rOK r) (hi : i < r 6 1) (h2 : z ≤ 9) : J KX7_pay 21 (fun o B => o = some (.int (nI (r 2 i))) ∧ B = (wM (upd s (10 + 2 * i) (nI z)) la r v c l tn p pa m q b x h)) 0 [some (.ref 0), some (.int (nI i)), some (.int 0), some (.int (nI z))] [] (wM s la r v c l tn p pa m q b x h) 0 0 := by
  refine J.aload_n dX7_pay_0 rfl rfl ?_
  refine J.aload_n dX7_pay_1 rfl rfl ?_
  refine J.iload_n dX7_pay_2 rfl rfl ?_
  refine J.cvM (as := [.int _]) s la r v c l tn p pa m q b x h okX7_isKing jcX7_203 (mX7_isKing s la r v c l tn p pa m q b x h (nI i)) dX7_pay_3 rfl rfl rfl rfl (fun r9 B9 hq9 => ?_)
  obtain ⟨rfl, rfl⟩ := hq9
  refine ⟨_, _, _, _, _, _, _, _, _, _, _, _, _, _, rfl, ?_⟩
  show J _ _ _ _ _ (.int _ :: _) (wM s la r v c l tn p pa m q b x h) _ _
  refine J.if_eq (tgt := 45) dX7_pay_6 (by decide) (fun c6 => absurd c6 (fun h => (jB_0 _).mp h (jin_ge (by have := hr.2.1; omega) hi))) (fun c6 => ?_)
  refine J.iload_n dX7_pay_9 rfl rfl ?_
  refine J.i2l dX7_pay_10 ?_
  refine J.lconst 0 dX7_pay_11 (by decide) ?_
  refine J.lconst 1 dX7_pay_12 (by decide) ?_
  refine J.cs (as := [.long _, .long _, .long _]) (is := []) okX7_in jcX7_74 (mX7_inI 0 0 1 (by decide) (by decide)) dX7_pay_13 rfl rfl rfl rfl rfl rfl (fun r9 B9 hq => ?_)
  obtain ⟨rfl, rfl⟩ := hq
  refine ⟨rfl, ?_⟩
  show J _ _ _ _ _ (.int _ :: _) (wM s la r v c l tn p pa m q b x h) _ _
  refine J.if_eq (tgt := 45) dX7_pay_16 (by decide) (fun c16 => absurd c16 (fun h => (jB_0 _).mp h (by decide))) (fun c16 => ?_)
  refine J.iload_n dX7_pay_19 rfl rfl ?_
  refine J.i2l dX7_pay_20 ?_
  refine J.lconst 0 dX7_pay_21 (by decide) ?_
  refine J.iload_n dX7_pay_22 rfl rfl ?_
  refine J.if_ne (tgt := 32) dX7_pay_23 (by decide) (fun c23 => absurd c23 (fun h => h rfl)) (fun c23 => ?_)
  refine J.ldc2 (v := 9) dX7_pay_26 (jt 1012 rfl rfl) ?_
  refine J.goto (tgt := 35) dX7_pay_29 (by decide) ?_
  refine J.cs (as := [.long _, .long _, .long _]) (is := []) okX7_in jcX7_74 (mX7_inI (nI z) 0 9 (by decide) (by decide)) dX7_pay_35 rfl rfl rfl rfl rfl rfl (fun r9 B9 hq => ?_)
  obtain ⟨rfl, rfl⟩ := hq
  refine ⟨rfl, ?_⟩
  show J _ _ _ _ _ (.int _ :: _) (wM s la r v c l tn p pa m q b x h) _ _
  refine J.if_eq (tgt := 45) dX7_pay_38 (by decide) (fun c38 => absurd c38 (fun h => (jB_0 _).mp h (jw (a := 0) (c := 9) (by decide) (Nat.zero_le _) h2))) (fun c38 => ?_)
  refine J.iconst (1) dX7_pay_41 (by decide) ?_
  refine J.goto (tgt := 46) dX7_pay_42 (by decide) ?_
  refine J.bipush (10) dX7_pay_46 (by decide) ?_
  refine J.iconst (2) dX7_pay_48 (by decide) ?_
  refine J.iload_n dX7_pay_49 rfl rfl ?_
  refine J.imul dX7_pay_50 ?_
  refine J.iadd dX7_pay_51 ?_
  refine J.iload_n dX7_pay_52 rfl rfl ?_
  refine J.iadd dX7_pay_53 ?_
  refine J.iload_n dX7_pay_54 rfl rfl ?_
  refine J.iconst (0) dX7_pay_55 (by decide) ?_
  refine J.cvM (as := [.int _, .int _, .int _, .int _]) s la r v c l tn p pa m q b x h okX7_puts jcX7_208 (mX7_puts s la r v c l tn p pa m q b x h (10 + 2 * i) (10 + 2 * nI i + 0) (nI z) (0) (ixk_0 10 2 i) (by have := hr.2.1; omega)) dX7_pay_56 rfl rfl rfl rfl (fun r9 B9 hq9 => ?_)
  obtain ⟨rfl, rfl⟩ := hq9
  refine ⟨_, _, _, _, _, _, _, _, _, _, _, _, _, _, rfl, ?_⟩
  show J _ _ _ _ _ (.int _ :: _) (wM (upd s (10 + 2 * i) (nI z - 0)) la r v c l tn p pa m q b x h) _ _
  exact J.iret dX7_pay_59 rfl rfl (Nat.le_refl _) (Nat.le_refl _) ⟨congrArg (fun x => some (Value.int x)) (by rw [Int32.add_zero, (hS.2.2.1 i hi).1]), by rw [Int32.sub_zero]⟩
set_option maxRecDepth 100000 in
set_option maxHeartbeats 4000000 in
theorem mX7_pay1 (s : Nat → Int32) (la : Nat → Int32) (r : rT) (v : vT) (c : Nat → Nat → Int32) (l : Nat → Int32) (tn : Int32) (p : Nat → Int32) (pa : Nat → Nat → Int32) (m : Nat) (q : rT) (b : Int32) (x : Nat → Nat) (h : Nat → Nat → Int64) (i z : Nat) (hS : mS s r) (hr : rOK r) (hi : i < r 6 1) (h2 : z ≤ 99) : J KX7_pay 21 (fun o B => o = some (.int (nI (r 3 i))) ∧ B = (wM (upd s (10 + 2 * i + 1) (nI z)) la r v c l tn p pa m q b x h)) 0 [some (.ref 0), some (.int (nI i)), some (.int 1), some (.int (nI z))] [] (wM s la r v c l tn p pa m q b x h) 0 0 := by
  refine J.aload_n dX7_pay_0 rfl rfl ?_
  refine J.aload_n dX7_pay_1 rfl rfl ?_
  refine J.iload_n dX7_pay_2 rfl rfl ?_
  refine J.cvM (as := [.int _]) s la r v c l tn p pa m q b x h okX7_isKing jcX7_203 (mX7_isKing s la r v c l tn p pa m q b x h (nI i)) dX7_pay_3 rfl rfl rfl rfl (fun r9 B9 hq9 => ?_)
  obtain ⟨rfl, rfl⟩ := hq9
  refine ⟨_, _, _, _, _, _, _, _, _, _, _, _, _, _, rfl, ?_⟩
  show J _ _ _ _ _ (.int _ :: _) (wM s la r v c l tn p pa m q b x h) _ _
  refine J.if_eq (tgt := 45) dX7_pay_6 (by decide) (fun c6 => absurd c6 (fun h => (jB_0 _).mp h (jin_ge (by have := hr.2.1; omega) hi))) (fun c6 => ?_)
  refine J.iload_n dX7_pay_9 rfl rfl ?_
  refine J.i2l dX7_pay_10 ?_
  refine J.lconst 0 dX7_pay_11 (by decide) ?_
  refine J.lconst 1 dX7_pay_12 (by decide) ?_
  refine J.cs (as := [.long _, .long _, .long _]) (is := []) okX7_in jcX7_74 (mX7_inI 1 0 1 (by decide) (by decide)) dX7_pay_13 rfl rfl rfl rfl rfl rfl (fun r9 B9 hq => ?_)
  obtain ⟨rfl, rfl⟩ := hq
  refine ⟨rfl, ?_⟩
  show J _ _ _ _ _ (.int _ :: _) (wM s la r v c l tn p pa m q b x h) _ _
  refine J.if_eq (tgt := 45) dX7_pay_16 (by decide) (fun c16 => absurd c16 (fun h => (jB_0 _).mp h (by decide))) (fun c16 => ?_)
  refine J.iload_n dX7_pay_19 rfl rfl ?_
  refine J.i2l dX7_pay_20 ?_
  refine J.lconst 0 dX7_pay_21 (by decide) ?_
  refine J.iload_n dX7_pay_22 rfl rfl ?_
  refine J.if_ne (tgt := 32) dX7_pay_23 (by decide) (fun c23 => ?_) (fun c23 => absurd c23 (by decide))
  refine J.ldc2 (v := 99) dX7_pay_32 (jt 1017 rfl rfl) ?_
  refine J.cs (as := [.long _, .long _, .long _]) (is := []) okX7_in jcX7_74 (mX7_inI (nI z) 0 99 (by decide) (by decide)) dX7_pay_35 rfl rfl rfl rfl rfl rfl (fun r9 B9 hq => ?_)
  obtain ⟨rfl, rfl⟩ := hq
  refine ⟨rfl, ?_⟩
  show J _ _ _ _ _ (.int _ :: _) (wM s la r v c l tn p pa m q b x h) _ _
  refine J.if_eq (tgt := 45) dX7_pay_38 (by decide) (fun c38 => absurd c38 (fun h => (jB_0 _).mp h (jw (a := 0) (c := 99) (by decide) (Nat.zero_le _) h2))) (fun c38 => ?_)
  refine J.iconst (1) dX7_pay_41 (by decide) ?_
  refine J.goto (tgt := 46) dX7_pay_42 (by decide) ?_
  refine J.bipush (10) dX7_pay_46 (by decide) ?_
  refine J.iconst (2) dX7_pay_48 (by decide) ?_
  refine J.iload_n dX7_pay_49 rfl rfl ?_
  refine J.imul dX7_pay_50 ?_
  refine J.iadd dX7_pay_51 ?_
  refine J.iload_n dX7_pay_52 rfl rfl ?_
  refine J.iadd dX7_pay_53 ?_
  refine J.iload_n dX7_pay_54 rfl rfl ?_
  refine J.iconst (0) dX7_pay_55 (by decide) ?_
  refine J.cvM (as := [.int _, .int _, .int _, .int _]) s la r v c l tn p pa m q b x h okX7_puts jcX7_208 (mX7_puts s la r v c l tn p pa m q b x h (10 + 2 * i + 1) (10 + 2 * nI i + 1) (nI z) (0) (ixk1 10 2 i 1) (by have := hr.2.1; omega)) dX7_pay_56 rfl rfl rfl rfl (fun r9 B9 hq9 => ?_)
  obtain ⟨rfl, rfl⟩ := hq9
  refine ⟨_, _, _, _, _, _, _, _, _, _, _, _, _, _, rfl, ?_⟩
  show J _ _ _ _ _ (.int _ :: _) (wM (upd s (10 + 2 * i + 1) (nI z - 0)) la r v c l tn p pa m q b x h) _ _
  exact J.iret dX7_pay_59 rfl rfl (Nat.le_refl _) (Nat.le_refl _) ⟨congrArg (fun x => some (Value.int x)) (by rw [Int32.add_zero, (hS.2.2.1 i hi).2]), by rw [Int32.sub_zero]⟩
theorem z01 {z : Int32} (h : 0 ≤ z ∧ z ≤ 1) (h0 : ¬ z = 0) : z = 1 := by
  obtain ⟨j, hj, rfl⟩ := jin_of (n := 1) (by decide) h.1 h.2
  have : j = 1 := by
    cases j with
    | zero => exact absurd rfl h0
    | succ j => omega
  rw [this]
  rfl
set_option maxRecDepth 100000 in
set_option maxHeartbeats 4000000 in
theorem mX7_pay_bad (s : Nat → Int32) (la : Nat → Int32) (r : rT) (v : vT) (c : Nat → Nat → Int32) (l : Nat → Int32) (tn : Int32) (p : Nat → Int32) (pa : Nat → Nat → Int32) (m : Nat) (q : rT) (b : Int32) (x : Nat → Nat) (h : Nat → Nat → Int64) (i a z : Int32) (hb : 0 ≤ i ∧ i ≤ nI (r 6 1) - 1 → ¬ (a = 0 ∧ 0 ≤ z ∧ z ≤ 9) ∧ ¬ (a = 1 ∧ 0 ≤ z ∧ z ≤ 99)) : J KX7_pay 21 (fun o B => o = some (.int (-1)) ∧ B = (wM s la r v c l tn p pa m q b x h)) 0 [some (.ref 0), some (.int i), some (.int a), some (.int z)] [] (wM s la r v c l tn p pa m q b x h) 0 0 := by
  by_cases c0 : a = 0
  · skip
    refine J.aload_n dX7_pay_0 rfl rfl ?_
    refine J.aload_n dX7_pay_1 rfl rfl ?_
    refine J.iload_n dX7_pay_2 rfl rfl ?_
    refine J.cvM (as := [.int _]) s la r v c l tn p pa m q b x h okX7_isKing jcX7_203 (mX7_isKing s la r v c l tn p pa m q b x h i) dX7_pay_3 rfl rfl rfl rfl (fun r9 B9 hq9 => ?_)
    obtain ⟨rfl, rfl⟩ := hq9
    refine ⟨_, _, _, _, _, _, _, _, _, _, _, _, _, _, rfl, ?_⟩
    show J _ _ _ _ _ (.int _ :: _) (wM s la r v c l tn p pa m q b x h) _ _
    refine J.if_eq (tgt := 45) dX7_pay_6 (by decide) (fun c6 => ?_) (fun c6 => ?_)
    · refine J.iconst (0) dX7_pay_45 (by decide) ?_
      refine J.bipush (10) dX7_pay_46 (by decide) ?_
      refine J.iconst (2) dX7_pay_48 (by decide) ?_
      refine J.iload_n dX7_pay_49 rfl rfl ?_
      refine J.imul dX7_pay_50 ?_
      refine J.iadd dX7_pay_51 ?_
      refine J.iload_n dX7_pay_52 rfl rfl ?_
      refine J.iadd dX7_pay_53 ?_
      refine J.iload_n dX7_pay_54 rfl rfl ?_
      refine J.iconst (0) dX7_pay_55 (by decide) ?_
      refine J.cvM (as := [.int _, .int _, .int _, .int _]) s la r v c l tn p pa m q b x h okX7_puts jcX7_208 (mX7_puts_bad s la r v c l tn p pa m q b x h (_) (_) (_)) dX7_pay_56 rfl rfl rfl rfl (fun r9 B9 hq9 => ?_)
      obtain ⟨rfl, rfl⟩ := hq9
      refine ⟨_, _, _, _, _, _, _, _, _, _, _, _, _, _, rfl, ?_⟩
      show J _ _ _ _ _ (.int _ :: _) (wM s la r v c l tn p pa m q b x h) _ _
      exact J.iret dX7_pay_59 rfl rfl (Nat.le_refl _) (Nat.le_refl _) ⟨rfl, rfl⟩
    · refine J.iload_n dX7_pay_9 rfl rfl ?_
      refine J.i2l dX7_pay_10 ?_
      refine J.lconst 0 dX7_pay_11 (by decide) ?_
      refine J.lconst 1 dX7_pay_12 (by decide) ?_
      refine J.cs (as := [.long _, .long _, .long _]) (is := []) okX7_in jcX7_74 (mX7_inI a 0 1 (by decide) (by decide)) dX7_pay_13 rfl rfl rfl rfl rfl rfl (fun r9 B9 hq => ?_)
      obtain ⟨rfl, rfl⟩ := hq
      refine ⟨rfl, ?_⟩
      show J _ _ _ _ _ (.int _ :: _) (wM s la r v c l tn p pa m q b x h) _ _
      refine J.if_eq (tgt := 45) dX7_pay_16 (by decide) (fun c16 => ?_) (fun c16 => ?_)
      · refine J.iconst (0) dX7_pay_45 (by decide) ?_
        refine J.bipush (10) dX7_pay_46 (by decide) ?_
        refine J.iconst (2) dX7_pay_48 (by decide) ?_
        refine J.iload_n dX7_pay_49 rfl rfl ?_
        refine J.imul dX7_pay_50 ?_
        refine J.iadd dX7_pay_51 ?_
        refine J.iload_n dX7_pay_52 rfl rfl ?_
        refine J.iadd dX7_pay_53 ?_
        refine J.iload_n dX7_pay_54 rfl rfl ?_
        refine J.iconst (0) dX7_pay_55 (by decide) ?_
        refine J.cvM (as := [.int _, .int _, .int _, .int _]) s la r v c l tn p pa m q b x h okX7_puts jcX7_208 (mX7_puts_bad s la r v c l tn p pa m q b x h (_) (_) (_)) dX7_pay_56 rfl rfl rfl rfl (fun r9 B9 hq9 => ?_)
        obtain ⟨rfl, rfl⟩ := hq9
        refine ⟨_, _, _, _, _, _, _, _, _, _, _, _, _, _, rfl, ?_⟩
        show J _ _ _ _ _ (.int _ :: _) (wM s la r v c l tn p pa m q b x h) _ _
        exact J.iret dX7_pay_59 rfl rfl (Nat.le_refl _) (Nat.le_refl _) ⟨rfl, rfl⟩
      · refine J.iload_n dX7_pay_19 rfl rfl ?_
        refine J.i2l dX7_pay_20 ?_
        refine J.lconst 0 dX7_pay_21 (by decide) ?_
        refine J.iload_n dX7_pay_22 rfl rfl ?_
        refine J.if_ne (tgt := 32) dX7_pay_23 (by decide) (fun c23 => absurd c23 (fun h => h c0)) (fun c23 => ?_)
        refine J.ldc2 (v := 9) dX7_pay_26 (jt 1012 rfl rfl) ?_
        refine J.goto (tgt := 35) dX7_pay_29 (by decide) ?_
        refine J.cs (as := [.long _, .long _, .long _]) (is := []) okX7_in jcX7_74 (mX7_inI z 0 9 (by decide) (by decide)) dX7_pay_35 rfl rfl rfl rfl rfl rfl (fun r9 B9 hq => ?_)
        obtain ⟨rfl, rfl⟩ := hq
        refine ⟨rfl, ?_⟩
        show J _ _ _ _ _ (.int _ :: _) (wM s la r v c l tn p pa m q b x h) _ _
        refine J.if_eq (tgt := 45) dX7_pay_38 (by decide) (fun c38 => ?_) (fun c38 => absurd c38 (fun h => h ((jB_0 _).mpr (fun h => (hb (Decidable.not_not.mp (fun h9 => c6 ((jB_0 _).mpr h9)))).1 ⟨c0, h⟩))))
        refine J.iconst (0) dX7_pay_45 (by decide) ?_
        refine J.bipush (10) dX7_pay_46 (by decide) ?_
        refine J.iconst (2) dX7_pay_48 (by decide) ?_
        refine J.iload_n dX7_pay_49 rfl rfl ?_
        refine J.imul dX7_pay_50 ?_
        refine J.iadd dX7_pay_51 ?_
        refine J.iload_n dX7_pay_52 rfl rfl ?_
        refine J.iadd dX7_pay_53 ?_
        refine J.iload_n dX7_pay_54 rfl rfl ?_
        refine J.iconst (0) dX7_pay_55 (by decide) ?_
        refine J.cvM (as := [.int _, .int _, .int _, .int _]) s la r v c l tn p pa m q b x h okX7_puts jcX7_208 (mX7_puts_bad s la r v c l tn p pa m q b x h (_) (_) (_)) dX7_pay_56 rfl rfl rfl rfl (fun r9 B9 hq9 => ?_)
        obtain ⟨rfl, rfl⟩ := hq9
        refine ⟨_, _, _, _, _, _, _, _, _, _, _, _, _, _, rfl, ?_⟩
        show J _ _ _ _ _ (.int _ :: _) (wM s la r v c l tn p pa m q b x h) _ _
        exact J.iret dX7_pay_59 rfl rfl (Nat.le_refl _) (Nat.le_refl _) ⟨rfl, rfl⟩
  · skip
    refine J.aload_n dX7_pay_0 rfl rfl ?_
    refine J.aload_n dX7_pay_1 rfl rfl ?_
    refine J.iload_n dX7_pay_2 rfl rfl ?_
    refine J.cvM (as := [.int _]) s la r v c l tn p pa m q b x h okX7_isKing jcX7_203 (mX7_isKing s la r v c l tn p pa m q b x h i) dX7_pay_3 rfl rfl rfl rfl (fun r9 B9 hq9 => ?_)
    obtain ⟨rfl, rfl⟩ := hq9
    refine ⟨_, _, _, _, _, _, _, _, _, _, _, _, _, _, rfl, ?_⟩
    show J _ _ _ _ _ (.int _ :: _) (wM s la r v c l tn p pa m q b x h) _ _
    refine J.if_eq (tgt := 45) dX7_pay_6 (by decide) (fun c6 => ?_) (fun c6 => ?_)
    · refine J.iconst (0) dX7_pay_45 (by decide) ?_
      refine J.bipush (10) dX7_pay_46 (by decide) ?_
      refine J.iconst (2) dX7_pay_48 (by decide) ?_
      refine J.iload_n dX7_pay_49 rfl rfl ?_
      refine J.imul dX7_pay_50 ?_
      refine J.iadd dX7_pay_51 ?_
      refine J.iload_n dX7_pay_52 rfl rfl ?_
      refine J.iadd dX7_pay_53 ?_
      refine J.iload_n dX7_pay_54 rfl rfl ?_
      refine J.iconst (0) dX7_pay_55 (by decide) ?_
      refine J.cvM (as := [.int _, .int _, .int _, .int _]) s la r v c l tn p pa m q b x h okX7_puts jcX7_208 (mX7_puts_bad s la r v c l tn p pa m q b x h (_) (_) (_)) dX7_pay_56 rfl rfl rfl rfl (fun r9 B9 hq9 => ?_)
      obtain ⟨rfl, rfl⟩ := hq9
      refine ⟨_, _, _, _, _, _, _, _, _, _, _, _, _, _, rfl, ?_⟩
      show J _ _ _ _ _ (.int _ :: _) (wM s la r v c l tn p pa m q b x h) _ _
      exact J.iret dX7_pay_59 rfl rfl (Nat.le_refl _) (Nat.le_refl _) ⟨rfl, rfl⟩
    · refine J.iload_n dX7_pay_9 rfl rfl ?_
      refine J.i2l dX7_pay_10 ?_
      refine J.lconst 0 dX7_pay_11 (by decide) ?_
      refine J.lconst 1 dX7_pay_12 (by decide) ?_
      refine J.cs (as := [.long _, .long _, .long _]) (is := []) okX7_in jcX7_74 (mX7_inI a 0 1 (by decide) (by decide)) dX7_pay_13 rfl rfl rfl rfl rfl rfl (fun r9 B9 hq => ?_)
      obtain ⟨rfl, rfl⟩ := hq
      refine ⟨rfl, ?_⟩
      show J _ _ _ _ _ (.int _ :: _) (wM s la r v c l tn p pa m q b x h) _ _
      refine J.if_eq (tgt := 45) dX7_pay_16 (by decide) (fun c16 => ?_) (fun c16 => ?_)
      · refine J.iconst (0) dX7_pay_45 (by decide) ?_
        refine J.bipush (10) dX7_pay_46 (by decide) ?_
        refine J.iconst (2) dX7_pay_48 (by decide) ?_
        refine J.iload_n dX7_pay_49 rfl rfl ?_
        refine J.imul dX7_pay_50 ?_
        refine J.iadd dX7_pay_51 ?_
        refine J.iload_n dX7_pay_52 rfl rfl ?_
        refine J.iadd dX7_pay_53 ?_
        refine J.iload_n dX7_pay_54 rfl rfl ?_
        refine J.iconst (0) dX7_pay_55 (by decide) ?_
        refine J.cvM (as := [.int _, .int _, .int _, .int _]) s la r v c l tn p pa m q b x h okX7_puts jcX7_208 (mX7_puts_bad s la r v c l tn p pa m q b x h (_) (_) (_)) dX7_pay_56 rfl rfl rfl rfl (fun r9 B9 hq9 => ?_)
        obtain ⟨rfl, rfl⟩ := hq9
        refine ⟨_, _, _, _, _, _, _, _, _, _, _, _, _, _, rfl, ?_⟩
        show J _ _ _ _ _ (.int _ :: _) (wM s la r v c l tn p pa m q b x h) _ _
        exact J.iret dX7_pay_59 rfl rfl (Nat.le_refl _) (Nat.le_refl _) ⟨rfl, rfl⟩
      · refine J.iload_n dX7_pay_19 rfl rfl ?_
        refine J.i2l dX7_pay_20 ?_
        refine J.lconst 0 dX7_pay_21 (by decide) ?_
        refine J.iload_n dX7_pay_22 rfl rfl ?_
        refine J.if_ne (tgt := 32) dX7_pay_23 (by decide) (fun c23 => ?_) (fun c23 => absurd c23 c0)
        refine J.ldc2 (v := 99) dX7_pay_32 (jt 1017 rfl rfl) ?_
        refine J.cs (as := [.long _, .long _, .long _]) (is := []) okX7_in jcX7_74 (mX7_inI z 0 99 (by decide) (by decide)) dX7_pay_35 rfl rfl rfl rfl rfl rfl (fun r9 B9 hq => ?_)
        obtain ⟨rfl, rfl⟩ := hq
        refine ⟨rfl, ?_⟩
        show J _ _ _ _ _ (.int _ :: _) (wM s la r v c l tn p pa m q b x h) _ _
        refine J.if_eq (tgt := 45) dX7_pay_38 (by decide) (fun c38 => ?_) (fun c38 => absurd c38 (fun h => h ((jB_0 _).mpr (fun h => (hb (Decidable.not_not.mp (fun h9 => c6 ((jB_0 _).mpr h9)))).2 ⟨z01 (Decidable.not_not.mp (fun h9 => c16 ((jB_0 _).mpr h9))) c0, h⟩))))
        refine J.iconst (0) dX7_pay_45 (by decide) ?_
        refine J.bipush (10) dX7_pay_46 (by decide) ?_
        refine J.iconst (2) dX7_pay_48 (by decide) ?_
        refine J.iload_n dX7_pay_49 rfl rfl ?_
        refine J.imul dX7_pay_50 ?_
        refine J.iadd dX7_pay_51 ?_
        refine J.iload_n dX7_pay_52 rfl rfl ?_
        refine J.iadd dX7_pay_53 ?_
        refine J.iload_n dX7_pay_54 rfl rfl ?_
        refine J.iconst (0) dX7_pay_55 (by decide) ?_
        refine J.cvM (as := [.int _, .int _, .int _, .int _]) s la r v c l tn p pa m q b x h okX7_puts jcX7_208 (mX7_puts_bad s la r v c l tn p pa m q b x h (_) (_) (_)) dX7_pay_56 rfl rfl rfl rfl (fun r9 B9 hq9 => ?_)
        obtain ⟨rfl, rfl⟩ := hq9
        refine ⟨_, _, _, _, _, _, _, _, _, _, _, _, _, _, rfl, ?_⟩
        show J _ _ _ _ _ (.int _ :: _) (wM s la r v c l tn p pa m q b x h) _ _
        exact J.iret dX7_pay_59 rfl rfl (Nat.le_refl _) (Nat.le_refl _) ⟨rfl, rfl⟩
theorem or_ev : ∀ k, k < 8 → ∀ b, b < 8 → ∀ i, i < 3 → nI (1 - bit k i) ||| nI (bit b i) = nI (1 - bit (k &&& (7 - b)) i) := by decide +kernel
theorem ag_ev : ∀ a, a < 10 → (9 ≤ nI a → nI a + 0 = nI (min 9 (a + 1))) ∧ (¬ 9 ≤ nI a → nI a + 1 = nI (min 9 (a + 1))) := by decide +kernel
/-- behind i HAIRS of an HOUR in which b break -/
def mHr (s s0 : Nat → Int32) (r : rT) (b i : Nat) : Prop := (∀ j, j < i → s (3 * j) = nI (r 0 j) ∧ s (3 * j + 1) = nI (min 9 (r 1 j + 1)) ∧ s (3 * j + 2) = nI (1 - bit (r 6 3 &&& (7 - b)) j)) ∧ (∀ j, i ≤ j → j < r 6 0 → s (3 * j) = nI (r 0 j) ∧ s (3 * j + 1) = nI (r 1 j) ∧ s (3 * j + 2) = nI (1 - bit (r 6 3) j)) ∧ ∀ k, 9 ≤ k → s k = s0 k
theorem mHr.step {s s0 : Nat → Int32} {r : rT} {b i : Nat} (h : mHr s s0 r b i) (hi : i < r 6 0) (hr : r 6 0 ≤ 3) : mHr (upd (upd s (3 * i + 2) (nI (1 - bit (r 6 3 &&& (7 - b)) i))) (3 * i + 1) (nI (min 9 (r 1 i + 1)))) s0 r b (i + 1) := by
  obtain ⟨h1, h2, h3⟩ := h
  refine ⟨fun j hj => ?_, fun j hj hj2 => ?_, fun k hk => ?_⟩
  · by_cases e : j = i
    · subst e
      rw [pk_un (by omega), pk_un (by omega), pk_us, pk_un (by omega), pk_us]
      exact ⟨(h2 j (Nat.le_refl _) hi).1, rfl, rfl⟩
    · rw [pk_un (by omega), pk_un (by omega), pk_un (by omega), pk_un (by omega), pk_un (by omega), pk_un (by omega)]
      exact h1 j (by omega)
  · rw [pk_un (by omega), pk_un (by omega), pk_un (by omega), pk_un (by omega), pk_un (by omega), pk_un (by omega)]
    exact h2 j (by omega) hj2
  · rw [pk_un (by omega), pk_un (by omega)]
    exact h3 k hk
theorem mHr.done {s s0 : Nat → Int32} {r : rT} {b : Nat} (h : mHr s s0 r b (r 6 0)) (hS : mS s0 r) (h3 : r 6 0 ≤ 3) (h4 : r 6 1 ≤ 4) : mS (upd s 19 (nI (r 6 6 + 1))) (rpass r b) ∧ ∀ k, 20 ≤ k → upd s 19 (nI (r 6 6 + 1)) k = s0 k := by
  obtain ⟨a1, a2, a3⟩ := h
  obtain ⟨b1, b2, b3, b4, b5⟩ := hS
  have hh : ∀ k, 9 ≤ k → k ≠ 19 → upd s 19 (nI (r 6 6 + 1)) k = s0 k := fun k h1 h2 => by rw [pk_un h2, a3 k h1]
  refine ⟨⟨fun i hi => ?_, ?_, fun k hk => ?_, ?_, ?_⟩, fun k hk => hh k (by omega) (by omega)⟩
  · have hi : i < r 6 0 := hi
    rw [pk_un (by omega), pk_un (by omega), pk_un (by omega)]
    have := a1 i hi
    refine ⟨this.1, ?_, this.2.2⟩
    show _ = nI (if i < r 6 0 then min 9 (r 1 i + 1) else r 1 i)
    rw [if_pos hi]
    exact this.2.1
  · rw [hh 9 (by omega) (by omega)]; exact b2
  · have hk : k < r 6 1 := hk
    rw [hh _ (by omega) (by omega), hh _ (by omega) (by omega)]
    exact b3 k hk
  · rw [hh 18 (by omega) (by omega)]; exact b4
  · exact pk_us
theorem tryA_b {r : rT} {z : Int32} (h : z < 0 ∨ ¬ z &&& (nI (r 6 3) ^^^ -1) = 0) : tryA r z = -1 ∧ tryR r z = r := ⟨if_pos h, if_pos h⟩
theorem tryA_0 {r : rT} {z : Int32} (h : ¬ (z < 0 ∨ ¬ z &&& (nI (r 6 3) ^^^ -1) = 0)) (h0 : r 6 3 = 0) : tryA r z = -2 ∧ tryR r z = r := ⟨(if_neg h).trans (if_pos h0), (if_neg h).trans (if_pos h0)⟩
theorem tryA_9 {r : rT} {z : Int32} (h : ¬ (z < 0 ∨ ¬ z &&& (nI (r 6 3) ^^^ -1) = 0)) (h0 : ¬ r 6 3 = 0) (h9 : 99 ≤ r 6 6) : tryA r z = -3 ∧ tryR r z = r := ⟨(if_neg h).trans ((if_neg h0).trans (if_pos h9)), (if_neg h).trans ((if_neg h0).trans (if_pos h9))⟩
theorem tryA_g {r : rT} {b : Nat} (hb : b < 8) (h : ¬ (nI b < 0 ∨ ¬ nI b &&& (nI (r 6 3) ^^^ -1) = 0)) (h0 : ¬ r 6 3 = 0) (h9 : ¬ 99 ≤ r 6 6) : tryA r (nI b) = nI (pc3 (r 6 3 &&& (7 - b))) ∧ tryR r (nI b) = rpass r b := by
  have e : (nI b).toNatClampNeg = b := nI_clamp (by omega)
  refine ⟨(if_neg h).trans ((if_neg h0).trans ((if_neg h9).trans ?_)), (if_neg h).trans ((if_neg h0).trans ((if_neg h9).trans ?_))⟩ <;> rw [e]
theorem sub_le' : ∀ w, w < 8 → ∀ b, b < 8 → nI b &&& (nI w ^^^ -1) = 0 → b ≤ w := by decide +kernel
set_option maxRecDepth 100000 in
set_option maxHeartbeats 4000000 in
theorem mX7_hours_l (s : Nat → Int32) (la : Nat → Int32) (r : rT) (v : vT) (c : Nat → Nat → Int32) (l : Nat → Int32) (tn : Int32) (p : Nat → Int32) (pa : Nat → Nat → Int32) (m : Nat) (q : rT) (b : Int32) (x : Nat → Nat) (h : Nat → Nat → Int64) (hS : mS s r) (hr : rOK r) (bb : Nat) (hb : bb < 8) (hg : ¬ (nI bb < 0 ∨ ¬ nI bb &&& (nI (r 6 3) ^^^ -1) = 0)) (h0 : ¬ r 6 3 = 0) (h9 : ¬ 99 ≤ r 6 6) : ∀ (k9 i : Nat), i + k9 = r 6 0 → ∀ (s1 : Nat → Int32), mHr s1 s r bb i → J KX7_hours 21 (fun o B => o = some (.int (tryA r (nI bb))) ∧ ∃ s9, B = (wM s9 la r v c l tn p pa m q b x h) ∧ mS s9 (tryR r (nI bb)) ∧ ∀ k, 20 ≤ k → s9 k = s k) 58 [some (.ref 0), some (.int (nI bb)), some (.int (nI i))] [] (wM s1 la r v c l tn p pa m q b x h) 0 0 := by
  intro k9
  induction k9 with
  | zero =>
    intro i hi
    obtain hiN : i = r 6 0 := by omega
    intro s1 hh
    subst hiN
    refine J.iload_n dX7_hours_58 rfl rfl ?_
    refine J.aload_n dX7_hours_59 rfl rfl ?_
    refine J.mg1 dX7_hours_60 rfl ?_
    refine J.icmp_ge (tgt := 123) dX7_hours_63 (by decide) (fun c63 => ?_) (fun c63 => absurd c63 (fun h => h (Int32.le_refl _)))
    refine J.aload_n dX7_hours_123 rfl rfl ?_
    refine J.mg0 dX7_hours_124 rfl ?_
    refine J.bipush (19) dX7_hours_127 (by decide) ?_
    refine J.dup2 dX7_hours_129 rfl rfl ?_
    refine J.ml1 (19) dX7_hours_130 rfl (by decide) ?_
    rw [hh.2.2 19 (by decide), hS.2.2.2.2]
    refine J.iconst (1) dX7_hours_131 (by decide) ?_
    refine J.iadd dX7_hours_132 ?_
    rw [nI_1]
    refine J.ms1 (19) dX7_hours_133 rfl (by decide) ?_
    try dsimp only [List.set]
    refine J.aload_n dX7_hours_134 rfl rfl ?_
    refine J.cvM (as := []) (upd s1 19 (nI (r 6 6 + 1))) la (rpass r bb) v c l tn p pa m q b x h okX7_wholeNow jcX7_177 (mX7_wholeNow (upd s1 19 (nI (r 6 6 + 1))) la (rpass r bb) v c l tn p pa m q b x h (hh.done hS hr.1 hr.2.1).1 (rOK_pass hr bb h9)) dX7_hours_135 rfl rfl rfl rfl (fun r9 B9 hq9 => ?_)
    obtain ⟨rfl, rfl⟩ := hq9
    refine ⟨_, _, _, _, _, _, _, _, _, _, _, _, _, _, rfl, ?_⟩
    show J _ _ _ _ _ (.int _ :: _) (wM (upd s1 19 (nI (r 6 6 + 1))) la (rpass r bb) v c l tn p pa m q b x h) _ _
    refine J.cs (as := [.int _]) (is := []) okX7_bitsOf jcX7_189 (mX7_bitsOf (r 6 3 &&& (7 - bb)) (and_lt8 hr.w)) dX7_hours_138 rfl rfl rfl rfl rfl rfl (fun r9 B9 hq => ?_)
    obtain ⟨rfl, rfl⟩ := hq
    refine ⟨rfl, ?_⟩
    show J _ _ _ _ _ (.int _ :: _) (wM (upd s1 19 (nI (r 6 6 + 1))) la (rpass r bb) v c l tn p pa m q b x h) _ _
    refine J.iret dX7_hours_141 rfl rfl (Nat.le_refl _) (Nat.le_refl _) ⟨congrArg (fun x => some (Value.int x)) (tryA_g hb hg h0 h9).1.symm, (upd s1 19 (nI (r 6 6 + 1))), rfl, ?_⟩
    rw [(tryA_g hb hg h0 h9).2]
    exact (hh.done hS hr.1 hr.2.1)
  | succ k9 ih =>
    intro i hi
    have hiN : i < r 6 0 := by omega
    intro s1 hh
    refine J.iload_n dX7_hours_58 rfl rfl ?_
    refine J.aload_n dX7_hours_59 rfl rfl ?_
    refine J.mg1 dX7_hours_60 rfl ?_
    refine J.icmp_ge (tgt := 123) dX7_hours_63 (by decide) (fun c63 => absurd c63 (nI_ge (by omega) (by have := hr.1; omega))) (fun c63 => ?_)
    refine J.aload_n dX7_hours_66 rfl rfl ?_
    refine J.mg0 dX7_hours_67 rfl ?_
    refine J.iconst (3) dX7_hours_70 (by decide) ?_
    refine J.iload_n dX7_hours_71 rfl rfl ?_
    refine J.imul dX7_hours_72 ?_
    refine J.iconst (2) dX7_hours_73 (by decide) ?_
    refine J.iadd dX7_hours_74 ?_
    refine J.dup2 dX7_hours_75 rfl rfl ?_
    refine J.ml1 (3 * i + 2) dX7_hours_76 (ix 3 i 2) (by have := hr.1; omega) ?_
    rw [(hh.2.1 i (Nat.le_refl _) hiN).2.2]
    refine J.iload_n dX7_hours_77 rfl rfl ?_
    refine J.iload_n dX7_hours_78 rfl rfl ?_
    refine J.ishr dX7_hours_79 ?_
    refine J.iconst (1) dX7_hours_80 (by decide) ?_
    refine J.iand dX7_hours_81 ?_
    refine J.ior dX7_hours_82 ?_
    rw [bit_eval bb hb i (by have := hr.1; omega), or_ev _ hr.w _ hb _ (by have := hr.1; omega)]
    refine J.ms1 (3 * i + 2) dX7_hours_83 (ix 3 i 2) (by have := hr.1; omega) ?_
    try dsimp only [List.set]
    refine J.aload_n dX7_hours_84 rfl rfl ?_
    refine J.mg0 dX7_hours_85 rfl ?_
    refine J.iconst (3) dX7_hours_88 (by decide) ?_
    refine J.iload_n dX7_hours_89 rfl rfl ?_
    refine J.imul dX7_hours_90 ?_
    refine J.iconst (1) dX7_hours_91 (by decide) ?_
    refine J.iadd dX7_hours_92 ?_
    refine J.dup2 dX7_hours_93 rfl rfl ?_
    refine J.ml1 (3 * i + 1) dX7_hours_94 (ix 3 i 1) (by have := hr.1; omega) ?_
    rw [pk_un (by omega), (hh.2.1 i (Nat.le_refl _) hiN).2.1]
    refine J.aload_n dX7_hours_95 rfl rfl ?_
    refine J.mg0 dX7_hours_96 rfl ?_
    refine J.iconst (3) dX7_hours_99 (by decide) ?_
    refine J.iload_n dX7_hours_100 rfl rfl ?_
    refine J.imul dX7_hours_101 ?_
    refine J.iconst (1) dX7_hours_102 (by decide) ?_
    refine J.iadd dX7_hours_103 ?_
    refine J.ml1 (3 * i + 1) dX7_hours_104 (ix 3 i 1) (by have := hr.1; omega) ?_
    rw [pk_un (by omega), (hh.2.1 i (Nat.le_refl _) hiN).2.1]
    refine J.bipush (9) dX7_hours_105 (by decide) ?_
    refine J.icmp_ge (tgt := 114) dX7_hours_107 (by decide) (fun c107 => ?_) (fun c107 => ?_)
    · refine J.iconst (0) dX7_hours_114 (by decide) ?_
      refine J.iadd dX7_hours_115 ?_
      first
      | (rw [(ag_ev (r 1 i) (by have := hr.2.2.2.2.2.2.2.2.2.1 i; omega)).1 c107])
      | (rw [(ag_ev (r 1 i) (by have := hr.2.2.2.2.2.2.2.2.2.1 i; omega)).2 c107])
      refine J.ms1 (3 * i + 1) dX7_hours_116 (ix 3 i 1) (by have := hr.1; omega) ?_
      try dsimp only [List.set]
      refine J.iinc (1) dX7_hours_117 (by decide) rfl (by decide) rfl ?_
      try dsimp only [List.set]
      refine J.goto (tgt := 58) dX7_hours_120 (by decide) ?_
      exact J.at (ih (i + 1) (by omega) _ (hh.step hiN hr.1)) (by rw [← nI_1 i] <;> rfl) rfl rfl
    · refine J.iconst (1) dX7_hours_110 (by decide) ?_
      refine J.goto (tgt := 115) dX7_hours_111 (by decide) ?_
      refine J.iadd dX7_hours_115 ?_
      first
      | (rw [(ag_ev (r 1 i) (by have := hr.2.2.2.2.2.2.2.2.2.1 i; omega)).1 c107])
      | (rw [(ag_ev (r 1 i) (by have := hr.2.2.2.2.2.2.2.2.2.1 i; omega)).2 c107])
      refine J.ms1 (3 * i + 1) dX7_hours_116 (ix 3 i 1) (by have := hr.1; omega) ?_
      try dsimp only [List.set]
      refine J.iinc (1) dX7_hours_117 (by decide) rfl (by decide) rfl ?_
      try dsimp only [List.set]
      refine J.goto (tgt := 58) dX7_hours_120 (by decide) ?_
      exact J.at (ih (i + 1) (by omega) _ (hh.step hiN hr.1)) (by rw [← nI_1 i] <;> rfl) rfl rfl
set_option maxRecDepth 100000 in
set_option maxHeartbeats 4000000 in
theorem mX7_hours (s : Nat → Int32) (la : Nat → Int32) (r : rT) (v : vT) (c : Nat → Nat → Int32) (l : Nat → Int32) (tn : Int32) (p : Nat → Int32) (pa : Nat → Nat → Int32) (m : Nat) (q : rT) (b : Int32) (x : Nat → Nat) (h : Nat → Nat → Int64) (z : Int32) (hS : mS s r) (hr : rOK r) : J KX7_hours 21 (fun o B => o = some (.int (tryA r z)) ∧ ∃ s9, B = (wM s9 la r v c l tn p pa m q b x h) ∧ mS s9 (tryR r z) ∧ ∀ k, 20 ≤ k → s9 k = s k) 0 [some (.ref 0), some (.int z), none] [] (wM s la r v c l tn p pa m q b x h) 0 0 := by
  by_cases hB : z < 0 ∨ ¬ z &&& (nI (r 6 3) ^^^ -1) = 0
  · skip
    refine J.iload_n dX7_hours_0 rfl rfl ?_
    refine J.i2l dX7_hours_1 ?_
    refine J.lconst 0 dX7_hours_2 (by decide) ?_
    refine J.iconst (1) dX7_hours_3 (by decide) ?_
    refine J.aload_n dX7_hours_4 rfl rfl ?_
    refine J.mg1 dX7_hours_5 rfl ?_
    refine J.ishl dX7_hours_8 ?_
    refine J.iconst (1) dX7_hours_9 (by decide) ?_
    refine J.isub dX7_hours_10 ?_
    refine J.i2l dX7_hours_11 ?_
    rw [full_eval _ (show r 6 0 < 4 by have := hr.1; omega)]
    refine J.cs (as := [.long _, .long _, .long _]) (is := []) okX7_in jcX7_74 (mX7_inI z 0 (nI (2 ^ r 6 0 - 1)) (by decide) rfl) dX7_hours_12 rfl rfl rfl rfl rfl rfl (fun r9 B9 hq => ?_)
    obtain ⟨rfl, rfl⟩ := hq
    refine ⟨rfl, ?_⟩
    show J _ _ _ _ _ (.int _ :: _) (wM s la r v c l tn p pa m q b x h) _ _
    refine J.if_eq (tgt := 29) dX7_hours_15 (by decide) (fun c15 => ?_) (fun c15 => ?_)
    · refine J.iconst (-1) dX7_hours_29 (by decide) ?_
      exact J.iret dX7_hours_30 rfl rfl (Nat.le_refl _) (Nat.le_refl _) ⟨congrArg (fun x => some (Value.int x)) (tryA_b hB).1.symm, s, rfl, ⟨by rw [(tryA_b hB).2]; exact hS, fun _ _ => rfl⟩⟩
    · refine J.iload_n dX7_hours_18 rfl rfl ?_
      refine J.aload_n dX7_hours_19 rfl rfl ?_
      refine J.cvM (as := []) s la r v c l tn p pa m q b x h okX7_wholeNow jcX7_177 (mX7_wholeNow s la r v c l tn p pa m q b x h hS hr) dX7_hours_20 rfl rfl rfl rfl (fun r9 B9 hq9 => ?_)
      obtain ⟨rfl, rfl⟩ := hq9
      refine ⟨_, _, _, _, _, _, _, _, _, _, _, _, _, _, rfl, ?_⟩
      show J _ _ _ _ _ (.int _ :: _) (wM s la r v c l tn p pa m q b x h) _ _
      refine J.iconst (-1) dX7_hours_23 (by decide) ?_
      refine J.ixor dX7_hours_24 ?_
      refine J.iand dX7_hours_25 ?_
      refine J.if_eq (tgt := 31) dX7_hours_26 (by decide) (fun c26 => absurd c26 (fun h9 => hB.elim (fun h8 => Int32.not_lt.mpr (Decidable.not_not.mp (fun h9 => c15 ((jB_0 _).mpr h9))).1 h8) (fun h8 => h8 h9))) (fun c26 => ?_)
      refine J.iconst (-1) dX7_hours_29 (by decide) ?_
      exact J.iret dX7_hours_30 rfl rfl (Nat.le_refl _) (Nat.le_refl _) ⟨congrArg (fun x => some (Value.int x)) (tryA_b hB).1.symm, s, rfl, ⟨by rw [(tryA_b hB).2]; exact hS, fun _ _ => rfl⟩⟩
  · have hz0 : z &&& (nI (r 6 3) ^^^ -1) = 0 := Decidable.not_not.mp (fun h => hB (Or.inr h))
    obtain ⟨bb, hb, rfl⟩ := sub_of hr.w hz0
    refine J.iload_n dX7_hours_0 rfl rfl ?_
    refine J.i2l dX7_hours_1 ?_
    refine J.lconst 0 dX7_hours_2 (by decide) ?_
    refine J.iconst (1) dX7_hours_3 (by decide) ?_
    refine J.aload_n dX7_hours_4 rfl rfl ?_
    refine J.mg1 dX7_hours_5 rfl ?_
    refine J.ishl dX7_hours_8 ?_
    refine J.iconst (1) dX7_hours_9 (by decide) ?_
    refine J.isub dX7_hours_10 ?_
    refine J.i2l dX7_hours_11 ?_
    rw [full_eval _ (show r 6 0 < 4 by have := hr.1; omega)]
    refine J.cs (as := [.long _, .long _, .long _]) (is := []) okX7_in jcX7_74 (mX7_inI (nI bb) 0 (nI (2 ^ r 6 0 - 1)) (by decide) rfl) dX7_hours_12 rfl rfl rfl rfl rfl rfl (fun r9 B9 hq => ?_)
    obtain ⟨rfl, rfl⟩ := hq
    refine ⟨rfl, ?_⟩
    show J _ _ _ _ _ (.int _ :: _) (wM s la r v c l tn p pa m q b x h) _ _
    refine J.if_eq (tgt := 29) dX7_hours_15 (by decide) (fun c15 => absurd c15 (fun h => (jB_0 _).mp h (show (0 : Int32) ≤ nI bb ∧ nI bb ≤ nI (2 ^ r 6 0 - 1) from ⟨nI_pos' (by omega), (nI_lei (by omega) (by have := p2_le _ hr.1; omega)).mpr (by have := sub_le' _ hr.w bb hb hz0; have := hr.2.2.2.1; omega)⟩))) (fun c15 => ?_)
    refine J.iload_n dX7_hours_18 rfl rfl ?_
    refine J.aload_n dX7_hours_19 rfl rfl ?_
    refine J.cvM (as := []) s la r v c l tn p pa m q b x h okX7_wholeNow jcX7_177 (mX7_wholeNow s la r v c l tn p pa m q b x h hS hr) dX7_hours_20 rfl rfl rfl rfl (fun r9 B9 hq9 => ?_)
    obtain ⟨rfl, rfl⟩ := hq9
    refine ⟨_, _, _, _, _, _, _, _, _, _, _, _, _, _, rfl, ?_⟩
    show J _ _ _ _ _ (.int _ :: _) (wM s la r v c l tn p pa m q b x h) _ _
    refine J.iconst (-1) dX7_hours_23 (by decide) ?_
    refine J.ixor dX7_hours_24 ?_
    refine J.iand dX7_hours_25 ?_
    refine J.if_eq (tgt := 31) dX7_hours_26 (by decide) (fun c26 => ?_) (fun c26 => absurd c26 (fun h9 => h9 hz0))
    refine J.aload_n dX7_hours_31 rfl rfl ?_
    refine J.cvM (as := []) s la r v c l tn p pa m q b x h okX7_wholeNow jcX7_177 (mX7_wholeNow s la r v c l tn p pa m q b x h hS hr) dX7_hours_32 rfl rfl rfl rfl (fun r9 B9 hq9 => ?_)
    obtain ⟨rfl, rfl⟩ := hq9
    refine ⟨_, _, _, _, _, _, _, _, _, _, _, _, _, _, rfl, ?_⟩
    show J _ _ _ _ _ (.int _ :: _) (wM s la r v c l tn p pa m q b x h) _ _
    refine J.if_ne (tgt := 41) dX7_hours_35 (by decide) (fun c35 => ?_) (fun c35 => ?_)
    · refine J.aload_n dX7_hours_41 rfl rfl ?_
      refine J.mg0 dX7_hours_42 rfl ?_
      refine J.bipush (19) dX7_hours_45 (by decide) ?_
      refine J.ml1 (19) dX7_hours_47 rfl (by decide) ?_
      rw [hS.2.2.2.2]
      refine J.bipush (99) dX7_hours_48 (by decide) ?_
      refine J.icmp_ne (tgt := 56) dX7_hours_50 (by decide) (fun c50 => ?_) (fun c50 => ?_)
      · refine J.iconst (0) dX7_hours_56 (by decide) ?_
        refine J.istore_n dX7_hours_57 rfl (by decide) rfl ?_
        try dsimp only [List.set]
        exact J.at (mX7_hours_l s la r v c l tn p pa m q b x h hS hr bb hb hB (fun h9 => c35 (congrArg nI h9)) (fun h9 => c50 (congrArg nI (show r 6 6 = 99 by have := hr.2.2.2.2.2.2.2.1; omega))) (r 6 0) 0 (by omega) s ⟨fun j hj => absurd hj (Nat.not_lt_zero j), fun j _ hj => hS.1 j hj, fun _ _ => rfl⟩) rfl rfl rfl
      · refine J.bipush (-3) dX7_hours_53 (by decide) ?_
        exact J.iret dX7_hours_55 rfl rfl (Nat.le_refl _) (Nat.le_refl _) ⟨congrArg (fun x => some (Value.int x)) (tryA_9 hB (fun h9 => c35 (congrArg nI h9)) (by have := (nI_eqi (b := 99) (by have := hr.2.2.2.2.2.2.2.1; omega) (by decide)).mp c50; omega)).1.symm, s, rfl, ⟨by rw [(tryA_9 hB (fun h9 => c35 (congrArg nI h9)) (by have := (nI_eqi (b := 99) (by have := hr.2.2.2.2.2.2.2.1; omega) (by decide)).mp c50; omega)).2]; exact hS, fun _ _ => rfl⟩⟩
    · refine J.bipush (-2) dX7_hours_38 (by decide) ?_
      exact J.iret dX7_hours_40 rfl rfl (Nat.le_refl _) (Nat.le_refl _) ⟨congrArg (fun x => some (Value.int x)) (tryA_0 hB ((nI_eqi (b := 0) (by have := hr.w; omega) (by decide)).mp c35)).1.symm, s, rfl, ⟨by rw [(tryA_0 hB ((nI_eqi (b := 0) (by have := hr.w; omega) (by decide)).mp c35)).2]; exact hS, fun _ _ => rfl⟩⟩
set_option maxRecDepth 100000 in
set_option maxHeartbeats 4000000 in
theorem mX7_hour (s : Nat → Int32) (la : Nat → Int32) (r : rT) (v : vT) (c : Nat → Nat → Int32) (l : Nat → Int32) (tn : Int32) (p : Nat → Int32) (pa : Nat → Nat → Int32) (m : Nat) (q : rT) (b : Int32) (x : Nat → Nat) (h : Nat → Nat → Int64) (z : Int32) (hS : mS s r) (hr : rOK r) : J KX7_hour 21 (fun o B => o = some (.int (tryA r z)) ∧ ∃ s9, B = (wM s9 la r v c l tn p pa m q b x h) ∧ mS s9 (tryR r z) ∧ ∀ k, 20 ≤ k → s9 k = s k) 0 [some (.ref 0), some (.int z)] [] (wM s la r v c l tn p pa m q b x h) 0 0 := by
  refine J.aload_n dX7_hour_0 rfl rfl ?_
  refine J.iload_n dX7_hour_1 rfl rfl ?_
  refine J.cvM (as := [.int _]) s la r v c l tn p pa m q b x h okX7_hours jcX7_214 (mX7_hours s la r v c l tn p pa m q b x h z hS hr) dX7_hour_2 rfl rfl rfl rfl (fun r9 B9 hq9 => ?_)
  obtain ⟨rfl, s9, rfl, hs9⟩ := hq9
  refine ⟨_, _, _, _, _, _, _, _, _, _, _, _, _, _, rfl, ?_⟩
  show J _ _ _ _ _ (.int _ :: _) (wM s9 la r v c l tn p pa m q b x h) _ _
  exact J.iret dX7_hour_5 rfl rfl (Nat.le_refl _) (Nat.le_refl _) ⟨rfl, s9, rfl, hs9⟩
