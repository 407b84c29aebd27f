theorem dX6_rule_0 : decode cX6_rule 0 = .ok (.iload_n 1, 1) := by decide +kernel
theorem dX6_rule_1 : decode cX6_rule 1 = .ok (.tableswitch 119 0 7 #[47, 55, 63, 71, 79, 87, 95, 103], 47) := by decide +kernel
theorem dX6_rule_48 : decode cX6_rule 48 = .ok (.aload_n 0, 1) := by decide +kernel
theorem dX6_rule_49 : decode cX6_rule 49 = .ok (.getfield 12, 3) := by decide +kernel
theorem dX6_rule_52 : decode cX6_rule 52 = .ok (.getfield 93, 3) := by decide +kernel
theorem dX6_rule_55 : decode cX6_rule 55 = .ok (.ireturn, 1) := by decide +kernel
theorem dX6_rule_56 : decode cX6_rule 56 = .ok (.aload_n 0, 1) := by decide +kernel
theorem dX6_rule_57 : decode cX6_rule 57 = .ok (.getfield 12, 3) := by decide +kernel
theorem dX6_rule_60 : decode cX6_rule 60 = .ok (.getfield 96, 3) := by decide +kernel
theorem dX6_rule_63 : decode cX6_rule 63 = .ok (.ireturn, 1) := by decide +kernel
theorem dX6_rule_64 : decode cX6_rule 64 = .ok (.aload_n 0, 1) := by decide +kernel
theorem dX6_rule_65 : decode cX6_rule 65 = .ok (.getfield 12, 3) := by decide +kernel
theorem dX6_rule_68 : decode cX6_rule 68 = .ok (.getfield 99, 3) := by decide +kernel
theorem dX6_rule_71 : decode cX6_rule 71 = .ok (.ireturn, 1) := by decide +kernel
theorem dX6_rule_72 : decode cX6_rule 72 = .ok (.aload_n 0, 1) := by decide +kernel
theorem dX6_rule_73 : decode cX6_rule 73 = .ok (.getfield 12, 3) := by decide +kernel
theorem dX6_rule_76 : decode cX6_rule 76 = .ok (.getfield 102, 3) := by decide +kernel
theorem dX6_rule_79 : decode cX6_rule 79 = .ok (.ireturn, 1) := by decide +kernel
theorem dX6_rule_80 : decode cX6_rule 80 = .ok (.aload_n 0, 1) := by decide +kernel
theorem dX6_rule_81 : decode cX6_rule 81 = .ok (.getfield 12, 3) := by decide +kernel
theorem dX6_rule_84 : decode cX6_rule 84 = .ok (.getfield 105, 3) := by decide +kernel
theorem dX6_rule_87 : decode cX6_rule 87 = .ok (.ireturn, 1) := by decide +kernel
theorem dX6_rule_88 : decode cX6_rule 88 = .ok (.aload_n 0, 1) := by decide +kernel
theorem dX6_rule_89 : decode cX6_rule 89 = .ok (.getfield 12, 3) := by decide +kernel
theorem dX6_rule_92 : decode cX6_rule 92 = .ok (.getfield 108, 3) := by decide +kernel
theorem dX6_rule_95 : decode cX6_rule 95 = .ok (.ireturn, 1) := by decide +kernel
theorem dX6_rule_96 : decode cX6_rule 96 = .ok (.aload_n 0, 1) := by decide +kernel
theorem dX6_rule_97 : decode cX6_rule 97 = .ok (.getfield 12, 3) := by decide +kernel
theorem dX6_rule_100 : decode cX6_rule 100 = .ok (.getfield 111, 3) := by decide +kernel
theorem dX6_rule_103 : decode cX6_rule 103 = .ok (.ireturn, 1) := by decide +kernel
theorem dX6_rule_104 : decode cX6_rule 104 = .ok (.aload_n 0, 1) := by decide +kernel
theorem dX6_rule_105 : decode cX6_rule 105 = .ok (.getfield 12, 3) := by decide +kernel
theorem dX6_rule_108 : decode cX6_rule 108 = .ok (.getfield 111, 3) := by decide +kernel
theorem dX6_rule_111 : decode cX6_rule 111 = .ok (.ifCond .ne 7, 3) := by decide +kernel
theorem dX6_rule_114 : decode cX6_rule 114 = .ok (.iconst 1, 1) := by decide +kernel
theorem dX6_rule_115 : decode cX6_rule 115 = .ok (.goto 4, 3) := by decide +kernel
theorem dX6_rule_118 : decode cX6_rule 118 = .ok (.iconst 0, 1) := by decide +kernel
theorem dX6_rule_119 : decode cX6_rule 119 = .ok (.ireturn, 1) := by decide +kernel
theorem dX6_rule_120 : decode cX6_rule 120 = .ok (.iconst (-1), 1) := by decide +kernel
theorem dX6_rule_121 : decode cX6_rule 121 = .ok (.ireturn, 1) := by decide +kernel
theorem dX6_hair_0 : decode cX6_hair 0 = .ok (.iload_n 1, 1) := by decide +kernel
theorem dX6_hair_1 : decode cX6_hair 1 = .ok (.iconst 0, 1) := by decide +kernel
theorem dX6_hair_2 : decode cX6_hair 2 = .ok (.aload_n 0, 1) := by decide +kernel
theorem dX6_hair_3 : decode cX6_hair 3 = .ok (.getfield 12, 3) := by decide +kernel
theorem dX6_hair_6 : decode cX6_hair 6 = .ok (.getfield 93, 3) := by decide +kernel
theorem dX6_hair_9 : decode cX6_hair 9 = .ok (.iconst 1, 1) := by decide +kernel
theorem dX6_hair_10 : decode cX6_hair 10 = .ok (.isub, 1) := by decide +kernel
theorem dX6_hair_11 : decode cX6_hair 11 = .ok (.invokestatic 59, 3) := by decide +kernel
theorem dX6_hair_14 : decode cX6_hair 14 = .ok (.ifCond .ne 5, 3) := by decide +kernel
theorem dX6_hair_17 : decode cX6_hair 17 = .ok (.iconst (-1), 1) := by decide +kernel
theorem dX6_hair_18 : decode cX6_hair 18 = .ok (.ireturn, 1) := by decide +kernel
theorem dX6_hair_19 : decode cX6_hair 19 = .ok (.iload_n 2, 1) := by decide +kernel
theorem dX6_hair_20 : decode cX6_hair 20 = .ok (.tableswitch 70 0 3 #[32, 42, 52, 61], 32) := by decide +kernel
theorem dX6_hair_52 : decode cX6_hair 52 = .ok (.aload_n 0, 1) := by decide +kernel
theorem dX6_hair_53 : decode cX6_hair 53 = .ok (.getfield 12, 3) := by decide +kernel
theorem dX6_hair_56 : decode cX6_hair 56 = .ok (.getfield 114, 3) := by decide +kernel
theorem dX6_hair_59 : decode cX6_hair 59 = .ok (.iload_n 1, 1) := by decide +kernel
theorem dX6_hair_60 : decode cX6_hair 60 = .ok (.iaload, 1) := by decide +kernel
theorem dX6_hair_61 : decode cX6_hair 61 = .ok (.ireturn, 1) := by decide +kernel
theorem dX6_hair_62 : decode cX6_hair 62 = .ok (.aload_n 0, 1) := by decide +kernel
theorem dX6_hair_63 : decode cX6_hair 63 = .ok (.getfield 12, 3) := by decide +kernel
theorem dX6_hair_66 : decode cX6_hair 66 = .ok (.getfield 118, 3) := by decide +kernel
theorem dX6_hair_69 : decode cX6_hair 69 = .ok (.iload_n 1, 1) := by decide +kernel
theorem dX6_hair_70 : decode cX6_hair 70 = .ok (.iaload, 1) := by decide +kernel
theorem dX6_hair_71 : decode cX6_hair 71 = .ok (.ireturn, 1) := by decide +kernel
theorem dX6_hair_72 : decode cX6_hair 72 = .ok (.aload_n 0, 1) := by decide +kernel
theorem dX6_hair_73 : decode cX6_hair 73 = .ok (.getfield 12, 3) := by decide +kernel
theorem dX6_hair_76 : decode cX6_hair 76 = .ok (.iload_n 1, 1) := by decide +kernel
theorem dX6_hair_77 : decode cX6_hair 77 = .ok (.invokevirtual 121, 3) := by decide +kernel
theorem dX6_hair_80 : decode cX6_hair 80 = .ok (.ireturn, 1) := by decide +kernel
theorem dX6_hair_81 : decode cX6_hair 81 = .ok (.aload_n 0, 1) := by decide +kernel
theorem dX6_hair_82 : decode cX6_hair 82 = .ok (.getfield 12, 3) := by decide +kernel
theorem dX6_hair_85 : decode cX6_hair 85 = .ok (.iload_n 1, 1) := by decide +kernel
theorem dX6_hair_86 : decode cX6_hair 86 = .ok (.invokevirtual 125, 3) := by decide +kernel
theorem dX6_hair_89 : decode cX6_hair 89 = .ok (.ireturn, 1) := by decide +kernel
theorem dX6_hair_90 : decode cX6_hair 90 = .ok (.iconst (-1), 1) := by decide +kernel
theorem dX6_hair_91 : decode cX6_hair 91 = .ok (.ireturn, 1) := by decide +kernel
theorem dX6_king_0 : decode cX6_king 0 = .ok (.iload_n 1, 1) := by decide +kernel
theorem dX6_king_1 : decode cX6_king 1 = .ok (.iconst 0, 1) := by decide +kernel
theorem dX6_king_2 : decode cX6_king 2 = .ok (.aload_n 0, 1) := by decide +kernel
theorem dX6_king_3 : decode cX6_king 3 = .ok (.getfield 12, 3) := by decide +kernel
theorem dX6_king_6 : decode cX6_king 6 = .ok (.getfield 96, 3) := by decide +kernel
theorem dX6_king_9 : decode cX6_king 9 = .ok (.iconst 1, 1) := by decide +kernel
theorem dX6_king_10 : decode cX6_king 10 = .ok (.isub, 1) := by decide +kernel
theorem dX6_king_11 : decode cX6_king 11 = .ok (.invokestatic 59, 3) := by decide +kernel
theorem dX6_king_14 : decode cX6_king 14 = .ok (.ifCond .eq 12, 3) := by decide +kernel
theorem dX6_king_17 : decode cX6_king 17 = .ok (.iload_n 2, 1) := by decide +kernel
theorem dX6_king_18 : decode cX6_king 18 = .ok (.iconst 0, 1) := by decide +kernel
theorem dX6_king_19 : decode cX6_king 19 = .ok (.iconst 1, 1) := by decide +kernel
theorem dX6_king_20 : decode cX6_king 20 = .ok (.invokestatic 59, 3) := by decide +kernel
theorem dX6_king_23 : decode cX6_king 23 = .ok (.ifCond .ne 5, 3) := by decide +kernel
theorem dX6_king_26 : decode cX6_king 26 = .ok (.iconst (-1), 1) := by decide +kernel
theorem dX6_king_27 : decode cX6_king 27 = .ok (.ireturn, 1) := by decide +kernel
theorem dX6_king_28 : decode cX6_king 28 = .ok (.iload_n 2, 1) := by decide +kernel
theorem dX6_king_29 : decode cX6_king 29 = .ok (.ifCond .ne 15, 3) := by decide +kernel
theorem dX6_king_32 : decode cX6_king 32 = .ok (.aload_n 0, 1) := by decide +kernel
theorem dX6_king_33 : decode cX6_king 33 = .ok (.getfield 12, 3) := by decide +kernel
theorem dX6_king_36 : decode cX6_king 36 = .ok (.getfield 128, 3) := by decide +kernel
theorem dX6_king_39 : decode cX6_king 39 = .ok (.iload_n 1, 1) := by decide +kernel
theorem dX6_king_40 : decode cX6_king 40 = .ok (.iaload, 1) := by decide +kernel
theorem dX6_king_41 : decode cX6_king 41 = .ok (.goto 12, 3) := by decide +kernel
theorem dX6_king_44 : decode cX6_king 44 = .ok (.aload_n 0, 1) := by decide +kernel
theorem dX6_king_45 : decode cX6_king 45 = .ok (.getfield 12, 3) := by decide +kernel
theorem dX6_king_48 : decode cX6_king 48 = .ok (.getfield 131, 3) := by decide +kernel
theorem dX6_king_51 : decode cX6_king 51 = .ok (.iload_n 1, 1) := by decide +kernel
theorem dX6_king_52 : decode cX6_king 52 = .ok (.iaload, 1) := by decide +kernel
theorem dX6_king_53 : decode cX6_king 53 = .ok (.ireturn, 1) := by decide +kernel
theorem dX6_law_0 : decode cX6_law 0 = .ok (.iload_n 1, 1) := by decide +kernel
theorem dX6_law_1 : decode cX6_law 1 = .ok (.iconst 0, 1) := by decide +kernel
theorem dX6_law_2 : decode cX6_law 2 = .ok (.aload_n 0, 1) := by decide +kernel
theorem dX6_law_3 : decode cX6_law 3 = .ok (.getfield 12, 3) := by decide +kernel
theorem dX6_law_6 : decode cX6_law 6 = .ok (.getfield 99, 3) := by decide +kernel
theorem dX6_law_9 : decode cX6_law 9 = .ok (.iconst 1, 1) := by decide +kernel
theorem dX6_law_10 : decode cX6_law 10 = .ok (.isub, 1) := by decide +kernel
theorem dX6_law_11 : decode cX6_law 11 = .ok (.invokestatic 59, 3) := by decide +kernel
theorem dX6_law_14 : decode cX6_law 14 = .ok (.ifCond .eq 12, 3) := by decide +kernel
theorem dX6_law_17 : decode cX6_law 17 = .ok (.iload_n 2, 1) := by decide +kernel
theorem dX6_law_18 : decode cX6_law 18 = .ok (.iconst 0, 1) := by decide +kernel
theorem dX6_law_19 : decode cX6_law 19 = .ok (.iconst 1, 1) := by decide +kernel
theorem dX6_law_20 : decode cX6_law 20 = .ok (.invokestatic 59, 3) := by decide +kernel
theorem dX6_law_23 : decode cX6_law 23 = .ok (.ifCond .ne 5, 3) := by decide +kernel
theorem dX6_law_26 : decode cX6_law 26 = .ok (.iconst (-1), 1) := by decide +kernel
theorem dX6_law_27 : decode cX6_law 27 = .ok (.ireturn, 1) := by decide +kernel
theorem dX6_law_28 : decode cX6_law 28 = .ok (.iload_n 2, 1) := by decide +kernel
theorem dX6_law_29 : decode cX6_law 29 = .ok (.ifCond .ne 15, 3) := by decide +kernel
theorem dX6_law_32 : decode cX6_law 32 = .ok (.aload_n 0, 1) := by decide +kernel
theorem dX6_law_33 : decode cX6_law 33 = .ok (.getfield 12, 3) := by decide +kernel
theorem dX6_law_36 : decode cX6_law 36 = .ok (.getfield 134, 3) := by decide +kernel
theorem dX6_law_39 : decode cX6_law 39 = .ok (.iload_n 1, 1) := by decide +kernel
theorem dX6_law_40 : decode cX6_law 40 = .ok (.iaload, 1) := by decide +kernel
theorem dX6_law_41 : decode cX6_law 41 = .ok (.goto 12, 3) := by decide +kernel
theorem dX6_law_44 : decode cX6_law 44 = .ok (.aload_n 0, 1) := by decide +kernel
theorem dX6_law_45 : decode cX6_law 45 = .ok (.getfield 12, 3) := by decide +kernel
theorem dX6_law_48 : decode cX6_law 48 = .ok (.getfield 137, 3) := by decide +kernel
theorem dX6_law_51 : decode cX6_law 51 = .ok (.iload_n 1, 1) := by decide +kernel
theorem dX6_law_52 : decode cX6_law 52 = .ok (.iaload, 1) := by decide +kernel
theorem dX6_law_53 : decode cX6_law 53 = .ok (.ireturn, 1) := by decide +kernel
theorem dX6_set_0 : decode cX6_set 0 = .ok (.iload_n 1, 1) := by decide +kernel
theorem dX6_set_1 : decode cX6_set 1 = .ok (.ifCond .ne 31, 3) := by decide +kernel
theorem dX6_set_4 : decode cX6_set 4 = .ok (.iload_n 2, 1) := by decide +kernel
theorem dX6_set_5 : decode cX6_set 5 = .ok (.iconst 1, 1) := by decide +kernel
theorem dX6_set_6 : decode cX6_set 6 = .ok (.bipush 9, 2) := by decide +kernel
theorem dX6_set_8 : decode cX6_set 8 = .ok (.invokestatic 59, 3) := by decide +kernel
theorem dX6_set_11 : decode cX6_set 11 = .ok (.ifCond .eq 21, 3) := by decide +kernel
theorem dX6_set_14 : decode cX6_set 14 = .ok (.aload_n 0, 1) := by decide +kernel
theorem dX6_set_15 : decode cX6_set 15 = .ok (.getfield 12, 3) := by decide +kernel
theorem dX6_set_18 : decode cX6_set 18 = .ok (.getfield 102, 3) := by decide +kernel
theorem dX6_set_21 : decode cX6_set 21 = .ok (.istore_n 3, 1) := by decide +kernel
theorem dX6_set_22 : decode cX6_set 22 = .ok (.aload_n 0, 1) := by decide +kernel
theorem dX6_set_23 : decode cX6_set 23 = .ok (.getfield 12, 3) := by decide +kernel
theorem dX6_set_26 : decode cX6_set 26 = .ok (.iload_n 2, 1) := by decide +kernel
theorem dX6_set_27 : decode cX6_set 27 = .ok (.putfield 102, 3) := by decide +kernel
theorem dX6_set_30 : decode cX6_set 30 = .ok (.iload_n 3, 1) := by decide +kernel
theorem dX6_set_31 : decode cX6_set 31 = .ok (.ireturn, 1) := by decide +kernel
theorem dX6_set_32 : decode cX6_set 32 = .ok (.iload_n 1, 1) := by decide +kernel
theorem dX6_set_33 : decode cX6_set 33 = .ok (.iconst 1, 1) := by decide +kernel
theorem dX6_set_34 : decode cX6_set 34 = .ok (.if_icmp .ne 31, 3) := by decide +kernel
theorem dX6_set_37 : decode cX6_set 37 = .ok (.iload_n 2, 1) := by decide +kernel
theorem dX6_set_38 : decode cX6_set 38 = .ok (.iconst 0, 1) := by decide +kernel
theorem dX6_set_39 : decode cX6_set 39 = .ok (.bipush 99, 2) := by decide +kernel
theorem dX6_set_41 : decode cX6_set 41 = .ok (.invokestatic 59, 3) := by decide +kernel
theorem dX6_set_44 : decode cX6_set 44 = .ok (.ifCond .eq 21, 3) := by decide +kernel
theorem dX6_set_47 : decode cX6_set 47 = .ok (.aload_n 0, 1) := by decide +kernel
theorem dX6_set_48 : decode cX6_set 48 = .ok (.getfield 12, 3) := by decide +kernel
theorem dX6_set_51 : decode cX6_set 51 = .ok (.getfield 105, 3) := by decide +kernel
theorem dX6_set_54 : decode cX6_set 54 = .ok (.istore_n 3, 1) := by decide +kernel
theorem dX6_set_55 : decode cX6_set 55 = .ok (.aload_n 0, 1) := by decide +kernel
theorem dX6_set_56 : decode cX6_set 56 = .ok (.getfield 12, 3) := by decide +kernel
theorem dX6_set_59 : decode cX6_set 59 = .ok (.iload_n 2, 1) := by decide +kernel
theorem dX6_set_60 : decode cX6_set 60 = .ok (.putfield 105, 3) := by decide +kernel
theorem dX6_set_63 : decode cX6_set 63 = .ok (.iload_n 3, 1) := by decide +kernel
theorem dX6_set_64 : decode cX6_set 64 = .ok (.ireturn, 1) := by decide +kernel
theorem dX6_set_65 : decode cX6_set 65 = .ok (.iconst (-1), 1) := by decide +kernel
theorem dX6_set_66 : decode cX6_set 66 = .ok (.ireturn, 1) := by decide +kernel
theorem dX6_age_0 : decode cX6_age 0 = .ok (.iload_n 1, 1) := by decide +kernel
theorem dX6_age_1 : decode cX6_age 1 = .ok (.iconst 0, 1) := by decide +kernel
theorem dX6_age_2 : decode cX6_age 2 = .ok (.aload_n 0, 1) := by decide +kernel
theorem dX6_age_3 : decode cX6_age 3 = .ok (.getfield 12, 3) := by decide +kernel
theorem dX6_age_6 : decode cX6_age 6 = .ok (.getfield 93, 3) := by decide +kernel
theorem dX6_age_9 : decode cX6_age 9 = .ok (.iconst 1, 1) := by decide +kernel
theorem dX6_age_10 : decode cX6_age 10 = .ok (.isub, 1) := by decide +kernel
theorem dX6_age_11 : decode cX6_age 11 = .ok (.invokestatic 59, 3) := by decide +kernel
theorem dX6_age_14 : decode cX6_age 14 = .ok (.ifCond .eq 13, 3) := by decide +kernel
theorem dX6_age_17 : decode cX6_age 17 = .ok (.iload_n 2, 1) := by decide +kernel
theorem dX6_age_18 : decode cX6_age 18 = .ok (.iconst 0, 1) := by decide +kernel
theorem dX6_age_19 : decode cX6_age 19 = .ok (.bipush 9, 2) := by decide +kernel
theorem dX6_age_21 : decode cX6_age 21 = .ok (.invokestatic 59, 3) := by decide +kernel
theorem dX6_age_24 : decode cX6_age 24 = .ok (.ifCond .ne 5, 3) := by decide +kernel
theorem dX6_age_27 : decode cX6_age 27 = .ok (.iconst (-1), 1) := by decide +kernel
theorem dX6_age_28 : decode cX6_age 28 = .ok (.ireturn, 1) := by decide +kernel
theorem dX6_age_29 : decode cX6_age 29 = .ok (.aload_n 0, 1) := by decide +kernel
theorem dX6_age_30 : decode cX6_age 30 = .ok (.getfield 12, 3) := by decide +kernel
theorem dX6_age_33 : decode cX6_age 33 = .ok (.getfield 118, 3) := by decide +kernel
theorem dX6_age_36 : decode cX6_age 36 = .ok (.iload_n 1, 1) := by decide +kernel
theorem dX6_age_37 : decode cX6_age 37 = .ok (.iaload, 1) := by decide +kernel
theorem dX6_age_38 : decode cX6_age 38 = .ok (.istore_n 3, 1) := by decide +kernel
theorem dX6_age_39 : decode cX6_age 39 = .ok (.aload_n 0, 1) := by decide +kernel
theorem dX6_age_40 : decode cX6_age 40 = .ok (.getfield 12, 3) := by decide +kernel
theorem dX6_age_43 : decode cX6_age 43 = .ok (.getfield 118, 3) := by decide +kernel
theorem dX6_age_46 : decode cX6_age 46 = .ok (.iload_n 1, 1) := by decide +kernel
theorem dX6_age_47 : decode cX6_age 47 = .ok (.iload_n 2, 1) := by decide +kernel
theorem dX6_age_48 : decode cX6_age 48 = .ok (.iastore, 1) := by decide +kernel
theorem dX6_age_49 : decode cX6_age 49 = .ok (.iload_n 3, 1) := by decide +kernel
theorem dX6_age_50 : decode cX6_age 50 = .ok (.ireturn, 1) := by decide +kernel
theorem dX6_dye_0 : decode cX6_dye 0 = .ok (.iload_n 1, 1) := by decide +kernel
theorem dX6_dye_1 : decode cX6_dye 1 = .ok (.iconst 0, 1) := by decide +kernel
theorem dX6_dye_2 : decode cX6_dye 2 = .ok (.aload_n 0, 1) := by decide +kernel
theorem dX6_dye_3 : decode cX6_dye 3 = .ok (.getfield 12, 3) := by decide +kernel
theorem dX6_dye_6 : decode cX6_dye 6 = .ok (.getfield 93, 3) := by decide +kernel
theorem dX6_dye_9 : decode cX6_dye 9 = .ok (.iconst 1, 1) := by decide +kernel
theorem dX6_dye_10 : decode cX6_dye 10 = .ok (.isub, 1) := by decide +kernel
theorem dX6_dye_11 : decode cX6_dye 11 = .ok (.invokestatic 59, 3) := by decide +kernel
theorem dX6_dye_14 : decode cX6_dye 14 = .ok (.ifCond .eq 12, 3) := by decide +kernel
theorem dX6_dye_17 : decode cX6_dye 17 = .ok (.iload_n 2, 1) := by decide +kernel
theorem dX6_dye_18 : decode cX6_dye 18 = .ok (.iconst 0, 1) := by decide +kernel
theorem dX6_dye_19 : decode cX6_dye 19 = .ok (.iconst 4, 1) := by decide +kernel
theorem dX6_dye_20 : decode cX6_dye 20 = .ok (.invokestatic 59, 3) := by decide +kernel
theorem dX6_dye_23 : decode cX6_dye 23 = .ok (.ifCond .ne 5, 3) := by decide +kernel
theorem dX6_dye_26 : decode cX6_dye 26 = .ok (.iconst (-1), 1) := by decide +kernel
theorem dX6_dye_27 : decode cX6_dye 27 = .ok (.ireturn, 1) := by decide +kernel
theorem dX6_dye_28 : decode cX6_dye 28 = .ok (.aload_n 0, 1) := by decide +kernel
theorem dX6_dye_29 : decode cX6_dye 29 = .ok (.getfield 12, 3) := by decide +kernel
theorem dX6_dye_32 : decode cX6_dye 32 = .ok (.getfield 114, 3) := by decide +kernel
theorem dX6_dye_35 : decode cX6_dye 35 = .ok (.iload_n 1, 1) := by decide +kernel
theorem dX6_dye_36 : decode cX6_dye 36 = .ok (.iaload, 1) := by decide +kernel
theorem dX6_dye_37 : decode cX6_dye 37 = .ok (.istore_n 3, 1) := by decide +kernel
theorem dX6_dye_38 : decode cX6_dye 38 = .ok (.aload_n 0, 1) := by decide +kernel
theorem dX6_dye_39 : decode cX6_dye 39 = .ok (.getfield 12, 3) := by decide +kernel
theorem dX6_dye_42 : decode cX6_dye 42 = .ok (.getfield 114, 3) := by decide +kernel
theorem dX6_dye_45 : decode cX6_dye 45 = .ok (.iload_n 1, 1) := by decide +kernel
theorem dX6_dye_46 : decode cX6_dye 46 = .ok (.iload_n 2, 1) := by decide +kernel
theorem dX6_dye_47 : decode cX6_dye 47 = .ok (.iastore, 1) := by decide +kernel
theorem dX6_dye_48 : decode cX6_dye 48 = .ok (.iload_n 3, 1) := by decide +kernel
theorem dX6_dye_49 : decode cX6_dye 49 = .ok (.ireturn, 1) := by decide +kernel
theorem dX6_knot_0 : decode cX6_knot 0 = .ok (.iload_n 1, 1) := by decide +kernel
theorem dX6_knot_1 : decode cX6_knot 1 = .ok (.iconst 0, 1) := by decide +kernel
theorem dX6_knot_2 : decode cX6_knot 2 = .ok (.aload_n 0, 1) := by decide +kernel
theorem dX6_knot_3 : decode cX6_knot 3 = .ok (.getfield 12, 3) := by decide +kernel
theorem dX6_knot_6 : decode cX6_knot 6 = .ok (.getfield 93, 3) := by decide +kernel
theorem dX6_knot_9 : decode cX6_knot 9 = .ok (.iconst 1, 1) := by decide +kernel
theorem dX6_knot_10 : decode cX6_knot 10 = .ok (.isub, 1) := by decide +kernel
theorem dX6_knot_11 : decode cX6_knot 11 = .ok (.invokestatic 59, 3) := by decide +kernel
theorem dX6_knot_14 : decode cX6_knot 14 = .ok (.ifCond .ne 5, 3) := by decide +kernel
theorem dX6_knot_17 : decode cX6_knot 17 = .ok (.iconst (-1), 1) := by decide +kernel
theorem dX6_knot_18 : decode cX6_knot 18 = .ok (.ireturn, 1) := by decide +kernel
theorem dX6_knot_19 : decode cX6_knot 19 = .ok (.aload_n 0, 1) := by decide +kernel
theorem dX6_knot_20 : decode cX6_knot 20 = .ok (.getfield 12, 3) := by decide +kernel
theorem dX6_knot_23 : decode cX6_knot 23 = .ok (.iload_n 1, 1) := by decide +kernel
theorem dX6_knot_24 : decode cX6_knot 24 = .ok (.invokevirtual 121, 3) := by decide +kernel
theorem dX6_knot_27 : decode cX6_knot 27 = .ok (.istore_n 3, 1) := by decide +kernel
theorem dX6_knot_28 : decode cX6_knot 28 = .ok (.iload_n 2, 1) := by decide +kernel
theorem dX6_knot_29 : decode cX6_knot 29 = .ok (.ifCond .eq 31, 3) := by decide +kernel
theorem dX6_knot_32 : decode cX6_knot 32 = .ok (.aload_n 0, 1) := by decide +kernel
theorem dX6_knot_33 : decode cX6_knot 33 = .ok (.getfield 12, 3) := by decide +kernel
theorem dX6_knot_36 : decode cX6_knot 36 = .ok (.dup, 1) := by decide +kernel
theorem dX6_knot_37 : decode cX6_knot 37 = .ok (.getfield 111, 3) := by decide +kernel
theorem dX6_knot_40 : decode cX6_knot 40 = .ok (.iconst 1, 1) := by decide +kernel
theorem dX6_knot_41 : decode cX6_knot 41 = .ok (.iload_n 1, 1) := by decide +kernel
theorem dX6_knot_42 : decode cX6_knot 42 = .ok (.ishl, 1) := by decide +kernel
theorem dX6_knot_43 : decode cX6_knot 43 = .ok (.ior, 1) := by decide +kernel
theorem dX6_knot_44 : decode cX6_knot 44 = .ok (.putfield 111, 3) := by decide +kernel
theorem dX6_knot_47 : decode cX6_knot 47 = .ok (.aload_n 0, 1) := by decide +kernel
theorem dX6_knot_48 : decode cX6_knot 48 = .ok (.getfield 12, 3) := by decide +kernel
theorem dX6_knot_51 : decode cX6_knot 51 = .ok (.getfield 118, 3) := by decide +kernel
theorem dX6_knot_54 : decode cX6_knot 54 = .ok (.iload_n 1, 1) := by decide +kernel
theorem dX6_knot_55 : decode cX6_knot 55 = .ok (.iconst 0, 1) := by decide +kernel
theorem dX6_knot_56 : decode cX6_knot 56 = .ok (.iastore, 1) := by decide +kernel
theorem dX6_knot_57 : decode cX6_knot 57 = .ok (.goto 20, 3) := by decide +kernel
theorem dX6_knot_60 : decode cX6_knot 60 = .ok (.aload_n 0, 1) := by decide +kernel
theorem dX6_knot_61 : decode cX6_knot 61 = .ok (.getfield 12, 3) := by decide +kernel
theorem dX6_knot_64 : decode cX6_knot 64 = .ok (.dup, 1) := by decide +kernel
theorem dX6_knot_65 : decode cX6_knot 65 = .ok (.getfield 111, 3) := by decide +kernel
theorem dX6_knot_68 : decode cX6_knot 68 = .ok (.iconst 1, 1) := by decide +kernel
theorem dX6_knot_69 : decode cX6_knot 69 = .ok (.iload_n 1, 1) := by decide +kernel
theorem dX6_knot_70 : decode cX6_knot 70 = .ok (.ishl, 1) := by decide +kernel
theorem dX6_knot_71 : decode cX6_knot 71 = .ok (.iconst (-1), 1) := by decide +kernel
theorem dX6_knot_72 : decode cX6_knot 72 = .ok (.ixor, 1) := by decide +kernel
theorem dX6_knot_73 : decode cX6_knot 73 = .ok (.iand, 1) := by decide +kernel
theorem dX6_knot_74 : decode cX6_knot 74 = .ok (.putfield 111, 3) := by decide +kernel
theorem dX6_knot_77 : decode cX6_knot 77 = .ok (.iload_n 3, 1) := by decide +kernel
theorem dX6_knot_78 : decode cX6_knot 78 = .ok (.ireturn, 1) := by decide +kernel
theorem dX6_pay_0 : decode cX6_pay 0 = .ok (.iload_n 1, 1) := by decide +kernel
theorem dX6_pay_1 : decode cX6_pay 1 = .ok (.iconst 0, 1) := by decide +kernel
theorem dX6_pay_2 : decode cX6_pay 2 = .ok (.aload_n 0, 1) := by decide +kernel
theorem dX6_pay_3 : decode cX6_pay 3 = .ok (.getfield 12, 3) := by decide +kernel
theorem dX6_pay_6 : decode cX6_pay 6 = .ok (.getfield 96, 3) := by decide +kernel
theorem dX6_pay_9 : decode cX6_pay 9 = .ok (.iconst 1, 1) := by decide +kernel
theorem dX6_pay_10 : decode cX6_pay 10 = .ok (.isub, 1) := by decide +kernel
theorem dX6_pay_11 : decode cX6_pay 11 = .ok (.invokestatic 59, 3) := by decide +kernel
theorem dX6_pay_14 : decode cX6_pay 14 = .ok (.ifCond .ne 5, 3) := by decide +kernel
theorem dX6_pay_17 : decode cX6_pay 17 = .ok (.iconst (-1), 1) := by decide +kernel
theorem dX6_pay_18 : decode cX6_pay 18 = .ok (.ireturn, 1) := by decide +kernel
theorem dX6_pay_19 : decode cX6_pay 19 = .ok (.iload_n 2, 1) := by decide +kernel
theorem dX6_pay_20 : decode cX6_pay 20 = .ok (.ifCond .ne 37, 3) := by decide +kernel
theorem dX6_pay_23 : decode cX6_pay 23 = .ok (.iload_n 3, 1) := by decide +kernel
theorem dX6_pay_24 : decode cX6_pay 24 = .ok (.iconst 0, 1) := by decide +kernel
theorem dX6_pay_25 : decode cX6_pay 25 = .ok (.bipush 9, 2) := by decide +kernel
theorem dX6_pay_27 : decode cX6_pay 27 = .ok (.invokestatic 59, 3) := by decide +kernel
theorem dX6_pay_30 : decode cX6_pay 30 = .ok (.ifCond .eq 27, 3) := by decide +kernel
theorem dX6_pay_33 : decode cX6_pay 33 = .ok (.aload_n 0, 1) := by decide +kernel
theorem dX6_pay_34 : decode cX6_pay 34 = .ok (.getfield 12, 3) := by decide +kernel
theorem dX6_pay_37 : decode cX6_pay 37 = .ok (.getfield 128, 3) := by decide +kernel
theorem dX6_pay_40 : decode cX6_pay 40 = .ok (.iload_n 1, 1) := by decide +kernel
theorem dX6_pay_41 : decode cX6_pay 41 = .ok (.iaload, 1) := by decide +kernel
theorem dX6_pay_42 : decode cX6_pay 42 = .ok (.istore 4, 2) := by decide +kernel
theorem dX6_pay_44 : decode cX6_pay 44 = .ok (.aload_n 0, 1) := by decide +kernel
theorem dX6_pay_45 : decode cX6_pay 45 = .ok (.getfield 12, 3) := by decide +kernel
theorem dX6_pay_48 : decode cX6_pay 48 = .ok (.getfield 128, 3) := by decide +kernel
theorem dX6_pay_51 : decode cX6_pay 51 = .ok (.iload_n 1, 1) := by decide +kernel
theorem dX6_pay_52 : decode cX6_pay 52 = .ok (.iload_n 3, 1) := by decide +kernel
theorem dX6_pay_53 : decode cX6_pay 53 = .ok (.iastore, 1) := by decide +kernel
theorem dX6_pay_54 : decode cX6_pay 54 = .ok (.iload 4, 2) := by decide +kernel
theorem dX6_pay_56 : decode cX6_pay 56 = .ok (.ireturn, 1) := by decide +kernel
theorem dX6_pay_57 : decode cX6_pay 57 = .ok (.iload_n 2, 1) := by decide +kernel
theorem dX6_pay_58 : decode cX6_pay 58 = .ok (.iconst 1, 1) := by decide +kernel
theorem dX6_pay_59 : decode cX6_pay 59 = .ok (.if_icmp .ne 37, 3) := by decide +kernel
theorem dX6_pay_62 : decode cX6_pay 62 = .ok (.iload_n 3, 1) := by decide +kernel
theorem dX6_pay_63 : decode cX6_pay 63 = .ok (.iconst 0, 1) := by decide +kernel
theorem dX6_pay_64 : decode cX6_pay 64 = .ok (.bipush 99, 2) := by decide +kernel
theorem dX6_pay_66 : decode cX6_pay 66 = .ok (.invokestatic 59, 3) := by decide +kernel
theorem dX6_pay_69 : decode cX6_pay 69 = .ok (.ifCond .eq 27, 3) := by decide +kernel
theorem dX6_pay_72 : decode cX6_pay 72 = .ok (.aload_n 0, 1) := by decide +kernel
theorem dX6_pay_73 : decode cX6_pay 73 = .ok (.getfield 12, 3) := by decide +kernel
theorem dX6_pay_76 : decode cX6_pay 76 = .ok (.getfield 131, 3) := by decide +kernel
theorem dX6_pay_79 : decode cX6_pay 79 = .ok (.iload_n 1, 1) := by decide +kernel
theorem dX6_pay_80 : decode cX6_pay 80 = .ok (.iaload, 1) := by decide +kernel
theorem dX6_pay_81 : decode cX6_pay 81 = .ok (.istore 4, 2) := by decide +kernel
theorem dX6_pay_83 : decode cX6_pay 83 = .ok (.aload_n 0, 1) := by decide +kernel
theorem dX6_pay_84 : decode cX6_pay 84 = .ok (.getfield 12, 3) := by decide +kernel
theorem dX6_pay_87 : decode cX6_pay 87 = .ok (.getfield 131, 3) := by decide +kernel
theorem dX6_pay_90 : decode cX6_pay 90 = .ok (.iload_n 1, 1) := by decide +kernel
theorem dX6_pay_91 : decode cX6_pay 91 = .ok (.iload_n 3, 1) := by decide +kernel
theorem dX6_pay_92 : decode cX6_pay 92 = .ok (.iastore, 1) := by decide +kernel
theorem dX6_pay_93 : decode cX6_pay 93 = .ok (.iload 4, 2) := by decide +kernel
theorem dX6_pay_95 : decode cX6_pay 95 = .ok (.ireturn, 1) := by decide +kernel
theorem dX6_pay_96 : decode cX6_pay 96 = .ok (.iconst (-1), 1) := by decide +kernel
theorem dX6_pay_97 : decode cX6_pay 97 = .ok (.ireturn, 1) := by decide +kernel
theorem dX6_hour_0 : decode cX6_hour 0 = .ok (.aload_n 0, 1) := by decide +kernel
theorem dX6_hour_1 : decode cX6_hour 1 = .ok (.getfield 12, 3) := by decide +kernel
theorem dX6_hour_4 : decode cX6_hour 4 = .ok (.iload_n 1, 1) := by decide +kernel
theorem dX6_hour_5 : decode cX6_hour 5 = .ok (.invokevirtual 140, 3) := by decide +kernel
theorem dX6_hour_8 : decode cX6_hour 8 = .ok (.ireturn, 1) := by decide +kernel
theorem dX6_fault_0 : decode cX6_fault 0 = .ok (.aload_n 0, 1) := by decide +kernel
theorem dX6_fault_1 : decode cX6_fault 1 = .ok (.getfield 30, 3) := by decide +kernel
theorem dX6_fault_4 : decode cX6_fault 4 = .ok (.getfield 80, 3) := by decide +kernel
theorem dX6_fault_7 : decode cX6_fault 7 = .ok (.ireturn, 1) := by decide +kernel
theorem dX6_torn_0 : decode cX6_torn 0 = .ok (.aload_n 0, 1) := by decide +kernel
theorem dX6_torn_1 : decode cX6_torn 1 = .ok (.getfield 54, 3) := by decide +kernel
theorem dX6_torn_4 : decode cX6_torn 4 = .ok (.ireturn, 1) := by decide +kernel
theorem dX6_see_0 : decode cX6_see 0 = .ok (.iload_n 1, 1) := by decide +kernel
theorem dX6_see_1 : decode cX6_see 1 = .ok (.invokestatic 143, 3) := by decide +kernel
theorem dX6_see_4 : decode cX6_see 4 = .ok (.ifCond .eq 12, 3) := by decide +kernel
theorem dX6_see_7 : decode cX6_see 7 = .ok (.iload_n 2, 1) := by decide +kernel
theorem dX6_see_8 : decode cX6_see 8 = .ok (.iconst 0, 1) := by decide +kernel
theorem dX6_see_9 : decode cX6_see 9 = .ok (.iconst 3, 1) := by decide +kernel
theorem dX6_see_10 : decode cX6_see 10 = .ok (.invokestatic 59, 3) := by decide +kernel
theorem dX6_see_13 : decode cX6_see 13 = .ok (.ifCond .ne 5, 3) := by decide +kernel
theorem dX6_see_16 : decode cX6_see 16 = .ok (.iconst (-1), 1) := by decide +kernel
theorem dX6_see_17 : decode cX6_see 17 = .ok (.ireturn, 1) := by decide +kernel
theorem dX6_see_18 : decode cX6_see 18 = .ok (.aload_n 0, 1) := by decide +kernel
theorem dX6_see_19 : decode cX6_see 19 = .ok (.getfield 44, 3) := by decide +kernel
theorem dX6_see_22 : decode cX6_see 22 = .ok (.iload_n 1, 1) := by decide +kernel
theorem dX6_see_23 : decode cX6_see 23 = .ok (.iload_n 2, 1) := by decide +kernel
theorem dX6_see_24 : decode cX6_see 24 = .ok (.invokevirtual 215, 3) := by decide +kernel
theorem dX6_see_27 : decode cX6_see 27 = .ok (.ifCond .eq 13, 3) := by decide +kernel
theorem dX6_see_30 : decode cX6_see 30 = .ok (.aload_n 0, 1) := by decide +kernel
theorem dX6_see_31 : decode cX6_see 31 = .ok (.getfield 44, 3) := by decide +kernel
theorem dX6_see_34 : decode cX6_see 34 = .ok (.getfield 90, 3) := by decide +kernel
theorem dX6_see_37 : decode cX6_see 37 = .ok (.goto 5, 3) := by decide +kernel
theorem dX6_see_40 : decode cX6_see 40 = .ok (.bipush (-3), 2) := by decide +kernel
theorem dX6_see_42 : decode cX6_see 42 = .ok (.ireturn, 1) := by decide +kernel
theorem dX6_forget_0 : decode cX6_forget 0 = .ok (.iload_n 1, 1) := by decide +kernel
theorem dX6_forget_1 : decode cX6_forget 1 = .ok (.iconst 0, 1) := by decide +kernel
theorem dX6_forget_2 : decode cX6_forget 2 = .ok (.aload_n 0, 1) := by decide +kernel
theorem dX6_forget_3 : decode cX6_forget 3 = .ok (.getfield 44, 3) := by decide +kernel
theorem dX6_forget_6 : decode cX6_forget 6 = .ok (.getfield 90, 3) := by decide +kernel
theorem dX6_forget_9 : decode cX6_forget 9 = .ok (.invokestatic 59, 3) := by decide +kernel
theorem dX6_forget_12 : decode cX6_forget 12 = .ok (.ifCond .ne 5, 3) := by decide +kernel
theorem dX6_forget_15 : decode cX6_forget 15 = .ok (.iconst (-1), 1) := by decide +kernel
theorem dX6_forget_16 : decode cX6_forget 16 = .ok (.ireturn, 1) := by decide +kernel
theorem dX6_forget_17 : decode cX6_forget 17 = .ok (.aload_n 0, 1) := by decide +kernel
theorem dX6_forget_18 : decode cX6_forget 18 = .ok (.getfield 44, 3) := by decide +kernel
theorem dX6_forget_21 : decode cX6_forget 21 = .ok (.getfield 90, 3) := by decide +kernel
theorem dX6_forget_24 : decode cX6_forget 24 = .ok (.istore_n 2, 1) := by decide +kernel
theorem dX6_forget_25 : decode cX6_forget 25 = .ok (.aload_n 0, 1) := by decide +kernel
theorem dX6_forget_26 : decode cX6_forget 26 = .ok (.getfield 44, 3) := by decide +kernel
theorem dX6_forget_29 : decode cX6_forget 29 = .ok (.iload_n 1, 1) := by decide +kernel
theorem dX6_forget_30 : decode cX6_forget 30 = .ok (.putfield 90, 3) := by decide +kernel
theorem dX6_forget_33 : decode cX6_forget 33 = .ok (.iload_n 2, 1) := by decide +kernel
theorem dX6_forget_34 : decode cX6_forget 34 = .ok (.ireturn, 1) := by decide +kernel
theorem dX6_feed_0 : decode cX6_feed 0 = .ok (.iload_n 1, 1) := by decide +kernel
theorem dX6_feed_1 : decode cX6_feed 1 = .ok (.iconst 0, 1) := by decide +kernel
theorem dX6_feed_2 : decode cX6_feed 2 = .ok (.bipush 127, 2) := by decide +kernel
theorem dX6_feed_4 : decode cX6_feed 4 = .ok (.invokestatic 59, 3) := by decide +kernel
theorem dX6_feed_7 : decode cX6_feed 7 = .ok (.ifCond .ne 5, 3) := by decide +kernel
theorem dX6_feed_10 : decode cX6_feed 10 = .ok (.iconst (-1), 1) := by decide +kernel
theorem dX6_feed_11 : decode cX6_feed 11 = .ok (.ireturn, 1) := by decide +kernel
theorem dX6_feed_12 : decode cX6_feed 12 = .ok (.aload_n 0, 1) := by decide +kernel
theorem dX6_feed_13 : decode cX6_feed 13 = .ok (.getfield 30, 3) := by decide +kernel
theorem dX6_feed_16 : decode cX6_feed 16 = .ok (.getfield 63, 3) := by decide +kernel
theorem dX6_feed_19 : decode cX6_feed 19 = .ok (.iload_n 1, 1) := by decide +kernel
theorem dX6_feed_20 : decode cX6_feed 20 = .ok (.invokevirtual 67, 3) := by decide +kernel
theorem dX6_feed_23 : decode cX6_feed 23 = .ok (.ifCond .eq 16, 3) := by decide +kernel
theorem dX6_feed_26 : decode cX6_feed 26 = .ok (.aload_n 0, 1) := by decide +kernel
theorem dX6_feed_27 : decode cX6_feed 27 = .ok (.getfield 30, 3) := by decide +kernel
theorem dX6_feed_30 : decode cX6_feed 30 = .ok (.getfield 63, 3) := by decide +kernel
theorem dX6_feed_33 : decode cX6_feed 33 = .ok (.getfield 73, 3) := by decide +kernel
theorem dX6_feed_36 : decode cX6_feed 36 = .ok (.goto 5, 3) := by decide +kernel
theorem dX6_feed_39 : decode cX6_feed 39 = .ok (.bipush (-3), 2) := by decide +kernel
theorem dX6_feed_41 : decode cX6_feed 41 = .ok (.ireturn, 1) := by decide +kernel
theorem dX6_end_0 : decode cX6_end 0 = .ok (.iload_n 1, 1) := by decide +kernel
theorem dX6_end_1 : decode cX6_end 1 = .ok (.iconst 0, 1) := by decide +kernel
theorem dX6_end_2 : decode cX6_end 2 = .ok (.aload_n 0, 1) := by decide +kernel
theorem dX6_end_3 : decode cX6_end 3 = .ok (.getfield 30, 3) := by decide +kernel
theorem dX6_end_6 : decode cX6_end 6 = .ok (.getfield 63, 3) := by decide +kernel
theorem dX6_end_9 : decode cX6_end 9 = .ok (.getfield 73, 3) := by decide +kernel
theorem dX6_end_12 : decode cX6_end 12 = .ok (.invokestatic 59, 3) := by decide +kernel
theorem dX6_end_15 : decode cX6_end 15 = .ok (.ifCond .ne 5, 3) := by decide +kernel
theorem dX6_end_18 : decode cX6_end 18 = .ok (.iconst (-1), 1) := by decide +kernel
theorem dX6_end_19 : decode cX6_end 19 = .ok (.ireturn, 1) := by decide +kernel
theorem dX6_end_20 : decode cX6_end 20 = .ok (.aload_n 0, 1) := by decide +kernel
theorem dX6_end_21 : decode cX6_end 21 = .ok (.getfield 30, 3) := by decide +kernel
theorem dX6_end_24 : decode cX6_end 24 = .ok (.getfield 63, 3) := by decide +kernel
theorem dX6_end_27 : decode cX6_end 27 = .ok (.getfield 73, 3) := by decide +kernel
theorem dX6_end_30 : decode cX6_end 30 = .ok (.istore_n 2, 1) := by decide +kernel
theorem dX6_end_31 : decode cX6_end 31 = .ok (.aload_n 0, 1) := by decide +kernel
theorem dX6_end_32 : decode cX6_end 32 = .ok (.getfield 30, 3) := by decide +kernel
theorem dX6_end_35 : decode cX6_end 35 = .ok (.getfield 63, 3) := by decide +kernel
theorem dX6_end_38 : decode cX6_end 38 = .ok (.iload_n 1, 1) := by decide +kernel
theorem dX6_end_39 : decode cX6_end 39 = .ok (.putfield 73, 3) := by decide +kernel
theorem dX6_end_42 : decode cX6_end 42 = .ok (.iload_n 2, 1) := by decide +kernel
theorem dX6_end_43 : decode cX6_end 43 = .ok (.ireturn, 1) := by decide +kernel
/-! ===== the class: rs 0 to 4 its realms (now, trial, images, draft); v's rows: kept, the tape, SEEN (hours, whole), numbers (tape's length, SEEN's, the SHEETS'), the reader's; Odds' q, x, n, u; c, l the SHEETS' cells and lanes ===== -/
abbrev rsT : Type := Nat → rT
abbrev vT : Type := Nat → Nat → Nat
def wC (rs : Nat → rT) (v : Nat → Nat → Nat) (q : rT) (x : Nat → Nat) (n : Nat → Int64) (u : uT) (c : Nat → Nat → Int32) (l : Nat → Int32) (tn : Int32) : jW := [.inr (6, [.ref 1, .ref 8, .ref 15, .ref 16, .ref 17, .ref 27, .ref 36, .ref 39, .int tn]),
  .inr (2, [.ref 2, .ref 3, .ref 4, .ref 5, .ref 6, .ref 7, .int (nI (rs 0 6 0)), .int (nI (rs 0 6 1)), .int (nI (rs 0 6 2)), .int (nI (rs 0 6 3)), .int (nI (rs 0 6 4)), .int (nI (rs 0 6 5)), .int (nI (rs 0 6 6))]),
  .inl (0, 3, .inl (fun j => nI (rs 0 0 j))),
  .inl (0, 3, .inl (fun j => nI (rs 0 1 j))),
  .inl (0, 4, .inl (fun j => nI (rs 0 2 j))),
  .inl (0, 4, .inl (fun j => nI (rs 0 3 j))),
  .inl (0, 3, .inl (fun j => nI (rs 0 4 j))),
  .inl (0, 3, .inl (fun j => nI (rs 0 5 j))),
  .inr (2, [.ref 9, .ref 10, .ref 11, .ref 12, .ref 13, .ref 14, .int (nI (rs 1 6 0)), .int (nI (rs 1 6 1)), .int (nI (rs 1 6 2)), .int (nI (rs 1 6 3)), .int (nI (rs 1 6 4)), .int (nI (rs 1 6 5)), .int (nI (rs 1 6 6))]),
  .inl (0, 3, .inl (fun j => nI (rs 1 0 j))),
  .inl (0, 3, .inl (fun j => nI (rs 1 1 j))),
  .inl (0, 4, .inl (fun j => nI (rs 1 2 j))),
  .inl (0, 4, .inl (fun j => nI (rs 1 3 j))),
  .inl (0, 3, .inl (fun j => nI (rs 1 4 j))),
  .inl (0, 3, .inl (fun j => nI (rs 1 5 j))),
  .inl (4, 2, .inr (.inr (.inr (.inr (fun j => if j = 0 then some 40 else some 47))))),
  .inl (3, 2, .inl (fun j => nI (v 0 j))),
  .inr (1, [.ref 18, .ref 20, .int (nI (v 5 0)), .int (nI (v 5 1)), .int (nI (v 5 2)), .int (nI (v 5 3)), .int (nI (v 5 4)), .int (nI (v 5 5)), .int (nI (v 5 6)), .int (nI (v 5 7)), .int (nI (v 5 8))]),
  .inr (5, [.ref 19, .int (nI (v 4 0))]),
  .inl (2, 160, .inl (fun j => nI (v 1 j))),
  .inr (2, [.ref 21, .ref 22, .ref 23, .ref 24, .ref 25, .ref 26, .int (nI (rs 4 6 0)), .int (nI (rs 4 6 1)), .int (nI (rs 4 6 2)), .int (nI (rs 4 6 3)), .int (nI (rs 4 6 4)), .int (nI (rs 4 6 5)), .int (nI (rs 4 6 6))]),
  .inl (0, 3, .inl (fun j => nI (rs 4 0 j))),
  .inl (0, 3, .inl (fun j => nI (rs 4 1 j))),
  .inl (0, 4, .inl (fun j => nI (rs 4 2 j))),
  .inl (0, 4, .inl (fun j => nI (rs 4 3 j))),
  .inl (0, 3, .inl (fun j => nI (rs 4 4 j))),
  .inl (0, 3, .inl (fun j => nI (rs 4 5 j))),
  .inr (0, [.ref 28, .ref 29, .ref 30, .int (nI (q 6 0)), .int (nI (q 6 1)), .ref 31, .ref 32, .ref 33, .ref 34, .ref 35, .long (u 3 0), .long (u 3 1)]),
  .inl (0, 3, .inl (fun j => nI (q 0 j))),
  .inl (0, 3, .inl (fun j => nI (q 1 j))),
  .inl (0, 3, .inl (fun j => nI (q 2 j))),
  .inl (1, 8, .inr (.inl (fun j => lN (x j)))),
  .inl (1, 8, .inr (.inl n)),
  .inl (1, 8, .inr (.inl (u 0))),
  .inl (1, 8, .inr (.inl (u 1))),
  .inl (1, 6, .inr (.inl (u 2))),
  .inr (3, [.ref 37, .ref 38, .int (nI (v 4 1))]),
  .inl (0, 6, .inl (fun j => nI (v 2 j))),
  .inl (0, 6, .inl (fun j => nI (v 3 j))),
  .inl (5, 4, .inr (.inr (.inr (.inr (fun j => if j = 0 then some 54 else if j = 1 then some 56 else if j = 2 then some 58 else some 60))))),
  .inr (2, [.ref 41, .ref 42, .ref 43, .ref 44, .ref 45, .ref 46, .int (nI (rs 2 6 0)), .int (nI (rs 2 6 1)), .int (nI (rs 2 6 2)), .int (nI (rs 2 6 3)), .int (nI (rs 2 6 4)), .int (nI (rs 2 6 5)), .int (nI (rs 2 6 6))]),
  .inl (0, 3, .inl (fun j => nI (rs 2 0 j))),
  .inl (0, 3, .inl (fun j => nI (rs 2 1 j))),
  .inl (0, 4, .inl (fun j => nI (rs 2 2 j))),
  .inl (0, 4, .inl (fun j => nI (rs 2 3 j))),
  .inl (0, 3, .inl (fun j => nI (rs 2 4 j))),
  .inl (0, 3, .inl (fun j => nI (rs 2 5 j))),
  .inr (2, [.ref 48, .ref 49, .ref 50, .ref 51, .ref 52, .ref 53, .int (nI (rs 3 6 0)), .int (nI (rs 3 6 1)), .int (nI (rs 3 6 2)), .int (nI (rs 3 6 3)), .int (nI (rs 3 6 4)), .int (nI (rs 3 6 5)), .int (nI (rs 3 6 6))]),
  .inl (0, 3, .inl (fun j => nI (rs 3 0 j))),
  .inl (0, 3, .inl (fun j => nI (rs 3 1 j))),
  .inl (0, 4, .inl (fun j => nI (rs 3 2 j))),
  .inl (0, 4, .inl (fun j => nI (rs 3 3 j))),
  .inl (0, 3, .inl (fun j => nI (rs 3 4 j))),
  .inl (0, 3, .inl (fun j => nI (rs 3 5 j))),
  .inr (4, [.ref 55, .int (l 0), .int (nI (v 4 2))]),
  .inl (0, 40, .inl (c 0)),
  .inr (4, [.ref 57, .int (l 1), .int (nI (v 4 3))]),
  .inl (0, 40, .inl (c 1)),
  .inr (4, [.ref 59, .int (l 2), .int (nI (v 4 4))]),
  .inl (0, 40, .inl (c 2)),
  .inr (4, [.ref 61, .int (l 3), .int (nI (v 4 5))]),
  .inl (0, 40, .inl (c 3))]
def rsN (rs : Nat → rT) (i : Nat) (r : rT) : Nat → rT := fun k => if k = i then r else rs k
def vset (v : vT) (a i z : Nat) : vT := fun y => if y = a then (fun j => if j = i then z else v a j) else v y
set_option maxRecDepth 100000 in
set_option maxHeartbeats 4000000 in
theorem mX6_fault (rs : Nat → rT) (v : Nat → Nat → Nat) (q : rT) (x : Nat → Nat) (n : Nat → Int64) (u : uT) (c : Nat → Nat → Int32) (l : Nat → Int32) (tn : Int32) : J KX6_fault 62 (fun o B => o = some (.int (nI (v 5 7))) ∧ B = (wC rs v q x n u c l tn)) 0 [some (.ref 0)] [] (wC rs v q x n u c l tn) 0 0 := by
  refine J.aload_n dX6_fault_0 rfl rfl ?_
  refine J.getfield dX6_fault_1 jFX6_30 rfl rfl ?_
  refine J.getfield dX6_fault_4 jFX6_80 rfl rfl ?_
  exact J.iret dX6_fault_7 rfl rfl (Nat.le_refl _) (Nat.le_refl _) ⟨rfl, rfl⟩
set_option maxRecDepth 100000 in
set_option maxHeartbeats 4000000 in
theorem mX6_torn (rs : Nat → rT) (v : Nat → Nat → Nat) (q : rT) (x : Nat → Nat) (n : Nat → Int64) (u : uT) (c : Nat → Nat → Int32) (l : Nat → Int32) (tn : Int32) : J KX6_torn 62 (fun o B => o = some (.int tn) ∧ B = (wC rs v q x n u c l tn)) 0 [some (.ref 0)] [] (wC rs v q x n u c l tn) 0 0 := by
  refine J.aload_n dX6_torn_0 rfl rfl ?_
  refine J.getfield dX6_torn_1 jFX6_54 rfl rfl ?_
  exact J.iret dX6_torn_4 rfl rfl (Nat.le_refl _) (Nat.le_refl _) ⟨rfl, rfl⟩
set_option maxRecDepth 100000 in
set_option maxHeartbeats 4000000 in
theorem mX6_hour (rs : Nat → rT) (v : Nat → Nat → Nat) (q : rT) (x : Nat → Nat) (n : Nat → Int64) (u : uT) (c : Nat → Nat → Int32) (l : Nat → Int32) (tn : Int32) (z : Int32) (hr : rOK (rs 0)) : J KX6_hour 62 (fun o B => o = some (.int (tryA (rs 0) z)) ∧ B = (wC (rsN rs 0 (tryR (rs 0) z)) v q x n u c l tn)) 0 [some (.ref 0), some (.int z)] [] (wC rs v q x n u c l tn) 0 0 := by
  refine J.aload_n dX6_hour_0 rfl rfl ?_
  refine J.getfield dX6_hour_1 jFX6_12 rfl rfl ?_
  refine J.iload_n dX6_hour_4 rfl rfl ?_
  refine J.cv (as := [.int _]) (is := [1, 2, 3, 4, 5, 6, 7]) (o := 0) okX2_tryHour jcX6_140 (mX2_tryHour (rs 0) z hr) dX6_hour_5 rfl rfl rfl rfl rfl rfl rfl (fun r9 B9 hq => ?_)
  obtain ⟨rfl, rfl⟩ := hq
  refine ⟨rfl, ?_⟩
  show J _ _ _ _ _ (.int _ :: _) (wC (rsN rs 0 (tryR (rs 0) z)) v q x n u c l tn) _ _
  exact J.iret dX6_hour_8 rfl rfl (Nat.le_refl _) (Nat.le_refl _) ⟨rfl, rfl⟩
