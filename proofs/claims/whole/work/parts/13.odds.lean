theorem dX0_take_0 : decode cX0_take 0 = .ok (.iconst 0, 1) := by decide +kernel
theorem dX0_take_1 : decode cX0_take 1 = .ok (.istore_n 2, 1) := by decide +kernel
theorem dX0_take_2 : decode cX0_take 2 = .ok (.iload_n 2, 1) := by decide +kernel
theorem dX0_take_3 : decode cX0_take 3 = .ok (.iconst 3, 1) := by decide +kernel
theorem dX0_take_4 : decode cX0_take 4 = .ok (.if_icmp .ge 33, 3) := by decide +kernel
theorem dX0_take_7 : decode cX0_take 7 = .ok (.aload_n 0, 1) := by decide +kernel
theorem dX0_take_8 : decode cX0_take 8 = .ok (.getfield 9, 3) := by decide +kernel
theorem dX0_take_11 : decode cX0_take 11 = .ok (.iload_n 2, 1) := by decide +kernel
theorem dX0_take_12 : decode cX0_take 12 = .ok (.aload_n 1, 1) := by decide +kernel
theorem dX0_take_13 : decode cX0_take 13 = .ok (.getfield 37, 3) := by decide +kernel
theorem dX0_take_16 : decode cX0_take 16 = .ok (.iload_n 2, 1) := by decide +kernel
theorem dX0_take_17 : decode cX0_take 17 = .ok (.iaload, 1) := by decide +kernel
theorem dX0_take_18 : decode cX0_take 18 = .ok (.iastore, 1) := by decide +kernel
theorem dX0_take_19 : decode cX0_take 19 = .ok (.aload_n 0, 1) := by decide +kernel
theorem dX0_take_20 : decode cX0_take 20 = .ok (.getfield 15, 3) := by decide +kernel
theorem dX0_take_23 : decode cX0_take 23 = .ok (.iload_n 2, 1) := by decide +kernel
theorem dX0_take_24 : decode cX0_take 24 = .ok (.aload_n 1, 1) := by decide +kernel
theorem dX0_take_25 : decode cX0_take 25 = .ok (.getfield 40, 3) := by decide +kernel
theorem dX0_take_28 : decode cX0_take 28 = .ok (.iload_n 2, 1) := by decide +kernel
theorem dX0_take_29 : decode cX0_take 29 = .ok (.iaload, 1) := by decide +kernel
theorem dX0_take_30 : decode cX0_take 30 = .ok (.iastore, 1) := by decide +kernel
theorem dX0_take_31 : decode cX0_take 31 = .ok (.iinc 2 1, 3) := by decide +kernel
theorem dX0_take_34 : decode cX0_take 34 = .ok (.goto (-32), 3) := by decide +kernel
theorem dX0_take_37 : decode cX0_take 37 = .ok (.aload_n 0, 1) := by decide +kernel
theorem dX0_take_38 : decode cX0_take 38 = .ok (.aload_n 1, 1) := by decide +kernel
theorem dX0_take_39 : decode cX0_take 39 = .ok (.getfield 41, 3) := by decide +kernel
theorem dX0_take_42 : decode cX0_take 42 = .ok (.putfield 45, 3) := by decide +kernel
theorem dX0_take_45 : decode cX0_take 45 = .ok (.aload_n 0, 1) := by decide +kernel
theorem dX0_take_46 : decode cX0_take 46 = .ok (.aload_n 1, 1) := by decide +kernel
theorem dX0_take_47 : decode cX0_take 47 = .ok (.getfield 46, 3) := by decide +kernel
theorem dX0_take_50 : decode cX0_take 50 = .ok (.invokevirtual 49, 3) := by decide +kernel
theorem dX0_take_53 : decode cX0_take 53 = .ok (.return_, 1) := by decide +kernel
theorem dX0_takeNew_0 : decode cX0_takeNew 0 = .ok (.iconst 0, 1) := by decide +kernel
theorem dX0_takeNew_1 : decode cX0_takeNew 1 = .ok (.istore 4, 2) := by decide +kernel
theorem dX0_takeNew_3 : decode cX0_takeNew 3 = .ok (.iload 4, 2) := by decide +kernel
theorem dX0_takeNew_5 : decode cX0_takeNew 5 = .ok (.iconst 3, 1) := by decide +kernel
theorem dX0_takeNew_6 : decode cX0_takeNew 6 = .ok (.if_icmp .ge 25, 3) := by decide +kernel
theorem dX0_takeNew_9 : decode cX0_takeNew 9 = .ok (.aload_n 0, 1) := by decide +kernel
theorem dX0_takeNew_10 : decode cX0_takeNew 10 = .ok (.getfield 9, 3) := by decide +kernel
theorem dX0_takeNew_13 : decode cX0_takeNew 13 = .ok (.iload 4, 2) := by decide +kernel
theorem dX0_takeNew_15 : decode cX0_takeNew 15 = .ok (.iload_n 1, 1) := by decide +kernel
theorem dX0_takeNew_16 : decode cX0_takeNew 16 = .ok (.iastore, 1) := by decide +kernel
theorem dX0_takeNew_17 : decode cX0_takeNew 17 = .ok (.aload_n 0, 1) := by decide +kernel
theorem dX0_takeNew_18 : decode cX0_takeNew 18 = .ok (.getfield 15, 3) := by decide +kernel
theorem dX0_takeNew_21 : decode cX0_takeNew 21 = .ok (.iload 4, 2) := by decide +kernel
theorem dX0_takeNew_23 : decode cX0_takeNew 23 = .ok (.iconst 0, 1) := by decide +kernel
theorem dX0_takeNew_24 : decode cX0_takeNew 24 = .ok (.iastore, 1) := by decide +kernel
theorem dX0_takeNew_25 : decode cX0_takeNew 25 = .ok (.iinc 4 1, 3) := by decide +kernel
theorem dX0_takeNew_28 : decode cX0_takeNew 28 = .ok (.goto (-25), 3) := by decide +kernel
theorem dX0_takeNew_31 : decode cX0_takeNew 31 = .ok (.aload_n 0, 1) := by decide +kernel
theorem dX0_takeNew_32 : decode cX0_takeNew 32 = .ok (.iload_n 3, 1) := by decide +kernel
theorem dX0_takeNew_33 : decode cX0_takeNew 33 = .ok (.putfield 45, 3) := by decide +kernel
theorem dX0_takeNew_36 : decode cX0_takeNew 36 = .ok (.aload_n 0, 1) := by decide +kernel
theorem dX0_takeNew_37 : decode cX0_takeNew 37 = .ok (.iconst 1, 1) := by decide +kernel
theorem dX0_takeNew_38 : decode cX0_takeNew 38 = .ok (.iload_n 2, 1) := by decide +kernel
theorem dX0_takeNew_39 : decode cX0_takeNew 39 = .ok (.ishl, 1) := by decide +kernel
theorem dX0_takeNew_40 : decode cX0_takeNew 40 = .ok (.iconst 1, 1) := by decide +kernel
theorem dX0_takeNew_41 : decode cX0_takeNew 41 = .ok (.isub, 1) := by decide +kernel
theorem dX0_takeNew_42 : decode cX0_takeNew 42 = .ok (.invokevirtual 49, 3) := by decide +kernel
theorem dX0_takeNew_45 : decode cX0_takeNew 45 = .ok (.return_, 1) := by decide +kernel
theorem dX0_renew_0 : decode cX0_renew 0 = .ok (.iload_n 1, 1) := by decide +kernel
theorem dX0_renew_1 : decode cX0_renew 1 = .ok (.iconst 0, 1) := by decide +kernel
theorem dX0_renew_2 : decode cX0_renew 2 = .ok (.iconst 2, 1) := by decide +kernel
theorem dX0_renew_3 : decode cX0_renew 3 = .ok (.invokestatic 53, 3) := by decide +kernel
theorem dX0_renew_6 : decode cX0_renew 6 = .ok (.ifCond .eq 22, 3) := by decide +kernel
theorem dX0_renew_9 : decode cX0_renew 9 = .ok (.aload_n 0, 1) := by decide +kernel
theorem dX0_renew_10 : decode cX0_renew 10 = .ok (.getfield 15, 3) := by decide +kernel
theorem dX0_renew_13 : decode cX0_renew 13 = .ok (.iload_n 1, 1) := by decide +kernel
theorem dX0_renew_14 : decode cX0_renew 14 = .ok (.iconst 0, 1) := by decide +kernel
theorem dX0_renew_15 : decode cX0_renew 15 = .ok (.iastore, 1) := by decide +kernel
theorem dX0_renew_16 : decode cX0_renew 16 = .ok (.aload_n 0, 1) := by decide +kernel
theorem dX0_renew_17 : decode cX0_renew 17 = .ok (.aload_n 0, 1) := by decide +kernel
theorem dX0_renew_18 : decode cX0_renew 18 = .ok (.getfield 57, 3) := by decide +kernel
theorem dX0_renew_21 : decode cX0_renew 21 = .ok (.iconst 1, 1) := by decide +kernel
theorem dX0_renew_22 : decode cX0_renew 22 = .ok (.iload_n 1, 1) := by decide +kernel
theorem dX0_renew_23 : decode cX0_renew 23 = .ok (.ishl, 1) := by decide +kernel
theorem dX0_renew_24 : decode cX0_renew 24 = .ok (.ior, 1) := by decide +kernel
theorem dX0_renew_25 : decode cX0_renew 25 = .ok (.invokevirtual 49, 3) := by decide +kernel
theorem dX0_renew_28 : decode cX0_renew 28 = .ok (.return_, 1) := by decide +kernel
theorem dX0_begin_0 : decode cX0_begin 0 = .ok (.aload_n 0, 1) := by decide +kernel
theorem dX0_begin_1 : decode cX0_begin 1 = .ok (.iload_n 1, 1) := by decide +kernel
theorem dX0_begin_2 : decode cX0_begin 2 = .ok (.bipush 7, 2) := by decide +kernel
theorem dX0_begin_4 : decode cX0_begin 4 = .ok (.iand, 1) := by decide +kernel
theorem dX0_begin_5 : decode cX0_begin 5 = .ok (.putfield 57, 3) := by decide +kernel
theorem dX0_begin_8 : decode cX0_begin 8 = .ok (.iconst 0, 1) := by decide +kernel
theorem dX0_begin_9 : decode cX0_begin 9 = .ok (.istore_n 2, 1) := by decide +kernel
theorem dX0_begin_10 : decode cX0_begin 10 = .ok (.iload_n 2, 1) := by decide +kernel
theorem dX0_begin_11 : decode cX0_begin 11 = .ok (.bipush 8, 2) := by decide +kernel
theorem dX0_begin_13 : decode cX0_begin 13 = .ok (.if_icmp .ge 28, 3) := by decide +kernel
theorem dX0_begin_16 : decode cX0_begin 16 = .ok (.aload_n 0, 1) := by decide +kernel
theorem dX0_begin_17 : decode cX0_begin 17 = .ok (.getfield 21, 3) := by decide +kernel
theorem dX0_begin_20 : decode cX0_begin 20 = .ok (.iload_n 2, 1) := by decide +kernel
theorem dX0_begin_21 : decode cX0_begin 21 = .ok (.iload_n 2, 1) := by decide +kernel
theorem dX0_begin_22 : decode cX0_begin 22 = .ok (.aload_n 0, 1) := by decide +kernel
theorem dX0_begin_23 : decode cX0_begin 23 = .ok (.getfield 57, 3) := by decide +kernel
theorem dX0_begin_26 : decode cX0_begin 26 = .ok (.if_icmp .ne 7, 3) := by decide +kernel
theorem dX0_begin_29 : decode cX0_begin 29 = .ok (.lconst 1, 1) := by decide +kernel
theorem dX0_begin_30 : decode cX0_begin 30 = .ok (.goto 4, 3) := by decide +kernel
theorem dX0_begin_33 : decode cX0_begin 33 = .ok (.lconst 0, 1) := by decide +kernel
theorem dX0_begin_34 : decode cX0_begin 34 = .ok (.lastore, 1) := by decide +kernel
theorem dX0_begin_35 : decode cX0_begin 35 = .ok (.iinc 2 1, 3) := by decide +kernel
theorem dX0_begin_38 : decode cX0_begin 38 = .ok (.goto (-28), 3) := by decide +kernel
theorem dX0_begin_41 : decode cX0_begin 41 = .ok (.return_, 1) := by decide +kernel
theorem dX0_weigh_0 : decode cX0_weigh 0 = .ok (.iload_n 1, 1) := by decide +kernel
theorem dX0_weigh_1 : decode cX0_weigh 1 = .ok (.invokestatic 69, 3) := by decide +kernel
theorem dX0_weigh_4 : decode cX0_weigh 4 = .ok (.istore_n 3, 1) := by decide +kernel
theorem dX0_weigh_5 : decode cX0_weigh 5 = .ok (.iconst 0, 1) := by decide +kernel
theorem dX0_weigh_6 : decode cX0_weigh 6 = .ok (.istore 4, 2) := by decide +kernel
theorem dX0_weigh_8 : decode cX0_weigh 8 = .ok (.iload 4, 2) := by decide +kernel
theorem dX0_weigh_10 : decode cX0_weigh 10 = .ok (.iconst 3, 1) := by decide +kernel
theorem dX0_weigh_11 : decode cX0_weigh 11 = .ok (.if_icmp .ge 45, 3) := by decide +kernel
theorem dX0_weigh_14 : decode cX0_weigh 14 = .ok (.aload_n 0, 1) := by decide +kernel
theorem dX0_weigh_15 : decode cX0_weigh 15 = .ok (.getfield 18, 3) := by decide +kernel
theorem dX0_weigh_18 : decode cX0_weigh 18 = .ok (.iload 4, 2) := by decide +kernel
theorem dX0_weigh_20 : decode cX0_weigh 20 = .ok (.aload_n 0, 1) := by decide +kernel
theorem dX0_weigh_21 : decode cX0_weigh 21 = .ok (.getfield 9, 3) := by decide +kernel
theorem dX0_weigh_24 : decode cX0_weigh 24 = .ok (.iload 4, 2) := by decide +kernel
theorem dX0_weigh_26 : decode cX0_weigh 26 = .ok (.iaload, 1) := by decide +kernel
theorem dX0_weigh_27 : decode cX0_weigh 27 = .ok (.bipush 9, 2) := by decide +kernel
theorem dX0_weigh_29 : decode cX0_weigh 29 = .ok (.aload_n 0, 1) := by decide +kernel
theorem dX0_weigh_30 : decode cX0_weigh 30 = .ok (.getfield 15, 3) := by decide +kernel
theorem dX0_weigh_33 : decode cX0_weigh 33 = .ok (.iload 4, 2) := by decide +kernel
theorem dX0_weigh_35 : decode cX0_weigh 35 = .ok (.iaload, 1) := by decide +kernel
theorem dX0_weigh_36 : decode cX0_weigh 36 = .ok (.iload_n 2, 1) := by decide +kernel
theorem dX0_weigh_37 : decode cX0_weigh 37 = .ok (.iadd, 1) := by decide +kernel
theorem dX0_weigh_38 : decode cX0_weigh 38 = .ok (.invokestatic 75, 3) := by decide +kernel
theorem dX0_weigh_41 : decode cX0_weigh 41 = .ok (.aload_n 0, 1) := by decide +kernel
theorem dX0_weigh_42 : decode cX0_weigh 42 = .ok (.getfield 45, 3) := by decide +kernel
theorem dX0_weigh_45 : decode cX0_weigh 45 = .ok (.iload_n 3, 1) := by decide +kernel
theorem dX0_weigh_46 : decode cX0_weigh 46 = .ok (.invokestatic 81, 3) := by decide +kernel
theorem dX0_weigh_49 : decode cX0_weigh 49 = .ok (.iastore, 1) := by decide +kernel
theorem dX0_weigh_50 : decode cX0_weigh 50 = .ok (.iinc 4 1, 3) := by decide +kernel
theorem dX0_weigh_53 : decode cX0_weigh 53 = .ok (.goto (-45), 3) := by decide +kernel
theorem dX0_weigh_56 : decode cX0_weigh 56 = .ok (.return_, 1) := by decide +kernel
theorem dX0_weight_0 : decode cX0_weight 0 = .ok (.iload_n 2, 1) := by decide +kernel
theorem dX0_weight_1 : decode cX0_weight 1 = .ok (.iload_n 1, 1) := by decide +kernel
theorem dX0_weight_2 : decode cX0_weight 2 = .ok (.iconst (-1), 1) := by decide +kernel
theorem dX0_weight_3 : decode cX0_weight 3 = .ok (.ixor, 1) := by decide +kernel
theorem dX0_weight_4 : decode cX0_weight 4 = .ok (.iand, 1) := by decide +kernel
theorem dX0_weight_5 : decode cX0_weight 5 = .ok (.ifCond .eq 5, 3) := by decide +kernel
theorem dX0_weight_8 : decode cX0_weight 8 = .ok (.lconst 0, 1) := by decide +kernel
theorem dX0_weight_9 : decode cX0_weight 9 = .ok (.lreturn, 1) := by decide +kernel
theorem dX0_weight_10 : decode cX0_weight 10 = .ok (.lconst 1, 1) := by decide +kernel
theorem dX0_weight_11 : decode cX0_weight 11 = .ok (.lstore_n 3, 1) := by decide +kernel
theorem dX0_weight_12 : decode cX0_weight 12 = .ok (.iconst 0, 1) := by decide +kernel
theorem dX0_weight_13 : decode cX0_weight 13 = .ok (.istore 5, 2) := by decide +kernel
theorem dX0_weight_15 : decode cX0_weight 15 = .ok (.iload 5, 2) := by decide +kernel
theorem dX0_weight_17 : decode cX0_weight 17 = .ok (.iconst 3, 1) := by decide +kernel
theorem dX0_weight_18 : decode cX0_weight 18 = .ok (.if_icmp .ge 61, 3) := by decide +kernel
theorem dX0_weight_21 : decode cX0_weight 21 = .ok (.iload_n 1, 1) := by decide +kernel
theorem dX0_weight_22 : decode cX0_weight 22 = .ok (.iload 5, 2) := by decide +kernel
theorem dX0_weight_24 : decode cX0_weight 24 = .ok (.ishr, 1) := by decide +kernel
theorem dX0_weight_25 : decode cX0_weight 25 = .ok (.iconst 1, 1) := by decide +kernel
theorem dX0_weight_26 : decode cX0_weight 26 = .ok (.iand, 1) := by decide +kernel
theorem dX0_weight_27 : decode cX0_weight 27 = .ok (.ifCond .ne 12, 3) := by decide +kernel
theorem dX0_weight_30 : decode cX0_weight 30 = .ok (.lload_n 3, 1) := by decide +kernel
theorem dX0_weight_31 : decode cX0_weight 31 = .ok (.ldc2_w 85, 3) := by decide +kernel
theorem dX0_weight_34 : decode cX0_weight 34 = .ok (.lmul, 1) := by decide +kernel
theorem dX0_weight_35 : decode cX0_weight 35 = .ok (.lstore_n 3, 1) := by decide +kernel
theorem dX0_weight_36 : decode cX0_weight 36 = .ok (.goto 37, 3) := by decide +kernel
theorem dX0_weight_39 : decode cX0_weight 39 = .ok (.lload_n 3, 1) := by decide +kernel
theorem dX0_weight_40 : decode cX0_weight 40 = .ok (.iload_n 2, 1) := by decide +kernel
theorem dX0_weight_41 : decode cX0_weight 41 = .ok (.iload 5, 2) := by decide +kernel
theorem dX0_weight_43 : decode cX0_weight 43 = .ok (.ishr, 1) := by decide +kernel
theorem dX0_weight_44 : decode cX0_weight 44 = .ok (.iconst 1, 1) := by decide +kernel
theorem dX0_weight_45 : decode cX0_weight 45 = .ok (.iand, 1) := by decide +kernel
theorem dX0_weight_46 : decode cX0_weight 46 = .ok (.ifCond .ne 14, 3) := by decide +kernel
theorem dX0_weight_49 : decode cX0_weight 49 = .ok (.aload_n 0, 1) := by decide +kernel
theorem dX0_weight_50 : decode cX0_weight 50 = .ok (.getfield 18, 3) := by decide +kernel
theorem dX0_weight_53 : decode cX0_weight 53 = .ok (.iload 5, 2) := by decide +kernel
theorem dX0_weight_55 : decode cX0_weight 55 = .ok (.iaload, 1) := by decide +kernel
theorem dX0_weight_56 : decode cX0_weight 56 = .ok (.i2l, 1) := by decide +kernel
theorem dX0_weight_57 : decode cX0_weight 57 = .ok (.goto 14, 3) := by decide +kernel
theorem dX0_weight_60 : decode cX0_weight 60 = .ok (.bipush 10, 2) := by decide +kernel
theorem dX0_weight_62 : decode cX0_weight 62 = .ok (.aload_n 0, 1) := by decide +kernel
theorem dX0_weight_63 : decode cX0_weight 63 = .ok (.getfield 18, 3) := by decide +kernel
theorem dX0_weight_66 : decode cX0_weight 66 = .ok (.iload 5, 2) := by decide +kernel
theorem dX0_weight_68 : decode cX0_weight 68 = .ok (.iaload, 1) := by decide +kernel
theorem dX0_weight_69 : decode cX0_weight 69 = .ok (.isub, 1) := by decide +kernel
theorem dX0_weight_70 : decode cX0_weight 70 = .ok (.i2l, 1) := by decide +kernel
theorem dX0_weight_71 : decode cX0_weight 71 = .ok (.lmul, 1) := by decide +kernel
theorem dX0_weight_72 : decode cX0_weight 72 = .ok (.lstore_n 3, 1) := by decide +kernel
theorem dX0_weight_73 : decode cX0_weight 73 = .ok (.iinc 5 1, 3) := by decide +kernel
theorem dX0_weight_76 : decode cX0_weight 76 = .ok (.goto (-61), 3) := by decide +kernel
theorem dX0_weight_79 : decode cX0_weight 79 = .ok (.lload_n 3, 1) := by decide +kernel
theorem dX0_weight_80 : decode cX0_weight 80 = .ok (.lreturn, 1) := by decide +kernel
theorem dX0_held_0 : decode cX0_held 0 = .ok (.lconst 0, 1) := by decide +kernel
theorem dX0_held_1 : decode cX0_held 1 = .ok (.lstore_n 1, 1) := by decide +kernel
theorem dX0_held_2 : decode cX0_held 2 = .ok (.iconst 1, 1) := by decide +kernel
theorem dX0_held_3 : decode cX0_held 3 = .ok (.istore_n 3, 1) := by decide +kernel
theorem dX0_held_4 : decode cX0_held 4 = .ok (.iload_n 3, 1) := by decide +kernel
theorem dX0_held_5 : decode cX0_held 5 = .ok (.bipush 8, 2) := by decide +kernel
theorem dX0_held_7 : decode cX0_held 7 = .ok (.if_icmp .ge 18, 3) := by decide +kernel
theorem dX0_held_10 : decode cX0_held 10 = .ok (.lload_n 1, 1) := by decide +kernel
theorem dX0_held_11 : decode cX0_held 11 = .ok (.aload_n 0, 1) := by decide +kernel
theorem dX0_held_12 : decode cX0_held 12 = .ok (.getfield 21, 3) := by decide +kernel
theorem dX0_held_15 : decode cX0_held 15 = .ok (.iload_n 3, 1) := by decide +kernel
theorem dX0_held_16 : decode cX0_held 16 = .ok (.laload, 1) := by decide +kernel
theorem dX0_held_17 : decode cX0_held 17 = .ok (.ladd, 1) := by decide +kernel
theorem dX0_held_18 : decode cX0_held 18 = .ok (.lstore_n 1, 1) := by decide +kernel
theorem dX0_held_19 : decode cX0_held 19 = .ok (.iinc 3 1, 3) := by decide +kernel
theorem dX0_held_22 : decode cX0_held 22 = .ok (.goto (-18), 3) := by decide +kernel
theorem dX0_held_25 : decode cX0_held 25 = .ok (.lload_n 1, 1) := by decide +kernel
theorem dX0_held_26 : decode cX0_held 26 = .ok (.lreturn, 1) := by decide +kernel
theorem dX0_all_0 : decode cX0_all 0 = .ok (.aload_n 0, 1) := by decide +kernel
theorem dX0_all_1 : decode cX0_all 1 = .ok (.getfield 21, 3) := by decide +kernel
theorem dX0_all_4 : decode cX0_all 4 = .ok (.iconst 0, 1) := by decide +kernel
theorem dX0_all_5 : decode cX0_all 5 = .ok (.laload, 1) := by decide +kernel
theorem dX0_all_6 : decode cX0_all 6 = .ok (.aload_n 0, 1) := by decide +kernel
theorem dX0_all_7 : decode cX0_all 7 = .ok (.invokevirtual 87, 3) := by decide +kernel
theorem dX0_all_10 : decode cX0_all 10 = .ok (.ladd, 1) := by decide +kernel
theorem dX0_all_11 : decode cX0_all 11 = .ok (.lreturn, 1) := by decide +kernel
theorem dX0_justWhole_0 : decode cX0_justWhole 0 = .ok (.lconst 0, 1) := by decide +kernel
theorem dX0_justWhole_1 : decode cX0_justWhole 1 = .ok (.lstore_n 2, 1) := by decide +kernel
theorem dX0_justWhole_2 : decode cX0_justWhole 2 = .ok (.iconst 0, 1) := by decide +kernel
theorem dX0_justWhole_3 : decode cX0_justWhole 3 = .ok (.istore 4, 2) := by decide +kernel
theorem dX0_justWhole_5 : decode cX0_justWhole 5 = .ok (.iload 4, 2) := by decide +kernel
theorem dX0_justWhole_7 : decode cX0_justWhole 7 = .ok (.bipush 8, 2) := by decide +kernel
theorem dX0_justWhole_9 : decode cX0_justWhole 9 = .ok (.if_icmp .ge 32, 3) := by decide +kernel
theorem dX0_justWhole_12 : decode cX0_justWhole 12 = .ok (.lload_n 2, 1) := by decide +kernel
theorem dX0_justWhole_13 : decode cX0_justWhole 13 = .ok (.iload 4, 2) := by decide +kernel
theorem dX0_justWhole_15 : decode cX0_justWhole 15 = .ok (.invokestatic 69, 3) := by decide +kernel
theorem dX0_justWhole_18 : decode cX0_justWhole 18 = .ok (.iload_n 1, 1) := by decide +kernel
theorem dX0_justWhole_19 : decode cX0_justWhole 19 = .ok (.if_icmp .ne 13, 3) := by decide +kernel
theorem dX0_justWhole_22 : decode cX0_justWhole 22 = .ok (.aload_n 0, 1) := by decide +kernel
theorem dX0_justWhole_23 : decode cX0_justWhole 23 = .ok (.getfield 21, 3) := by decide +kernel
theorem dX0_justWhole_26 : decode cX0_justWhole 26 = .ok (.iload 4, 2) := by decide +kernel
theorem dX0_justWhole_28 : decode cX0_justWhole 28 = .ok (.laload, 1) := by decide +kernel
theorem dX0_justWhole_29 : decode cX0_justWhole 29 = .ok (.goto 4, 3) := by decide +kernel
theorem dX0_justWhole_32 : decode cX0_justWhole 32 = .ok (.lconst 0, 1) := by decide +kernel
theorem dX0_justWhole_33 : decode cX0_justWhole 33 = .ok (.ladd, 1) := by decide +kernel
theorem dX0_justWhole_34 : decode cX0_justWhole 34 = .ok (.lstore_n 2, 1) := by decide +kernel
theorem dX0_justWhole_35 : decode cX0_justWhole 35 = .ok (.iinc 4 1, 3) := by decide +kernel
theorem dX0_justWhole_38 : decode cX0_justWhole 38 = .ok (.goto (-33), 3) := by decide +kernel
theorem dX0_justWhole_41 : decode cX0_justWhole 41 = .ok (.lload_n 2, 1) := by decide +kernel
theorem dX0_justWhole_42 : decode cX0_justWhole 42 = .ok (.lreturn, 1) := by decide +kernel
theorem dX0_keepOnly_0 : decode cX0_keepOnly 0 = .ok (.iconst 0, 1) := by decide +kernel
theorem dX0_keepOnly_1 : decode cX0_keepOnly 1 = .ok (.istore_n 2, 1) := by decide +kernel
theorem dX0_keepOnly_2 : decode cX0_keepOnly 2 = .ok (.iload_n 2, 1) := by decide +kernel
theorem dX0_keepOnly_3 : decode cX0_keepOnly 3 = .ok (.bipush 8, 2) := by decide +kernel
theorem dX0_keepOnly_5 : decode cX0_keepOnly 5 = .ok (.if_icmp .ge 24, 3) := by decide +kernel
theorem dX0_keepOnly_8 : decode cX0_keepOnly 8 = .ok (.iload_n 2, 1) := by decide +kernel
theorem dX0_keepOnly_9 : decode cX0_keepOnly 9 = .ok (.invokestatic 69, 3) := by decide +kernel
theorem dX0_keepOnly_12 : decode cX0_keepOnly 12 = .ok (.iload_n 1, 1) := by decide +kernel
theorem dX0_keepOnly_13 : decode cX0_keepOnly 13 = .ok (.if_icmp .eq 10, 3) := by decide +kernel
theorem dX0_keepOnly_16 : decode cX0_keepOnly 16 = .ok (.aload_n 0, 1) := by decide +kernel
theorem dX0_keepOnly_17 : decode cX0_keepOnly 17 = .ok (.getfield 21, 3) := by decide +kernel
theorem dX0_keepOnly_20 : decode cX0_keepOnly 20 = .ok (.iload_n 2, 1) := by decide +kernel
theorem dX0_keepOnly_21 : decode cX0_keepOnly 21 = .ok (.lconst 0, 1) := by decide +kernel
theorem dX0_keepOnly_22 : decode cX0_keepOnly 22 = .ok (.lastore, 1) := by decide +kernel
theorem dX0_keepOnly_23 : decode cX0_keepOnly 23 = .ok (.iinc 2 1, 3) := by decide +kernel
theorem dX0_keepOnly_26 : decode cX0_keepOnly 26 = .ok (.goto (-24), 3) := by decide +kernel
theorem dX0_keepOnly_29 : decode cX0_keepOnly 29 = .ok (.return_, 1) := by decide +kernel
/-! ===== Odds: q's rows 0, 1, 2 are kind, age, tenths, row 6 whole, load; x the shares, n next, u's rows firstGains, secondGains, heldBehind, (firstGain, secondGain) ===== -/
abbrev uT : Type := Nat → Nat → Int64
def wO (q : rT) (x : Nat → Nat) (n : Nat → Int64) (u : uT) : jW := [.inr (0, [.ref 1, .ref 2, .ref 3, .int (nI (q 6 0)), .int (nI (q 6 1)), .ref 4, .ref 5, .ref 6, .ref 7, .ref 8, .long (u 3 0), .long (u 3 1)]),
  .inl (0, 3, .inl (fun j => nI (q 0 j))), .inl (0, 3, .inl (fun j => nI (q 1 j))), .inl (0, 3, .inl (fun j => nI (q 2 j))), .inl (1, 8, .inr (.inl (fun j => lN (x j)))), .inl (1, 8, .inr (.inl n)), .inl (1, 8, .inr (.inl (u 0))), .inl (1, 8, .inr (.inl (u 1))), .inl (1, 6, .inr (.inl (u 2)))]
def rrow (r : rT) (a : Nat) (f : Nat → Nat) : rT := fun x => if x = a then f else r x
/-- all of the weight on one set -/
def one (w : Nat) : Nat → Nat := fun s => if s = w then 1 else 0
theorem and7_eval : ∀ w, w < 8 → nI w &&& 7 = nI w := by decide +kernel
theorem lN_0 : lN 0 = 0 := rfl
theorem lN_one : lN 1 = 1 := rfl
set_option maxRecDepth 100000 in
set_option maxHeartbeats 4000000 in
theorem mX0_begin_l (q : rT) (x : Nat → Nat) (n : Nat → Int64) (u : uT) (w : Nat) (hw : w < 8) : ∀ (k9 i : Nat), i + k9 = 8 → J KX0_begin 9 (fun o B => o = none ∧ B = wO (rset q 6 0 w) (one w) n u) 10 [some (.ref 0), some (.int (nI w)), some (.int (nI i))] [] [.inr (0, [.ref 1, .ref 2, .ref 3, .int (nI (w)), .int (nI (q 6 1)), .ref 4, .ref 5, .ref 6, .ref 7, .ref 8, .long (u 3 0), .long (u 3 1)]), .inl (0, 3, .inl (fun j => nI (q 0 j))), .inl (0, 3, .inl (fun j => nI (q 1 j))), .inl (0, 3, .inl (fun j => nI (q 2 j))), .inl (1, 8, .inr (.inl (fun j => lN (if j < i then one w j else x j)))), .inl (1, 8, .inr (.inl (n))), .inl (1, 8, .inr (.inl (u 0))), .inl (1, 8, .inr (.inl (u 1))), .inl (1, 6, .inr (.inl (u 2)))] 0 0 := by
  intro k9
  induction k9 with
  | zero =>
    intro i hi
    obtain hiN : i = 8 := by omega
    subst hiN
    refine J.iload_n dX0_begin_10 rfl rfl ?_
    refine J.bipush (8) dX0_begin_11 (by decide) ?_
    refine J.icmp_ge (tgt := 41) dX0_begin_13 (by decide) (fun c13 => ?_) (fun c13 => absurd c13 (fun h => h (by decide)))
    refine J.arrL 4 1 (fun j => lN (one w j)) rfl (fun j hj => by rw [if_pos hj]) ?_
    exact J.vret dX0_begin_41 rfl (Nat.le_refl _) (Nat.le_refl _) ⟨rfl, rfl⟩
  | succ k9 ih =>
    intro i hi
    have hiN : i < 8 := by omega
    refine J.iload_n dX0_begin_10 rfl rfl ?_
    refine J.bipush (8) dX0_begin_11 (by decide) ?_
    refine J.icmp_ge (tgt := 41) dX0_begin_13 (by decide) (fun c13 => absurd c13 (nI_ge (b := 8) hiN (by decide))) (fun c13 => ?_)
    refine J.aload_n dX0_begin_16 rfl rfl ?_
    refine J.getfield dX0_begin_17 jFX0_21 rfl rfl ?_
    refine J.iload_n dX0_begin_20 rfl rfl ?_
    refine J.iload_n dX0_begin_21 rfl rfl ?_
    refine J.aload_n dX0_begin_22 rfl rfl ?_
    refine J.getfield dX0_begin_23 jFX0_57 rfl rfl ?_
    refine J.icmp_ne (tgt := 33) dX0_begin_26 (by decide) (fun c26 => ?_) (fun c26 => ?_)
    · refine J.lconst 0 dX0_begin_33 (by decide) ?_
      refine J.lastoreN dX0_begin_34 rfl hiN ?_
      dsimp only [List.set]
      rw [show (0 : Int64) = lN (one w i) from by rw [one, if_neg (fun h => c26 (by rw [h]))]; rfl, updL_lN]
      refine J.iinc (1) dX0_begin_35 (by decide) rfl (by decide) rfl ?_
      dsimp only [List.set]
      refine J.goto (tgt := 10) dX0_begin_38 (by decide) ?_
      refine J.at (ih (i + 1) (by omega)) (by rw [← nI_1]) rfl ?_
      simp only [jlt_e (fun j => one w j) (fun j => x j)]
    · refine J.lconst 1 dX0_begin_29 (by decide) ?_
      refine J.goto (tgt := 34) dX0_begin_30 (by decide) ?_
      refine J.lastoreN dX0_begin_34 rfl hiN ?_
      dsimp only [List.set]
      rw [show (1 : Int64) = lN (one w i) from by rw [one, if_pos ((nI_eqi (by omega) (by omega)).mp c26)]; rfl, updL_lN]
      refine J.iinc (1) dX0_begin_35 (by decide) rfl (by decide) rfl ?_
      dsimp only [List.set]
      refine J.goto (tgt := 10) dX0_begin_38 (by decide) ?_
      refine J.at (ih (i + 1) (by omega)) (by rw [← nI_1]) rfl ?_
      simp only [jlt_e (fun j => one w j) (fun j => x j)]
set_option maxRecDepth 100000 in
set_option maxHeartbeats 4000000 in
theorem mX0_begin (q : rT) (x : Nat → Nat) (n : Nat → Int64) (u : uT) (w : Nat) (hw : w < 8) : J KX0_begin 9 (fun o B => o = none ∧ B = wO (rset q 6 0 w) (one w) n u) 0 [some (.ref 0), some (.int (nI w)), none] [] (wO q x n u) 0 0 := by
  unfold wO
  refine J.aload_n dX0_begin_0 rfl rfl ?_
  refine J.iload_n dX0_begin_1 rfl rfl ?_
  refine J.bipush (7) dX0_begin_2 (by decide) ?_
  refine J.iand dX0_begin_4 ?_
  rw [and7_eval _ hw]
  refine J.putfield dX0_begin_5 jFX0_57 jP0_3 rfl rfl rfl (Nat.le_of_ble_eq_true rfl) ?_
  dsimp only [List.set]
  refine J.iconst (0) dX0_begin_8 (by decide) ?_
  refine J.istore_n dX0_begin_9 rfl (by decide) rfl ?_
  dsimp only [List.set]
  exact J.at (mX0_begin_l q x n u w hw 8 0 (by omega)) rfl rfl (by simp only [Nat.not_lt_zero, if_false])
def otake (q r : rT) : rT := fun y => if y = 6 then (fun j => if j = 0 then r 6 3 else if j = 1 then r 6 4 else q 6 j) else if y = 0 then r 0 else if y = 1 then r 1 else q y
set_option maxRecDepth 100000 in
set_option maxHeartbeats 4000000 in
theorem mX0_take_l (q : rT) (x : Nat → Nat) (n : Nat → Int64) (u : uT) (r : rT) (hw : r 6 3 < 8) : ∀ (k9 i : Nat), i + k9 = 3 → J KX0_take 16 (fun o B => o = none ∧ B = wO (otake q r) (one (r 6 3)) n u ++ wRb 9 r) 2 [some (.ref 0), some (.ref 9), some (.int (nI i))] [] [.inr (0, [.ref 1, .ref 2, .ref 3, .int (nI (q 6 0)), .int (nI (q 6 1)), .ref 4, .ref 5, .ref 6, .ref 7, .ref 8, .long (u 3 0), .long (u 3 1)]), .inl (0, 3, .inl (fun j => nI (if j < i then r 0 j else q 0 j))), .inl (0, 3, .inl (fun j => nI (if j < i then r 1 j else q 1 j))), .inl (0, 3, .inl (fun j => nI (q 2 j))), .inl (1, 8, .inr (.inl (fun j => lN (x j)))), .inl (1, 8, .inr (.inl (n))), .inl (1, 8, .inr (.inl (u 0))), .inl (1, 8, .inr (.inl (u 1))), .inl (1, 6, .inr (.inl (u 2))), .inr (2, [.ref 10, .ref 11, .ref 12, .ref 13, .ref 14, .ref 15, .int (nI (r 6 0)), .int (nI (r 6 1)), .int (nI (r 6 2)), .int (nI (r 6 3)), .int (nI (r 6 4)), .int (nI (r 6 5)), .int (nI (r 6 6))]), .inl (0, 3, .inl (fun j => nI (r 0 j))), .inl (0, 3, .inl (fun j => nI (r 1 j))), .inl (0, 4, .inl (fun j => nI (r 2 j))), .inl (0, 4, .inl (fun j => nI (r 3 j))), .inl (0, 3, .inl (fun j => nI (r 4 j))), .inl (0, 3, .inl (fun j => nI (r 5 j)))] 0 0 := by
  intro k9
  induction k9 with
  | zero =>
    intro i hi
    obtain hiN : i = 3 := by omega
    subst hiN
    refine J.iload_n dX0_take_2 rfl rfl ?_
    refine J.iconst (3) dX0_take_3 (by decide) ?_
    refine J.icmp_ge (tgt := 37) dX0_take_4 (by decide) (fun c4 => ?_) (fun c4 => absurd c4 (fun h => h (by decide)))
    refine J.arrI 1 0 (fun j => nI (r 0 j)) rfl (fun j hj => by rw [if_pos hj]) ?_
    refine J.arrI 2 0 (fun j => nI (r 1 j)) rfl (fun j hj => by rw [if_pos hj]) ?_
    dsimp only [List.set]
    refine J.aload_n dX0_take_37 rfl rfl ?_
    refine J.aload_n dX0_take_38 rfl rfl ?_
    refine J.getfield dX0_take_39 jFX0_41 rfl rfl ?_
    refine J.putfield dX0_take_42 jFX0_45 jP0_4 rfl rfl rfl (Nat.le_of_ble_eq_true rfl) ?_
    dsimp only [List.set]
    refine J.aload_n dX0_take_45 rfl rfl ?_
    refine J.aload_n dX0_take_46 rfl rfl ?_
    refine J.getfield dX0_take_47 jFX0_46 rfl rfl ?_
    refine J.cv (as := [.int _]) (is := [0, 1, 2, 3, 4, 5, 6, 7, 8]) (o := 0) okX0_begin jcX0_49 (mX0_begin (rset (rrow (rrow q 0 (r 0)) 1 (r 1)) 6 1 (r 6 4)) x n u (r 6 3) hw) dX0_take_50 rfl rfl rfl rfl rfl rfl rfl (fun r9 B9 hq => ?_)
    obtain ⟨rfl, rfl⟩ := hq
    refine ⟨rfl, ?_⟩
    show J _ _ _ _ _ _ (wO (otake q r) (one (r 6 3)) n u ++ wRb 9 r) _ _
    exact J.vret dX0_take_53 rfl (Nat.le_refl _) (Nat.le_refl _) ⟨rfl, rfl⟩
  | succ k9 ih =>
    intro i hi
    have hiN : i < 3 := by omega
    refine J.iload_n dX0_take_2 rfl rfl ?_
    refine J.iconst (3) dX0_take_3 (by decide) ?_
    refine J.icmp_ge (tgt := 37) dX0_take_4 (by decide) (fun c4 => absurd c4 (nI_ge (b := 3) hiN (by decide))) (fun c4 => ?_)
    refine J.aload_n dX0_take_7 rfl rfl ?_
    refine J.getfield dX0_take_8 jFX0_9 rfl rfl ?_
    refine J.iload_n dX0_take_11 rfl rfl ?_
    refine J.aload_n dX0_take_12 rfl rfl ?_
    refine J.getfield dX0_take_13 jFX0_37 rfl rfl ?_
    refine J.iload_n dX0_take_16 rfl rfl ?_
    refine J.ialoadN dX0_take_17 rfl hiN ?_
    refine J.iastoreN dX0_take_18 rfl hiN ?_
    rw [upd_nI]
    dsimp only [List.set]
    refine J.aload_n dX0_take_19 rfl rfl ?_
    refine J.getfield dX0_take_20 jFX0_15 rfl rfl ?_
    refine J.iload_n dX0_take_23 rfl rfl ?_
    refine J.aload_n dX0_take_24 rfl rfl ?_
    refine J.getfield dX0_take_25 jFX0_40 rfl rfl ?_
    refine J.iload_n dX0_take_28 rfl rfl ?_
    refine J.ialoadN dX0_take_29 rfl hiN ?_
    refine J.iastoreN dX0_take_30 rfl hiN ?_
    rw [upd_nI]
    dsimp only [List.set]
    refine J.iinc (1) dX0_take_31 (by decide) rfl (by decide) rfl ?_
    dsimp only [List.set]
    refine J.goto (tgt := 2) dX0_take_34 (by decide) ?_
    refine J.at (ih (i + 1) (by omega)) (by rw [← nI_1]) rfl ?_
    simp only [jlt_e (fun j => r 0 j) (fun j => q 0 j), jlt_e (fun j => r 1 j) (fun j => q 1 j)]
set_option maxRecDepth 100000 in
set_option maxHeartbeats 4000000 in
theorem mX0_take (q : rT) (x : Nat → Nat) (n : Nat → Int64) (u : uT) (r : rT) (hw : r 6 3 < 8) : J KX0_take 16 (fun o B => o = none ∧ B = wO (otake q r) (one (r 6 3)) n u ++ wRb 9 r) 0 [some (.ref 0), some (.ref 9), none] [] (wO q x n u ++ wRb 9 r) 0 0 := by
  unfold wO wRb
  dsimp only [List.cons_append, List.nil_append]
  refine J.iconst (0) dX0_take_0 (by decide) ?_
  refine J.istore_n dX0_take_1 rfl (by decide) rfl ?_
  dsimp only [List.set]
  exact J.at (mX0_take_l q x n u r hw 3 0 (by omega)) rfl rfl (by simp only [Nat.not_lt_zero, if_false])
