theorem dX6_keep_0 : decode cX6_keep 0 = .ok (.iload_n 1, 1) := by decide +kernel
theorem dX6_keep_1 : decode cX6_keep 1 = .ok (.iconst 0, 1) := by decide +kernel
theorem dX6_keep_2 : decode cX6_keep 2 = .ok (.iconst 1, 1) := by decide +kernel
theorem dX6_keep_3 : decode cX6_keep 3 = .ok (.invokestatic 59, 3) := by decide +kernel
theorem dX6_keep_6 : decode cX6_keep 6 = .ok (.ifCond .ne 5, 3) := by decide +kernel
theorem dX6_keep_9 : decode cX6_keep 9 = .ok (.iconst (-1), 1) := by decide +kernel
theorem dX6_keep_10 : decode cX6_keep 10 = .ok (.ireturn, 1) := by decide +kernel
theorem dX6_keep_11 : decode cX6_keep 11 = .ok (.aload_n 0, 1) := by decide +kernel
theorem dX6_keep_12 : decode cX6_keep 12 = .ok (.getfield 23, 3) := by decide +kernel
theorem dX6_keep_15 : decode cX6_keep 15 = .ok (.iload_n 1, 1) := by decide +kernel
theorem dX6_keep_16 : decode cX6_keep 16 = .ok (.baload, 1) := by decide +kernel
theorem dX6_keep_17 : decode cX6_keep 17 = .ok (.ifCond .eq 7, 3) := by decide +kernel
theorem dX6_keep_20 : decode cX6_keep 20 = .ok (.iconst 1, 1) := by decide +kernel
theorem dX6_keep_21 : decode cX6_keep 21 = .ok (.goto 4, 3) := by decide +kernel
theorem dX6_keep_24 : decode cX6_keep 24 = .ok (.iconst 0, 1) := by decide +kernel
theorem dX6_keep_25 : decode cX6_keep 25 = .ok (.istore_n 2, 1) := by decide +kernel
theorem dX6_keep_26 : decode cX6_keep 26 = .ok (.aload_n 0, 1) := by decide +kernel
theorem dX6_keep_27 : decode cX6_keep 27 = .ok (.getfield 19, 3) := by decide +kernel
theorem dX6_keep_30 : decode cX6_keep 30 = .ok (.iload_n 1, 1) := by decide +kernel
theorem dX6_keep_31 : decode cX6_keep 31 = .ok (.aaload, 1) := by decide +kernel
theorem dX6_keep_32 : decode cX6_keep 32 = .ok (.aload_n 0, 1) := by decide +kernel
theorem dX6_keep_33 : decode cX6_keep 33 = .ok (.getfield 12, 3) := by decide +kernel
theorem dX6_keep_36 : decode cX6_keep 36 = .ok (.invokevirtual 86, 3) := by decide +kernel
theorem dX6_keep_39 : decode cX6_keep 39 = .ok (.aload_n 0, 1) := by decide +kernel
theorem dX6_keep_40 : decode cX6_keep 40 = .ok (.getfield 23, 3) := by decide +kernel
theorem dX6_keep_43 : decode cX6_keep 43 = .ok (.iload_n 1, 1) := by decide +kernel
theorem dX6_keep_44 : decode cX6_keep 44 = .ok (.iconst 1, 1) := by decide +kernel
theorem dX6_keep_45 : decode cX6_keep 45 = .ok (.bastore, 1) := by decide +kernel
theorem dX6_keep_46 : decode cX6_keep 46 = .ok (.iload_n 2, 1) := by decide +kernel
theorem dX6_keep_47 : decode cX6_keep 47 = .ok (.ireturn, 1) := by decide +kernel
theorem dX6_back_0 : decode cX6_back 0 = .ok (.iload_n 1, 1) := by decide +kernel
theorem dX6_back_1 : decode cX6_back 1 = .ok (.iconst 0, 1) := by decide +kernel
theorem dX6_back_2 : decode cX6_back 2 = .ok (.iconst 1, 1) := by decide +kernel
theorem dX6_back_3 : decode cX6_back 3 = .ok (.invokestatic 59, 3) := by decide +kernel
theorem dX6_back_6 : decode cX6_back 6 = .ok (.ifCond .ne 5, 3) := by decide +kernel
theorem dX6_back_9 : decode cX6_back 9 = .ok (.iconst (-1), 1) := by decide +kernel
theorem dX6_back_10 : decode cX6_back 10 = .ok (.ireturn, 1) := by decide +kernel
theorem dX6_back_11 : decode cX6_back 11 = .ok (.aload_n 0, 1) := by decide +kernel
theorem dX6_back_12 : decode cX6_back 12 = .ok (.getfield 23, 3) := by decide +kernel
theorem dX6_back_15 : decode cX6_back 15 = .ok (.iload_n 1, 1) := by decide +kernel
theorem dX6_back_16 : decode cX6_back 16 = .ok (.baload, 1) := by decide +kernel
theorem dX6_back_17 : decode cX6_back 17 = .ok (.ifCond .ne 6, 3) := by decide +kernel
theorem dX6_back_20 : decode cX6_back 20 = .ok (.bipush (-2), 2) := by decide +kernel
theorem dX6_back_22 : decode cX6_back 22 = .ok (.ireturn, 1) := by decide +kernel
theorem dX6_back_23 : decode cX6_back 23 = .ok (.aload_n 0, 1) := by decide +kernel
theorem dX6_back_24 : decode cX6_back 24 = .ok (.getfield 12, 3) := by decide +kernel
theorem dX6_back_27 : decode cX6_back 27 = .ok (.aload_n 0, 1) := by decide +kernel
theorem dX6_back_28 : decode cX6_back 28 = .ok (.getfield 19, 3) := by decide +kernel
theorem dX6_back_31 : decode cX6_back 31 = .ok (.iload_n 1, 1) := by decide +kernel
theorem dX6_back_32 : decode cX6_back 32 = .ok (.aaload, 1) := by decide +kernel
theorem dX6_back_33 : decode cX6_back 33 = .ok (.invokevirtual 86, 3) := by decide +kernel
theorem dX6_back_36 : decode cX6_back 36 = .ok (.aload_n 0, 1) := by decide +kernel
theorem dX6_back_37 : decode cX6_back 37 = .ok (.getfield 12, 3) := by decide +kernel
theorem dX6_back_40 : decode cX6_back 40 = .ok (.getfield 108, 3) := by decide +kernel
theorem dX6_back_43 : decode cX6_back 43 = .ok (.ireturn, 1) := by decide +kernel
theorem dX6_sheet_0 : decode cX6_sheet 0 = .ok (.iload_n 1, 1) := by decide +kernel
theorem dX6_sheet_1 : decode cX6_sheet 1 = .ok (.iconst 0, 1) := by decide +kernel
theorem dX6_sheet_2 : decode cX6_sheet 2 = .ok (.iconst 3, 1) := by decide +kernel
theorem dX6_sheet_3 : decode cX6_sheet 3 = .ok (.invokestatic 59, 3) := by decide +kernel
theorem dX6_sheet_6 : decode cX6_sheet 6 = .ok (.ifCond .eq 18, 3) := by decide +kernel
theorem dX6_sheet_9 : decode cX6_sheet 9 = .ok (.iload_n 2, 1) := by decide +kernel
theorem dX6_sheet_10 : decode cX6_sheet 10 = .ok (.iconst 0, 1) := by decide +kernel
theorem dX6_sheet_11 : decode cX6_sheet 11 = .ok (.iconst 2, 1) := by decide +kernel
theorem dX6_sheet_12 : decode cX6_sheet 12 = .ok (.invokestatic 59, 3) := by decide +kernel
theorem dX6_sheet_15 : decode cX6_sheet 15 = .ok (.ifCond .eq 9, 3) := by decide +kernel
theorem dX6_sheet_18 : decode cX6_sheet 18 = .ok (.iload_n 3, 1) := by decide +kernel
theorem dX6_sheet_19 : decode cX6_sheet 19 = .ok (.bipush 40, 2) := by decide +kernel
theorem dX6_sheet_21 : decode cX6_sheet 21 = .ok (.if_icmp .le 5, 3) := by decide +kernel
theorem dX6_sheet_24 : decode cX6_sheet 24 = .ok (.iconst (-1), 1) := by decide +kernel
theorem dX6_sheet_25 : decode cX6_sheet 25 = .ok (.ireturn, 1) := by decide +kernel
theorem dX6_sheet_26 : decode cX6_sheet 26 = .ok (.iload_n 3, 1) := by decide +kernel
theorem dX6_sheet_27 : decode cX6_sheet 27 = .ok (.ifCond .ge 6, 3) := by decide +kernel
theorem dX6_sheet_30 : decode cX6_sheet 30 = .ok (.bipush (-14), 2) := by decide +kernel
theorem dX6_sheet_32 : decode cX6_sheet 32 = .ok (.ireturn, 1) := by decide +kernel
theorem dX6_sheet_33 : decode cX6_sheet 33 = .ok (.aload_n 0, 1) := by decide +kernel
theorem dX6_sheet_34 : decode cX6_sheet 34 = .ok (.getfield 50, 3) := by decide +kernel
theorem dX6_sheet_37 : decode cX6_sheet 37 = .ok (.iload_n 1, 1) := by decide +kernel
theorem dX6_sheet_38 : decode cX6_sheet 38 = .ok (.aaload, 1) := by decide +kernel
theorem dX6_sheet_39 : decode cX6_sheet 39 = .ok (.iload_n 2, 1) := by decide +kernel
theorem dX6_sheet_40 : decode cX6_sheet 40 = .ok (.iload_n 3, 1) := by decide +kernel
theorem dX6_sheet_41 : decode cX6_sheet 41 = .ok (.invokevirtual 225, 3) := by decide +kernel
theorem dX6_sheet_44 : decode cX6_sheet 44 = .ok (.iconst 1, 1) := by decide +kernel
theorem dX6_sheet_45 : decode cX6_sheet 45 = .ok (.ireturn, 1) := by decide +kernel
theorem dX6_lay_0 : decode cX6_lay 0 = .ok (.iload_n 1, 1) := by decide +kernel
theorem dX6_lay_1 : decode cX6_lay 1 = .ok (.iconst 0, 1) := by decide +kernel
theorem dX6_lay_2 : decode cX6_lay 2 = .ok (.iconst 3, 1) := by decide +kernel
theorem dX6_lay_3 : decode cX6_lay 3 = .ok (.invokestatic 59, 3) := by decide +kernel
theorem dX6_lay_6 : decode cX6_lay 6 = .ok (.ifCond .ne 5, 3) := by decide +kernel
theorem dX6_lay_9 : decode cX6_lay 9 = .ok (.iconst (-1), 1) := by decide +kernel
theorem dX6_lay_10 : decode cX6_lay 10 = .ok (.ireturn, 1) := by decide +kernel
theorem dX6_lay_11 : decode cX6_lay 11 = .ok (.aload_n 0, 1) := by decide +kernel
theorem dX6_lay_12 : decode cX6_lay 12 = .ok (.getfield 50, 3) := by decide +kernel
theorem dX6_lay_15 : decode cX6_lay 15 = .ok (.iload_n 1, 1) := by decide +kernel
theorem dX6_lay_16 : decode cX6_lay 16 = .ok (.aaload, 1) := by decide +kernel
theorem dX6_lay_17 : decode cX6_lay 17 = .ok (.iload_n 2, 1) := by decide +kernel
theorem dX6_lay_18 : decode cX6_lay 18 = .ok (.invokevirtual 228, 3) := by decide +kernel
theorem dX6_lay_21 : decode cX6_lay 21 = .ok (.istore 4, 2) := by decide +kernel
theorem dX6_lay_23 : decode cX6_lay 23 = .ok (.iload 4, 2) := by decide +kernel
theorem dX6_lay_25 : decode cX6_lay 25 = .ok (.ifCond .eq 9, 3) := by decide +kernel
theorem dX6_lay_28 : decode cX6_lay 28 = .ok (.bipush (-10), 2) := by decide +kernel
theorem dX6_lay_30 : decode cX6_lay 30 = .ok (.iload 4, 2) := by decide +kernel
theorem dX6_lay_32 : decode cX6_lay 32 = .ok (.isub, 1) := by decide +kernel
theorem dX6_lay_33 : decode cX6_lay 33 = .ok (.ireturn, 1) := by decide +kernel
theorem dX6_lay_34 : decode cX6_lay 34 = .ok (.aload_n 0, 1) := by decide +kernel
theorem dX6_lay_35 : decode cX6_lay 35 = .ok (.getfield 50, 3) := by decide +kernel
theorem dX6_lay_38 : decode cX6_lay 38 = .ok (.iload_n 1, 1) := by decide +kernel
theorem dX6_lay_39 : decode cX6_lay 39 = .ok (.aaload, 1) := by decide +kernel
theorem dX6_lay_40 : decode cX6_lay 40 = .ok (.iload_n 2, 1) := by decide +kernel
theorem dX6_lay_41 : decode cX6_lay 41 = .ok (.iload_n 3, 1) := by decide +kernel
theorem dX6_lay_42 : decode cX6_lay 42 = .ok (.invokevirtual 231, 3) := by decide +kernel
theorem dX6_lay_45 : decode cX6_lay 45 = .ok (.iconst 1, 1) := by decide +kernel
theorem dX6_lay_46 : decode cX6_lay 46 = .ok (.ireturn, 1) := by decide +kernel
theorem dX6_count_0 : decode cX6_count 0 = .ok (.iload_n 1, 1) := by decide +kernel
theorem dX6_count_1 : decode cX6_count 1 = .ok (.tableswitch 135 0 5 #[39, 47, 77, 88, 116, 127], 39) := by decide +kernel
theorem dX6_count_40 : decode cX6_count 40 = .ok (.aload_n 0, 1) := by decide +kernel
theorem dX6_count_41 : decode cX6_count 41 = .ok (.getfield 44, 3) := by decide +kernel
theorem dX6_count_44 : decode cX6_count 44 = .ok (.getfield 90, 3) := by decide +kernel
theorem dX6_count_47 : decode cX6_count 47 = .ok (.ireturn, 1) := by decide +kernel
theorem dX6_count_48 : decode cX6_count 48 = .ok (.aload_n 0, 1) := by decide +kernel
theorem dX6_count_49 : decode cX6_count 49 = .ok (.getfield 23, 3) := by decide +kernel
theorem dX6_count_52 : decode cX6_count 52 = .ok (.iconst 0, 1) := by decide +kernel
theorem dX6_count_53 : decode cX6_count 53 = .ok (.baload, 1) := by decide +kernel
theorem dX6_count_54 : decode cX6_count 54 = .ok (.ifCond .eq 7, 3) := by decide +kernel
theorem dX6_count_57 : decode cX6_count 57 = .ok (.iconst 1, 1) := by decide +kernel
theorem dX6_count_58 : decode cX6_count 58 = .ok (.goto 4, 3) := by decide +kernel
theorem dX6_count_61 : decode cX6_count 61 = .ok (.iconst 0, 1) := by decide +kernel
theorem dX6_count_62 : decode cX6_count 62 = .ok (.aload_n 0, 1) := by decide +kernel
theorem dX6_count_63 : decode cX6_count 63 = .ok (.getfield 23, 3) := by decide +kernel
theorem dX6_count_66 : decode cX6_count 66 = .ok (.iconst 1, 1) := by decide +kernel
theorem dX6_count_67 : decode cX6_count 67 = .ok (.baload, 1) := by decide +kernel
theorem dX6_count_68 : decode cX6_count 68 = .ok (.ifCond .eq 7, 3) := by decide +kernel
theorem dX6_count_71 : decode cX6_count 71 = .ok (.iconst 1, 1) := by decide +kernel
theorem dX6_count_72 : decode cX6_count 72 = .ok (.goto 4, 3) := by decide +kernel
theorem dX6_count_75 : decode cX6_count 75 = .ok (.iconst 0, 1) := by decide +kernel
theorem dX6_count_76 : decode cX6_count 76 = .ok (.iadd, 1) := by decide +kernel
theorem dX6_count_77 : decode cX6_count 77 = .ok (.ireturn, 1) := by decide +kernel
theorem dX6_count_78 : decode cX6_count 78 = .ok (.aload_n 0, 1) := by decide +kernel
theorem dX6_count_79 : decode cX6_count 79 = .ok (.getfield 30, 3) := by decide +kernel
theorem dX6_count_82 : decode cX6_count 82 = .ok (.getfield 63, 3) := by decide +kernel
theorem dX6_count_85 : decode cX6_count 85 = .ok (.getfield 73, 3) := by decide +kernel
theorem dX6_count_88 : decode cX6_count 88 = .ok (.ireturn, 1) := by decide +kernel
theorem dX6_count_89 : decode cX6_count 89 = .ok (.aload_n 0, 1) := by decide +kernel
theorem dX6_count_90 : decode cX6_count 90 = .ok (.getfield 50, 3) := by decide +kernel
theorem dX6_count_93 : decode cX6_count 93 = .ok (.iconst 0, 1) := by decide +kernel
theorem dX6_count_94 : decode cX6_count 94 = .ok (.aaload, 1) := by decide +kernel
theorem dX6_count_95 : decode cX6_count 95 = .ok (.getfield 241, 3) := by decide +kernel
theorem dX6_count_98 : decode cX6_count 98 = .ok (.iconst (-1), 1) := by decide +kernel
theorem dX6_count_99 : decode cX6_count 99 = .ok (.if_icmp .ne 8, 3) := by decide +kernel
theorem dX6_count_102 : decode cX6_count 102 = .ok (.bipush (-4), 2) := by decide +kernel
theorem dX6_count_104 : decode cX6_count 104 = .ok (.goto 12, 3) := by decide +kernel
theorem dX6_count_107 : decode cX6_count 107 = .ok (.aload_n 0, 1) := by decide +kernel
theorem dX6_count_108 : decode cX6_count 108 = .ok (.getfield 50, 3) := by decide +kernel
theorem dX6_count_111 : decode cX6_count 111 = .ok (.iconst 0, 1) := by decide +kernel
theorem dX6_count_112 : decode cX6_count 112 = .ok (.aaload, 1) := by decide +kernel
theorem dX6_count_113 : decode cX6_count 113 = .ok (.getfield 244, 3) := by decide +kernel
theorem dX6_count_116 : decode cX6_count 116 = .ok (.ireturn, 1) := by decide +kernel
theorem dX6_count_117 : decode cX6_count 117 = .ok (.aload_n 0, 1) := by decide +kernel
theorem dX6_count_118 : decode cX6_count 118 = .ok (.getfield 12, 3) := by decide +kernel
theorem dX6_count_121 : decode cX6_count 121 = .ok (.getfield 111, 3) := by decide +kernel
theorem dX6_count_124 : decode cX6_count 124 = .ok (.invokestatic 245, 3) := by decide +kernel
theorem dX6_count_127 : decode cX6_count 127 = .ok (.ireturn, 1) := by decide +kernel
theorem dX6_count_128 : decode cX6_count 128 = .ok (.aload_n 0, 1) := by decide +kernel
theorem dX6_count_129 : decode cX6_count 129 = .ok (.getfield 12, 3) := by decide +kernel
theorem dX6_count_132 : decode cX6_count 132 = .ok (.invokevirtual 250, 3) := by decide +kernel
theorem dX6_count_135 : decode cX6_count 135 = .ok (.ireturn, 1) := by decide +kernel
theorem dX6_count_136 : decode cX6_count 136 = .ok (.iconst (-1), 1) := by decide +kernel
theorem dX6_count_137 : decode cX6_count 137 = .ok (.ireturn, 1) := by decide +kernel
theorem dX6_text_0 : decode cX6_text 0 = .ok (.aload_n 0, 1) := by decide +kernel
theorem dX6_text_1 : decode cX6_text 1 = .ok (.getfield 30, 3) := by decide +kernel
theorem dX6_text_4 : decode cX6_text 4 = .ok (.invokevirtual 76, 3) := by decide +kernel
theorem dX6_text_7 : decode cX6_text 7 = .ok (.istore_n 1, 1) := by decide +kernel
theorem dX6_text_8 : decode cX6_text 8 = .ok (.aload_n 0, 1) := by decide +kernel
theorem dX6_text_9 : decode cX6_text 9 = .ok (.getfield 30, 3) := by decide +kernel
theorem dX6_text_12 : decode cX6_text 12 = .ok (.getfield 63, 3) := by decide +kernel
theorem dX6_text_15 : decode cX6_text 15 = .ok (.iconst 0, 1) := by decide +kernel
theorem dX6_text_16 : decode cX6_text 16 = .ok (.putfield 73, 3) := by decide +kernel
theorem dX6_text_19 : decode cX6_text 19 = .ok (.aload_n 0, 1) := by decide +kernel
theorem dX6_text_20 : decode cX6_text 20 = .ok (.getfield 30, 3) := by decide +kernel
theorem dX6_text_23 : decode cX6_text 23 = .ok (.getfield 80, 3) := by decide +kernel
theorem dX6_text_26 : decode cX6_text 26 = .ok (.ifCond .ne 49, 3) := by decide +kernel
theorem dX6_text_29 : decode cX6_text 29 = .ok (.aload_n 0, 1) := by decide +kernel
theorem dX6_text_30 : decode cX6_text 30 = .ok (.getfield 12, 3) := by decide +kernel
theorem dX6_text_33 : decode cX6_text 33 = .ok (.aload_n 0, 1) := by decide +kernel
theorem dX6_text_34 : decode cX6_text 34 = .ok (.getfield 30, 3) := by decide +kernel
theorem dX6_text_37 : decode cX6_text 37 = .ok (.getfield 83, 3) := by decide +kernel
theorem dX6_text_40 : decode cX6_text 40 = .ok (.invokevirtual 86, 3) := by decide +kernel
theorem dX6_text_43 : decode cX6_text 43 = .ok (.aload_n 0, 1) := by decide +kernel
theorem dX6_text_44 : decode cX6_text 44 = .ok (.getfield 44, 3) := by decide +kernel
theorem dX6_text_47 : decode cX6_text 47 = .ok (.iconst 0, 1) := by decide +kernel
theorem dX6_text_48 : decode cX6_text 48 = .ok (.putfield 90, 3) := by decide +kernel
theorem dX6_text_51 : decode cX6_text 51 = .ok (.iconst 0, 1) := by decide +kernel
theorem dX6_text_52 : decode cX6_text 52 = .ok (.istore_n 2, 1) := by decide +kernel
theorem dX6_text_53 : decode cX6_text 53 = .ok (.iload_n 2, 1) := by decide +kernel
theorem dX6_text_54 : decode cX6_text 54 = .ok (.aload_n 0, 1) := by decide +kernel
theorem dX6_text_55 : decode cX6_text 55 = .ok (.getfield 23, 3) := by decide +kernel
theorem dX6_text_58 : decode cX6_text 58 = .ok (.arraylength, 1) := by decide +kernel
theorem dX6_text_59 : decode cX6_text 59 = .ok (.if_icmp .ge 16, 3) := by decide +kernel
theorem dX6_text_62 : decode cX6_text 62 = .ok (.aload_n 0, 1) := by decide +kernel
theorem dX6_text_63 : decode cX6_text 63 = .ok (.getfield 23, 3) := by decide +kernel
theorem dX6_text_66 : decode cX6_text 66 = .ok (.iload_n 2, 1) := by decide +kernel
theorem dX6_text_67 : decode cX6_text 67 = .ok (.iconst 0, 1) := by decide +kernel
theorem dX6_text_68 : decode cX6_text 68 = .ok (.bastore, 1) := by decide +kernel
theorem dX6_text_69 : decode cX6_text 69 = .ok (.iinc 2 1, 3) := by decide +kernel
theorem dX6_text_72 : decode cX6_text 72 = .ok (.goto (-19), 3) := by decide +kernel
theorem dX6_text_75 : decode cX6_text 75 = .ok (.iload_n 1, 1) := by decide +kernel
theorem dX6_text_76 : decode cX6_text 76 = .ok (.ireturn, 1) := by decide +kernel
theorem kept1 {n : Nat} (h : n ≤ 1) (h0 : ¬ nI n = 0) : nI n = 1 := by
  have : n = 1 := by
    cases n with
    | zero => exact absurd rfl h0
    | succ n => omega
  rw [this]
  rfl
set_option maxRecDepth 100000 in
set_option maxHeartbeats 4000000 in
theorem mX6_keep0 (rs : Nat → rT) (v : Nat → Nat → Nat) (q : rT) (x : Nat → Nat) (n : Nat → Int64) (u : uT) (c : Nat → Nat → Int32) (l : Nat → Int32) (tn : Int32) (hk : v 0 0 ≤ 1) : J KX6_keep 62 (fun o B => o = some (.int (nI (v 0 0))) ∧ B = (wC (rsN rs 2 (rs 0)) (vset v 0 0 1) q x n u c l tn)) 0 [some (.ref 0), some (.int 0), none] [] (wC rs v q x n u c l tn) 0 0 := by
  refine J.iload_n dX6_keep_0 rfl rfl ?_
  refine J.iconst (0) dX6_keep_1 (by decide) ?_
  refine J.iconst (1) dX6_keep_2 (by decide) ?_
  refine J.cs (as := [.int _, .int _, .int _]) (is := []) okX6_within jcX6_59 (mX6_within _ _ _) dX6_keep_3 rfl rfl rfl rfl rfl rfl (fun r9 B9 hq => ?_)
  obtain ⟨rfl, rfl⟩ := hq
  refine ⟨rfl, ?_⟩
  show J _ _ _ _ _ (.int _ :: _) (wC rs v q x n u c l tn) _ _
  refine J.if_ne (tgt := 11) dX6_keep_6 (by decide) (fun c6 => ?_) (fun c6 => absurd c6 (fun h => (jB_0 _).mp h (by decide)))
  refine J.aload_n dX6_keep_11 rfl rfl ?_
  refine J.getfield dX6_keep_12 jFX6_23 rfl rfl ?_
  refine J.iload_n dX6_keep_15 rfl rfl ?_
  refine J.zaload dX6_keep_16 rfl (vp_in_nI (n := 0) (by decide) (by decide)) ?_
  refine J.if_eq (tgt := 24) dX6_keep_17 (by decide) (fun c17 => ?_) (fun c17 => ?_)
  · refine J.iconst (0) dX6_keep_24 (by decide) ?_
    refine J.istore_n dX6_keep_25 rfl (by decide) rfl ?_
    try dsimp only [List.set]
    refine J.aload_n dX6_keep_26 rfl rfl ?_
    refine J.getfield dX6_keep_27 jFX6_19 rfl rfl ?_
    refine J.iload_n dX6_keep_30 rfl rfl ?_
    refine J.aaload4 (q := 40) dX6_keep_31 rfl (vp_in_nI (n := 0) (by decide) (by decide)) rfl ?_
    refine J.aload_n dX6_keep_32 rfl rfl ?_
    refine J.getfield dX6_keep_33 jFX6_12 rfl rfl ?_
    refine J.cv (as := [.ref 7]) (is := [40, 41, 42, 43, 44, 45, 46, 1, 2, 3, 4, 5, 6, 7]) (o := 0) okX2_copy jcX6_86 (mX2_copy (rs 2) (rs 0)) dX6_keep_36 rfl rfl rfl rfl rfl rfl rfl (fun r9 B9 hq => ?_)
    obtain ⟨rfl, rfl⟩ := hq
    refine ⟨rfl, ?_⟩
    show J _ _ _ _ _ [] (wC (rsN rs 2 (rs 0)) v q x n u c l tn) _ _
    refine J.aload_n dX6_keep_39 rfl rfl ?_
    refine J.getfield dX6_keep_40 jFX6_23 rfl rfl ?_
    refine J.iload_n dX6_keep_43 rfl rfl ?_
    refine J.iconst (1) dX6_keep_44 (by decide) ?_
    refine J.zastoreN (i := 0) dX6_keep_45 rfl (by decide) ?_
    rw [show vp_nar .boolean 1 = nI 1 from rfl, upd_nI]
    try dsimp only [List.set]
    refine J.iload_n dX6_keep_46 rfl rfl ?_
    exact J.iret dX6_keep_47 rfl rfl (Nat.le_refl _) (Nat.le_refl _) ⟨congrArg (fun z => some (Value.int z)) (by first | exact (kept1 hk c17).symm | exact (show nI (v 0 0) = 0 from c17).symm), rfl⟩
  · refine J.iconst (1) dX6_keep_20 (by decide) ?_
    refine J.goto (tgt := 25) dX6_keep_21 (by decide) ?_
    refine J.istore_n dX6_keep_25 rfl (by decide) rfl ?_
    try dsimp only [List.set]
    refine J.aload_n dX6_keep_26 rfl rfl ?_
    refine J.getfield dX6_keep_27 jFX6_19 rfl rfl ?_
    refine J.iload_n dX6_keep_30 rfl rfl ?_
    refine J.aaload4 (q := 40) dX6_keep_31 rfl (vp_in_nI (n := 0) (by decide) (by decide)) rfl ?_
    refine J.aload_n dX6_keep_32 rfl rfl ?_
    refine J.getfield dX6_keep_33 jFX6_12 rfl rfl ?_
    refine J.cv (as := [.ref 7]) (is := [40, 41, 42, 43, 44, 45, 46, 1, 2, 3, 4, 5, 6, 7]) (o := 0) okX2_copy jcX6_86 (mX2_copy (rs 2) (rs 0)) dX6_keep_36 rfl rfl rfl rfl rfl rfl rfl (fun r9 B9 hq => ?_)
    obtain ⟨rfl, rfl⟩ := hq
    refine ⟨rfl, ?_⟩
    show J _ _ _ _ _ [] (wC (rsN rs 2 (rs 0)) v q x n u c l tn) _ _
    refine J.aload_n dX6_keep_39 rfl rfl ?_
    refine J.getfield dX6_keep_40 jFX6_23 rfl rfl ?_
    refine J.iload_n dX6_keep_43 rfl rfl ?_
    refine J.iconst (1) dX6_keep_44 (by decide) ?_
    refine J.zastoreN (i := 0) dX6_keep_45 rfl (by decide) ?_
    rw [show vp_nar .boolean 1 = nI 1 from rfl, upd_nI]
    try dsimp only [List.set]
    refine J.iload_n dX6_keep_46 rfl rfl ?_
    exact J.iret dX6_keep_47 rfl rfl (Nat.le_refl _) (Nat.le_refl _) ⟨congrArg (fun z => some (Value.int z)) (by first | exact (kept1 hk c17).symm | exact (show nI (v 0 0) = 0 from c17).symm), rfl⟩
set_option maxRecDepth 100000 in
set_option maxHeartbeats 4000000 in
theorem mX6_back0n (rs : Nat → rT) (v : Nat → Nat → Nat) (q : rT) (x : Nat → Nat) (n : Nat → Int64) (u : uT) (c : Nat → Nat → Int32) (l : Nat → Int32) (tn : Int32) (hk : v 0 0 = 0) : J KX6_back 62 (fun o B => o = some (.int (-2)) ∧ B = (wC rs v q x n u c l tn)) 0 [some (.ref 0), some (.int 0)] [] (wC rs v q x n u c l tn) 0 0 := by
  refine J.iload_n dX6_back_0 rfl rfl ?_
  refine J.iconst (0) dX6_back_1 (by decide) ?_
  refine J.iconst (1) dX6_back_2 (by decide) ?_
  refine J.cs (as := [.int _, .int _, .int _]) (is := []) okX6_within jcX6_59 (mX6_within _ _ _) dX6_back_3 rfl rfl rfl rfl rfl rfl (fun r9 B9 hq => ?_)
  obtain ⟨rfl, rfl⟩ := hq
  refine ⟨rfl, ?_⟩
  show J _ _ _ _ _ (.int _ :: _) (wC rs v q x n u c l tn) _ _
  refine J.if_ne (tgt := 11) dX6_back_6 (by decide) (fun c6 => ?_) (fun c6 => absurd c6 (fun h => (jB_0 _).mp h (by decide)))
  refine J.aload_n dX6_back_11 rfl rfl ?_
  refine J.getfield dX6_back_12 jFX6_23 rfl rfl ?_
  refine J.iload_n dX6_back_15 rfl rfl ?_
  refine J.zaload dX6_back_16 rfl (vp_in_nI (n := 0) (by decide) (by decide)) ?_
  refine J.if_ne (tgt := 23) dX6_back_17 (by decide) (fun c17 => absurd c17 (fun h => h (show nI (v 0 0) = 0 by rw [hk] <;> rfl))) (fun c17 => ?_)
  refine J.bipush (-2) dX6_back_20 (by decide) ?_
  exact J.iret dX6_back_22 rfl rfl (Nat.le_refl _) (Nat.le_refl _) ⟨rfl, rfl⟩
set_option maxRecDepth 100000 in
set_option maxHeartbeats 4000000 in
theorem mX6_back0 (rs : Nat → rT) (v : Nat → Nat → Nat) (q : rT) (x : Nat → Nat) (n : Nat → Int64) (u : uT) (c : Nat → Nat → Int32) (l : Nat → Int32) (tn : Int32) (hk : v 0 0 = 1) : J KX6_back 62 (fun o B => o = some (.int (nI (rs 2 6 6))) ∧ B = (wC (rsN rs 0 (rs 2)) v q x n u c l tn)) 0 [some (.ref 0), some (.int 0)] [] (wC rs v q x n u c l tn) 0 0 := by
  refine J.iload_n dX6_back_0 rfl rfl ?_
  refine J.iconst (0) dX6_back_1 (by decide) ?_
  refine J.iconst (1) dX6_back_2 (by decide) ?_
  refine J.cs (as := [.int _, .int _, .int _]) (is := []) okX6_within jcX6_59 (mX6_within _ _ _) dX6_back_3 rfl rfl rfl rfl rfl rfl (fun r9 B9 hq => ?_)
  obtain ⟨rfl, rfl⟩ := hq
  refine ⟨rfl, ?_⟩
  show J _ _ _ _ _ (.int _ :: _) (wC rs v q x n u c l tn) _ _
  refine J.if_ne (tgt := 11) dX6_back_6 (by decide) (fun c6 => ?_) (fun c6 => absurd c6 (fun h => (jB_0 _).mp h (by decide)))
  refine J.aload_n dX6_back_11 rfl rfl ?_
  refine J.getfield dX6_back_12 jFX6_23 rfl rfl ?_
  refine J.iload_n dX6_back_15 rfl rfl ?_
  refine J.zaload dX6_back_16 rfl (vp_in_nI (n := 0) (by decide) (by decide)) ?_
  refine J.if_ne (tgt := 23) dX6_back_17 (by decide) (fun c17 => ?_) (fun c17 => absurd c17 (show ¬ nI (v 0 0) = 0 by rw [hk]; decide))
  refine J.aload_n dX6_back_23 rfl rfl ?_
  refine J.getfield dX6_back_24 jFX6_12 rfl rfl ?_
  refine J.aload_n dX6_back_27 rfl rfl ?_
  refine J.getfield dX6_back_28 jFX6_19 rfl rfl ?_
  refine J.iload_n dX6_back_31 rfl rfl ?_
  refine J.aaload4 (q := 40) dX6_back_32 rfl (vp_in_nI (n := 0) (by decide) (by decide)) rfl ?_
  refine J.cv (as := [.ref 7]) (is := [1, 2, 3, 4, 5, 6, 7, 40, 41, 42, 43, 44, 45, 46]) (o := 0) okX2_copy jcX6_86 (mX2_copy (rs 0) (rs 2)) dX6_back_33 rfl rfl rfl rfl rfl rfl rfl (fun r9 B9 hq => ?_)
  obtain ⟨rfl, rfl⟩ := hq
  refine ⟨rfl, ?_⟩
  show J _ _ _ _ _ [] (wC (rsN rs 0 (rs 2)) v q x n u c l tn) _ _
  refine J.aload_n dX6_back_36 rfl rfl ?_
  refine J.getfield dX6_back_37 jFX6_12 rfl rfl ?_
  refine J.getfield dX6_back_40 jFX6_108 rfl rfl ?_
  exact J.iret dX6_back_43 rfl rfl (Nat.le_refl _) (Nat.le_refl _) ⟨rfl, rfl⟩
set_option maxRecDepth 100000 in
set_option maxHeartbeats 4000000 in
theorem mX6_keep1 (rs : Nat → rT) (v : Nat → Nat → Nat) (q : rT) (x : Nat → Nat) (n : Nat → Int64) (u : uT) (c : Nat → Nat → Int32) (l : Nat → Int32) (tn : Int32) (hk : v 0 1 ≤ 1) : J KX6_keep 62 (fun o B => o = some (.int (nI (v 0 1))) ∧ B = (wC (rsN rs 3 (rs 0)) (vset v 0 1 1) q x n u c l tn)) 0 [some (.ref 0), some (.int 1), none] [] (wC rs v q x n u c l tn) 0 0 := by
  refine J.iload_n dX6_keep_0 rfl rfl ?_
  refine J.iconst (0) dX6_keep_1 (by decide) ?_
  refine J.iconst (1) dX6_keep_2 (by decide) ?_
  refine J.cs (as := [.int _, .int _, .int _]) (is := []) okX6_within jcX6_59 (mX6_within _ _ _) dX6_keep_3 rfl rfl rfl rfl rfl rfl (fun r9 B9 hq => ?_)
  obtain ⟨rfl, rfl⟩ := hq
  refine ⟨rfl, ?_⟩
  show J _ _ _ _ _ (.int _ :: _) (wC rs v q x n u c l tn) _ _
  refine J.if_ne (tgt := 11) dX6_keep_6 (by decide) (fun c6 => ?_) (fun c6 => absurd c6 (fun h => (jB_0 _).mp h (by decide)))
  refine J.aload_n dX6_keep_11 rfl rfl ?_
  refine J.getfield dX6_keep_12 jFX6_23 rfl rfl ?_
  refine J.iload_n dX6_keep_15 rfl rfl ?_
  refine J.zaload dX6_keep_16 rfl (vp_in_nI (n := 1) (by decide) (by decide)) ?_
  refine J.if_eq (tgt := 24) dX6_keep_17 (by decide) (fun c17 => ?_) (fun c17 => ?_)
  · refine J.iconst (0) dX6_keep_24 (by decide) ?_
    refine J.istore_n dX6_keep_25 rfl (by decide) rfl ?_
    try dsimp only [List.set]
    refine J.aload_n dX6_keep_26 rfl rfl ?_
    refine J.getfield dX6_keep_27 jFX6_19 rfl rfl ?_
    refine J.iload_n dX6_keep_30 rfl rfl ?_
    refine J.aaload4 (q := 47) dX6_keep_31 rfl (vp_in_nI (n := 1) (by decide) (by decide)) rfl ?_
    refine J.aload_n dX6_keep_32 rfl rfl ?_
    refine J.getfield dX6_keep_33 jFX6_12 rfl rfl ?_
    refine J.cv (as := [.ref 7]) (is := [47, 48, 49, 50, 51, 52, 53, 1, 2, 3, 4, 5, 6, 7]) (o := 0) okX2_copy jcX6_86 (mX2_copy (rs 3) (rs 0)) dX6_keep_36 rfl rfl rfl rfl rfl rfl rfl (fun r9 B9 hq => ?_)
    obtain ⟨rfl, rfl⟩ := hq
    refine ⟨rfl, ?_⟩
    show J _ _ _ _ _ [] (wC (rsN rs 3 (rs 0)) v q x n u c l tn) _ _
    refine J.aload_n dX6_keep_39 rfl rfl ?_
    refine J.getfield dX6_keep_40 jFX6_23 rfl rfl ?_
    refine J.iload_n dX6_keep_43 rfl rfl ?_
    refine J.iconst (1) dX6_keep_44 (by decide) ?_
    refine J.zastoreN (i := 1) dX6_keep_45 rfl (by decide) ?_
    rw [show vp_nar .boolean 1 = nI 1 from rfl, upd_nI]
    try dsimp only [List.set]
    refine J.iload_n dX6_keep_46 rfl rfl ?_
    exact J.iret dX6_keep_47 rfl rfl (Nat.le_refl _) (Nat.le_refl _) ⟨congrArg (fun z => some (Value.int z)) (by first | exact (kept1 hk c17).symm | exact (show nI (v 0 1) = 0 from c17).symm), rfl⟩
  · refine J.iconst (1) dX6_keep_20 (by decide) ?_
    refine J.goto (tgt := 25) dX6_keep_21 (by decide) ?_
    refine J.istore_n dX6_keep_25 rfl (by decide) rfl ?_
    try dsimp only [List.set]
    refine J.aload_n dX6_keep_26 rfl rfl ?_
    refine J.getfield dX6_keep_27 jFX6_19 rfl rfl ?_
    refine J.iload_n dX6_keep_30 rfl rfl ?_
    refine J.aaload4 (q := 47) dX6_keep_31 rfl (vp_in_nI (n := 1) (by decide) (by decide)) rfl ?_
    refine J.aload_n dX6_keep_32 rfl rfl ?_
    refine J.getfield dX6_keep_33 jFX6_12 rfl rfl ?_
    refine J.cv (as := [.ref 7]) (is := [47, 48, 49, 50, 51, 52, 53, 1, 2, 3, 4, 5, 6, 7]) (o := 0) okX2_copy jcX6_86 (mX2_copy (rs 3) (rs 0)) dX6_keep_36 rfl rfl rfl rfl rfl rfl rfl (fun r9 B9 hq => ?_)
    obtain ⟨rfl, rfl⟩ := hq
    refine ⟨rfl, ?_⟩
    show J _ _ _ _ _ [] (wC (rsN rs 3 (rs 0)) v q x n u c l tn) _ _
    refine J.aload_n dX6_keep_39 rfl rfl ?_
    refine J.getfield dX6_keep_40 jFX6_23 rfl rfl ?_
    refine J.iload_n dX6_keep_43 rfl rfl ?_
    refine J.iconst (1) dX6_keep_44 (by decide) ?_
    refine J.zastoreN (i := 1) dX6_keep_45 rfl (by decide) ?_
    rw [show vp_nar .boolean 1 = nI 1 from rfl, upd_nI]
    try dsimp only [List.set]
    refine J.iload_n dX6_keep_46 rfl rfl ?_
    exact J.iret dX6_keep_47 rfl rfl (Nat.le_refl _) (Nat.le_refl _) ⟨congrArg (fun z => some (Value.int z)) (by first | exact (kept1 hk c17).symm | exact (show nI (v 0 1) = 0 from c17).symm), rfl⟩
set_option maxRecDepth 100000 in
set_option maxHeartbeats 4000000 in
theorem mX6_back1n (rs : Nat → rT) (v : Nat → Nat → Nat) (q : rT) (x : Nat → Nat) (n : Nat → Int64) (u : uT) (c : Nat → Nat → Int32) (l : Nat → Int32) (tn : Int32) (hk : v 0 1 = 0) : J KX6_back 62 (fun o B => o = some (.int (-2)) ∧ B = (wC rs v q x n u c l tn)) 0 [some (.ref 0), some (.int 1)] [] (wC rs v q x n u c l tn) 0 0 := by
  refine J.iload_n dX6_back_0 rfl rfl ?_
  refine J.iconst (0) dX6_back_1 (by decide) ?_
  refine J.iconst (1) dX6_back_2 (by decide) ?_
  refine J.cs (as := [.int _, .int _, .int _]) (is := []) okX6_within jcX6_59 (mX6_within _ _ _) dX6_back_3 rfl rfl rfl rfl rfl rfl (fun r9 B9 hq => ?_)
  obtain ⟨rfl, rfl⟩ := hq
  refine ⟨rfl, ?_⟩
  show J _ _ _ _ _ (.int _ :: _) (wC rs v q x n u c l tn) _ _
  refine J.if_ne (tgt := 11) dX6_back_6 (by decide) (fun c6 => ?_) (fun c6 => absurd c6 (fun h => (jB_0 _).mp h (by decide)))
  refine J.aload_n dX6_back_11 rfl rfl ?_
  refine J.getfield dX6_back_12 jFX6_23 rfl rfl ?_
  refine J.iload_n dX6_back_15 rfl rfl ?_
  refine J.zaload dX6_back_16 rfl (vp_in_nI (n := 1) (by decide) (by decide)) ?_
  refine J.if_ne (tgt := 23) dX6_back_17 (by decide) (fun c17 => absurd c17 (fun h => h (show nI (v 0 1) = 0 by rw [hk] <;> rfl))) (fun c17 => ?_)
  refine J.bipush (-2) dX6_back_20 (by decide) ?_
  exact J.iret dX6_back_22 rfl rfl (Nat.le_refl _) (Nat.le_refl _) ⟨rfl, rfl⟩
set_option maxRecDepth 100000 in
set_option maxHeartbeats 4000000 in
theorem mX6_back1 (rs : Nat → rT) (v : Nat → Nat → Nat) (q : rT) (x : Nat → Nat) (n : Nat → Int64) (u : uT) (c : Nat → Nat → Int32) (l : Nat → Int32) (tn : Int32) (hk : v 0 1 = 1) : J KX6_back 62 (fun o B => o = some (.int (nI (rs 3 6 6))) ∧ B = (wC (rsN rs 0 (rs 3)) v q x n u c l tn)) 0 [some (.ref 0), some (.int 1)] [] (wC rs v q x n u c l tn) 0 0 := by
  refine J.iload_n dX6_back_0 rfl rfl ?_
  refine J.iconst (0) dX6_back_1 (by decide) ?_
  refine J.iconst (1) dX6_back_2 (by decide) ?_
  refine J.cs (as := [.int _, .int _, .int _]) (is := []) okX6_within jcX6_59 (mX6_within _ _ _) dX6_back_3 rfl rfl rfl rfl rfl rfl (fun r9 B9 hq => ?_)
  obtain ⟨rfl, rfl⟩ := hq
  refine ⟨rfl, ?_⟩
  show J _ _ _ _ _ (.int _ :: _) (wC rs v q x n u c l tn) _ _
  refine J.if_ne (tgt := 11) dX6_back_6 (by decide) (fun c6 => ?_) (fun c6 => absurd c6 (fun h => (jB_0 _).mp h (by decide)))
  refine J.aload_n dX6_back_11 rfl rfl ?_
  refine J.getfield dX6_back_12 jFX6_23 rfl rfl ?_
  refine J.iload_n dX6_back_15 rfl rfl ?_
  refine J.zaload dX6_back_16 rfl (vp_in_nI (n := 1) (by decide) (by decide)) ?_
  refine J.if_ne (tgt := 23) dX6_back_17 (by decide) (fun c17 => ?_) (fun c17 => absurd c17 (show ¬ nI (v 0 1) = 0 by rw [hk]; decide))
  refine J.aload_n dX6_back_23 rfl rfl ?_
  refine J.getfield dX6_back_24 jFX6_12 rfl rfl ?_
  refine J.aload_n dX6_back_27 rfl rfl ?_
  refine J.getfield dX6_back_28 jFX6_19 rfl rfl ?_
  refine J.iload_n dX6_back_31 rfl rfl ?_
  refine J.aaload4 (q := 47) dX6_back_32 rfl (vp_in_nI (n := 1) (by decide) (by decide)) rfl ?_
  refine J.cv (as := [.ref 7]) (is := [1, 2, 3, 4, 5, 6, 7, 47, 48, 49, 50, 51, 52, 53]) (o := 0) okX2_copy jcX6_86 (mX2_copy (rs 0) (rs 3)) dX6_back_33 rfl rfl rfl rfl rfl rfl rfl (fun r9 B9 hq => ?_)
  obtain ⟨rfl, rfl⟩ := hq
  refine ⟨rfl, ?_⟩
  show J _ _ _ _ _ [] (wC (rsN rs 0 (rs 3)) v q x n u c l tn) _ _
  refine J.aload_n dX6_back_36 rfl rfl ?_
  refine J.getfield dX6_back_37 jFX6_12 rfl rfl ?_
  refine J.getfield dX6_back_40 jFX6_108 rfl rfl ?_
  exact J.iret dX6_back_43 rfl rfl (Nat.le_refl _) (Nat.le_refl _) ⟨rfl, rfl⟩
set_option maxRecDepth 100000 in
set_option maxHeartbeats 4000000 in
theorem mX6_keep_bad (rs : Nat → rT) (v : Nat → Nat → Nat) (q : rT) (x : Nat → Nat) (n : Nat → Int64) (u : uT) (c : Nat → Nat → Int32) (l : Nat → Int32) (tn : Int32) (k : Int32) (hb : ¬ (0 ≤ k ∧ k ≤ 1)) : J KX6_keep 62 (fun o B => o = some (.int (-1)) ∧ B = (wC rs v q x n u c l tn)) 0 [some (.ref 0), some (.int k), none] [] (wC rs v q x n u c l tn) 0 0 := by
  refine J.iload_n dX6_keep_0 rfl rfl ?_
  refine J.iconst (0) dX6_keep_1 (by decide) ?_
  refine J.iconst (1) dX6_keep_2 (by decide) ?_
  refine J.cs (as := [.int _, .int _, .int _]) (is := []) okX6_within jcX6_59 (mX6_within _ _ _) dX6_keep_3 rfl rfl rfl rfl rfl rfl (fun r9 B9 hq => ?_)
  obtain ⟨rfl, rfl⟩ := hq
  refine ⟨rfl, ?_⟩
  show J _ _ _ _ _ (.int _ :: _) (wC rs v q x n u c l tn) _ _
  refine J.if_ne (tgt := 11) dX6_keep_6 (by decide) (fun c6 => absurd c6 (fun h => h ((jB_0 _).mpr hb))) (fun c6 => ?_)
  refine J.iconst (-1) dX6_keep_9 (by decide) ?_
  exact J.iret dX6_keep_10 rfl rfl (Nat.le_refl _) (Nat.le_refl _) ⟨rfl, rfl⟩
set_option maxRecDepth 100000 in
set_option maxHeartbeats 4000000 in
theorem mX6_back_bad (rs : Nat → rT) (v : Nat → Nat → Nat) (q : rT) (x : Nat → Nat) (n : Nat → Int64) (u : uT) (c : Nat → Nat → Int32) (l : Nat → Int32) (tn : Int32) (k : Int32) (hb : ¬ (0 ≤ k ∧ k ≤ 1)) : J KX6_back 62 (fun o B => o = some (.int (-1)) ∧ B = (wC rs v q x n u c l tn)) 0 [some (.ref 0), some (.int k)] [] (wC rs v q x n u c l tn) 0 0 := by
  refine J.iload_n dX6_back_0 rfl rfl ?_
  refine J.iconst (0) dX6_back_1 (by decide) ?_
  refine J.iconst (1) dX6_back_2 (by decide) ?_
  refine J.cs (as := [.int _, .int _, .int _]) (is := []) okX6_within jcX6_59 (mX6_within _ _ _) dX6_back_3 rfl rfl rfl rfl rfl rfl (fun r9 B9 hq => ?_)
  obtain ⟨rfl, rfl⟩ := hq
  refine ⟨rfl, ?_⟩
  show J _ _ _ _ _ (.int _ :: _) (wC rs v q x n u c l tn) _ _
  refine J.if_ne (tgt := 11) dX6_back_6 (by decide) (fun c6 => absurd c6 (fun h => h ((jB_0 _).mpr hb))) (fun c6 => ?_)
  refine J.iconst (-1) dX6_back_9 (by decide) ?_
  exact J.iret dX6_back_10 rfl rfl (Nat.le_refl _) (Nat.le_refl _) ⟨rfl, rfl⟩
def cset (c : Nat → Nat → Int32) (k : Nat) (f : Nat → Int32) : Nat → Nat → Int32 := fun y => if y = k then f else c y
def lset (l : Nat → Int32) (k : Nat) (z : Int32) : Nat → Int32 := fun y => if y = k then z else l y
set_option maxRecDepth 100000 in
set_option maxHeartbeats 4000000 in
theorem mX6_sheet_bad (rs : Nat → rT) (v : Nat → Nat → Nat) (q : rT) (x : Nat → Nat) (n : Nat → Int64) (u : uT) (c : Nat → Nat → Int32) (l : Nat → Int32) (tn : Int32) (k la z : Int32) (hb : ¬ (0 ≤ k ∧ k ≤ 3) ∨ ¬ (0 ≤ la ∧ la ≤ 2) ∨ ¬ z ≤ 40) : J KX6_sheet 62 (fun o B => o = some (.int (-1)) ∧ B = (wC rs v q x n u c l tn)) 0 [some (.ref 0), some (.int k), some (.int la), some (.int z)] [] (wC rs v q x n u c l tn) 0 0 := by
  refine J.iload_n dX6_sheet_0 rfl rfl ?_
  refine J.iconst (0) dX6_sheet_1 (by decide) ?_
  refine J.iconst (3) dX6_sheet_2 (by decide) ?_
  refine J.cs (as := [.int _, .int _, .int _]) (is := []) okX6_within jcX6_59 (mX6_within _ _ _) dX6_sheet_3 rfl rfl rfl rfl rfl rfl (fun r9 B9 hq => ?_)
  obtain ⟨rfl, rfl⟩ := hq
  refine ⟨rfl, ?_⟩
  show J _ _ _ _ _ (.int _ :: _) (wC rs v q x n u c l tn) _ _
  refine J.if_eq (tgt := 24) dX6_sheet_6 (by decide) (fun c6 => ?_) (fun c6 => ?_)
  · refine J.iconst (-1) dX6_sheet_24 (by decide) ?_
    exact J.iret dX6_sheet_25 rfl rfl (Nat.le_refl _) (Nat.le_refl _) ⟨rfl, rfl⟩
  · refine J.iload_n dX6_sheet_9 rfl rfl ?_
    refine J.iconst (0) dX6_sheet_10 (by decide) ?_
    refine J.iconst (2) dX6_sheet_11 (by decide) ?_
    refine J.cs (as := [.int _, .int _, .int _]) (is := []) okX6_within jcX6_59 (mX6_within _ _ _) dX6_sheet_12 rfl rfl rfl rfl rfl rfl (fun r9 B9 hq => ?_)
    obtain ⟨rfl, rfl⟩ := hq
    refine ⟨rfl, ?_⟩
    show J _ _ _ _ _ (.int _ :: _) (wC rs v q x n u c l tn) _ _
    refine J.if_eq (tgt := 24) dX6_sheet_15 (by decide) (fun c15 => ?_) (fun c15 => ?_)
    · refine J.iconst (-1) dX6_sheet_24 (by decide) ?_
      exact J.iret dX6_sheet_25 rfl rfl (Nat.le_refl _) (Nat.le_refl _) ⟨rfl, rfl⟩
    · refine J.iload_n dX6_sheet_18 rfl rfl ?_
      refine J.bipush (40) dX6_sheet_19 (by decide) ?_
      refine J.icmp_le (tgt := 26) dX6_sheet_21 (by decide) (fun c21 => absurd c21 (fun hC => (fun h => h.elim (fun h => h (Decidable.not_not.mp (fun h9 => c6 ((jB_0 _).mpr h9)))) (fun h => h.elim (fun h => h (Decidable.not_not.mp (fun h9 => c15 ((jB_0 _).mpr h9)))) (fun h => h hC))) hb)) (fun c21 => ?_)
      refine J.iconst (-1) dX6_sheet_24 (by decide) ?_
      exact J.iret dX6_sheet_25 rfl rfl (Nat.le_refl _) (Nat.le_refl _) ⟨rfl, rfl⟩
set_option maxRecDepth 100000 in
set_option maxHeartbeats 4000000 in
theorem mX6_sheet_neg (rs : Nat → rT) (v : Nat → Nat → Nat) (q : rT) (x : Nat → Nat) (n : Nat → Int64) (u : uT) (c : Nat → Nat → Int32) (l : Nat → Int32) (tn : Int32) (k la z : Int32) (hk : 0 ≤ k ∧ k ≤ 3) (hl : 0 ≤ la ∧ la ≤ 2) (hz : z < 0) : J KX6_sheet 62 (fun o B => o = some (.int (-14)) ∧ B = (wC rs v q x n u c l tn)) 0 [some (.ref 0), some (.int k), some (.int la), some (.int z)] [] (wC rs v q x n u c l tn) 0 0 := by
  refine J.iload_n dX6_sheet_0 rfl rfl ?_
  refine J.iconst (0) dX6_sheet_1 (by decide) ?_
  refine J.iconst (3) dX6_sheet_2 (by decide) ?_
  refine J.cs (as := [.int _, .int _, .int _]) (is := []) okX6_within jcX6_59 (mX6_within _ _ _) dX6_sheet_3 rfl rfl rfl rfl rfl rfl (fun r9 B9 hq => ?_)
  obtain ⟨rfl, rfl⟩ := hq
  refine ⟨rfl, ?_⟩
  show J _ _ _ _ _ (.int _ :: _) (wC rs v q x n u c l tn) _ _
  refine J.if_eq (tgt := 24) dX6_sheet_6 (by decide) (fun c6 => absurd c6 (fun h => (jB_0 _).mp h hk)) (fun c6 => ?_)
  refine J.iload_n dX6_sheet_9 rfl rfl ?_
  refine J.iconst (0) dX6_sheet_10 (by decide) ?_
  refine J.iconst (2) dX6_sheet_11 (by decide) ?_
  refine J.cs (as := [.int _, .int _, .int _]) (is := []) okX6_within jcX6_59 (mX6_within _ _ _) dX6_sheet_12 rfl rfl rfl rfl rfl rfl (fun r9 B9 hq => ?_)
  obtain ⟨rfl, rfl⟩ := hq
  refine ⟨rfl, ?_⟩
  show J _ _ _ _ _ (.int _ :: _) (wC rs v q x n u c l tn) _ _
  refine J.if_eq (tgt := 24) dX6_sheet_15 (by decide) (fun c15 => absurd c15 (fun h => (jB_0 _).mp h hl)) (fun c15 => ?_)
  refine J.iload_n dX6_sheet_18 rfl rfl ?_
  refine J.bipush (40) dX6_sheet_19 (by decide) ?_
  refine J.icmp_le (tgt := 26) dX6_sheet_21 (by decide) (fun c21 => ?_) (fun c21 => absurd c21 (fun h => h (Int32.le_trans (Int32.le_of_lt hz) (by decide))))
  refine J.iload_n dX6_sheet_26 rfl rfl ?_
  refine J.if_ge (tgt := 33) dX6_sheet_27 (by decide) (fun c27 => absurd c27 (Int32.not_le.mpr hz)) (fun c27 => ?_)
  refine J.bipush (-14) dX6_sheet_30 (by decide) ?_
  exact J.iret dX6_sheet_32 rfl rfl (Nat.le_refl _) (Nat.le_refl _) ⟨rfl, rfl⟩
set_option maxRecDepth 100000 in
set_option maxHeartbeats 4000000 in
theorem mX6_sheet0 (rs : Nat → rT) (v : Nat → Nat → Nat) (q : rT) (x : Nat → Nat) (n : Nat → Int64) (u : uT) (c : Nat → Nat → Int32) (l : Nat → Int32) (tn : Int32) (la : Int32) (hl : 0 ≤ la ∧ la ≤ 2) (m : Nat) (hm : m ≤ 40) : J KX6_sheet 62 (fun o B => o = some (.int (1)) ∧ B = (wC rs (vset v 4 2 m) q x n u (cset c 0 (fun _ => 0)) (lset l 0 la) tn)) 0 [some (.ref 0), some (.int 0), some (.int la), some (.int (nI m))] [] (wC rs v q x n u c l tn) 0 0 := by
  refine J.iload_n dX6_sheet_0 rfl rfl ?_
  refine J.iconst (0) dX6_sheet_1 (by decide) ?_
  refine J.iconst (3) dX6_sheet_2 (by decide) ?_
  refine J.cs (as := [.int _, .int _, .int _]) (is := []) okX6_within jcX6_59 (mX6_within _ _ _) dX6_sheet_3 rfl rfl rfl rfl rfl rfl (fun r9 B9 hq => ?_)
  obtain ⟨rfl, rfl⟩ := hq
  refine ⟨rfl, ?_⟩
  show J _ _ _ _ _ (.int _ :: _) (wC rs v q x n u c l tn) _ _
  refine J.if_eq (tgt := 24) dX6_sheet_6 (by decide) (fun c6 => absurd c6 (fun h => (jB_0 _).mp h (by decide))) (fun c6 => ?_)
  refine J.iload_n dX6_sheet_9 rfl rfl ?_
  refine J.iconst (0) dX6_sheet_10 (by decide) ?_
  refine J.iconst (2) dX6_sheet_11 (by decide) ?_
  refine J.cs (as := [.int _, .int _, .int _]) (is := []) okX6_within jcX6_59 (mX6_within _ _ _) dX6_sheet_12 rfl rfl rfl rfl rfl rfl (fun r9 B9 hq => ?_)
  obtain ⟨rfl, rfl⟩ := hq
  refine ⟨rfl, ?_⟩
  show J _ _ _ _ _ (.int _ :: _) (wC rs v q x n u c l tn) _ _
  refine J.if_eq (tgt := 24) dX6_sheet_15 (by decide) (fun c15 => absurd c15 (fun h => (jB_0 _).mp h hl)) (fun c15 => ?_)
  refine J.iload_n dX6_sheet_18 rfl rfl ?_
  refine J.bipush (40) dX6_sheet_19 (by decide) ?_
  refine J.icmp_le (tgt := 26) dX6_sheet_21 (by decide) (fun c21 => ?_) (fun c21 => absurd c21 (fun h => h ((nI_lei (b := 40) (by omega) (by decide)).mpr hm)))
  refine J.iload_n dX6_sheet_26 rfl rfl ?_
  refine J.if_ge (tgt := 33) dX6_sheet_27 (by decide) (fun c27 => ?_) (fun c27 => absurd c27 (fun h => h (nI_pos' (by omega))))
  refine J.aload_n dX6_sheet_33 rfl rfl ?_
  refine J.getfield dX6_sheet_34 jFX6_50 rfl rfl ?_
  refine J.iload_n dX6_sheet_37 rfl rfl ?_
  refine J.aaload5 (q := 54) dX6_sheet_38 rfl (vp_in_nI (n := 0) (by decide) (by decide)) rfl ?_
  refine J.iload_n dX6_sheet_39 rfl rfl ?_
  refine J.iload_n dX6_sheet_40 rfl rfl ?_
  refine J.cv (as := [.int _, .int _]) (is := [54, 55]) (o := 0) okX4_renew jcX6_225 (mX4_renew (c 0) (l 0) la (v 4 2) m hm) dX6_sheet_41 rfl rfl rfl rfl rfl rfl rfl (fun r9 B9 hq => ?_)
  obtain ⟨rfl, rfl⟩ := hq
  refine ⟨rfl, ?_⟩
  show J _ _ _ _ _ [] (wC rs (vset v 4 2 m) q x n u (cset c 0 (fun _ => 0)) (lset l 0 la) tn) _ _
  refine J.iconst (1) dX6_sheet_44 (by decide) ?_
  exact J.iret dX6_sheet_45 rfl rfl (Nat.le_refl _) (Nat.le_refl _) ⟨rfl, rfl⟩
set_option maxRecDepth 100000 in
set_option maxHeartbeats 4000000 in
theorem mX6_lay0f (rs : Nat → rT) (v : Nat → Nat → Nat) (q : rT) (x : Nat → Nat) (n : Nat → Int64) (u : uT) (c : Nat → Nat → Int32) (l : Nat → Int32) (tn : Int32) (i z : Int32) (hf : ¬ (fat (l 0) (v 4 2) i) = 0) : J KX6_lay 62 (fun o B => o = some (.int (-10 - (fat (l 0) (v 4 2) i))) ∧ B = (wC rs v q x n u c l tn)) 0 [some (.ref 0), some (.int 0), some (.int i), some (.int z), none] [] (wC rs v q x n u c l tn) 0 0 := by
  refine J.iload_n dX6_lay_0 rfl rfl ?_
  refine J.iconst (0) dX6_lay_1 (by decide) ?_
  refine J.iconst (3) dX6_lay_2 (by decide) ?_
  refine J.cs (as := [.int _, .int _, .int _]) (is := []) okX6_within jcX6_59 (mX6_within _ _ _) dX6_lay_3 rfl rfl rfl rfl rfl rfl (fun r9 B9 hq => ?_)
  obtain ⟨rfl, rfl⟩ := hq
  refine ⟨rfl, ?_⟩
  show J _ _ _ _ _ (.int _ :: _) (wC rs v q x n u c l tn) _ _
  refine J.if_ne (tgt := 11) dX6_lay_6 (by decide) (fun c6 => ?_) (fun c6 => absurd c6 (fun h => (jB_0 _).mp h (by decide)))
  refine J.aload_n dX6_lay_11 rfl rfl ?_
  refine J.getfield dX6_lay_12 jFX6_50 rfl rfl ?_
  refine J.iload_n dX6_lay_15 rfl rfl ?_
  refine J.aaload5 (q := 54) dX6_lay_16 rfl (vp_in_nI (n := 0) (by decide) (by decide)) rfl ?_
  refine J.iload_n dX6_lay_17 rfl rfl ?_
  refine J.cv (as := [.int _]) (is := [54, 55]) (o := 0) okX4_faultAt jcX6_228 (mX4_faultAt (c 0) (l 0) (v 4 2) i) dX6_lay_18 rfl rfl rfl rfl rfl rfl rfl (fun r9 B9 hq => ?_)
  obtain ⟨rfl, rfl⟩ := hq
  refine ⟨rfl, ?_⟩
  show J _ _ _ _ _ (.int _ :: _) (wC rs v q x n u c l tn) _ _
  refine J.istore dX6_lay_21 (by decide) rfl ?_
  try dsimp only [List.set]
  refine J.iload dX6_lay_23 rfl ?_
  refine J.if_eq (tgt := 34) dX6_lay_25 (by decide) (fun c25 => absurd c25 hf) (fun c25 => ?_)
  refine J.bipush (-10) dX6_lay_28 (by decide) ?_
  refine J.iload dX6_lay_30 rfl ?_
  refine J.isub dX6_lay_32 ?_
  exact J.iret dX6_lay_33 rfl rfl (Nat.le_refl _) (Nat.le_refl _) ⟨rfl, rfl⟩
set_option maxRecDepth 100000 in
set_option maxHeartbeats 4000000 in
theorem mX6_lay0 (rs : Nat → rT) (v : Nat → Nat → Nat) (q : rT) (x : Nat → Nat) (n : Nat → Int64) (u : uT) (c : Nat → Nat → Int32) (l : Nat → Int32) (tn : Int32) (j : Nat) (z : Int32) (hf : (fat (l 0) (v 4 2) (nI j)) = 0) (hj : j < v 4 2) (hl : v 4 2 ≤ 40) : J KX6_lay 62 (fun o B => o = some (.int (1)) ∧ B = (wC rs v q x n u (cset c 0 (upd (c 0) j (cnv (l 0) z))) l tn)) 0 [some (.ref 0), some (.int 0), some (.int (nI j)), some (.int z), none] [] (wC rs v q x n u c l tn) 0 0 := by
  refine J.iload_n dX6_lay_0 rfl rfl ?_
  refine J.iconst (0) dX6_lay_1 (by decide) ?_
  refine J.iconst (3) dX6_lay_2 (by decide) ?_
  refine J.cs (as := [.int _, .int _, .int _]) (is := []) okX6_within jcX6_59 (mX6_within _ _ _) dX6_lay_3 rfl rfl rfl rfl rfl rfl (fun r9 B9 hq => ?_)
  obtain ⟨rfl, rfl⟩ := hq
  refine ⟨rfl, ?_⟩
  show J _ _ _ _ _ (.int _ :: _) (wC rs v q x n u c l tn) _ _
  refine J.if_ne (tgt := 11) dX6_lay_6 (by decide) (fun c6 => ?_) (fun c6 => absurd c6 (fun h => (jB_0 _).mp h (by decide)))
  refine J.aload_n dX6_lay_11 rfl rfl ?_
  refine J.getfield dX6_lay_12 jFX6_50 rfl rfl ?_
  refine J.iload_n dX6_lay_15 rfl rfl ?_
  refine J.aaload5 (q := 54) dX6_lay_16 rfl (vp_in_nI (n := 0) (by decide) (by decide)) rfl ?_
  refine J.iload_n dX6_lay_17 rfl rfl ?_
  refine J.cv (as := [.int _]) (is := [54, 55]) (o := 0) okX4_faultAt jcX6_228 (mX4_faultAt (c 0) (l 0) (v 4 2) (nI j)) dX6_lay_18 rfl rfl rfl rfl rfl rfl rfl (fun r9 B9 hq => ?_)
  obtain ⟨rfl, rfl⟩ := hq
  refine ⟨rfl, ?_⟩
  show J _ _ _ _ _ (.int _ :: _) (wC rs v q x n u c l tn) _ _
  refine J.istore dX6_lay_21 (by decide) rfl ?_
  try dsimp only [List.set]
  refine J.iload dX6_lay_23 rfl ?_
  refine J.if_eq (tgt := 34) dX6_lay_25 (by decide) (fun c25 => ?_) (fun c25 => absurd c25 (fun h => h hf))
  refine J.aload_n dX6_lay_34 rfl rfl ?_
  refine J.getfield dX6_lay_35 jFX6_50 rfl rfl ?_
  refine J.iload_n dX6_lay_38 rfl rfl ?_
  refine J.aaload5 (q := 54) dX6_lay_39 rfl (vp_in_nI (n := 0) (by decide) (by decide)) rfl ?_
  refine J.iload_n dX6_lay_40 rfl rfl ?_
  refine J.iload_n dX6_lay_41 rfl rfl ?_
  refine J.cv (as := [.int _, .int _]) (is := [54, 55]) (o := 0) okX4_write jcX6_231 (mX4_write (c 0) (l 0) (v 4 2) j z hj hl) dX6_lay_42 rfl rfl rfl rfl rfl rfl rfl (fun r9 B9 hq => ?_)
  obtain ⟨rfl, rfl⟩ := hq
  refine ⟨rfl, ?_⟩
  show J _ _ _ _ _ [] (wC rs v q x n u (cset c 0 (upd (c 0) j (cnv (l 0) z))) l tn) _ _
  refine J.iconst (1) dX6_lay_45 (by decide) ?_
  exact J.iret dX6_lay_46 rfl rfl (Nat.le_refl _) (Nat.le_refl _) ⟨rfl, rfl⟩
set_option maxRecDepth 100000 in
set_option maxHeartbeats 4000000 in
theorem mX6_sheet1 (rs : Nat → rT) (v : Nat → Nat → Nat) (q : rT) (x : Nat → Nat) (n : Nat → Int64) (u : uT) (c : Nat → Nat → Int32) (l : Nat → Int32) (tn : Int32) (la : Int32) (hl : 0 ≤ la ∧ la ≤ 2) (m : Nat) (hm : m ≤ 40) : J KX6_sheet 62 (fun o B => o = some (.int (1)) ∧ B = (wC rs (vset v 4 3 m) q x n u (cset c 1 (fun _ => 0)) (lset l 1 la) tn)) 0 [some (.ref 0), some (.int 1), some (.int la), some (.int (nI m))] [] (wC rs v q x n u c l tn) 0 0 := by
  refine J.iload_n dX6_sheet_0 rfl rfl ?_
  refine J.iconst (0) dX6_sheet_1 (by decide) ?_
  refine J.iconst (3) dX6_sheet_2 (by decide) ?_
  refine J.cs (as := [.int _, .int _, .int _]) (is := []) okX6_within jcX6_59 (mX6_within _ _ _) dX6_sheet_3 rfl rfl rfl rfl rfl rfl (fun r9 B9 hq => ?_)
  obtain ⟨rfl, rfl⟩ := hq
  refine ⟨rfl, ?_⟩
  show J _ _ _ _ _ (.int _ :: _) (wC rs v q x n u c l tn) _ _
  refine J.if_eq (tgt := 24) dX6_sheet_6 (by decide) (fun c6 => absurd c6 (fun h => (jB_0 _).mp h (by decide))) (fun c6 => ?_)
  refine J.iload_n dX6_sheet_9 rfl rfl ?_
  refine J.iconst (0) dX6_sheet_10 (by decide) ?_
  refine J.iconst (2) dX6_sheet_11 (by decide) ?_
  refine J.cs (as := [.int _, .int _, .int _]) (is := []) okX6_within jcX6_59 (mX6_within _ _ _) dX6_sheet_12 rfl rfl rfl rfl rfl rfl (fun r9 B9 hq => ?_)
  obtain ⟨rfl, rfl⟩ := hq
  refine ⟨rfl, ?_⟩
  show J _ _ _ _ _ (.int _ :: _) (wC rs v q x n u c l tn) _ _
  refine J.if_eq (tgt := 24) dX6_sheet_15 (by decide) (fun c15 => absurd c15 (fun h => (jB_0 _).mp h hl)) (fun c15 => ?_)
  refine J.iload_n dX6_sheet_18 rfl rfl ?_
  refine J.bipush (40) dX6_sheet_19 (by decide) ?_
  refine J.icmp_le (tgt := 26) dX6_sheet_21 (by decide) (fun c21 => ?_) (fun c21 => absurd c21 (fun h => h ((nI_lei (b := 40) (by omega) (by decide)).mpr hm)))
  refine J.iload_n dX6_sheet_26 rfl rfl ?_
  refine J.if_ge (tgt := 33) dX6_sheet_27 (by decide) (fun c27 => ?_) (fun c27 => absurd c27 (fun h => h (nI_pos' (by omega))))
  refine J.aload_n dX6_sheet_33 rfl rfl ?_
  refine J.getfield dX6_sheet_34 jFX6_50 rfl rfl ?_
  refine J.iload_n dX6_sheet_37 rfl rfl ?_
  refine J.aaload5 (q := 56) dX6_sheet_38 rfl (vp_in_nI (n := 1) (by decide) (by decide)) rfl ?_
  refine J.iload_n dX6_sheet_39 rfl rfl ?_
  refine J.iload_n dX6_sheet_40 rfl rfl ?_
  refine J.cv (as := [.int _, .int _]) (is := [56, 57]) (o := 0) okX4_renew jcX6_225 (mX4_renew (c 1) (l 1) la (v 4 3) m hm) dX6_sheet_41 rfl rfl rfl rfl rfl rfl rfl (fun r9 B9 hq => ?_)
  obtain ⟨rfl, rfl⟩ := hq
  refine ⟨rfl, ?_⟩
  show J _ _ _ _ _ [] (wC rs (vset v 4 3 m) q x n u (cset c 1 (fun _ => 0)) (lset l 1 la) tn) _ _
  refine J.iconst (1) dX6_sheet_44 (by decide) ?_
  exact J.iret dX6_sheet_45 rfl rfl (Nat.le_refl _) (Nat.le_refl _) ⟨rfl, rfl⟩
set_option maxRecDepth 100000 in
set_option maxHeartbeats 4000000 in
theorem mX6_lay1f (rs : Nat → rT) (v : Nat → Nat → Nat) (q : rT) (x : Nat → Nat) (n : Nat → Int64) (u : uT) (c : Nat → Nat → Int32) (l : Nat → Int32) (tn : Int32) (i z : Int32) (hf : ¬ (fat (l 1) (v 4 3) i) = 0) : J KX6_lay 62 (fun o B => o = some (.int (-10 - (fat (l 1) (v 4 3) i))) ∧ B = (wC rs v q x n u c l tn)) 0 [some (.ref 0), some (.int 1), some (.int i), some (.int z), none] [] (wC rs v q x n u c l tn) 0 0 := by
  refine J.iload_n dX6_lay_0 rfl rfl ?_
  refine J.iconst (0) dX6_lay_1 (by decide) ?_
  refine J.iconst (3) dX6_lay_2 (by decide) ?_
  refine J.cs (as := [.int _, .int _, .int _]) (is := []) okX6_within jcX6_59 (mX6_within _ _ _) dX6_lay_3 rfl rfl rfl rfl rfl rfl (fun r9 B9 hq => ?_)
  obtain ⟨rfl, rfl⟩ := hq
  refine ⟨rfl, ?_⟩
  show J _ _ _ _ _ (.int _ :: _) (wC rs v q x n u c l tn) _ _
  refine J.if_ne (tgt := 11) dX6_lay_6 (by decide) (fun c6 => ?_) (fun c6 => absurd c6 (fun h => (jB_0 _).mp h (by decide)))
  refine J.aload_n dX6_lay_11 rfl rfl ?_
  refine J.getfield dX6_lay_12 jFX6_50 rfl rfl ?_
  refine J.iload_n dX6_lay_15 rfl rfl ?_
  refine J.aaload5 (q := 56) dX6_lay_16 rfl (vp_in_nI (n := 1) (by decide) (by decide)) rfl ?_
  refine J.iload_n dX6_lay_17 rfl rfl ?_
  refine J.cv (as := [.int _]) (is := [56, 57]) (o := 0) okX4_faultAt jcX6_228 (mX4_faultAt (c 1) (l 1) (v 4 3) i) dX6_lay_18 rfl rfl rfl rfl rfl rfl rfl (fun r9 B9 hq => ?_)
  obtain ⟨rfl, rfl⟩ := hq
  refine ⟨rfl, ?_⟩
  show J _ _ _ _ _ (.int _ :: _) (wC rs v q x n u c l tn) _ _
  refine J.istore dX6_lay_21 (by decide) rfl ?_
  try dsimp only [List.set]
  refine J.iload dX6_lay_23 rfl ?_
  refine J.if_eq (tgt := 34) dX6_lay_25 (by decide) (fun c25 => absurd c25 hf) (fun c25 => ?_)
  refine J.bipush (-10) dX6_lay_28 (by decide) ?_
  refine J.iload dX6_lay_30 rfl ?_
  refine J.isub dX6_lay_32 ?_
  exact J.iret dX6_lay_33 rfl rfl (Nat.le_refl _) (Nat.le_refl _) ⟨rfl, rfl⟩
set_option maxRecDepth 100000 in
set_option maxHeartbeats 4000000 in
theorem mX6_lay1 (rs : Nat → rT) (v : Nat → Nat → Nat) (q : rT) (x : Nat → Nat) (n : Nat → Int64) (u : uT) (c : Nat → Nat → Int32) (l : Nat → Int32) (tn : Int32) (j : Nat) (z : Int32) (hf : (fat (l 1) (v 4 3) (nI j)) = 0) (hj : j < v 4 3) (hl : v 4 3 ≤ 40) : J KX6_lay 62 (fun o B => o = some (.int (1)) ∧ B = (wC rs v q x n u (cset c 1 (upd (c 1) j (cnv (l 1) z))) l tn)) 0 [some (.ref 0), some (.int 1), some (.int (nI j)), some (.int z), none] [] (wC rs v q x n u c l tn) 0 0 := by
  refine J.iload_n dX6_lay_0 rfl rfl ?_
  refine J.iconst (0) dX6_lay_1 (by decide) ?_
  refine J.iconst (3) dX6_lay_2 (by decide) ?_
  refine J.cs (as := [.int _, .int _, .int _]) (is := []) okX6_within jcX6_59 (mX6_within _ _ _) dX6_lay_3 rfl rfl rfl rfl rfl rfl (fun r9 B9 hq => ?_)
  obtain ⟨rfl, rfl⟩ := hq
  refine ⟨rfl, ?_⟩
  show J _ _ _ _ _ (.int _ :: _) (wC rs v q x n u c l tn) _ _
  refine J.if_ne (tgt := 11) dX6_lay_6 (by decide) (fun c6 => ?_) (fun c6 => absurd c6 (fun h => (jB_0 _).mp h (by decide)))
  refine J.aload_n dX6_lay_11 rfl rfl ?_
  refine J.getfield dX6_lay_12 jFX6_50 rfl rfl ?_
  refine J.iload_n dX6_lay_15 rfl rfl ?_
  refine J.aaload5 (q := 56) dX6_lay_16 rfl (vp_in_nI (n := 1) (by decide) (by decide)) rfl ?_
  refine J.iload_n dX6_lay_17 rfl rfl ?_
  refine J.cv (as := [.int _]) (is := [56, 57]) (o := 0) okX4_faultAt jcX6_228 (mX4_faultAt (c 1) (l 1) (v 4 3) (nI j)) dX6_lay_18 rfl rfl rfl rfl rfl rfl rfl (fun r9 B9 hq => ?_)
  obtain ⟨rfl, rfl⟩ := hq
  refine ⟨rfl, ?_⟩
  show J _ _ _ _ _ (.int _ :: _) (wC rs v q x n u c l tn) _ _
  refine J.istore dX6_lay_21 (by decide) rfl ?_
  try dsimp only [List.set]
  refine J.iload dX6_lay_23 rfl ?_
  refine J.if_eq (tgt := 34) dX6_lay_25 (by decide) (fun c25 => ?_) (fun c25 => absurd c25 (fun h => h hf))
  refine J.aload_n dX6_lay_34 rfl rfl ?_
  refine J.getfield dX6_lay_35 jFX6_50 rfl rfl ?_
  refine J.iload_n dX6_lay_38 rfl rfl ?_
  refine J.aaload5 (q := 56) dX6_lay_39 rfl (vp_in_nI (n := 1) (by decide) (by decide)) rfl ?_
  refine J.iload_n dX6_lay_40 rfl rfl ?_
  refine J.iload_n dX6_lay_41 rfl rfl ?_
  refine J.cv (as := [.int _, .int _]) (is := [56, 57]) (o := 0) okX4_write jcX6_231 (mX4_write (c 1) (l 1) (v 4 3) j z hj hl) dX6_lay_42 rfl rfl rfl rfl rfl rfl rfl (fun r9 B9 hq => ?_)
  obtain ⟨rfl, rfl⟩ := hq
  refine ⟨rfl, ?_⟩
  show J _ _ _ _ _ [] (wC rs v q x n u (cset c 1 (upd (c 1) j (cnv (l 1) z))) l tn) _ _
  refine J.iconst (1) dX6_lay_45 (by decide) ?_
  exact J.iret dX6_lay_46 rfl rfl (Nat.le_refl _) (Nat.le_refl _) ⟨rfl, rfl⟩
set_option maxRecDepth 100000 in
set_option maxHeartbeats 4000000 in
theorem mX6_sheet2 (rs : Nat → rT) (v : Nat → Nat → Nat) (q : rT) (x : Nat → Nat) (n : Nat → Int64) (u : uT) (c : Nat → Nat → Int32) (l : Nat → Int32) (tn : Int32) (la : Int32) (hl : 0 ≤ la ∧ la ≤ 2) (m : Nat) (hm : m ≤ 40) : J KX6_sheet 62 (fun o B => o = some (.int (1)) ∧ B = (wC rs (vset v 4 4 m) q x n u (cset c 2 (fun _ => 0)) (lset l 2 la) tn)) 0 [some (.ref 0), some (.int 2), some (.int la), some (.int (nI m))] [] (wC rs v q x n u c l tn) 0 0 := by
  refine J.iload_n dX6_sheet_0 rfl rfl ?_
  refine J.iconst (0) dX6_sheet_1 (by decide) ?_
  refine J.iconst (3) dX6_sheet_2 (by decide) ?_
  refine J.cs (as := [.int _, .int _, .int _]) (is := []) okX6_within jcX6_59 (mX6_within _ _ _) dX6_sheet_3 rfl rfl rfl rfl rfl rfl (fun r9 B9 hq => ?_)
  obtain ⟨rfl, rfl⟩ := hq
  refine ⟨rfl, ?_⟩
  show J _ _ _ _ _ (.int _ :: _) (wC rs v q x n u c l tn) _ _
  refine J.if_eq (tgt := 24) dX6_sheet_6 (by decide) (fun c6 => absurd c6 (fun h => (jB_0 _).mp h (by decide))) (fun c6 => ?_)
  refine J.iload_n dX6_sheet_9 rfl rfl ?_
  refine J.iconst (0) dX6_sheet_10 (by decide) ?_
  refine J.iconst (2) dX6_sheet_11 (by decide) ?_
  refine J.cs (as := [.int _, .int _, .int _]) (is := []) okX6_within jcX6_59 (mX6_within _ _ _) dX6_sheet_12 rfl rfl rfl rfl rfl rfl (fun r9 B9 hq => ?_)
  obtain ⟨rfl, rfl⟩ := hq
  refine ⟨rfl, ?_⟩
  show J _ _ _ _ _ (.int _ :: _) (wC rs v q x n u c l tn) _ _
  refine J.if_eq (tgt := 24) dX6_sheet_15 (by decide) (fun c15 => absurd c15 (fun h => (jB_0 _).mp h hl)) (fun c15 => ?_)
  refine J.iload_n dX6_sheet_18 rfl rfl ?_
  refine J.bipush (40) dX6_sheet_19 (by decide) ?_
  refine J.icmp_le (tgt := 26) dX6_sheet_21 (by decide) (fun c21 => ?_) (fun c21 => absurd c21 (fun h => h ((nI_lei (b := 40) (by omega) (by decide)).mpr hm)))
  refine J.iload_n dX6_sheet_26 rfl rfl ?_
  refine J.if_ge (tgt := 33) dX6_sheet_27 (by decide) (fun c27 => ?_) (fun c27 => absurd c27 (fun h => h (nI_pos' (by omega))))
  refine J.aload_n dX6_sheet_33 rfl rfl ?_
  refine J.getfield dX6_sheet_34 jFX6_50 rfl rfl ?_
  refine J.iload_n dX6_sheet_37 rfl rfl ?_
  refine J.aaload5 (q := 58) dX6_sheet_38 rfl (vp_in_nI (n := 2) (by decide) (by decide)) rfl ?_
  refine J.iload_n dX6_sheet_39 rfl rfl ?_
  refine J.iload_n dX6_sheet_40 rfl rfl ?_
  refine J.cv (as := [.int _, .int _]) (is := [58, 59]) (o := 0) okX4_renew jcX6_225 (mX4_renew (c 2) (l 2) la (v 4 4) m hm) dX6_sheet_41 rfl rfl rfl rfl rfl rfl rfl (fun r9 B9 hq => ?_)
  obtain ⟨rfl, rfl⟩ := hq
  refine ⟨rfl, ?_⟩
  show J _ _ _ _ _ [] (wC rs (vset v 4 4 m) q x n u (cset c 2 (fun _ => 0)) (lset l 2 la) tn) _ _
  refine J.iconst (1) dX6_sheet_44 (by decide) ?_
  exact J.iret dX6_sheet_45 rfl rfl (Nat.le_refl _) (Nat.le_refl _) ⟨rfl, rfl⟩
set_option maxRecDepth 100000 in
set_option maxHeartbeats 4000000 in
theorem mX6_lay2f (rs : Nat → rT) (v : Nat → Nat → Nat) (q : rT) (x : Nat → Nat) (n : Nat → Int64) (u : uT) (c : Nat → Nat → Int32) (l : Nat → Int32) (tn : Int32) (i z : Int32) (hf : ¬ (fat (l 2) (v 4 4) i) = 0) : J KX6_lay 62 (fun o B => o = some (.int (-10 - (fat (l 2) (v 4 4) i))) ∧ B = (wC rs v q x n u c l tn)) 0 [some (.ref 0), some (.int 2), some (.int i), some (.int z), none] [] (wC rs v q x n u c l tn) 0 0 := by
  refine J.iload_n dX6_lay_0 rfl rfl ?_
  refine J.iconst (0) dX6_lay_1 (by decide) ?_
  refine J.iconst (3) dX6_lay_2 (by decide) ?_
  refine J.cs (as := [.int _, .int _, .int _]) (is := []) okX6_within jcX6_59 (mX6_within _ _ _) dX6_lay_3 rfl rfl rfl rfl rfl rfl (fun r9 B9 hq => ?_)
  obtain ⟨rfl, rfl⟩ := hq
  refine ⟨rfl, ?_⟩
  show J _ _ _ _ _ (.int _ :: _) (wC rs v q x n u c l tn) _ _
  refine J.if_ne (tgt := 11) dX6_lay_6 (by decide) (fun c6 => ?_) (fun c6 => absurd c6 (fun h => (jB_0 _).mp h (by decide)))
  refine J.aload_n dX6_lay_11 rfl rfl ?_
  refine J.getfield dX6_lay_12 jFX6_50 rfl rfl ?_
  refine J.iload_n dX6_lay_15 rfl rfl ?_
  refine J.aaload5 (q := 58) dX6_lay_16 rfl (vp_in_nI (n := 2) (by decide) (by decide)) rfl ?_
  refine J.iload_n dX6_lay_17 rfl rfl ?_
  refine J.cv (as := [.int _]) (is := [58, 59]) (o := 0) okX4_faultAt jcX6_228 (mX4_faultAt (c 2) (l 2) (v 4 4) i) dX6_lay_18 rfl rfl rfl rfl rfl rfl rfl (fun r9 B9 hq => ?_)
  obtain ⟨rfl, rfl⟩ := hq
  refine ⟨rfl, ?_⟩
  show J _ _ _ _ _ (.int _ :: _) (wC rs v q x n u c l tn) _ _
  refine J.istore dX6_lay_21 (by decide) rfl ?_
  try dsimp only [List.set]
  refine J.iload dX6_lay_23 rfl ?_
  refine J.if_eq (tgt := 34) dX6_lay_25 (by decide) (fun c25 => absurd c25 hf) (fun c25 => ?_)
  refine J.bipush (-10) dX6_lay_28 (by decide) ?_
  refine J.iload dX6_lay_30 rfl ?_
  refine J.isub dX6_lay_32 ?_
  exact J.iret dX6_lay_33 rfl rfl (Nat.le_refl _) (Nat.le_refl _) ⟨rfl, rfl⟩
set_option maxRecDepth 100000 in
set_option maxHeartbeats 4000000 in
theorem mX6_lay2 (rs : Nat → rT) (v : Nat → Nat → Nat) (q : rT) (x : Nat → Nat) (n : Nat → Int64) (u : uT) (c : Nat → Nat → Int32) (l : Nat → Int32) (tn : Int32) (j : Nat) (z : Int32) (hf : (fat (l 2) (v 4 4) (nI j)) = 0) (hj : j < v 4 4) (hl : v 4 4 ≤ 40) : J KX6_lay 62 (fun o B => o = some (.int (1)) ∧ B = (wC rs v q x n u (cset c 2 (upd (c 2) j (cnv (l 2) z))) l tn)) 0 [some (.ref 0), some (.int 2), some (.int (nI j)), some (.int z), none] [] (wC rs v q x n u c l tn) 0 0 := by
  refine J.iload_n dX6_lay_0 rfl rfl ?_
  refine J.iconst (0) dX6_lay_1 (by decide) ?_
  refine J.iconst (3) dX6_lay_2 (by decide) ?_
  refine J.cs (as := [.int _, .int _, .int _]) (is := []) okX6_within jcX6_59 (mX6_within _ _ _) dX6_lay_3 rfl rfl rfl rfl rfl rfl (fun r9 B9 hq => ?_)
  obtain ⟨rfl, rfl⟩ := hq
  refine ⟨rfl, ?_⟩
  show J _ _ _ _ _ (.int _ :: _) (wC rs v q x n u c l tn) _ _
  refine J.if_ne (tgt := 11) dX6_lay_6 (by decide) (fun c6 => ?_) (fun c6 => absurd c6 (fun h => (jB_0 _).mp h (by decide)))
  refine J.aload_n dX6_lay_11 rfl rfl ?_
  refine J.getfield dX6_lay_12 jFX6_50 rfl rfl ?_
  refine J.iload_n dX6_lay_15 rfl rfl ?_
  refine J.aaload5 (q := 58) dX6_lay_16 rfl (vp_in_nI (n := 2) (by decide) (by decide)) rfl ?_
  refine J.iload_n dX6_lay_17 rfl rfl ?_
  refine J.cv (as := [.int _]) (is := [58, 59]) (o := 0) okX4_faultAt jcX6_228 (mX4_faultAt (c 2) (l 2) (v 4 4) (nI j)) dX6_lay_18 rfl rfl rfl rfl rfl rfl rfl (fun r9 B9 hq => ?_)
  obtain ⟨rfl, rfl⟩ := hq
  refine ⟨rfl, ?_⟩
  show J _ _ _ _ _ (.int _ :: _) (wC rs v q x n u c l tn) _ _
  refine J.istore dX6_lay_21 (by decide) rfl ?_
  try dsimp only [List.set]
  refine J.iload dX6_lay_23 rfl ?_
  refine J.if_eq (tgt := 34) dX6_lay_25 (by decide) (fun c25 => ?_) (fun c25 => absurd c25 (fun h => h hf))
  refine J.aload_n dX6_lay_34 rfl rfl ?_
  refine J.getfield dX6_lay_35 jFX6_50 rfl rfl ?_
  refine J.iload_n dX6_lay_38 rfl rfl ?_
  refine J.aaload5 (q := 58) dX6_lay_39 rfl (vp_in_nI (n := 2) (by decide) (by decide)) rfl ?_
  refine J.iload_n dX6_lay_40 rfl rfl ?_
  refine J.iload_n dX6_lay_41 rfl rfl ?_
  refine J.cv (as := [.int _, .int _]) (is := [58, 59]) (o := 0) okX4_write jcX6_231 (mX4_write (c 2) (l 2) (v 4 4) j z hj hl) dX6_lay_42 rfl rfl rfl rfl rfl rfl rfl (fun r9 B9 hq => ?_)
  obtain ⟨rfl, rfl⟩ := hq
  refine ⟨rfl, ?_⟩
  show J _ _ _ _ _ [] (wC rs v q x n u (cset c 2 (upd (c 2) j (cnv (l 2) z))) l tn) _ _
  refine J.iconst (1) dX6_lay_45 (by decide) ?_
  exact J.iret dX6_lay_46 rfl rfl (Nat.le_refl _) (Nat.le_refl _) ⟨rfl, rfl⟩
set_option maxRecDepth 100000 in
set_option maxHeartbeats 4000000 in
theorem mX6_sheet3 (rs : Nat → rT) (v : Nat → Nat → Nat) (q : rT) (x : Nat → Nat) (n : Nat → Int64) (u : uT) (c : Nat → Nat → Int32) (l : Nat → Int32) (tn : Int32) (la : Int32) (hl : 0 ≤ la ∧ la ≤ 2) (m : Nat) (hm : m ≤ 40) : J KX6_sheet 62 (fun o B => o = some (.int (1)) ∧ B = (wC rs (vset v 4 5 m) q x n u (cset c 3 (fun _ => 0)) (lset l 3 la) tn)) 0 [some (.ref 0), some (.int 3), some (.int la), some (.int (nI m))] [] (wC rs v q x n u c l tn) 0 0 := by
  refine J.iload_n dX6_sheet_0 rfl rfl ?_
  refine J.iconst (0) dX6_sheet_1 (by decide) ?_
  refine J.iconst (3) dX6_sheet_2 (by decide) ?_
  refine J.cs (as := [.int _, .int _, .int _]) (is := []) okX6_within jcX6_59 (mX6_within _ _ _) dX6_sheet_3 rfl rfl rfl rfl rfl rfl (fun r9 B9 hq => ?_)
  obtain ⟨rfl, rfl⟩ := hq
  refine ⟨rfl, ?_⟩
  show J _ _ _ _ _ (.int _ :: _) (wC rs v q x n u c l tn) _ _
  refine J.if_eq (tgt := 24) dX6_sheet_6 (by decide) (fun c6 => absurd c6 (fun h => (jB_0 _).mp h (by decide))) (fun c6 => ?_)
  refine J.iload_n dX6_sheet_9 rfl rfl ?_
  refine J.iconst (0) dX6_sheet_10 (by decide) ?_
  refine J.iconst (2) dX6_sheet_11 (by decide) ?_
  refine J.cs (as := [.int _, .int _, .int _]) (is := []) okX6_within jcX6_59 (mX6_within _ _ _) dX6_sheet_12 rfl rfl rfl rfl rfl rfl (fun r9 B9 hq => ?_)
  obtain ⟨rfl, rfl⟩ := hq
  refine ⟨rfl, ?_⟩
  show J _ _ _ _ _ (.int _ :: _) (wC rs v q x n u c l tn) _ _
  refine J.if_eq (tgt := 24) dX6_sheet_15 (by decide) (fun c15 => absurd c15 (fun h => (jB_0 _).mp h hl)) (fun c15 => ?_)
  refine J.iload_n dX6_sheet_18 rfl rfl ?_
  refine J.bipush (40) dX6_sheet_19 (by decide) ?_
  refine J.icmp_le (tgt := 26) dX6_sheet_21 (by decide) (fun c21 => ?_) (fun c21 => absurd c21 (fun h => h ((nI_lei (b := 40) (by omega) (by decide)).mpr hm)))
  refine J.iload_n dX6_sheet_26 rfl rfl ?_
  refine J.if_ge (tgt := 33) dX6_sheet_27 (by decide) (fun c27 => ?_) (fun c27 => absurd c27 (fun h => h (nI_pos' (by omega))))
  refine J.aload_n dX6_sheet_33 rfl rfl ?_
  refine J.getfield dX6_sheet_34 jFX6_50 rfl rfl ?_
  refine J.iload_n dX6_sheet_37 rfl rfl ?_
  refine J.aaload5 (q := 60) dX6_sheet_38 rfl (vp_in_nI (n := 3) (by decide) (by decide)) rfl ?_
  refine J.iload_n dX6_sheet_39 rfl rfl ?_
  refine J.iload_n dX6_sheet_40 rfl rfl ?_
  refine J.cv (as := [.int _, .int _]) (is := [60, 61]) (o := 0) okX4_renew jcX6_225 (mX4_renew (c 3) (l 3) la (v 4 5) m hm) dX6_sheet_41 rfl rfl rfl rfl rfl rfl rfl (fun r9 B9 hq => ?_)
  obtain ⟨rfl, rfl⟩ := hq
  refine ⟨rfl, ?_⟩
  show J _ _ _ _ _ [] (wC rs (vset v 4 5 m) q x n u (cset c 3 (fun _ => 0)) (lset l 3 la) tn) _ _
  refine J.iconst (1) dX6_sheet_44 (by decide) ?_
  exact J.iret dX6_sheet_45 rfl rfl (Nat.le_refl _) (Nat.le_refl _) ⟨rfl, rfl⟩
set_option maxRecDepth 100000 in
set_option maxHeartbeats 4000000 in
theorem mX6_lay3f (rs : Nat → rT) (v : Nat → Nat → Nat) (q : rT) (x : Nat → Nat) (n : Nat → Int64) (u : uT) (c : Nat → Nat → Int32) (l : Nat → Int32) (tn : Int32) (i z : Int32) (hf : ¬ (fat (l 3) (v 4 5) i) = 0) : J KX6_lay 62 (fun o B => o = some (.int (-10 - (fat (l 3) (v 4 5) i))) ∧ B = (wC rs v q x n u c l tn)) 0 [some (.ref 0), some (.int 3), some (.int i), some (.int z), none] [] (wC rs v q x n u c l tn) 0 0 := by
  refine J.iload_n dX6_lay_0 rfl rfl ?_
  refine J.iconst (0) dX6_lay_1 (by decide) ?_
  refine J.iconst (3) dX6_lay_2 (by decide) ?_
  refine J.cs (as := [.int _, .int _, .int _]) (is := []) okX6_within jcX6_59 (mX6_within _ _ _) dX6_lay_3 rfl rfl rfl rfl rfl rfl (fun r9 B9 hq => ?_)
  obtain ⟨rfl, rfl⟩ := hq
  refine ⟨rfl, ?_⟩
  show J _ _ _ _ _ (.int _ :: _) (wC rs v q x n u c l tn) _ _
  refine J.if_ne (tgt := 11) dX6_lay_6 (by decide) (fun c6 => ?_) (fun c6 => absurd c6 (fun h => (jB_0 _).mp h (by decide)))
  refine J.aload_n dX6_lay_11 rfl rfl ?_
  refine J.getfield dX6_lay_12 jFX6_50 rfl rfl ?_
  refine J.iload_n dX6_lay_15 rfl rfl ?_
  refine J.aaload5 (q := 60) dX6_lay_16 rfl (vp_in_nI (n := 3) (by decide) (by decide)) rfl ?_
  refine J.iload_n dX6_lay_17 rfl rfl ?_
  refine J.cv (as := [.int _]) (is := [60, 61]) (o := 0) okX4_faultAt jcX6_228 (mX4_faultAt (c 3) (l 3) (v 4 5) i) dX6_lay_18 rfl rfl rfl rfl rfl rfl rfl (fun r9 B9 hq => ?_)
  obtain ⟨rfl, rfl⟩ := hq
  refine ⟨rfl, ?_⟩
  show J _ _ _ _ _ (.int _ :: _) (wC rs v q x n u c l tn) _ _
  refine J.istore dX6_lay_21 (by decide) rfl ?_
  try dsimp only [List.set]
  refine J.iload dX6_lay_23 rfl ?_
  refine J.if_eq (tgt := 34) dX6_lay_25 (by decide) (fun c25 => absurd c25 hf) (fun c25 => ?_)
  refine J.bipush (-10) dX6_lay_28 (by decide) ?_
  refine J.iload dX6_lay_30 rfl ?_
  refine J.isub dX6_lay_32 ?_
  exact J.iret dX6_lay_33 rfl rfl (Nat.le_refl _) (Nat.le_refl _) ⟨rfl, rfl⟩
set_option maxRecDepth 100000 in
set_option maxHeartbeats 4000000 in
theorem mX6_lay3 (rs : Nat → rT) (v : Nat → Nat → Nat) (q : rT) (x : Nat → Nat) (n : Nat → Int64) (u : uT) (c : Nat → Nat → Int32) (l : Nat → Int32) (tn : Int32) (j : Nat) (z : Int32) (hf : (fat (l 3) (v 4 5) (nI j)) = 0) (hj : j < v 4 5) (hl : v 4 5 ≤ 40) : J KX6_lay 62 (fun o B => o = some (.int (1)) ∧ B = (wC rs v q x n u (cset c 3 (upd (c 3) j (cnv (l 3) z))) l tn)) 0 [some (.ref 0), some (.int 3), some (.int (nI j)), some (.int z), none] [] (wC rs v q x n u c l tn) 0 0 := by
  refine J.iload_n dX6_lay_0 rfl rfl ?_
  refine J.iconst (0) dX6_lay_1 (by decide) ?_
  refine J.iconst (3) dX6_lay_2 (by decide) ?_
  refine J.cs (as := [.int _, .int _, .int _]) (is := []) okX6_within jcX6_59 (mX6_within _ _ _) dX6_lay_3 rfl rfl rfl rfl rfl rfl (fun r9 B9 hq => ?_)
  obtain ⟨rfl, rfl⟩ := hq
  refine ⟨rfl, ?_⟩
  show J _ _ _ _ _ (.int _ :: _) (wC rs v q x n u c l tn) _ _
  refine J.if_ne (tgt := 11) dX6_lay_6 (by decide) (fun c6 => ?_) (fun c6 => absurd c6 (fun h => (jB_0 _).mp h (by decide)))
  refine J.aload_n dX6_lay_11 rfl rfl ?_
  refine J.getfield dX6_lay_12 jFX6_50 rfl rfl ?_
  refine J.iload_n dX6_lay_15 rfl rfl ?_
  refine J.aaload5 (q := 60) dX6_lay_16 rfl (vp_in_nI (n := 3) (by decide) (by decide)) rfl ?_
  refine J.iload_n dX6_lay_17 rfl rfl ?_
  refine J.cv (as := [.int _]) (is := [60, 61]) (o := 0) okX4_faultAt jcX6_228 (mX4_faultAt (c 3) (l 3) (v 4 5) (nI j)) dX6_lay_18 rfl rfl rfl rfl rfl rfl rfl (fun r9 B9 hq => ?_)
  obtain ⟨rfl, rfl⟩ := hq
  refine ⟨rfl, ?_⟩
  show J _ _ _ _ _ (.int _ :: _) (wC rs v q x n u c l tn) _ _
  refine J.istore dX6_lay_21 (by decide) rfl ?_
  try dsimp only [List.set]
  refine J.iload dX6_lay_23 rfl ?_
  refine J.if_eq (tgt := 34) dX6_lay_25 (by decide) (fun c25 => ?_) (fun c25 => absurd c25 (fun h => h hf))
  refine J.aload_n dX6_lay_34 rfl rfl ?_
  refine J.getfield dX6_lay_35 jFX6_50 rfl rfl ?_
  refine J.iload_n dX6_lay_38 rfl rfl ?_
  refine J.aaload5 (q := 60) dX6_lay_39 rfl (vp_in_nI (n := 3) (by decide) (by decide)) rfl ?_
  refine J.iload_n dX6_lay_40 rfl rfl ?_
  refine J.iload_n dX6_lay_41 rfl rfl ?_
  refine J.cv (as := [.int _, .int _]) (is := [60, 61]) (o := 0) okX4_write jcX6_231 (mX4_write (c 3) (l 3) (v 4 5) j z hj hl) dX6_lay_42 rfl rfl rfl rfl rfl rfl rfl (fun r9 B9 hq => ?_)
  obtain ⟨rfl, rfl⟩ := hq
  refine ⟨rfl, ?_⟩
  show J _ _ _ _ _ [] (wC rs v q x n u (cset c 3 (upd (c 3) j (cnv (l 3) z))) l tn) _ _
  refine J.iconst (1) dX6_lay_45 (by decide) ?_
  exact J.iret dX6_lay_46 rfl rfl (Nat.le_refl _) (Nat.le_refl _) ⟨rfl, rfl⟩
set_option maxRecDepth 100000 in
set_option maxHeartbeats 4000000 in
theorem mX6_lay_bad (rs : Nat → rT) (v : Nat → Nat → Nat) (q : rT) (x : Nat → Nat) (n : Nat → Int64) (u : uT) (c : Nat → Nat → Int32) (l : Nat → Int32) (tn : Int32) (k i z : Int32) (hb : ¬ (0 ≤ k ∧ k ≤ 3)) : J KX6_lay 62 (fun o B => o = some (.int (-1)) ∧ B = (wC rs v q x n u c l tn)) 0 [some (.ref 0), some (.int k), some (.int i), some (.int z), none] [] (wC rs v q x n u c l tn) 0 0 := by
  refine J.iload_n dX6_lay_0 rfl rfl ?_
  refine J.iconst (0) dX6_lay_1 (by decide) ?_
  refine J.iconst (3) dX6_lay_2 (by decide) ?_
  refine J.cs (as := [.int _, .int _, .int _]) (is := []) okX6_within jcX6_59 (mX6_within _ _ _) dX6_lay_3 rfl rfl rfl rfl rfl rfl (fun r9 B9 hq => ?_)
  obtain ⟨rfl, rfl⟩ := hq
  refine ⟨rfl, ?_⟩
  show J _ _ _ _ _ (.int _ :: _) (wC rs v q x n u c l tn) _ _
  refine J.if_ne (tgt := 11) dX6_lay_6 (by decide) (fun c6 => absurd c6 (fun h => h ((jB_0 _).mpr hb))) (fun c6 => ?_)
  refine J.iconst (-1) dX6_lay_9 (by decide) ?_
  exact J.iret dX6_lay_10 rfl rfl (Nat.le_refl _) (Nat.le_refl _) ⟨rfl, rfl⟩
def countA (v : vT) (r : rT) (l : Nat → Int32) (z : Int32) : Int32 := if z = 0 then nI (v 4 1) else if z = 1 then nI (v 0 0) + nI (v 0 1) else if z = 2 then nI (v 4 0) else if z = 3 then (if l 0 = -1 then -4 else nI (v 4 2)) else if z = 4 then nI (pc3 (r 6 3)) else if z = 5 then nI (rages r (r 6 0)) else -1
set_option maxRecDepth 100000 in
set_option maxHeartbeats 4000000 in
theorem mX6_count (rs : Nat → rT) (v : Nat → Nat → Nat) (q : rT) (x : Nat → Nat) (n : Nat → Int64) (u : uT) (c : Nat → Nat → Int32) (l : Nat → Int32) (tn : Int32) (z : Int32) (hr : rOK (rs 0)) (h0 : v 0 0 ≤ 1) (h1 : v 0 1 ≤ 1) : J KX6_count 62 (fun o B => o = some (.int (countA v (rs 0) l z)) ∧ B = (wC rs v q x n u c l tn)) 0 [some (.ref 0), some (.int z)] [] (wC rs v q x n u c l tn) 0 0 := by
  refine J.iload_n dX6_count_0 rfl rfl ?_
  by_cases sw0 : z = 0
  · subst sw0
    refine J.tableIn (off := 39) (tgt := 40) dX6_count_1 (by decide) (by decide) (by decide) (by decide) ?_
    refine J.aload_n dX6_count_40 rfl rfl ?_
    refine J.getfield dX6_count_41 jFX6_44 rfl rfl ?_
    refine J.getfield dX6_count_44 jFX6_90 rfl rfl ?_
    exact J.iret dX6_count_47 rfl rfl (Nat.le_refl _) (Nat.le_refl _) ⟨rfl, rfl⟩
  by_cases sw1 : z = 1
  · subst sw1
    refine J.tableIn (off := 47) (tgt := 48) dX6_count_1 (by decide) (by decide) (by decide) (by decide) ?_
    refine J.aload_n dX6_count_48 rfl rfl ?_
    refine J.getfield dX6_count_49 jFX6_23 rfl rfl ?_
    refine J.iconst (0) dX6_count_52 (by decide) ?_
    refine J.zaload dX6_count_53 rfl (vp_in_nI (n := 0) (by decide) (by decide)) ?_
    refine J.if_eq (tgt := 61) dX6_count_54 (by decide) (fun c54 => ?_) (fun c54 => ?_)
    · refine J.iconst (0) dX6_count_61 (by decide) ?_
      refine J.aload_n dX6_count_62 rfl rfl ?_
      refine J.getfield dX6_count_63 jFX6_23 rfl rfl ?_
      refine J.iconst (1) dX6_count_66 (by decide) ?_
      refine J.zaload dX6_count_67 rfl (vp_in_nI (n := 1) (by decide) (by decide)) ?_
      refine J.if_eq (tgt := 75) dX6_count_68 (by decide) (fun c68 => ?_) (fun c68 => ?_)
      · refine J.iconst (0) dX6_count_75 (by decide) ?_
        refine J.iadd dX6_count_76 ?_
        refine J.iret dX6_count_77 rfl rfl (Nat.le_refl _) (Nat.le_refl _) ⟨congrArg (fun z => some (Value.int z)) (show _ = nI (v 0 0) + nI (v 0 1) from ?_), rfl⟩
        first | rw [(show nI (v 0 0) = 0 from c54), (show nI (v 0 1) = 0 from c68)] | rw [(show nI (v 0 0) = 0 from c54), kept1 h1 c68] | rw [kept1 h0 c54, (show nI (v 0 1) = 0 from c68)] | rw [kept1 h0 c54, kept1 h1 c68]
      · refine J.iconst (1) dX6_count_71 (by decide) ?_
        refine J.goto (tgt := 76) dX6_count_72 (by decide) ?_
        refine J.iadd dX6_count_76 ?_
        refine J.iret dX6_count_77 rfl rfl (Nat.le_refl _) (Nat.le_refl _) ⟨congrArg (fun z => some (Value.int z)) (show _ = nI (v 0 0) + nI (v 0 1) from ?_), rfl⟩
        first | rw [(show nI (v 0 0) = 0 from c54), (show nI (v 0 1) = 0 from c68)] | rw [(show nI (v 0 0) = 0 from c54), kept1 h1 c68] | rw [kept1 h0 c54, (show nI (v 0 1) = 0 from c68)] | rw [kept1 h0 c54, kept1 h1 c68]
    · refine J.iconst (1) dX6_count_57 (by decide) ?_
      refine J.goto (tgt := 62) dX6_count_58 (by decide) ?_
      refine J.aload_n dX6_count_62 rfl rfl ?_
      refine J.getfield dX6_count_63 jFX6_23 rfl rfl ?_
      refine J.iconst (1) dX6_count_66 (by decide) ?_
      refine J.zaload dX6_count_67 rfl (vp_in_nI (n := 1) (by decide) (by decide)) ?_
      refine J.if_eq (tgt := 75) dX6_count_68 (by decide) (fun c68 => ?_) (fun c68 => ?_)
      · refine J.iconst (0) dX6_count_75 (by decide) ?_
        refine J.iadd dX6_count_76 ?_
        refine J.iret dX6_count_77 rfl rfl (Nat.le_refl _) (Nat.le_refl _) ⟨congrArg (fun z => some (Value.int z)) (show _ = nI (v 0 0) + nI (v 0 1) from ?_), rfl⟩
        first | rw [(show nI (v 0 0) = 0 from c54), (show nI (v 0 1) = 0 from c68)] | rw [(show nI (v 0 0) = 0 from c54), kept1 h1 c68] | rw [kept1 h0 c54, (show nI (v 0 1) = 0 from c68)] | rw [kept1 h0 c54, kept1 h1 c68]
      · refine J.iconst (1) dX6_count_71 (by decide) ?_
        refine J.goto (tgt := 76) dX6_count_72 (by decide) ?_
        refine J.iadd dX6_count_76 ?_
        refine J.iret dX6_count_77 rfl rfl (Nat.le_refl _) (Nat.le_refl _) ⟨congrArg (fun z => some (Value.int z)) (show _ = nI (v 0 0) + nI (v 0 1) from ?_), rfl⟩
        first | rw [(show nI (v 0 0) = 0 from c54), (show nI (v 0 1) = 0 from c68)] | rw [(show nI (v 0 0) = 0 from c54), kept1 h1 c68] | rw [kept1 h0 c54, (show nI (v 0 1) = 0 from c68)] | rw [kept1 h0 c54, kept1 h1 c68]
  by_cases sw2 : z = 2
  · subst sw2
    refine J.tableIn (off := 77) (tgt := 78) dX6_count_1 (by decide) (by decide) (by decide) (by decide) ?_
    refine J.aload_n dX6_count_78 rfl rfl ?_
    refine J.getfield dX6_count_79 jFX6_30 rfl rfl ?_
    refine J.getfield dX6_count_82 jFX6_63 rfl rfl ?_
    refine J.getfield dX6_count_85 jFX6_73 rfl rfl ?_
    exact J.iret dX6_count_88 rfl rfl (Nat.le_refl _) (Nat.le_refl _) ⟨rfl, rfl⟩
  by_cases sw3 : z = 3
  · subst sw3
    refine J.tableIn (off := 88) (tgt := 89) dX6_count_1 (by decide) (by decide) (by decide) (by decide) ?_
    refine J.aload_n dX6_count_89 rfl rfl ?_
    refine J.getfield dX6_count_90 jFX6_50 rfl rfl ?_
    refine J.iconst (0) dX6_count_93 (by decide) ?_
    refine J.aaload5 (q := 54) dX6_count_94 rfl (vp_in_nI (n := 0) (by decide) (by decide)) rfl ?_
    refine J.getfield dX6_count_95 jFX6_241 rfl rfl ?_
    refine J.iconst (-1) dX6_count_98 (by decide) ?_
    refine J.icmp_ne (tgt := 107) dX6_count_99 (by decide) (fun c99 => ?_) (fun c99 => ?_)
    · refine J.aload_n dX6_count_107 rfl rfl ?_
      refine J.getfield dX6_count_108 jFX6_50 rfl rfl ?_
      refine J.iconst (0) dX6_count_111 (by decide) ?_
      refine J.aaload5 (q := 54) dX6_count_112 rfl (vp_in_nI (n := 0) (by decide) (by decide)) rfl ?_
      refine J.getfield dX6_count_113 jFX6_244 rfl rfl ?_
      first | exact J.iret dX6_count_116 rfl rfl (Nat.le_refl _) (Nat.le_refl _) ⟨congrArg (fun z => some (Value.int z)) (if_pos c99).symm, rfl⟩ | exact J.iret dX6_count_116 rfl rfl (Nat.le_refl _) (Nat.le_refl _) ⟨congrArg (fun z => some (Value.int z)) (if_neg c99).symm, rfl⟩
    · refine J.bipush (-4) dX6_count_102 (by decide) ?_
      refine J.goto (tgt := 116) dX6_count_104 (by decide) ?_
      first | exact J.iret dX6_count_116 rfl rfl (Nat.le_refl _) (Nat.le_refl _) ⟨congrArg (fun z => some (Value.int z)) (if_pos c99).symm, rfl⟩ | exact J.iret dX6_count_116 rfl rfl (Nat.le_refl _) (Nat.le_refl _) ⟨congrArg (fun z => some (Value.int z)) (if_neg c99).symm, rfl⟩
  by_cases sw4 : z = 4
  · subst sw4
    refine J.tableIn (off := 116) (tgt := 117) dX6_count_1 (by decide) (by decide) (by decide) (by decide) ?_
    refine J.aload_n dX6_count_117 rfl rfl ?_
    refine J.getfield dX6_count_118 jFX6_12 rfl rfl ?_
    refine J.getfield dX6_count_121 jFX6_111 rfl rfl ?_
    refine J.cs (as := [.int _]) (is := []) okJ6_bitCount_0f7a4 jcX6_245 (mJ6_bitCount_0f7a4 (rs 0 6 3) hr.w) dX6_count_124 rfl rfl rfl rfl rfl rfl (fun r9 B9 hq => ?_)
    obtain ⟨rfl, rfl⟩ := hq
    refine ⟨rfl, ?_⟩
    show J _ _ _ _ _ (.int _ :: _) (wC rs v q x n u c l tn) _ _
    exact J.iret dX6_count_127 rfl rfl (Nat.le_refl _) (Nat.le_refl _) ⟨rfl, rfl⟩
  by_cases sw5 : z = 5
  · subst sw5
    refine J.tableIn (off := 127) (tgt := 128) dX6_count_1 (by decide) (by decide) (by decide) (by decide) ?_
    refine J.aload_n dX6_count_128 rfl rfl ?_
    refine J.getfield dX6_count_129 jFX6_12 rfl rfl ?_
    refine J.cv (as := []) (is := [1, 2, 3, 4, 5, 6, 7]) (o := 0) okX2_allAges jcX6_250 (mX2_allAges (rs 0) hr.1) dX6_count_132 rfl rfl rfl rfl rfl rfl rfl (fun r9 B9 hq => ?_)
    obtain ⟨rfl, rfl⟩ := hq
    refine ⟨rfl, ?_⟩
    show J _ _ _ _ _ (.int _ :: _) (wC rs v q x n u c l tn) _ _
    exact J.iret dX6_count_135 rfl rfl (Nat.le_refl _) (Nat.le_refl _) ⟨rfl, rfl⟩
  refine J.tableOut (tgt := 136) dX6_count_1 (by have t0 := lv_neT sw0 (show (0 : Int32).toInt = 0 from rfl); have t1 := lv_neT sw1 (show (1 : Int32).toInt = 1 from rfl); have t2 := lv_neT sw2 (show (2 : Int32).toInt = 2 from rfl); have t3 := lv_neT sw3 (show (3 : Int32).toInt = 3 from rfl); have t4 := lv_neT sw4 (show (4 : Int32).toInt = 4 from rfl); have t5 := lv_neT sw5 (show (5 : Int32).toInt = 5 from rfl); omega) (by decide) ?_
  refine J.iconst (-1) dX6_count_136 (by decide) ?_
  exact J.iret dX6_count_137 rfl rfl (Nat.le_refl _) (Nat.le_refl _) ⟨congrArg (fun x => some (Value.int x)) (by rw [countA, if_neg sw0, if_neg sw1, if_neg sw2, if_neg sw3, if_neg sw4, if_neg sw5]), rfl⟩
/-- text(): the reader's state and draft behind it, and its answer -/
def txE (v : vT) (d : rT) : Nat → Nat := yE (v 4 0) (rdA (v 1) (v 4 0) 161 0 (yA0 (v 5)) (rclear d)).2.1 (rdA (v 1) (v 4 0) 161 0 (yA0 (v 5)) (rclear d)).2.2
def txD (v : vT) (d : rT) : rT := rset (rdA (v 1) (v 4 0) 161 0 (yA0 (v 5)) (rclear d)).2.2 6 3 ((rdA (v 1) (v 4 0) 161 0 (yA0 (v 5)) (rclear d)).2.2 6 3 &&& (7 - (rdA (v 1) (v 4 0) 161 0 (yA0 (v 5)) (rclear d)).2.1 4))
def txA (v : vT) (d : rT) : Int32 := ansA (rdA (v 1) (v 4 0) 161 0 (yA0 (v 5)) (rclear d)).1 (txE v d)
/-- the rows behind a text that is refused, taken -/
def txV (v : vT) (y : Nat → Nat) : vT := fun a => if a = 4 then (fun j => if j = 0 then 0 else v 4 j) else if a = 5 then y else v a
def txW (v : vT) (y : Nat → Nat) : vT := fun a => if a = 0 then (fun _ => 0) else if a = 4 then (fun j => if j = 0 then 0 else if j = 1 then 0 else v 4 j) else if a = 5 then y else v a
set_option maxRecDepth 100000 in
set_option maxHeartbeats 4000000 in
theorem mX6_text_no (rs : Nat → rT) (v : Nat → Nat → Nat) (q : rT) (x : Nat → Nat) (n : Nat → Int64) (u : uT) (c : Nat → Nat → Int32) (l : Nat → Int32) (tn : Int32) (hb : ∀ j, v 1 j < 128) (hl : v 4 0 ≤ 160) (hf : ¬ nI (txE v (rs 4) 7) = 0) : J KX6_text 62 (fun o B => o = some (.int (txA v (rs 4))) ∧ B = (wC (rsN rs 4 (txD v (rs 4))) (txV v (txE v (rs 4))) q x n u c l tn)) 0 [some (.ref 0), none, none] [] (wC rs v q x n u c l tn) 0 0 := by
  refine J.aload_n dX6_text_0 rfl rfl ?_
  refine J.getfield dX6_text_1 jFX6_30 rfl rfl ?_
  refine J.cv (as := []) (is := [17, 18, 19, 20, 21, 22, 23, 24, 25, 26]) (o := 0) okX1_readAll jcX6_76 (mX1_readAll (v 1) (v 4 0) (rs 4) hb hl (v 5)) dX6_text_4 rfl rfl rfl rfl rfl rfl rfl (fun r9 B9 hq => ?_)
  obtain ⟨rfl, rfl⟩ := hq
  refine ⟨rfl, ?_⟩
  show J _ _ _ _ _ (.int _ :: _) (wC (rsN rs 4 (txD v (rs 4))) (fun a => if a = 5 then txE v (rs 4) else v a) q x n u c l tn) _ _
  refine J.istore_n dX6_text_7 rfl (by decide) rfl ?_
  try dsimp only [List.set]
  refine J.aload_n dX6_text_8 rfl rfl ?_
  refine J.getfield dX6_text_9 jFX6_30 rfl rfl ?_
  refine J.getfield dX6_text_12 jFX6_63 rfl rfl ?_
  refine J.iconst (0) dX6_text_15 (by decide) ?_
  refine J.putfield dX6_text_16 jFX6_73 jP5_1 rfl rfl rfl (Nat.le_of_ble_eq_true rfl) ?_
  try dsimp only [List.set]
  refine J.aload_n dX6_text_19 rfl rfl ?_
  refine J.getfield dX6_text_20 jFX6_30 rfl rfl ?_
  refine J.getfield dX6_text_23 jFX6_80 rfl rfl ?_
  refine J.if_ne (tgt := 75) dX6_text_26 (by decide) (fun c26 => ?_) (fun c26 => absurd c26 hf)
  refine J.iload_n dX6_text_75 rfl rfl ?_
  exact J.iret dX6_text_76 rfl rfl (Nat.le_refl _) (Nat.le_refl _) ⟨rfl, rfl⟩
set_option maxRecDepth 100000 in
set_option maxHeartbeats 4000000 in
theorem mX6_text (rs : Nat → rT) (v : Nat → Nat → Nat) (q : rT) (x : Nat → Nat) (n : Nat → Int64) (u : uT) (c : Nat → Nat → Int32) (l : Nat → Int32) (tn : Int32) (hb : ∀ j, v 1 j < 128) (hl : v 4 0 ≤ 160) (hf : nI (txE v (rs 4) 7) = 0) : J KX6_text 62 (fun o B => o = some (.int (txA v (rs 4))) ∧ B = (wC (rsN (rsN rs 4 (txD v (rs 4))) 0 (txD v (rs 4))) (txW v (txE v (rs 4))) q x n u c l tn)) 0 [some (.ref 0), none, none] [] (wC rs v q x n u c l tn) 0 0 := by
  refine J.aload_n dX6_text_0 rfl rfl ?_
  refine J.getfield dX6_text_1 jFX6_30 rfl rfl ?_
  refine J.cv (as := []) (is := [17, 18, 19, 20, 21, 22, 23, 24, 25, 26]) (o := 0) okX1_readAll jcX6_76 (mX1_readAll (v 1) (v 4 0) (rs 4) hb hl (v 5)) dX6_text_4 rfl rfl rfl rfl rfl rfl rfl (fun r9 B9 hq => ?_)
  obtain ⟨rfl, rfl⟩ := hq
  refine ⟨rfl, ?_⟩
  show J _ _ _ _ _ (.int _ :: _) (wC (rsN rs 4 (txD v (rs 4))) (fun a => if a = 5 then txE v (rs 4) else v a) q x n u c l tn) _ _
  refine J.istore_n dX6_text_7 rfl (by decide) rfl ?_
  try dsimp only [List.set]
  refine J.aload_n dX6_text_8 rfl rfl ?_
  refine J.getfield dX6_text_9 jFX6_30 rfl rfl ?_
  refine J.getfield dX6_text_12 jFX6_63 rfl rfl ?_
  refine J.iconst (0) dX6_text_15 (by decide) ?_
  refine J.putfield dX6_text_16 jFX6_73 jP5_1 rfl rfl rfl (Nat.le_of_ble_eq_true rfl) ?_
  try dsimp only [List.set]
  refine J.aload_n dX6_text_19 rfl rfl ?_
  refine J.getfield dX6_text_20 jFX6_30 rfl rfl ?_
  refine J.getfield dX6_text_23 jFX6_80 rfl rfl ?_
  refine J.if_ne (tgt := 75) dX6_text_26 (by decide) (fun c26 => absurd c26 (fun h => h hf)) (fun c26 => ?_)
  refine J.aload_n dX6_text_29 rfl rfl ?_
  refine J.getfield dX6_text_30 jFX6_12 rfl rfl ?_
  refine J.aload_n dX6_text_33 rfl rfl ?_
  refine J.getfield dX6_text_34 jFX6_30 rfl rfl ?_
  refine J.getfield dX6_text_37 jFX6_83 rfl rfl ?_
  refine J.cv (as := [.ref 7]) (is := [1, 2, 3, 4, 5, 6, 7, 20, 21, 22, 23, 24, 25, 26]) (o := 0) okX2_copy jcX6_86 (mX2_copy (rs 0) (txD v (rs 4))) dX6_text_40 rfl rfl rfl rfl rfl rfl rfl (fun r9 B9 hq => ?_)
  obtain ⟨rfl, rfl⟩ := hq
  refine ⟨rfl, ?_⟩
  show J _ _ _ _ _ [] (wC (rsN (rsN rs 4 (txD v (rs 4))) 0 (txD v (rs 4))) (txV v (txE v (rs 4))) q x n u c l tn) _ _
  refine J.aload_n dX6_text_43 rfl rfl ?_
  refine J.getfield dX6_text_44 jFX6_44 rfl rfl ?_
  refine J.iconst (0) dX6_text_47 (by decide) ?_
  refine J.putfield dX6_text_48 jFX6_90 jP3_2 rfl rfl rfl (Nat.le_of_ble_eq_true rfl) ?_
  try dsimp only [List.set]
  refine J.iconst (0) dX6_text_51 (by decide) ?_
  refine J.istore_n dX6_text_52 rfl (by decide) rfl ?_
  try dsimp only [List.set]
  refine J.iload_n dX6_text_53 rfl rfl ?_
  refine J.aload_n dX6_text_54 rfl rfl ?_
  refine J.getfield dX6_text_55 jFX6_23 rfl rfl ?_
  refine J.arraylength dX6_text_58 rfl (by decide) ?_
  refine J.icmp_ge (tgt := 75) dX6_text_59 (by decide) (fun c59 => absurd c59 (show ¬ (2 : Int32) ≤ 0 from by decide)) (fun c59 => ?_)
  refine J.aload_n dX6_text_62 rfl rfl ?_
  refine J.getfield dX6_text_63 jFX6_23 rfl rfl ?_
  refine J.iload_n dX6_text_66 rfl rfl ?_
  refine J.iconst (0) dX6_text_67 (by decide) ?_
  refine J.zastoreN (i := 0) dX6_text_68 rfl (by decide) ?_
  try dsimp only [List.set]
  refine J.iinc (1) dX6_text_69 (by decide) rfl (by decide) rfl ?_
  try dsimp only [List.set]
  refine J.goto (tgt := 53) dX6_text_72 (by decide) ?_
  refine J.iload_n dX6_text_53 rfl rfl ?_
  refine J.aload_n dX6_text_54 rfl rfl ?_
  refine J.getfield dX6_text_55 jFX6_23 rfl rfl ?_
  refine J.arraylength dX6_text_58 rfl (by decide) ?_
  refine J.icmp_ge (tgt := 75) dX6_text_59 (by decide) (fun c59 => absurd c59 (show ¬ (2 : Int32) ≤ 0 + 1 from by decide)) (fun c59 => ?_)
  refine J.aload_n dX6_text_62 rfl rfl ?_
  refine J.getfield dX6_text_63 jFX6_23 rfl rfl ?_
  refine J.iload_n dX6_text_66 rfl rfl ?_
  refine J.iconst (0) dX6_text_67 (by decide) ?_
  refine J.zastoreN (i := 1) dX6_text_68 rfl (by decide) ?_
  try dsimp only [List.set]
  refine J.iinc (1) dX6_text_69 (by decide) rfl (by decide) rfl ?_
  try dsimp only [List.set]
  refine J.goto (tgt := 53) dX6_text_72 (by decide) ?_
  refine J.iload_n dX6_text_53 rfl rfl ?_
  refine J.aload_n dX6_text_54 rfl rfl ?_
  refine J.getfield dX6_text_55 jFX6_23 rfl rfl ?_
  refine J.arraylength dX6_text_58 rfl (by decide) ?_
  refine J.icmp_ge (tgt := 75) dX6_text_59 (by decide) (fun c59 => ?_) (fun c59 => absurd c59 (fun h => h (show (2 : Int32) ≤ 0 + 1 + 1 from by decide)))
  refine J.iload_n dX6_text_75 rfl rfl ?_
  refine J.arrI 16 3 (fun _ => 0) rfl (fun j hj => ?_) ?_
  · match j, hj with
    | 0, _ => rfl
    | 1, _ => rfl
  exact J.iret dX6_text_76 rfl rfl (Nat.le_refl _) (Nat.le_refl _) ⟨rfl, rfl⟩
