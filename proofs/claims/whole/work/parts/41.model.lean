/-! ===== the reference's small methods ===== -/
/-- the reference's state beside a realm -/
def mS (s : Nat → Int32) (r : rT) : Prop := (∀ i, i < r 6 0 → s (3 * i) = nI (r 0 i) ∧ s (3 * i + 1) = nI (r 1 i) ∧ s (3 * i + 2) = nI (1 - bit (r 6 3) i)) ∧ s 9 = nI (r 6 4) - 3 ∧ (∀ k, k < r 6 1 → s (10 + 2 * k) = nI (r 2 k) ∧ s (10 + 2 * k + 1) = nI (r 3 k)) ∧ s 18 = nI (r 6 5) - 9 ∧ s 19 = nI (r 6 6)
def mL (la : Nat → Int32) (r : rT) : Prop := ∀ i, i < r 6 2 → la (2 * i) = nI (r 4 i) ∧ la (2 * i + 1) = nI (r 5 i)
def mbya (v : vT) (k : Nat) : Int32 := if k < v 4 0 then nI (v 1 k) else -4
theorem vfeed (v : vT) (a : Nat) : vset (vset v 1 (v 4 0) a) 4 0 (v 4 0 + 1) = fun y => if y = 1 then (fun j => if j = v 4 0 then a else v 1 j) else if y = 4 then (fun j => if j = 0 then v 4 0 + 1 else v 4 j) else v y := by
  funext y
  unfold vset
  by_cases h4 : y = 4
  · subst h4
    rfl
  · by_cases h1 : y = 1
    · subst h1
      rfl
    · simp only [if_neg h4, if_neg h1]
theorem wh_s : ∀ k, k < 8 → ∀ i, i < 3 → (nI (1 - bit k i) = 0 → nI (k % 2 ^ i) ||| 1 <<< (nI i &&& 31) = nI (k % 2 ^ (i + 1))) ∧ (¬ nI (1 - bit k i) = 0 → nI (k % 2 ^ i) ||| 0 = nI (k % 2 ^ (i + 1))) := by decide +kernel
theorem dX7_byteAt_0 : decode cX7_byteAt 0 = .ok (.iload_n 1, 1) := by decide +kernel
theorem dX7_byteAt_1 : decode cX7_byteAt 1 = .ok (.aload_n 0, 1) := by decide +kernel
theorem dX7_byteAt_2 : decode cX7_byteAt 2 = .ok (.getfield 78, 3) := by decide +kernel
theorem dX7_byteAt_5 : decode cX7_byteAt 5 = .ok (.if_icmp .ge 12, 3) := by decide +kernel
theorem dX7_byteAt_8 : decode cX7_byteAt 8 = .ok (.aload_n 0, 1) := by decide +kernel
theorem dX7_byteAt_9 : decode cX7_byteAt 9 = .ok (.getfield 22, 3) := by decide +kernel
theorem dX7_byteAt_12 : decode cX7_byteAt 12 = .ok (.iload_n 1, 1) := by decide +kernel
theorem dX7_byteAt_13 : decode cX7_byteAt 13 = .ok (.iaload, 1) := by decide +kernel
theorem dX7_byteAt_14 : decode cX7_byteAt 14 = .ok (.goto 5, 3) := by decide +kernel
theorem dX7_byteAt_17 : decode cX7_byteAt 17 = .ok (.bipush (-4), 2) := by decide +kernel
theorem dX7_byteAt_19 : decode cX7_byteAt 19 = .ok (.ireturn, 1) := by decide +kernel
theorem dX7_feed_0 : decode cX7_feed 0 = .ok (.iload_n 1, 1) := by decide +kernel
theorem dX7_feed_1 : decode cX7_feed 1 = .ok (.i2l, 1) := by decide +kernel
theorem dX7_feed_2 : decode cX7_feed 2 = .ok (.lconst 0, 1) := by decide +kernel
theorem dX7_feed_3 : decode cX7_feed 3 = .ok (.ldc2_w 72, 3) := by decide +kernel
theorem dX7_feed_6 : decode cX7_feed 6 = .ok (.invokestatic 74, 3) := by decide +kernel
theorem dX7_feed_9 : decode cX7_feed 9 = .ok (.ifCond .ne 5, 3) := by decide +kernel
theorem dX7_feed_12 : decode cX7_feed 12 = .ok (.iconst (-1), 1) := by decide +kernel
theorem dX7_feed_13 : decode cX7_feed 13 = .ok (.ireturn, 1) := by decide +kernel
theorem dX7_feed_14 : decode cX7_feed 14 = .ok (.aload_n 0, 1) := by decide +kernel
theorem dX7_feed_15 : decode cX7_feed 15 = .ok (.getfield 78, 3) := by decide +kernel
theorem dX7_feed_18 : decode cX7_feed 18 = .ok (.sipush 160, 3) := by decide +kernel
theorem dX7_feed_21 : decode cX7_feed 21 = .ok (.if_icmp .ne 6, 3) := by decide +kernel
theorem dX7_feed_24 : decode cX7_feed 24 = .ok (.bipush (-3), 2) := by decide +kernel
theorem dX7_feed_26 : decode cX7_feed 26 = .ok (.ireturn, 1) := by decide +kernel
theorem dX7_feed_27 : decode cX7_feed 27 = .ok (.aload_n 0, 1) := by decide +kernel
theorem dX7_feed_28 : decode cX7_feed 28 = .ok (.getfield 22, 3) := by decide +kernel
theorem dX7_feed_31 : decode cX7_feed 31 = .ok (.aload_n 0, 1) := by decide +kernel
theorem dX7_feed_32 : decode cX7_feed 32 = .ok (.getfield 78, 3) := by decide +kernel
theorem dX7_feed_35 : decode cX7_feed 35 = .ok (.iload_n 1, 1) := by decide +kernel
theorem dX7_feed_36 : decode cX7_feed 36 = .ok (.iastore, 1) := by decide +kernel
theorem dX7_feed_37 : decode cX7_feed 37 = .ok (.aload_n 0, 1) := by decide +kernel
theorem dX7_feed_38 : decode cX7_feed 38 = .ok (.dup, 1) := by decide +kernel
theorem dX7_feed_39 : decode cX7_feed 39 = .ok (.getfield 78, 3) := by decide +kernel
theorem dX7_feed_42 : decode cX7_feed 42 = .ok (.iconst 1, 1) := by decide +kernel
theorem dX7_feed_43 : decode cX7_feed 43 = .ok (.iadd, 1) := by decide +kernel
theorem dX7_feed_44 : decode cX7_feed 44 = .ok (.putfield 78, 3) := by decide +kernel
theorem dX7_feed_47 : decode cX7_feed 47 = .ok (.aload_n 0, 1) := by decide +kernel
theorem dX7_feed_48 : decode cX7_feed 48 = .ok (.getfield 78, 3) := by decide +kernel
theorem dX7_feed_51 : decode cX7_feed 51 = .ok (.ireturn, 1) := by decide +kernel
theorem dX7_end_0 : decode cX7_end 0 = .ok (.iload_n 1, 1) := by decide +kernel
theorem dX7_end_1 : decode cX7_end 1 = .ok (.i2l, 1) := by decide +kernel
theorem dX7_end_2 : decode cX7_end 2 = .ok (.lconst 0, 1) := by decide +kernel
theorem dX7_end_3 : decode cX7_end 3 = .ok (.aload_n 0, 1) := by decide +kernel
theorem dX7_end_4 : decode cX7_end 4 = .ok (.getfield 78, 3) := by decide +kernel
theorem dX7_end_7 : decode cX7_end 7 = .ok (.i2l, 1) := by decide +kernel
theorem dX7_end_8 : decode cX7_end 8 = .ok (.invokestatic 74, 3) := by decide +kernel
theorem dX7_end_11 : decode cX7_end 11 = .ok (.ifCond .ne 5, 3) := by decide +kernel
theorem dX7_end_14 : decode cX7_end 14 = .ok (.iconst (-1), 1) := by decide +kernel
theorem dX7_end_15 : decode cX7_end 15 = .ok (.ireturn, 1) := by decide +kernel
theorem dX7_end_16 : decode cX7_end 16 = .ok (.aload_n 0, 1) := by decide +kernel
theorem dX7_end_17 : decode cX7_end 17 = .ok (.getfield 78, 3) := by decide +kernel
theorem dX7_end_20 : decode cX7_end 20 = .ok (.istore_n 2, 1) := by decide +kernel
theorem dX7_end_21 : decode cX7_end 21 = .ok (.aload_n 0, 1) := by decide +kernel
theorem dX7_end_22 : decode cX7_end 22 = .ok (.iload_n 1, 1) := by decide +kernel
theorem dX7_end_23 : decode cX7_end 23 = .ok (.putfield 78, 3) := by decide +kernel
theorem dX7_end_26 : decode cX7_end 26 = .ok (.iload_n 2, 1) := by decide +kernel
theorem dX7_end_27 : decode cX7_end 27 = .ok (.ireturn, 1) := by decide +kernel
theorem dX7_fault_0 : decode cX7_fault 0 = .ok (.aload_n 0, 1) := by decide +kernel
theorem dX7_fault_1 : decode cX7_fault 1 = .ok (.getfield 156, 3) := by decide +kernel
theorem dX7_fault_4 : decode cX7_fault 4 = .ok (.ireturn, 1) := by decide +kernel
theorem dX7_torn_0 : decode cX7_torn 0 = .ok (.aload_n 0, 1) := by decide +kernel
theorem dX7_torn_1 : decode cX7_torn 1 = .ok (.getfield 287, 3) := by decide +kernel
theorem dX7_torn_4 : decode cX7_torn 4 = .ok (.ireturn, 1) := by decide +kernel
theorem dX7_isHair_0 : decode cX7_isHair 0 = .ok (.iload_n 1, 1) := by decide +kernel
theorem dX7_isHair_1 : decode cX7_isHair 1 = .ok (.i2l, 1) := by decide +kernel
theorem dX7_isHair_2 : decode cX7_isHair 2 = .ok (.lconst 0, 1) := by decide +kernel
theorem dX7_isHair_3 : decode cX7_isHair 3 = .ok (.aload_n 0, 1) := by decide +kernel
theorem dX7_isHair_4 : decode cX7_isHair 4 = .ok (.getfield 159, 3) := by decide +kernel
theorem dX7_isHair_7 : decode cX7_isHair 7 = .ok (.iconst 1, 1) := by decide +kernel
theorem dX7_isHair_8 : decode cX7_isHair 8 = .ok (.isub, 1) := by decide +kernel
theorem dX7_isHair_9 : decode cX7_isHair 9 = .ok (.i2l, 1) := by decide +kernel
theorem dX7_isHair_10 : decode cX7_isHair 10 = .ok (.invokestatic 74, 3) := by decide +kernel
theorem dX7_isHair_13 : decode cX7_isHair 13 = .ok (.ireturn, 1) := by decide +kernel
theorem dX7_isKing_0 : decode cX7_isKing 0 = .ok (.iload_n 1, 1) := by decide +kernel
theorem dX7_isKing_1 : decode cX7_isKing 1 = .ok (.i2l, 1) := by decide +kernel
theorem dX7_isKing_2 : decode cX7_isKing 2 = .ok (.lconst 0, 1) := by decide +kernel
theorem dX7_isKing_3 : decode cX7_isKing 3 = .ok (.aload_n 0, 1) := by decide +kernel
theorem dX7_isKing_4 : decode cX7_isKing 4 = .ok (.getfield 162, 3) := by decide +kernel
theorem dX7_isKing_7 : decode cX7_isKing 7 = .ok (.iconst 1, 1) := by decide +kernel
theorem dX7_isKing_8 : decode cX7_isKing 8 = .ok (.isub, 1) := by decide +kernel
theorem dX7_isKing_9 : decode cX7_isKing 9 = .ok (.i2l, 1) := by decide +kernel
theorem dX7_isKing_10 : decode cX7_isKing 10 = .ok (.invokestatic 74, 3) := by decide +kernel
theorem dX7_isKing_13 : decode cX7_isKing 13 = .ok (.ireturn, 1) := by decide +kernel
theorem dX7_load_0 : decode cX7_load 0 = .ok (.aload_n 0, 1) := by decide +kernel
theorem dX7_load_1 : decode cX7_load 1 = .ok (.getfield 7, 3) := by decide +kernel
theorem dX7_load_4 : decode cX7_load 4 = .ok (.bipush 9, 2) := by decide +kernel
theorem dX7_load_6 : decode cX7_load 6 = .ok (.iaload, 1) := by decide +kernel
theorem dX7_load_7 : decode cX7_load 7 = .ok (.iconst 3, 1) := by decide +kernel
theorem dX7_load_8 : decode cX7_load 8 = .ok (.iadd, 1) := by decide +kernel
theorem dX7_load_9 : decode cX7_load 9 = .ok (.ireturn, 1) := by decide +kernel
theorem dX7_prize_0 : decode cX7_prize 0 = .ok (.aload_n 0, 1) := by decide +kernel
theorem dX7_prize_1 : decode cX7_prize 1 = .ok (.getfield 7, 3) := by decide +kernel
theorem dX7_prize_4 : decode cX7_prize 4 = .ok (.bipush 18, 2) := by decide +kernel
theorem dX7_prize_6 : decode cX7_prize 6 = .ok (.iaload, 1) := by decide +kernel
theorem dX7_prize_7 : decode cX7_prize 7 = .ok (.bipush 9, 2) := by decide +kernel
theorem dX7_prize_9 : decode cX7_prize 9 = .ok (.iadd, 1) := by decide +kernel
theorem dX7_prize_10 : decode cX7_prize 10 = .ok (.ireturn, 1) := by decide +kernel
theorem dX7_wholeNow_0 : decode cX7_wholeNow 0 = .ok (.iconst 0, 1) := by decide +kernel
theorem dX7_wholeNow_1 : decode cX7_wholeNow 1 = .ok (.istore_n 1, 1) := by decide +kernel
theorem dX7_wholeNow_2 : decode cX7_wholeNow 2 = .ok (.iconst 0, 1) := by decide +kernel
theorem dX7_wholeNow_3 : decode cX7_wholeNow 3 = .ok (.istore_n 2, 1) := by decide +kernel
theorem dX7_wholeNow_4 : decode cX7_wholeNow 4 = .ok (.iload_n 2, 1) := by decide +kernel
theorem dX7_wholeNow_5 : decode cX7_wholeNow 5 = .ok (.aload_n 0, 1) := by decide +kernel
theorem dX7_wholeNow_6 : decode cX7_wholeNow 6 = .ok (.getfield 159, 3) := by decide +kernel
theorem dX7_wholeNow_9 : decode cX7_wholeNow 9 = .ok (.if_icmp .ge 32, 3) := by decide +kernel
theorem dX7_wholeNow_12 : decode cX7_wholeNow 12 = .ok (.iload_n 1, 1) := by decide +kernel
theorem dX7_wholeNow_13 : decode cX7_wholeNow 13 = .ok (.aload_n 0, 1) := by decide +kernel
theorem dX7_wholeNow_14 : decode cX7_wholeNow 14 = .ok (.getfield 7, 3) := by decide +kernel
theorem dX7_wholeNow_17 : decode cX7_wholeNow 17 = .ok (.iconst 3, 1) := by decide +kernel
theorem dX7_wholeNow_18 : decode cX7_wholeNow 18 = .ok (.iload_n 2, 1) := by decide +kernel
theorem dX7_wholeNow_19 : decode cX7_wholeNow 19 = .ok (.imul, 1) := by decide +kernel
theorem dX7_wholeNow_20 : decode cX7_wholeNow 20 = .ok (.iconst 2, 1) := by decide +kernel
theorem dX7_wholeNow_21 : decode cX7_wholeNow 21 = .ok (.iadd, 1) := by decide +kernel
theorem dX7_wholeNow_22 : decode cX7_wholeNow 22 = .ok (.iaload, 1) := by decide +kernel
theorem dX7_wholeNow_23 : decode cX7_wholeNow 23 = .ok (.ifCond .ne 9, 3) := by decide +kernel
theorem dX7_wholeNow_26 : decode cX7_wholeNow 26 = .ok (.iconst 1, 1) := by decide +kernel
theorem dX7_wholeNow_27 : decode cX7_wholeNow 27 = .ok (.iload_n 2, 1) := by decide +kernel
theorem dX7_wholeNow_28 : decode cX7_wholeNow 28 = .ok (.ishl, 1) := by decide +kernel
theorem dX7_wholeNow_29 : decode cX7_wholeNow 29 = .ok (.goto 4, 3) := by decide +kernel
theorem dX7_wholeNow_32 : decode cX7_wholeNow 32 = .ok (.iconst 0, 1) := by decide +kernel
theorem dX7_wholeNow_33 : decode cX7_wholeNow 33 = .ok (.ior, 1) := by decide +kernel
theorem dX7_wholeNow_34 : decode cX7_wholeNow 34 = .ok (.istore_n 1, 1) := by decide +kernel
theorem dX7_wholeNow_35 : decode cX7_wholeNow 35 = .ok (.iinc 2 1, 3) := by decide +kernel
theorem dX7_wholeNow_38 : decode cX7_wholeNow 38 = .ok (.goto (-34), 3) := by decide +kernel
theorem dX7_wholeNow_41 : decode cX7_wholeNow 41 = .ok (.iload_n 1, 1) := by decide +kernel
theorem dX7_wholeNow_42 : decode cX7_wholeNow 42 = .ok (.ireturn, 1) := by decide +kernel
theorem dX7_rule_0 : decode cX7_rule 0 = .ok (.iload_n 1, 1) := by decide +kernel
theorem dX7_rule_1 : decode cX7_rule 1 = .ok (.tableswitch 98 0 7 #[47, 52, 57, 62, 67, 72, 80, 85], 47) := by decide +kernel
theorem dX7_rule_48 : decode cX7_rule 48 = .ok (.aload_n 0, 1) := by decide +kernel
theorem dX7_rule_49 : decode cX7_rule 49 = .ok (.getfield 159, 3) := by decide +kernel
theorem dX7_rule_52 : decode cX7_rule 52 = .ok (.ireturn, 1) := by decide +kernel
theorem dX7_rule_53 : decode cX7_rule 53 = .ok (.aload_n 0, 1) := by decide +kernel
theorem dX7_rule_54 : decode cX7_rule 54 = .ok (.getfield 162, 3) := by decide +kernel
theorem dX7_rule_57 : decode cX7_rule 57 = .ok (.ireturn, 1) := by decide +kernel
theorem dX7_rule_58 : decode cX7_rule 58 = .ok (.aload_n 0, 1) := by decide +kernel
theorem dX7_rule_59 : decode cX7_rule 59 = .ok (.getfield 165, 3) := by decide +kernel
theorem dX7_rule_62 : decode cX7_rule 62 = .ok (.ireturn, 1) := by decide +kernel
theorem dX7_rule_63 : decode cX7_rule 63 = .ok (.aload_n 0, 1) := by decide +kernel
theorem dX7_rule_64 : decode cX7_rule 64 = .ok (.invokevirtual 171, 3) := by decide +kernel
theorem dX7_rule_67 : decode cX7_rule 67 = .ok (.ireturn, 1) := by decide +kernel
theorem dX7_rule_68 : decode cX7_rule 68 = .ok (.aload_n 0, 1) := by decide +kernel
theorem dX7_rule_69 : decode cX7_rule 69 = .ok (.invokevirtual 174, 3) := by decide +kernel
theorem dX7_rule_72 : decode cX7_rule 72 = .ok (.ireturn, 1) := by decide +kernel
theorem dX7_rule_73 : decode cX7_rule 73 = .ok (.aload_n 0, 1) := by decide +kernel
theorem dX7_rule_74 : decode cX7_rule 74 = .ok (.getfield 7, 3) := by decide +kernel
theorem dX7_rule_77 : decode cX7_rule 77 = .ok (.bipush 19, 2) := by decide +kernel
theorem dX7_rule_79 : decode cX7_rule 79 = .ok (.iaload, 1) := by decide +kernel
theorem dX7_rule_80 : decode cX7_rule 80 = .ok (.ireturn, 1) := by decide +kernel
theorem dX7_rule_81 : decode cX7_rule 81 = .ok (.aload_n 0, 1) := by decide +kernel
theorem dX7_rule_82 : decode cX7_rule 82 = .ok (.invokevirtual 177, 3) := by decide +kernel
theorem dX7_rule_85 : decode cX7_rule 85 = .ok (.ireturn, 1) := by decide +kernel
theorem dX7_rule_86 : decode cX7_rule 86 = .ok (.aload_n 0, 1) := by decide +kernel
theorem dX7_rule_87 : decode cX7_rule 87 = .ok (.invokevirtual 177, 3) := by decide +kernel
theorem dX7_rule_90 : decode cX7_rule 90 = .ok (.ifCond .ne 7, 3) := by decide +kernel
theorem dX7_rule_93 : decode cX7_rule 93 = .ok (.iconst 1, 1) := by decide +kernel
theorem dX7_rule_94 : decode cX7_rule 94 = .ok (.goto 4, 3) := by decide +kernel
theorem dX7_rule_97 : decode cX7_rule 97 = .ok (.iconst 0, 1) := by decide +kernel
theorem dX7_rule_98 : decode cX7_rule 98 = .ok (.ireturn, 1) := by decide +kernel
theorem dX7_rule_99 : decode cX7_rule 99 = .ok (.iconst (-1), 1) := by decide +kernel
theorem dX7_rule_100 : decode cX7_rule 100 = .ok (.ireturn, 1) := by decide +kernel
theorem dX7_lays_0 : decode cX7_lays 0 = .ok (.aload_n 0, 1) := by decide +kernel
theorem dX7_lays_1 : decode cX7_lays 1 = .ok (.aload_n 0, 1) := by decide +kernel
theorem dX7_lays_2 : decode cX7_lays 2 = .ok (.getfield 159, 3) := by decide +kernel
theorem dX7_lays_5 : decode cX7_lays 5 = .ok (.putfield 180, 3) := by decide +kernel
theorem dX7_lays_8 : decode cX7_lays 8 = .ok (.aload_n 0, 1) := by decide +kernel
theorem dX7_lays_9 : decode cX7_lays 9 = .ok (.aload_n 0, 1) := by decide +kernel
theorem dX7_lays_10 : decode cX7_lays 10 = .ok (.invokevirtual 177, 3) := by decide +kernel
theorem dX7_lays_13 : decode cX7_lays 13 = .ok (.putfield 183, 3) := by decide +kernel
theorem dX7_lays_16 : decode cX7_lays 16 = .ok (.aload_n 0, 1) := by decide +kernel
theorem dX7_lays_17 : decode cX7_lays 17 = .ok (.aload_n 0, 1) := by decide +kernel
theorem dX7_lays_18 : decode cX7_lays 18 = .ok (.invokevirtual 171, 3) := by decide +kernel
theorem dX7_lays_21 : decode cX7_lays 21 = .ok (.putfield 186, 3) := by decide +kernel
theorem dX7_lays_24 : decode cX7_lays 24 = .ok (.iconst 0, 1) := by decide +kernel
theorem dX7_lays_25 : decode cX7_lays 25 = .ok (.istore_n 1, 1) := by decide +kernel
theorem dX7_lays_26 : decode cX7_lays 26 = .ok (.iload_n 1, 1) := by decide +kernel
theorem dX7_lays_27 : decode cX7_lays 27 = .ok (.aload_n 0, 1) := by decide +kernel
theorem dX7_lays_28 : decode cX7_lays 28 = .ok (.getfield 159, 3) := by decide +kernel
theorem dX7_lays_31 : decode cX7_lays 31 = .ok (.if_icmp .ge 39, 3) := by decide +kernel
theorem dX7_lays_34 : decode cX7_lays 34 = .ok (.aload_n 0, 1) := by decide +kernel
theorem dX7_lays_35 : decode cX7_lays 35 = .ok (.getfield 31, 3) := by decide +kernel
theorem dX7_lays_38 : decode cX7_lays 38 = .ok (.iload_n 1, 1) := by decide +kernel
theorem dX7_lays_39 : decode cX7_lays 39 = .ok (.aload_n 0, 1) := by decide +kernel
theorem dX7_lays_40 : decode cX7_lays 40 = .ok (.getfield 7, 3) := by decide +kernel
theorem dX7_lays_43 : decode cX7_lays 43 = .ok (.iconst 3, 1) := by decide +kernel
theorem dX7_lays_44 : decode cX7_lays 44 = .ok (.iload_n 1, 1) := by decide +kernel
theorem dX7_lays_45 : decode cX7_lays 45 = .ok (.imul, 1) := by decide +kernel
theorem dX7_lays_46 : decode cX7_lays 46 = .ok (.iaload, 1) := by decide +kernel
theorem dX7_lays_47 : decode cX7_lays 47 = .ok (.iastore, 1) := by decide +kernel
theorem dX7_lays_48 : decode cX7_lays 48 = .ok (.aload_n 0, 1) := by decide +kernel
theorem dX7_lays_49 : decode cX7_lays 49 = .ok (.getfield 34, 3) := by decide +kernel
theorem dX7_lays_52 : decode cX7_lays 52 = .ok (.iload_n 1, 1) := by decide +kernel
theorem dX7_lays_53 : decode cX7_lays 53 = .ok (.aload_n 0, 1) := by decide +kernel
theorem dX7_lays_54 : decode cX7_lays 54 = .ok (.getfield 7, 3) := by decide +kernel
theorem dX7_lays_57 : decode cX7_lays 57 = .ok (.iconst 3, 1) := by decide +kernel
theorem dX7_lays_58 : decode cX7_lays 58 = .ok (.iload_n 1, 1) := by decide +kernel
theorem dX7_lays_59 : decode cX7_lays 59 = .ok (.imul, 1) := by decide +kernel
theorem dX7_lays_60 : decode cX7_lays 60 = .ok (.iconst 1, 1) := by decide +kernel
theorem dX7_lays_61 : decode cX7_lays 61 = .ok (.iadd, 1) := by decide +kernel
theorem dX7_lays_62 : decode cX7_lays 62 = .ok (.iaload, 1) := by decide +kernel
theorem dX7_lays_63 : decode cX7_lays 63 = .ok (.iastore, 1) := by decide +kernel
theorem dX7_lays_64 : decode cX7_lays 64 = .ok (.iinc 1 1, 3) := by decide +kernel
theorem dX7_lays_67 : decode cX7_lays 67 = .ok (.goto (-41), 3) := by decide +kernel
theorem dX7_lays_70 : decode cX7_lays 70 = .ok (.return_, 1) := by decide +kernel
theorem dX7_laysNew_0 : decode cX7_laysNew 0 = .ok (.aload_n 0, 1) := by decide +kernel
theorem dX7_laysNew_1 : decode cX7_laysNew 1 = .ok (.iload_n 2, 1) := by decide +kernel
theorem dX7_laysNew_2 : decode cX7_laysNew 2 = .ok (.putfield 180, 3) := by decide +kernel
theorem dX7_laysNew_5 : decode cX7_laysNew 5 = .ok (.aload_n 0, 1) := by decide +kernel
theorem dX7_laysNew_6 : decode cX7_laysNew 6 = .ok (.iconst 1, 1) := by decide +kernel
theorem dX7_laysNew_7 : decode cX7_laysNew 7 = .ok (.iload_n 2, 1) := by decide +kernel
theorem dX7_laysNew_8 : decode cX7_laysNew 8 = .ok (.ishl, 1) := by decide +kernel
theorem dX7_laysNew_9 : decode cX7_laysNew 9 = .ok (.iconst 1, 1) := by decide +kernel
theorem dX7_laysNew_10 : decode cX7_laysNew 10 = .ok (.isub, 1) := by decide +kernel
theorem dX7_laysNew_11 : decode cX7_laysNew 11 = .ok (.putfield 183, 3) := by decide +kernel
theorem dX7_laysNew_14 : decode cX7_laysNew 14 = .ok (.aload_n 0, 1) := by decide +kernel
theorem dX7_laysNew_15 : decode cX7_laysNew 15 = .ok (.aload_n 0, 1) := by decide +kernel
theorem dX7_laysNew_16 : decode cX7_laysNew 16 = .ok (.invokevirtual 171, 3) := by decide +kernel
theorem dX7_laysNew_19 : decode cX7_laysNew 19 = .ok (.putfield 186, 3) := by decide +kernel
theorem dX7_laysNew_22 : decode cX7_laysNew 22 = .ok (.iconst 0, 1) := by decide +kernel
theorem dX7_laysNew_23 : decode cX7_laysNew 23 = .ok (.istore_n 3, 1) := by decide +kernel
theorem dX7_laysNew_24 : decode cX7_laysNew 24 = .ok (.iload_n 3, 1) := by decide +kernel
theorem dX7_laysNew_25 : decode cX7_laysNew 25 = .ok (.iload_n 2, 1) := by decide +kernel
theorem dX7_laysNew_26 : decode cX7_laysNew 26 = .ok (.if_icmp .ge 23, 3) := by decide +kernel
theorem dX7_laysNew_29 : decode cX7_laysNew 29 = .ok (.aload_n 0, 1) := by decide +kernel
theorem dX7_laysNew_30 : decode cX7_laysNew 30 = .ok (.getfield 31, 3) := by decide +kernel
theorem dX7_laysNew_33 : decode cX7_laysNew 33 = .ok (.iload_n 3, 1) := by decide +kernel
theorem dX7_laysNew_34 : decode cX7_laysNew 34 = .ok (.iload_n 1, 1) := by decide +kernel
theorem dX7_laysNew_35 : decode cX7_laysNew 35 = .ok (.iastore, 1) := by decide +kernel
theorem dX7_laysNew_36 : decode cX7_laysNew 36 = .ok (.aload_n 0, 1) := by decide +kernel
theorem dX7_laysNew_37 : decode cX7_laysNew 37 = .ok (.getfield 34, 3) := by decide +kernel
theorem dX7_laysNew_40 : decode cX7_laysNew 40 = .ok (.iload_n 3, 1) := by decide +kernel
theorem dX7_laysNew_41 : decode cX7_laysNew 41 = .ok (.iconst 0, 1) := by decide +kernel
theorem dX7_laysNew_42 : decode cX7_laysNew 42 = .ok (.iastore, 1) := by decide +kernel
theorem dX7_laysNew_43 : decode cX7_laysNew 43 = .ok (.iinc 3 1, 3) := by decide +kernel
theorem dX7_laysNew_46 : decode cX7_laysNew 46 = .ok (.goto (-22), 3) := by decide +kernel
theorem dX7_laysNew_49 : decode cX7_laysNew 49 = .ok (.return_, 1) := by decide +kernel
theorem dX7_breaksOf_0 : decode cX7_breaksOf 0 = .ok (.aload_n 0, 1) := by decide +kernel
theorem dX7_breaksOf_1 : decode cX7_breaksOf 1 = .ok (.getfield 34, 3) := by decide +kernel
theorem dX7_breaksOf_4 : decode cX7_breaksOf 4 = .ok (.iload_n 1, 1) := by decide +kernel
theorem dX7_breaksOf_5 : decode cX7_breaksOf 5 = .ok (.iaload, 1) := by decide +kernel
theorem dX7_breaksOf_6 : decode cX7_breaksOf 6 = .ok (.iload_n 2, 1) := by decide +kernel
theorem dX7_breaksOf_7 : decode cX7_breaksOf 7 = .ok (.iadd, 1) := by decide +kernel
theorem dX7_breaksOf_8 : decode cX7_breaksOf 8 = .ok (.bipush 9, 2) := by decide +kernel
theorem dX7_breaksOf_10 : decode cX7_breaksOf 10 = .ok (.if_icmp .le 8, 3) := by decide +kernel
theorem dX7_breaksOf_13 : decode cX7_breaksOf 13 = .ok (.bipush 9, 2) := by decide +kernel
theorem dX7_breaksOf_15 : decode cX7_breaksOf 15 = .ok (.goto 11, 3) := by decide +kernel
theorem dX7_breaksOf_18 : decode cX7_breaksOf 18 = .ok (.aload_n 0, 1) := by decide +kernel
theorem dX7_breaksOf_19 : decode cX7_breaksOf 19 = .ok (.getfield 34, 3) := by decide +kernel
theorem dX7_breaksOf_22 : decode cX7_breaksOf 22 = .ok (.iload_n 1, 1) := by decide +kernel
theorem dX7_breaksOf_23 : decode cX7_breaksOf 23 = .ok (.iaload, 1) := by decide +kernel
theorem dX7_breaksOf_24 : decode cX7_breaksOf 24 = .ok (.iload_n 2, 1) := by decide +kernel
theorem dX7_breaksOf_25 : decode cX7_breaksOf 25 = .ok (.iadd, 1) := by decide +kernel
theorem dX7_breaksOf_26 : decode cX7_breaksOf 26 = .ok (.istore 4, 2) := by decide +kernel
theorem dX7_breaksOf_28 : decode cX7_breaksOf 28 = .ok (.iload 4, 2) := by decide +kernel
theorem dX7_breaksOf_30 : decode cX7_breaksOf 30 = .ok (.iconst 2, 1) := by decide +kernel
theorem dX7_breaksOf_31 : decode cX7_breaksOf 31 = .ok (.idiv, 1) := by decide +kernel
theorem dX7_breaksOf_32 : decode cX7_breaksOf 32 = .ok (.istore 5, 2) := by decide +kernel
theorem dX7_breaksOf_34 : decode cX7_breaksOf 34 = .ok (.aload_n 0, 1) := by decide +kernel
theorem dX7_breaksOf_35 : decode cX7_breaksOf 35 = .ok (.getfield 31, 3) := by decide +kernel
theorem dX7_breaksOf_38 : decode cX7_breaksOf 38 = .ok (.iload_n 1, 1) := by decide +kernel
theorem dX7_breaksOf_39 : decode cX7_breaksOf 39 = .ok (.iaload, 1) := by decide +kernel
theorem dX7_breaksOf_40 : decode cX7_breaksOf 40 = .ok (.iconst 3, 1) := by decide +kernel
theorem dX7_breaksOf_41 : decode cX7_breaksOf 41 = .ok (.if_icmp .ge 15, 3) := by decide +kernel
theorem dX7_breaksOf_44 : decode cX7_breaksOf 44 = .ok (.iload 5, 2) := by decide +kernel
theorem dX7_breaksOf_46 : decode cX7_breaksOf 46 = .ok (.aload_n 0, 1) := by decide +kernel
theorem dX7_breaksOf_47 : decode cX7_breaksOf 47 = .ok (.getfield 31, 3) := by decide +kernel
theorem dX7_breaksOf_50 : decode cX7_breaksOf 50 = .ok (.iload_n 1, 1) := by decide +kernel
theorem dX7_breaksOf_51 : decode cX7_breaksOf 51 = .ok (.iaload, 1) := by decide +kernel
theorem dX7_breaksOf_52 : decode cX7_breaksOf 52 = .ok (.iadd, 1) := by decide +kernel
theorem dX7_breaksOf_53 : decode cX7_breaksOf 53 = .ok (.goto 16, 3) := by decide +kernel
theorem dX7_breaksOf_56 : decode cX7_breaksOf 56 = .ok (.iload 5, 2) := by decide +kernel
theorem dX7_breaksOf_58 : decode cX7_breaksOf 58 = .ok (.iconst 2, 1) := by decide +kernel
theorem dX7_breaksOf_59 : decode cX7_breaksOf 59 = .ok (.idiv, 1) := by decide +kernel
theorem dX7_breaksOf_60 : decode cX7_breaksOf 60 = .ok (.aload_n 0, 1) := by decide +kernel
theorem dX7_breaksOf_61 : decode cX7_breaksOf 61 = .ok (.getfield 31, 3) := by decide +kernel
theorem dX7_breaksOf_64 : decode cX7_breaksOf 64 = .ok (.iload_n 1, 1) := by decide +kernel
theorem dX7_breaksOf_65 : decode cX7_breaksOf 65 = .ok (.iaload, 1) := by decide +kernel
theorem dX7_breaksOf_66 : decode cX7_breaksOf 66 = .ok (.iconst 3, 1) := by decide +kernel
theorem dX7_breaksOf_67 : decode cX7_breaksOf 67 = .ok (.isub, 1) := by decide +kernel
theorem dX7_breaksOf_68 : decode cX7_breaksOf 68 = .ok (.isub, 1) := by decide +kernel
theorem dX7_breaksOf_69 : decode cX7_breaksOf 69 = .ok (.istore 5, 2) := by decide +kernel
theorem dX7_breaksOf_71 : decode cX7_breaksOf 71 = .ok (.iload 5, 2) := by decide +kernel
theorem dX7_breaksOf_73 : decode cX7_breaksOf 73 = .ok (.aload_n 0, 1) := by decide +kernel
theorem dX7_breaksOf_74 : decode cX7_breaksOf 74 = .ok (.getfield 186, 3) := by decide +kernel
theorem dX7_breaksOf_77 : decode cX7_breaksOf 77 = .ok (.iload_n 3, 1) := by decide +kernel
theorem dX7_breaksOf_78 : decode cX7_breaksOf 78 = .ok (.invokestatic 189, 3) := by decide +kernel
theorem dX7_breaksOf_81 : decode cX7_breaksOf 81 = .ok (.iadd, 1) := by decide +kernel
theorem dX7_breaksOf_82 : decode cX7_breaksOf 82 = .ok (.iconst 1, 1) := by decide +kernel
theorem dX7_breaksOf_83 : decode cX7_breaksOf 83 = .ok (.isub, 1) := by decide +kernel
theorem dX7_breaksOf_84 : decode cX7_breaksOf 84 = .ok (.iload_n 3, 1) := by decide +kernel
theorem dX7_breaksOf_85 : decode cX7_breaksOf 85 = .ok (.invokestatic 189, 3) := by decide +kernel
theorem dX7_breaksOf_88 : decode cX7_breaksOf 88 = .ok (.idiv, 1) := by decide +kernel
theorem dX7_breaksOf_89 : decode cX7_breaksOf 89 = .ok (.iadd, 1) := by decide +kernel
theorem dX7_breaksOf_90 : decode cX7_breaksOf 90 = .ok (.iconst 1, 1) := by decide +kernel
theorem dX7_breaksOf_91 : decode cX7_breaksOf 91 = .ok (.isub, 1) := by decide +kernel
theorem dX7_breaksOf_92 : decode cX7_breaksOf 92 = .ok (.istore 6, 2) := by decide +kernel
theorem dX7_breaksOf_94 : decode cX7_breaksOf 94 = .ok (.iload 6, 2) := by decide +kernel
theorem dX7_breaksOf_96 : decode cX7_breaksOf 96 = .ok (.ifCond .ge 7, 3) := by decide +kernel
theorem dX7_breaksOf_99 : decode cX7_breaksOf 99 = .ok (.iconst 0, 1) := by decide +kernel
theorem dX7_breaksOf_100 : decode cX7_breaksOf 100 = .ok (.goto 17, 3) := by decide +kernel
theorem dX7_breaksOf_103 : decode cX7_breaksOf 103 = .ok (.iload 6, 2) := by decide +kernel
theorem dX7_breaksOf_105 : decode cX7_breaksOf 105 = .ok (.bipush 10, 2) := by decide +kernel
theorem dX7_breaksOf_107 : decode cX7_breaksOf 107 = .ok (.if_icmp .le 8, 3) := by decide +kernel
theorem dX7_breaksOf_110 : decode cX7_breaksOf 110 = .ok (.bipush 10, 2) := by decide +kernel
theorem dX7_breaksOf_112 : decode cX7_breaksOf 112 = .ok (.goto 5, 3) := by decide +kernel
theorem dX7_breaksOf_115 : decode cX7_breaksOf 115 = .ok (.iload 6, 2) := by decide +kernel
theorem dX7_breaksOf_117 : decode cX7_breaksOf 117 = .ok (.ireturn, 1) := by decide +kernel
set_option maxRecDepth 100000 in
set_option maxHeartbeats 4000000 in
theorem mX7_byteAt (s : Nat → Int32) (la : Nat → Int32) (r : rT) (v : vT) (c : Nat → Nat → Int32) (l : Nat → Int32) (tn : Int32) (p : Nat → Int32) (pa : Nat → Nat → Int32) (m : Nat) (q : rT) (b : Int32) (x : Nat → Nat) (h : Nat → Nat → Int64) (k : Nat) (hk : k < 1000) (hl : v 4 0 ≤ 160) : J KX7_byteAt 21 (fun o B => o = some (.int (mbya v k)) ∧ B = (wM s la r v c l tn p pa m q b x h)) 0 [some (.ref 0), some (.int (nI k))] [] (wM s la r v c l tn p pa m q b x h) 0 0 := by
  refine J.iload_n dX7_byteAt_0 rfl rfl ?_
  refine J.aload_n dX7_byteAt_1 rfl rfl ?_
  refine J.mg13 dX7_byteAt_2 rfl ?_
  refine J.icmp_ge (tgt := 17) dX7_byteAt_5 (by decide) (fun c5 => ?_) (fun c5 => ?_)
  · refine J.bipush (-4) dX7_byteAt_17 (by decide) ?_
    first | exact J.iret dX7_byteAt_19 rfl rfl (Nat.le_refl _) (Nat.le_refl _) ⟨congrArg (fun z => some (Value.int z)) (if_pos hk2).symm, rfl⟩ | exact J.iret dX7_byteAt_19 rfl rfl (Nat.le_refl _) (Nat.le_refl _) ⟨congrArg (fun z => some (Value.int z)) (if_neg (fun h9 => absurd ((nI_lei (by omega) (by omega)).mp c5) (by omega))).symm, rfl⟩
  · refine J.aload_n dX7_byteAt_8 rfl rfl ?_
    refine J.mg12 dX7_byteAt_9 rfl ?_
    refine J.iload_n dX7_byteAt_12 rfl rfl ?_
    have hk2 : k < v 4 0 := Nat.not_le.mp (fun h9 => c5 ((nI_lei (by omega) (by omega)).mpr h9))
    refine J.ml5 (k) dX7_byteAt_13 rfl (by omega) ?_
    refine J.goto (tgt := 19) dX7_byteAt_14 (by decide) ?_
    first | exact J.iret dX7_byteAt_19 rfl rfl (Nat.le_refl _) (Nat.le_refl _) ⟨congrArg (fun z => some (Value.int z)) (if_pos hk2).symm, rfl⟩ | exact J.iret dX7_byteAt_19 rfl rfl (Nat.le_refl _) (Nat.le_refl _) ⟨congrArg (fun z => some (Value.int z)) (if_neg (fun h9 => absurd ((nI_lei (by omega) (by omega)).mp c5) (by omega))).symm, rfl⟩
set_option maxRecDepth 100000 in
set_option maxHeartbeats 4000000 in
theorem mX7_feed (s : Nat → Int32) (la : Nat → Int32) (r : rT) (v : vT) (c : Nat → Nat → Int32) (l : Nat → Int32) (tn : Int32) (p : Nat → Int32) (pa : Nat → Nat → Int32) (m : Nat) (q : rT) (b : Int32) (x : Nat → Nat) (h : Nat → Nat → Int64) (a : Nat) (ha : a ≤ 127) (hm : v 4 0 < 160) : J KX7_feed 21 (fun o B => o = some (.int (nI (v 4 0 + 1))) ∧ B = (wM s la r (fun y => if y = 1 then (fun j => if j = v 4 0 then a else v 1 j) else if y = 4 then (fun j => if j = 0 then v 4 0 + 1 else v 4 j) else v y) c l tn p pa m q b x h)) 0 [some (.ref 0), some (.int (nI a))] [] (wM s la r v c l tn p pa m q b x h) 0 0 := by
  refine J.iload_n dX7_feed_0 rfl rfl ?_
  refine J.i2l dX7_feed_1 ?_
  refine J.lconst 0 dX7_feed_2 (by decide) ?_
  refine J.ldc2 (v := 127) dX7_feed_3 (jt 909 rfl rfl) ?_
  refine J.cs (as := [.long _, .long _, .long _]) (is := []) okX7_in jcX7_74 (mX7_inI (nI a) 0 127 (by decide) (by decide)) dX7_feed_6 rfl rfl rfl rfl rfl rfl (fun r9 B9 hq => ?_)
  obtain ⟨rfl, rfl⟩ := hq
  refine ⟨rfl, ?_⟩
  show J _ _ _ _ _ (.int _ :: _) (wM s la r v c l tn p pa m q b x h) _ _
  refine J.if_ne (tgt := 14) dX7_feed_9 (by decide) (fun c9 => ?_) (fun c9 => absurd c9 (fun h => (jB_0 _).mp h (jw (a := 0) (c := 127) (by decide) (Nat.zero_le _) ha)))
  refine J.aload_n dX7_feed_14 rfl rfl ?_
  refine J.mg13 dX7_feed_15 rfl ?_
  refine J.sipush (160) dX7_feed_18 (by decide) ?_
  refine J.icmp_ne (tgt := 27) dX7_feed_21 (by decide) (fun c21 => ?_) (fun c21 => absurd c21 (fun h9 => by have := (nI_eqi (b := 160) (by omega) (by decide)).mp h9; omega))
  refine J.aload_n dX7_feed_27 rfl rfl ?_
  refine J.mg12 dX7_feed_28 rfl ?_
  refine J.aload_n dX7_feed_31 rfl rfl ?_
  refine J.mg13 dX7_feed_32 rfl ?_
  refine J.iload_n dX7_feed_35 rfl rfl ?_
  refine J.ms5 (v 4 0) dX7_feed_36 rfl (by omega) ?_
  try dsimp only [List.set]
  refine J.aload_n dX7_feed_37 rfl rfl ?_
  refine J.dup dX7_feed_38 rfl ?_
  refine J.mg13 dX7_feed_39 rfl ?_
  refine J.iconst (1) dX7_feed_42 (by decide) ?_
  refine J.iadd dX7_feed_43 ?_
  rw [nI_1]
  refine J.mp13 dX7_feed_44 rfl ?_
  try dsimp only [List.set]
  refine J.aload_n dX7_feed_47 rfl rfl ?_
  refine J.mg13 dX7_feed_48 rfl ?_
  exact J.iret dX7_feed_51 rfl rfl (Nat.le_refl _) (Nat.le_refl _) ⟨rfl, congrArg (fun v9 => (wM s la r v9 c l tn p pa m q b x h)) (vfeed v a)⟩
set_option maxRecDepth 100000 in
set_option maxHeartbeats 4000000 in
theorem mX7_feed_full (s : Nat → Int32) (la : Nat → Int32) (r : rT) (v : vT) (c : Nat → Nat → Int32) (l : Nat → Int32) (tn : Int32) (p : Nat → Int32) (pa : Nat → Nat → Int32) (m : Nat) (q : rT) (b : Int32) (x : Nat → Nat) (h : Nat → Nat → Int64) (a : Nat) (ha : a ≤ 127) (hm : v 4 0 = 160) : J KX7_feed 21 (fun o B => o = some (.int (-3)) ∧ B = (wM s la r v c l tn p pa m q b x h)) 0 [some (.ref 0), some (.int (nI a))] [] (wM s la r v c l tn p pa m q b x h) 0 0 := by
  refine J.iload_n dX7_feed_0 rfl rfl ?_
  refine J.i2l dX7_feed_1 ?_
  refine J.lconst 0 dX7_feed_2 (by decide) ?_
  refine J.ldc2 (v := 127) dX7_feed_3 (jt 909 rfl rfl) ?_
  refine J.cs (as := [.long _, .long _, .long _]) (is := []) okX7_in jcX7_74 (mX7_inI (nI a) 0 127 (by decide) (by decide)) dX7_feed_6 rfl rfl rfl rfl rfl rfl (fun r9 B9 hq => ?_)
  obtain ⟨rfl, rfl⟩ := hq
  refine ⟨rfl, ?_⟩
  show J _ _ _ _ _ (.int _ :: _) (wM s la r v c l tn p pa m q b x h) _ _
  refine J.if_ne (tgt := 14) dX7_feed_9 (by decide) (fun c9 => ?_) (fun c9 => absurd c9 (fun h => (jB_0 _).mp h (jw (a := 0) (c := 127) (by decide) (Nat.zero_le _) ha)))
  refine J.aload_n dX7_feed_14 rfl rfl ?_
  refine J.mg13 dX7_feed_15 rfl ?_
  refine J.sipush (160) dX7_feed_18 (by decide) ?_
  refine J.icmp_ne (tgt := 27) dX7_feed_21 (by decide) (fun c21 => absurd c21 (fun h9 => h9 (by rw [hm] <;> rfl))) (fun c21 => ?_)
  refine J.bipush (-3) dX7_feed_24 (by decide) ?_
  exact J.iret dX7_feed_26 rfl rfl (Nat.le_refl _) (Nat.le_refl _) ⟨rfl, rfl⟩
set_option maxRecDepth 100000 in
set_option maxHeartbeats 4000000 in
theorem mX7_feed_bad (s : Nat → Int32) (la : Nat → Int32) (r : rT) (v : vT) (c : Nat → Nat → Int32) (l : Nat → Int32) (tn : Int32) (p : Nat → Int32) (pa : Nat → Nat → Int32) (m : Nat) (q : rT) (b : Int32) (x : Nat → Nat) (h : Nat → Nat → Int64) (z : Int32) (hb : ¬ (0 ≤ z ∧ z ≤ 127)) : J KX7_feed 21 (fun o B => o = some (.int (-1)) ∧ B = (wM s la r v c l tn p pa m q b x h)) 0 [some (.ref 0), some (.int z)] [] (wM s la r v c l tn p pa m q b x h) 0 0 := by
  refine J.iload_n dX7_feed_0 rfl rfl ?_
  refine J.i2l dX7_feed_1 ?_
  refine J.lconst 0 dX7_feed_2 (by decide) ?_
  refine J.ldc2 (v := 127) dX7_feed_3 (jt 909 rfl rfl) ?_
  refine J.cs (as := [.long _, .long _, .long _]) (is := []) okX7_in jcX7_74 (mX7_inI z 0 127 (by decide) (by decide)) dX7_feed_6 rfl rfl rfl rfl rfl rfl (fun r9 B9 hq => ?_)
  obtain ⟨rfl, rfl⟩ := hq
  refine ⟨rfl, ?_⟩
  show J _ _ _ _ _ (.int _ :: _) (wM s la r v c l tn p pa m q b x h) _ _
  refine J.if_ne (tgt := 14) dX7_feed_9 (by decide) (fun c9 => absurd c9 (fun h => h ((jB_0 _).mpr hb))) (fun c9 => ?_)
  refine J.iconst (-1) dX7_feed_12 (by decide) ?_
  exact J.iret dX7_feed_13 rfl rfl (Nat.le_refl _) (Nat.le_refl _) ⟨rfl, rfl⟩
set_option maxRecDepth 100000 in
set_option maxHeartbeats 4000000 in
theorem mX7_end (s : Nat → Int32) (la : Nat → Int32) (r : rT) (v : vT) (c : Nat → Nat → Int32) (l : Nat → Int32) (tn : Int32) (p : Nat → Int32) (pa : Nat → Nat → Int32) (m : Nat) (q : rT) (b : Int32) (x : Nat → Nat) (h : Nat → Nat → Int64) (k : Nat) (hk : k ≤ v 4 0) (hm : v 4 0 ≤ 160) : J KX7_end 21 (fun o B => o = some (.int (nI (v 4 0))) ∧ B = (wM s la r (vset v 4 0 k) c l tn p pa m q b x h)) 0 [some (.ref 0), some (.int (nI k)), none] [] (wM s la r v c l tn p pa m q b x h) 0 0 := by
  refine J.iload_n dX7_end_0 rfl rfl ?_
  refine J.i2l dX7_end_1 ?_
  refine J.lconst 0 dX7_end_2 (by decide) ?_
  refine J.aload_n dX7_end_3 rfl rfl ?_
  refine J.mg13 dX7_end_4 rfl ?_
  refine J.i2l dX7_end_7 ?_
  refine J.cs (as := [.long _, .long _, .long _]) (is := []) okX7_in jcX7_74 (mX7_inI (nI k) 0 (nI (v 4 0)) (by decide) rfl) dX7_end_8 rfl rfl rfl rfl rfl rfl (fun r9 B9 hq => ?_)
  obtain ⟨rfl, rfl⟩ := hq
  refine ⟨rfl, ?_⟩
  show J _ _ _ _ _ (.int _ :: _) (wM s la r v c l tn p pa m q b x h) _ _
  refine J.if_ne (tgt := 16) dX7_end_11 (by decide) (fun c11 => ?_) (fun c11 => absurd c11 (fun h => (jB_0 _).mp h (jw (a := 0) (by omega) (Nat.zero_le _) hk)))
  refine J.aload_n dX7_end_16 rfl rfl ?_
  refine J.mg13 dX7_end_17 rfl ?_
  refine J.istore_n dX7_end_20 rfl (by decide) rfl ?_
  try dsimp only [List.set]
  refine J.aload_n dX7_end_21 rfl rfl ?_
  refine J.iload_n dX7_end_22 rfl rfl ?_
  refine J.mp13 dX7_end_23 rfl ?_
  try dsimp only [List.set]
  refine J.iload_n dX7_end_26 rfl rfl ?_
  exact J.iret dX7_end_27 rfl rfl (Nat.le_refl _) (Nat.le_refl _) ⟨rfl, rfl⟩
set_option maxRecDepth 100000 in
set_option maxHeartbeats 4000000 in
theorem mX7_end_bad (s : Nat → Int32) (la : Nat → Int32) (r : rT) (v : vT) (c : Nat → Nat → Int32) (l : Nat → Int32) (tn : Int32) (p : Nat → Int32) (pa : Nat → Nat → Int32) (m : Nat) (q : rT) (b : Int32) (x : Nat → Nat) (h : Nat → Nat → Int64) (z : Int32) (hb : ¬ (0 ≤ z ∧ z ≤ nI (v 4 0))) : J KX7_end 21 (fun o B => o = some (.int (-1)) ∧ B = (wM s la r v c l tn p pa m q b x h)) 0 [some (.ref 0), some (.int z), none] [] (wM s la r v c l tn p pa m q b x h) 0 0 := by
  refine J.iload_n dX7_end_0 rfl rfl ?_
  refine J.i2l dX7_end_1 ?_
  refine J.lconst 0 dX7_end_2 (by decide) ?_
  refine J.aload_n dX7_end_3 rfl rfl ?_
  refine J.mg13 dX7_end_4 rfl ?_
  refine J.i2l dX7_end_7 ?_
  refine J.cs (as := [.long _, .long _, .long _]) (is := []) okX7_in jcX7_74 (mX7_inI z 0 (nI (v 4 0)) (by decide) rfl) dX7_end_8 rfl rfl rfl rfl rfl rfl (fun r9 B9 hq => ?_)
  obtain ⟨rfl, rfl⟩ := hq
  refine ⟨rfl, ?_⟩
  show J _ _ _ _ _ (.int _ :: _) (wM s la r v c l tn p pa m q b x h) _ _
  refine J.if_ne (tgt := 16) dX7_end_11 (by decide) (fun c11 => absurd c11 (fun h => h ((jB_0 _).mpr hb))) (fun c11 => ?_)
  refine J.iconst (-1) dX7_end_14 (by decide) ?_
  exact J.iret dX7_end_15 rfl rfl (Nat.le_refl _) (Nat.le_refl _) ⟨rfl, rfl⟩
set_option maxRecDepth 100000 in
set_option maxHeartbeats 4000000 in
theorem mX7_fault (s : Nat → Int32) (la : Nat → Int32) (r : rT) (v : vT) (c : Nat → Nat → Int32) (l : Nat → Int32) (tn : Int32) (p : Nat → Int32) (pa : Nat → Nat → Int32) (m : Nat) (q : rT) (b : Int32) (x : Nat → Nat) (h : Nat → Nat → Int64) : J KX7_fault 21 (fun o B => o = some (.int (nI (v 5 7))) ∧ B = (wM s la r v c l tn p pa m q b x h)) 0 [some (.ref 0)] [] (wM s la r v c l tn p pa m q b x h) 0 0 := by
  refine J.aload_n dX7_fault_0 rfl rfl ?_
  refine J.mg14 dX7_fault_1 rfl ?_
  exact J.iret dX7_fault_4 rfl rfl (Nat.le_refl _) (Nat.le_refl _) ⟨rfl, rfl⟩
set_option maxRecDepth 100000 in
set_option maxHeartbeats 4000000 in
theorem mX7_torn (s : Nat → Int32) (la : Nat → Int32) (r : rT) (v : vT) (c : Nat → Nat → Int32) (l : Nat → Int32) (tn : Int32) (p : Nat → Int32) (pa : Nat → Nat → Int32) (m : Nat) (q : rT) (b : Int32) (x : Nat → Nat) (h : Nat → Nat → Int64) : J KX7_torn 21 (fun o B => o = some (.int (tn)) ∧ B = (wM s la r v c l tn p pa m q b x h)) 0 [some (.ref 0)] [] (wM s la r v c l tn p pa m q b x h) 0 0 := by
  refine J.aload_n dX7_torn_0 rfl rfl ?_
  refine J.mg41 dX7_torn_1 rfl ?_
  exact J.iret dX7_torn_4 rfl rfl (Nat.le_refl _) (Nat.le_refl _) ⟨rfl, rfl⟩
set_option maxRecDepth 100000 in
set_option maxHeartbeats 4000000 in
theorem mX7_isHair (s : Nat → Int32) (la : Nat → Int32) (r : rT) (v : vT) (c : Nat → Nat → Int32) (l : Nat → Int32) (tn : Int32) (p : Nat → Int32) (pa : Nat → Nat → Int32) (m : Nat) (q : rT) (b : Int32) (x : Nat → Nat) (h : Nat → Nat → Int64) (z : Int32) : J KX7_isHair 21 (fun o B => o = some (.int (jB (0 ≤ z ∧ z ≤ nI (r 6 0) - 1))) ∧ B = (wM s la r v c l tn p pa m q b x h)) 0 [some (.ref 0), some (.int z)] [] (wM s la r v c l tn p pa m q b x h) 0 0 := by
  refine J.iload_n dX7_isHair_0 rfl rfl ?_
  refine J.i2l dX7_isHair_1 ?_
  refine J.lconst 0 dX7_isHair_2 (by decide) ?_
  refine J.aload_n dX7_isHair_3 rfl rfl ?_
  refine J.mg1 dX7_isHair_4 rfl ?_
  refine J.iconst (1) dX7_isHair_7 (by decide) ?_
  refine J.isub dX7_isHair_8 ?_
  refine J.i2l dX7_isHair_9 ?_
  refine J.cs (as := [.long _, .long _, .long _]) (is := []) okX7_in jcX7_74 (mX7_inI z 0 (nI (r 6 0) - 1) (by decide) rfl) dX7_isHair_10 rfl rfl rfl rfl rfl rfl (fun r9 B9 hq => ?_)
  obtain ⟨rfl, rfl⟩ := hq
  refine ⟨rfl, ?_⟩
  show J _ _ _ _ _ (.int _ :: _) (wM s la r v c l tn p pa m q b x h) _ _
  exact J.iret dX7_isHair_13 rfl (jB_z _) (Nat.le_refl _) (Nat.le_refl _) ⟨rfl, rfl⟩
set_option maxRecDepth 100000 in
set_option maxHeartbeats 4000000 in
theorem mX7_isKing (s : Nat → Int32) (la : Nat → Int32) (r : rT) (v : vT) (c : Nat → Nat → Int32) (l : Nat → Int32) (tn : Int32) (p : Nat → Int32) (pa : Nat → Nat → Int32) (m : Nat) (q : rT) (b : Int32) (x : Nat → Nat) (h : Nat → Nat → Int64) (z : Int32) : J KX7_isKing 21 (fun o B => o = some (.int (jB (0 ≤ z ∧ z ≤ nI (r 6 1) - 1))) ∧ B = (wM s la r v c l tn p pa m q b x h)) 0 [some (.ref 0), some (.int z)] [] (wM s la r v c l tn p pa m q b x h) 0 0 := by
  refine J.iload_n dX7_isKing_0 rfl rfl ?_
  refine J.i2l dX7_isKing_1 ?_
  refine J.lconst 0 dX7_isKing_2 (by decide) ?_
  refine J.aload_n dX7_isKing_3 rfl rfl ?_
  refine J.mg2 dX7_isKing_4 rfl ?_
  refine J.iconst (1) dX7_isKing_7 (by decide) ?_
  refine J.isub dX7_isKing_8 ?_
  refine J.i2l dX7_isKing_9 ?_
  refine J.cs (as := [.long _, .long _, .long _]) (is := []) okX7_in jcX7_74 (mX7_inI z 0 (nI (r 6 1) - 1) (by decide) rfl) dX7_isKing_10 rfl rfl rfl rfl rfl rfl (fun r9 B9 hq => ?_)
  obtain ⟨rfl, rfl⟩ := hq
  refine ⟨rfl, ?_⟩
  show J _ _ _ _ _ (.int _ :: _) (wM s la r v c l tn p pa m q b x h) _ _
  exact J.iret dX7_isKing_13 rfl (jB_z _) (Nat.le_refl _) (Nat.le_refl _) ⟨rfl, rfl⟩
set_option maxRecDepth 100000 in
set_option maxHeartbeats 4000000 in
theorem mX7_load (s : Nat → Int32) (la : Nat → Int32) (r : rT) (v : vT) (c : Nat → Nat → Int32) (l : Nat → Int32) (tn : Int32) (p : Nat → Int32) (pa : Nat → Nat → Int32) (m : Nat) (q : rT) (b : Int32) (x : Nat → Nat) (h : Nat → Nat → Int64) (hS : mS s r) : J KX7_load 21 (fun o B => o = some (.int (nI (r 6 4))) ∧ B = (wM s la r v c l tn p pa m q b x h)) 0 [some (.ref 0)] [] (wM s la r v c l tn p pa m q b x h) 0 0 := by
  refine J.aload_n dX7_load_0 rfl rfl ?_
  refine J.mg0 dX7_load_1 rfl ?_
  refine J.bipush (9) dX7_load_4 (by decide) ?_
  refine J.ml1 (9) dX7_load_6 rfl (by omega) ?_
  refine J.iconst (3) dX7_load_7 (by decide) ?_
  refine J.iadd dX7_load_8 ?_
  exact J.iret dX7_load_9 rfl rfl (Nat.le_refl _) (Nat.le_refl _) ⟨congrArg (fun z => some (Value.int z)) (by rw [hS.2.1, Int32.sub_add_cancel]), rfl⟩
set_option maxRecDepth 100000 in
set_option maxHeartbeats 4000000 in
theorem mX7_prize (s : Nat → Int32) (la : Nat → Int32) (r : rT) (v : vT) (c : Nat → Nat → Int32) (l : Nat → Int32) (tn : Int32) (p : Nat → Int32) (pa : Nat → Nat → Int32) (m : Nat) (q : rT) (b : Int32) (x : Nat → Nat) (h : Nat → Nat → Int64) (hS : mS s r) : J KX7_prize 21 (fun o B => o = some (.int (nI (r 6 5))) ∧ B = (wM s la r v c l tn p pa m q b x h)) 0 [some (.ref 0)] [] (wM s la r v c l tn p pa m q b x h) 0 0 := by
  refine J.aload_n dX7_prize_0 rfl rfl ?_
  refine J.mg0 dX7_prize_1 rfl ?_
  refine J.bipush (18) dX7_prize_4 (by decide) ?_
  refine J.ml1 (18) dX7_prize_6 rfl (by omega) ?_
  refine J.bipush (9) dX7_prize_7 (by decide) ?_
  refine J.iadd dX7_prize_9 ?_
  exact J.iret dX7_prize_10 rfl rfl (Nat.le_refl _) (Nat.le_refl _) ⟨congrArg (fun z => some (Value.int z)) (by rw [hS.2.2.2.1, Int32.sub_add_cancel]), rfl⟩
set_option maxRecDepth 100000 in
set_option maxHeartbeats 4000000 in
theorem mX7_wholeNow_l (s : Nat → Int32) (la : Nat → Int32) (r : rT) (v : vT) (c : Nat → Nat → Int32) (l : Nat → Int32) (tn : Int32) (p : Nat → Int32) (pa : Nat → Nat → Int32) (m : Nat) (q : rT) (b : Int32) (x : Nat → Nat) (h : Nat → Nat → Int64) (hS : mS s r) (hr : rOK r) : ∀ (k9 i : Nat), i + k9 = r 6 0 → J KX7_wholeNow 21 (fun o B => o = some (.int (nI (r 6 3))) ∧ B = (wM s la r v c l tn p pa m q b x h)) 4 [some (.ref 0), some (.int (nI (r 6 3 % 2 ^ i))), some (.int (nI i))] [] (wM s la r v c l tn p pa m q b x h) 0 0 := by
  intro k9
  induction k9 with
  | zero =>
    intro i hi
    obtain hiN : i = r 6 0 := by omega
    subst hiN
    refine J.iload_n dX7_wholeNow_4 rfl rfl ?_
    refine J.aload_n dX7_wholeNow_5 rfl rfl ?_
    refine J.mg1 dX7_wholeNow_6 rfl ?_
    refine J.icmp_ge (tgt := 41) dX7_wholeNow_9 (by decide) (fun c9 => ?_) (fun c9 => absurd c9 (fun h => h (Int32.le_refl _)))
    refine J.iload_n dX7_wholeNow_41 rfl rfl ?_
    exact J.iret dX7_wholeNow_42 rfl rfl (Nat.le_refl _) (Nat.le_refl _) ⟨congrArg (fun z => some (Value.int (nI z))) (Nat.mod_eq_of_lt hr.2.2.2.1), rfl⟩
  | succ k9 ih =>
    intro i hi
    have hiN : i < r 6 0 := by omega
    refine J.iload_n dX7_wholeNow_4 rfl rfl ?_
    refine J.aload_n dX7_wholeNow_5 rfl rfl ?_
    refine J.mg1 dX7_wholeNow_6 rfl ?_
    refine J.icmp_ge (tgt := 41) dX7_wholeNow_9 (by decide) (fun c9 => absurd c9 (nI_ge (by omega) (by have := hr.1; omega))) (fun c9 => ?_)
    refine J.iload_n dX7_wholeNow_12 rfl rfl ?_
    refine J.aload_n dX7_wholeNow_13 rfl rfl ?_
    refine J.mg0 dX7_wholeNow_14 rfl ?_
    refine J.iconst (3) dX7_wholeNow_17 (by decide) ?_
    refine J.iload_n dX7_wholeNow_18 rfl rfl ?_
    refine J.imul dX7_wholeNow_19 ?_
    refine J.iconst (2) dX7_wholeNow_20 (by decide) ?_
    refine J.iadd dX7_wholeNow_21 ?_
    refine J.ml1 (3 * i + 2) dX7_wholeNow_22 (ix 3 i 2) (by have := hr.1; omega) ?_
    rw [(hS.1 i hiN).2.2]
    refine J.if_ne (tgt := 32) dX7_wholeNow_23 (by decide) (fun c23 => ?_) (fun c23 => ?_)
    · refine J.iconst (0) dX7_wholeNow_32 (by decide) ?_
      refine J.ior dX7_wholeNow_33 ?_
      refine J.istore_n dX7_wholeNow_34 rfl (by decide) rfl ?_
      try dsimp only [List.set]
      refine J.iinc (1) dX7_wholeNow_35 (by decide) rfl (by decide) rfl ?_
      try dsimp only [List.set]
      refine J.goto (tgt := 4) dX7_wholeNow_38 (by decide) ?_
      first | exact J.at (ih (i + 1) (by omega)) (by rw [← nI_1 i, ← (wh_s _ hr.w i (by have := hr.1; omega)).2 c23] <;> rfl) rfl rfl | exact J.at (ih (i + 1) (by omega)) (by rw [← nI_1 i, ← (wh_s _ hr.w i (by have := hr.1; omega)).1 c23] <;> rfl) rfl rfl
    · refine J.iconst (1) dX7_wholeNow_26 (by decide) ?_
      refine J.iload_n dX7_wholeNow_27 rfl rfl ?_
      refine J.ishl dX7_wholeNow_28 ?_
      refine J.goto (tgt := 33) dX7_wholeNow_29 (by decide) ?_
      refine J.ior dX7_wholeNow_33 ?_
      refine J.istore_n dX7_wholeNow_34 rfl (by decide) rfl ?_
      try dsimp only [List.set]
      refine J.iinc (1) dX7_wholeNow_35 (by decide) rfl (by decide) rfl ?_
      try dsimp only [List.set]
      refine J.goto (tgt := 4) dX7_wholeNow_38 (by decide) ?_
      first | exact J.at (ih (i + 1) (by omega)) (by rw [← nI_1 i, ← (wh_s _ hr.w i (by have := hr.1; omega)).2 c23] <;> rfl) rfl rfl | exact J.at (ih (i + 1) (by omega)) (by rw [← nI_1 i, ← (wh_s _ hr.w i (by have := hr.1; omega)).1 c23] <;> rfl) rfl rfl
set_option maxRecDepth 100000 in
set_option maxHeartbeats 4000000 in
theorem mX7_wholeNow (s : Nat → Int32) (la : Nat → Int32) (r : rT) (v : vT) (c : Nat → Nat → Int32) (l : Nat → Int32) (tn : Int32) (p : Nat → Int32) (pa : Nat → Nat → Int32) (m : Nat) (q : rT) (b : Int32) (x : Nat → Nat) (h : Nat → Nat → Int64) (hS : mS s r) (hr : rOK r) : J KX7_wholeNow 21 (fun o B => o = some (.int (nI (r 6 3))) ∧ B = (wM s la r v c l tn p pa m q b x h)) 0 [some (.ref 0), none, none] [] (wM s la r v c l tn p pa m q b x h) 0 0 := by
  refine J.iconst (0) dX7_wholeNow_0 (by decide) ?_
  refine J.istore_n dX7_wholeNow_1 rfl (by decide) rfl ?_
  try dsimp only [List.set]
  refine J.iconst (0) dX7_wholeNow_2 (by decide) ?_
  refine J.istore_n dX7_wholeNow_3 rfl (by decide) rfl ?_
  try dsimp only [List.set]
  exact J.at (mX7_wholeNow_l s la r v c l tn p pa m q b x h hS hr (r 6 0) 0 (by omega)) (by rw [Nat.pow_zero, Nat.mod_one] <;> rfl) rfl rfl
set_option maxRecDepth 100000 in
set_option maxHeartbeats 4000000 in
theorem mX7_rule (s : Nat → Int32) (la : Nat → Int32) (r : rT) (v : vT) (c : Nat → Nat → Int32) (l : Nat → Int32) (tn : Int32) (p : Nat → Int32) (pa : Nat → Nat → Int32) (m : Nat) (q : rT) (b : Int32) (x : Nat → Nat) (h : Nat → Nat → Int64) (z : Int32) (hS : mS s r) (hr : rOK r) : J KX7_rule 21 (fun o B => o = some (.int (ruleA r z)) ∧ B = (wM s la r v c l tn p pa m q b x h)) 0 [some (.ref 0), some (.int z)] [] (wM s la r v c l tn p pa m q b x h) 0 0 := by
  refine J.iload_n dX7_rule_0 rfl rfl ?_
  by_cases sw0 : z = 0
  · subst sw0
    refine J.tableIn (off := 47) (tgt := 48) dX7_rule_1 (by decide) (by decide) (by decide) (by decide) ?_
    refine J.aload_n dX7_rule_48 rfl rfl ?_
    refine J.mg1 dX7_rule_49 rfl ?_
    exact J.iret dX7_rule_52 rfl rfl (Nat.le_refl _) (Nat.le_refl _) ⟨rfl, rfl⟩
  by_cases sw1 : z = 1
  · subst sw1
    refine J.tableIn (off := 52) (tgt := 53) dX7_rule_1 (by decide) (by decide) (by decide) (by decide) ?_
    refine J.aload_n dX7_rule_53 rfl rfl ?_
    refine J.mg2 dX7_rule_54 rfl ?_
    exact J.iret dX7_rule_57 rfl rfl (Nat.le_refl _) (Nat.le_refl _) ⟨rfl, rfl⟩
  by_cases sw2 : z = 2
  · subst sw2
    refine J.tableIn (off := 57) (tgt := 58) dX7_rule_1 (by decide) (by decide) (by decide) (by decide) ?_
    refine J.aload_n dX7_rule_58 rfl rfl ?_
    refine J.mg4 dX7_rule_59 rfl ?_
    exact J.iret dX7_rule_62 rfl rfl (Nat.le_refl _) (Nat.le_refl _) ⟨rfl, rfl⟩
  by_cases sw3 : z = 3
  · subst sw3
    refine J.tableIn (off := 62) (tgt := 63) dX7_rule_1 (by decide) (by decide) (by decide) (by decide) ?_
    refine J.aload_n dX7_rule_63 rfl rfl ?_
    refine J.cvM (as := []) s la r v c l tn p pa m q b x h okX7_load jcX7_171 (mX7_load s la r v c l tn p pa m q b x h hS) dX7_rule_64 rfl rfl rfl rfl (fun r9 B9 hq9 => ?_)
    obtain ⟨rfl, rfl⟩ := hq9
    refine ⟨_, _, _, _, _, _, _, _, _, _, _, _, _, _, rfl, ?_⟩
    show J _ _ _ _ _ (.int _ :: _) (wM s la r v c l tn p pa m q b x h) _ _
    exact J.iret dX7_rule_67 rfl rfl (Nat.le_refl _) (Nat.le_refl _) ⟨rfl, rfl⟩
  by_cases sw4 : z = 4
  · subst sw4
    refine J.tableIn (off := 67) (tgt := 68) dX7_rule_1 (by decide) (by decide) (by decide) (by decide) ?_
    refine J.aload_n dX7_rule_68 rfl rfl ?_
    refine J.cvM (as := []) s la r v c l tn p pa m q b x h okX7_prize jcX7_174 (mX7_prize s la r v c l tn p pa m q b x h hS) dX7_rule_69 rfl rfl rfl rfl (fun r9 B9 hq9 => ?_)
    obtain ⟨rfl, rfl⟩ := hq9
    refine ⟨_, _, _, _, _, _, _, _, _, _, _, _, _, _, rfl, ?_⟩
    show J _ _ _ _ _ (.int _ :: _) (wM s la r v c l tn p pa m q b x h) _ _
    exact J.iret dX7_rule_72 rfl rfl (Nat.le_refl _) (Nat.le_refl _) ⟨rfl, rfl⟩
  by_cases sw5 : z = 5
  · subst sw5
    refine J.tableIn (off := 72) (tgt := 73) dX7_rule_1 (by decide) (by decide) (by decide) (by decide) ?_
    refine J.aload_n dX7_rule_73 rfl rfl ?_
    refine J.mg0 dX7_rule_74 rfl ?_
    refine J.bipush (19) dX7_rule_77 (by decide) ?_
    refine J.ml1 (19) dX7_rule_79 rfl (by omega) ?_
    rw [hS.2.2.2.2]
    exact J.iret dX7_rule_80 rfl rfl (Nat.le_refl _) (Nat.le_refl _) ⟨rfl, rfl⟩
  by_cases sw6 : z = 6
  · subst sw6
    refine J.tableIn (off := 80) (tgt := 81) dX7_rule_1 (by decide) (by decide) (by decide) (by decide) ?_
    refine J.aload_n dX7_rule_81 rfl rfl ?_
    refine J.cvM (as := []) s la r v c l tn p pa m q b x h okX7_wholeNow jcX7_177 (mX7_wholeNow s la r v c l tn p pa m q b x h hS hr) dX7_rule_82 rfl rfl rfl rfl (fun r9 B9 hq9 => ?_)
    obtain ⟨rfl, rfl⟩ := hq9
    refine ⟨_, _, _, _, _, _, _, _, _, _, _, _, _, _, rfl, ?_⟩
    show J _ _ _ _ _ (.int _ :: _) (wM s la r v c l tn p pa m q b x h) _ _
    exact J.iret dX7_rule_85 rfl rfl (Nat.le_refl _) (Nat.le_refl _) ⟨rfl, rfl⟩
  by_cases sw7 : z = 7
  · subst sw7
    refine J.tableIn (off := 85) (tgt := 86) dX7_rule_1 (by decide) (by decide) (by decide) (by decide) ?_
    refine J.aload_n dX7_rule_86 rfl rfl ?_
    refine J.cvM (as := []) s la r v c l tn p pa m q b x h okX7_wholeNow jcX7_177 (mX7_wholeNow s la r v c l tn p pa m q b x h hS hr) dX7_rule_87 rfl rfl rfl rfl (fun r9 B9 hq9 => ?_)
    obtain ⟨rfl, rfl⟩ := hq9
    refine ⟨_, _, _, _, _, _, _, _, _, _, _, _, _, _, rfl, ?_⟩
    show J _ _ _ _ _ (.int _ :: _) (wM s la r v c l tn p pa m q b x h) _ _
    refine J.if_ne (tgt := 97) dX7_rule_90 (by decide) (fun c90 => ?_) (fun c90 => ?_)
    · refine J.iconst (0) dX7_rule_97 (by decide) ?_
      exact J.iret dX7_rule_98 rfl rfl (Nat.le_refl _) (Nat.le_refl _) ⟨congrArg (fun x => some (Value.int x)) (by first | exact (if_neg (fun h => c90 (congrArg nI h))).symm | exact (if_pos ((nI_eqi (b := 0) (by have := hr.w; omega) (by decide)).mp c90)).symm), rfl⟩
    · refine J.iconst (1) dX7_rule_93 (by decide) ?_
      refine J.goto (tgt := 98) dX7_rule_94 (by decide) ?_
      exact J.iret dX7_rule_98 rfl rfl (Nat.le_refl _) (Nat.le_refl _) ⟨congrArg (fun x => some (Value.int x)) (by first | exact (if_neg (fun h => c90 (congrArg nI h))).symm | exact (if_pos ((nI_eqi (b := 0) (by have := hr.w; omega) (by decide)).mp c90)).symm), rfl⟩
  refine J.tableOut (tgt := 99) dX7_rule_1 (by have t0 := lv_neT sw0 (show (0 : Int32).toInt = 0 from rfl); have t1 := lv_neT sw1 (show (1 : Int32).toInt = 1 from rfl); have t2 := lv_neT sw2 (show (2 : Int32).toInt = 2 from rfl); have t3 := lv_neT sw3 (show (3 : Int32).toInt = 3 from rfl); have t4 := lv_neT sw4 (show (4 : Int32).toInt = 4 from rfl); have t5 := lv_neT sw5 (show (5 : Int32).toInt = 5 from rfl); have t6 := lv_neT sw6 (show (6 : Int32).toInt = 6 from rfl); have t7 := lv_neT sw7 (show (7 : Int32).toInt = 7 from rfl); omega) (by decide) ?_
  refine J.iconst (-1) dX7_rule_99 (by decide) ?_
  exact J.iret dX7_rule_100 rfl rfl (Nat.le_refl _) (Nat.le_refl _) ⟨congrArg (fun x => some (Value.int x)) (by rw [ruleA, if_neg sw0, if_neg sw1, if_neg sw2, if_neg sw3, if_neg sw4, if_neg sw5, if_neg sw6, if_neg sw7]), rfl⟩
/-- what the reference reckons with: laid from a realm, or new -/
def mlay (q r : rT) : Nat → rT
  | 0 => rset (rset q 6 0 (r 6 3)) 6 1 (r 6 4)
  | i + 1 => rset (rset (mlay q r i) 0 i (r 0 i)) 1 i (r 1 i)
def mnew (q : rT) (kd m l : Nat) : Nat → rT
  | 0 => rset (rset q 6 0 (2 ^ m - 1)) 6 1 l
  | i + 1 => rset (rset (mnew q kd m l i) 0 i kd) 1 i 0
set_option maxRecDepth 100000 in
set_option maxHeartbeats 4000000 in
theorem mX7_lays_l (s : Nat → Int32) (la : Nat → Int32) (r : rT) (v : vT) (c : Nat → Nat → Int32) (l : Nat → Int32) (tn : Int32) (p : Nat → Int32) (pa : Nat → Nat → Int32) (m : Nat) (q : rT) (b : Int32) (x : Nat → Nat) (h : Nat → Nat → Int64) (hS : mS s r) (hr : rOK r) : ∀ (k9 i : Nat), i + k9 = r 6 0 → J KX7_lays 21 (fun o B => o = none ∧ B = (wM s la r v c l tn p pa (r 6 0) (mlay q r (r 6 0)) b x h)) 26 [some (.ref 0), some (.int (nI i))] [] (wM s la r v c l tn p pa (r 6 0) (mlay q r i) b x h) 0 0 := by
  intro k9
  induction k9 with
  | zero =>
    intro i hi
    obtain hiN : i = r 6 0 := by omega
    subst hiN
    refine J.iload_n dX7_lays_26 rfl rfl ?_
    refine J.aload_n dX7_lays_27 rfl rfl ?_
    refine J.mg1 dX7_lays_28 rfl ?_
    refine J.icmp_ge (tgt := 70) dX7_lays_31 (by decide) (fun c31 => ?_) (fun c31 => absurd c31 (fun h => h (Int32.le_refl _)))
    exact J.vret dX7_lays_70 rfl (Nat.le_refl _) (Nat.le_refl _) ⟨rfl, rfl⟩
  | succ k9 ih =>
    intro i hi
    have hiN : i < r 6 0 := by omega
    refine J.iload_n dX7_lays_26 rfl rfl ?_
    refine J.aload_n dX7_lays_27 rfl rfl ?_
    refine J.mg1 dX7_lays_28 rfl ?_
    refine J.icmp_ge (tgt := 70) dX7_lays_31 (by decide) (fun c31 => absurd c31 (nI_ge (by omega) (by have := hr.1; omega))) (fun c31 => ?_)
    refine J.aload_n dX7_lays_34 rfl rfl ?_
    refine J.mg23 dX7_lays_35 rfl ?_
    refine J.iload_n dX7_lays_38 rfl rfl ?_
    refine J.aload_n dX7_lays_39 rfl rfl ?_
    refine J.mg0 dX7_lays_40 rfl ?_
    refine J.iconst (3) dX7_lays_43 (by decide) ?_
    refine J.iload_n dX7_lays_44 rfl rfl ?_
    refine J.imul dX7_lays_45 ?_
    refine J.ml1 (3 * i) dX7_lays_46 (ix0 3 i) (by have := hr.1; omega) ?_
    rw [(hS.1 i hiN).1]
    refine J.ms8 (i) dX7_lays_47 rfl (by have := hr.1; omega) ?_
    try dsimp only [List.set]
    refine J.aload_n dX7_lays_48 rfl rfl ?_
    refine J.mg24 dX7_lays_49 rfl ?_
    refine J.iload_n dX7_lays_52 rfl rfl ?_
    refine J.aload_n dX7_lays_53 rfl rfl ?_
    refine J.mg0 dX7_lays_54 rfl ?_
    refine J.iconst (3) dX7_lays_57 (by decide) ?_
    refine J.iload_n dX7_lays_58 rfl rfl ?_
    refine J.imul dX7_lays_59 ?_
    refine J.iconst (1) dX7_lays_60 (by decide) ?_
    refine J.iadd dX7_lays_61 ?_
    refine J.ml1 (3 * i + 1) dX7_lays_62 (ix 3 i 1) (by have := hr.1; omega) ?_
    rw [(hS.1 i hiN).2.1]
    refine J.ms9 (i) dX7_lays_63 rfl (by have := hr.1; omega) ?_
    try dsimp only [List.set]
    refine J.iinc (1) dX7_lays_64 (by decide) rfl (by decide) rfl ?_
    try dsimp only [List.set]
    refine J.goto (tgt := 26) dX7_lays_67 (by decide) ?_
    exact J.at (ih (i + 1) (by omega)) (by rw [← nI_1 i] <;> rfl) rfl rfl
set_option maxRecDepth 100000 in
set_option maxHeartbeats 4000000 in
theorem mX7_lays (s : Nat → Int32) (la : Nat → Int32) (r : rT) (v : vT) (c : Nat → Nat → Int32) (l : Nat → Int32) (tn : Int32) (p : Nat → Int32) (pa : Nat → Nat → Int32) (m : Nat) (q : rT) (b : Int32) (x : Nat → Nat) (h : Nat → Nat → Int64) (hS : mS s r) (hr : rOK r) : J KX7_lays 21 (fun o B => o = none ∧ B = (wM s la r v c l tn p pa (r 6 0) (mlay q r (r 6 0)) b x h)) 0 [some (.ref 0), none] [] (wM s la r v c l tn p pa m q b x h) 0 0 := by
  refine J.aload_n dX7_lays_0 rfl rfl ?_
  refine J.aload_n dX7_lays_1 rfl rfl ?_
  refine J.mg1 dX7_lays_2 rfl ?_
  refine J.mp25 dX7_lays_5 rfl ?_
  try dsimp only [List.set]
  refine J.aload_n dX7_lays_8 rfl rfl ?_
  refine J.aload_n dX7_lays_9 rfl rfl ?_
  refine J.cvM (as := []) s la r v c l tn p pa (r 6 0) q b x h okX7_wholeNow jcX7_177 (mX7_wholeNow s la r v c l tn p pa (r 6 0) q b x h hS hr) dX7_lays_10 rfl rfl rfl rfl (fun r9 B9 hq9 => ?_)
  obtain ⟨rfl, rfl⟩ := hq9
  refine ⟨_, _, _, _, _, _, _, _, _, _, _, _, _, _, rfl, ?_⟩
  show J _ _ _ _ _ (.int _ :: .ref 0 :: _) (wM s la r v c l tn p pa (r 6 0) q b x h) _ _
  refine J.mp26 dX7_lays_13 rfl ?_
  try dsimp only [List.set]
  refine J.aload_n dX7_lays_16 rfl rfl ?_
  refine J.aload_n dX7_lays_17 rfl rfl ?_
  refine J.cvM (as := []) s la r v c l tn p pa (r 6 0) (rset q 6 0 (r 6 3)) b x h okX7_load jcX7_171 (mX7_load s la r v c l tn p pa (r 6 0) (rset q 6 0 (r 6 3)) b x h hS) dX7_lays_18 rfl rfl rfl rfl (fun r9 B9 hq9 => ?_)
  obtain ⟨rfl, rfl⟩ := hq9
  refine ⟨_, _, _, _, _, _, _, _, _, _, _, _, _, _, rfl, ?_⟩
  show J _ _ _ _ _ (.int _ :: .ref 0 :: _) (wM s la r v c l tn p pa (r 6 0) (rset q 6 0 (r 6 3)) b x h) _ _
  refine J.mp27 dX7_lays_21 rfl ?_
  try dsimp only [List.set]
  refine J.iconst (0) dX7_lays_24 (by decide) ?_
  refine J.istore_n dX7_lays_25 rfl (by decide) rfl ?_
  try dsimp only [List.set]
  exact J.at (mX7_lays_l s la r v c l tn p pa m q b x h hS hr (r 6 0) 0 (by omega)) rfl rfl rfl
set_option maxRecDepth 100000 in
set_option maxHeartbeats 4000000 in
theorem mX7_laysNew_l (s : Nat → Int32) (la : Nat → Int32) (r : rT) (v : vT) (c : Nat → Nat → Int32) (l : Nat → Int32) (tn : Int32) (p : Nat → Int32) (pa : Nat → Nat → Int32) (m : Nat) (q : rT) (b : Int32) (x : Nat → Nat) (h : Nat → Nat → Int64) (kd k : Nat) (hk : k ≤ 3) : ∀ (k9 i : Nat), i + k9 = k → J KX7_laysNew 21 (fun o B => o = none ∧ B = (wM s la r v c l tn p pa k (mnew q kd k (r 6 4) k) b x h)) 24 [some (.ref 0), some (.int (nI kd)), some (.int (nI k)), some (.int (nI i))] [] (wM s la r v c l tn p pa k (mnew q kd k (r 6 4) i) b x h) 0 0 := by
  intro k9
  induction k9 with
  | zero =>
    intro i hi
    obtain hiN : i = k := by omega
    subst hiN
    refine J.iload_n dX7_laysNew_24 rfl rfl ?_
    refine J.iload_n dX7_laysNew_25 rfl rfl ?_
    refine J.icmp_ge (tgt := 49) dX7_laysNew_26 (by decide) (fun c26 => ?_) (fun c26 => absurd c26 (fun h => h (Int32.le_refl _)))
    exact J.vret dX7_laysNew_49 rfl (Nat.le_refl _) (Nat.le_refl _) ⟨rfl, rfl⟩
  | succ k9 ih =>
    intro i hi
    have hiN : i < k := by omega
    refine J.iload_n dX7_laysNew_24 rfl rfl ?_
    refine J.iload_n dX7_laysNew_25 rfl rfl ?_
    refine J.icmp_ge (tgt := 49) dX7_laysNew_26 (by decide) (fun c26 => absurd c26 (nI_ge (by omega) (by omega))) (fun c26 => ?_)
    refine J.aload_n dX7_laysNew_29 rfl rfl ?_
    refine J.mg23 dX7_laysNew_30 rfl ?_
    refine J.iload_n dX7_laysNew_33 rfl rfl ?_
    refine J.iload_n dX7_laysNew_34 rfl rfl ?_
    refine J.ms8 (i) dX7_laysNew_35 rfl (by omega) ?_
    try dsimp only [List.set]
    refine J.aload_n dX7_laysNew_36 rfl rfl ?_
    refine J.mg24 dX7_laysNew_37 rfl ?_
    refine J.iload_n dX7_laysNew_40 rfl rfl ?_
    refine J.iconst (0) dX7_laysNew_41 (by decide) ?_
    rw [show (0 : Int32) = nI 0 from rfl]
    refine J.ms9 (i) dX7_laysNew_42 rfl (by omega) ?_
    try dsimp only [List.set]
    refine J.iinc (1) dX7_laysNew_43 (by decide) rfl (by decide) rfl ?_
    try dsimp only [List.set]
    refine J.goto (tgt := 24) dX7_laysNew_46 (by decide) ?_
    exact J.at (ih (i + 1) (by omega)) (by rw [← nI_1 i] <;> rfl) rfl rfl
set_option maxRecDepth 100000 in
set_option maxHeartbeats 4000000 in
theorem mX7_laysNew (s : Nat → Int32) (la : Nat → Int32) (r : rT) (v : vT) (c : Nat → Nat → Int32) (l : Nat → Int32) (tn : Int32) (p : Nat → Int32) (pa : Nat → Nat → Int32) (m : Nat) (q : rT) (b : Int32) (x : Nat → Nat) (h : Nat → Nat → Int64) (kd k : Nat) (hk : k ≤ 3) (hS : mS s r) : J KX7_laysNew 21 (fun o B => o = none ∧ B = (wM s la r v c l tn p pa k (mnew q kd k (r 6 4) k) b x h)) 0 [some (.ref 0), some (.int (nI kd)), some (.int (nI k)), none] [] (wM s la r v c l tn p pa m q b x h) 0 0 := by
  refine J.aload_n dX7_laysNew_0 rfl rfl ?_
  refine J.iload_n dX7_laysNew_1 rfl rfl ?_
  refine J.mp25 dX7_laysNew_2 rfl ?_
  try dsimp only [List.set]
  refine J.aload_n dX7_laysNew_5 rfl rfl ?_
  refine J.iconst (1) dX7_laysNew_6 (by decide) ?_
  refine J.iload_n dX7_laysNew_7 rfl rfl ?_
  refine J.ishl dX7_laysNew_8 ?_
  refine J.iconst (1) dX7_laysNew_9 (by decide) ?_
  refine J.isub dX7_laysNew_10 ?_
  rw [full_eval k (by omega)]
  refine J.mp26 dX7_laysNew_11 rfl ?_
  try dsimp only [List.set]
  refine J.aload_n dX7_laysNew_14 rfl rfl ?_
  refine J.aload_n dX7_laysNew_15 rfl rfl ?_
  refine J.cvM (as := []) s la r v c l tn p pa k (rset q 6 0 (2 ^ k - 1)) b x h okX7_load jcX7_171 (mX7_load s la r v c l tn p pa k (rset q 6 0 (2 ^ k - 1)) b x h hS) dX7_laysNew_16 rfl rfl rfl rfl (fun r9 B9 hq9 => ?_)
  obtain ⟨rfl, rfl⟩ := hq9
  refine ⟨_, _, _, _, _, _, _, _, _, _, _, _, _, _, rfl, ?_⟩
  show J _ _ _ _ _ (.int _ :: .ref 0 :: _) (wM s la r v c l tn p pa k (rset q 6 0 (2 ^ k - 1)) b x h) _ _
  refine J.mp27 dX7_laysNew_19 rfl ?_
  try dsimp only [List.set]
  refine J.iconst (0) dX7_laysNew_22 (by decide) ?_
  refine J.istore_n dX7_laysNew_23 rfl (by decide) rfl ?_
  try dsimp only [List.set]
  exact J.at (mX7_laysNew_l s la r v c l tn p pa m q b x h kd k hk k 0 (by omega)) rfl rfl rfl
theorem brkM : ∀ k, k < 5 → ∀ a, a < 10 → ∀ l, l < 10 → ∀ m, m < 4 → 0 < m → (if 0 ≤ (if 3 ≤ nI k then nI a / 2 / 2 - (nI k - 3) else nI a / 2 + nI k) + (nI l + nI m - 1) / nI m - 1 then (if (if 3 ≤ nI k then nI a / 2 / 2 - (nI k - 3) else nI a / 2 + nI k) + (nI l + nI m - 1) / nI m - 1 ≤ 10 then (if 3 ≤ nI k then nI a / 2 / 2 - (nI k - 3) else nI a / 2 + nI k) + (nI l + nI m - 1) / nI m - 1 else 10) else 0) = nI (brk k a l m) := by decide +kernel
theorem pc3_pos : ∀ w, w < 8 → 0 < w → 0 < pc3 w := by decide
theorem nI_pcn {w : Nat} (hw : w < 8) (h0 : 0 < w) : ¬ nI (pc3 w) = 0 := nI_ne0 (pc3_pos w hw h0) (by have := pc3_le w; omega)
/-- what the reference has laid is what the class's reckoner has, as far as it goes -/
def qE (q qc : rT) (m : Nat) : Prop := (∀ i, i < m → q 0 i = qc 0 i ∧ q 1 i = qc 1 i) ∧ q 6 0 = qc 6 0 ∧ q 6 1 = qc 6 1
def mOK (qc : rT) (m : Nat) : Prop := oOK qc ∧ qc 6 0 < 2 ^ m ∧ m ≤ 3
theorem mlay_E (q r : rT) (m : Nat) : ∀ k, (∀ i, i < k → mlay q r k 0 i = r 0 i ∧ mlay q r k 1 i = r 1 i) ∧ mlay q r k 6 0 = r 6 3 ∧ mlay q r k 6 1 = r 6 4
  | 0 => ⟨fun i h => absurd h (Nat.not_lt_zero i), rfl, rfl⟩
  | k + 1 => by
    obtain ⟨h1, h2, h3⟩ := mlay_E q r m k
    refine ⟨fun i hi => ?_, h2, h3⟩
    by_cases e : i = k
    · subst e
      exact ⟨if_pos rfl, if_pos rfl⟩
    · have := h1 i (by omega)
      exact ⟨(if_neg e).trans this.1, (if_neg e).trans this.2⟩
theorem mlay_q (q : rT) {r : rT} : qE (mlay q r (r 6 0)) (oqR r) (r 6 0) := mlay_E q r 0 (r 6 0)
theorem mlay_ok {r : rT} (h : rOK r) : mOK (oqR r) (r 6 0) := ⟨⟨h.2.2.2.2.2.2.2.2.1, h.2.2.2.2.2.2.2.2.2.1, h.2.2.2.2.2.1, h.w⟩, h.2.2.2.1, h.1⟩
theorem mnew_E (q : rT) (kd m l : Nat) : ∀ k, (∀ i, i < k → mnew q kd m l k 0 i = kd ∧ mnew q kd m l k 1 i = 0) ∧ mnew q kd m l k 6 0 = 2 ^ m - 1 ∧ mnew q kd m l k 6 1 = l
  | 0 => ⟨fun i h => absurd h (Nat.not_lt_zero i), rfl, rfl⟩
  | k + 1 => by
    obtain ⟨h1, h2, h3⟩ := mnew_E q kd m l k
    refine ⟨fun i hi => ?_, h2, h3⟩
    by_cases e : i = k
    · subst e
      exact ⟨if_pos rfl, if_pos rfl⟩
    · have := h1 i (by omega)
      exact ⟨(if_neg e).trans this.1, (if_neg e).trans this.2⟩
theorem mnew_q (q : rT) (kd m l : Nat) : qE (mnew q kd m l m) (nqq kd m l) m := mnew_E q kd m l m
theorem mnew_ok {kd m l : Nat} (hd : kd ≤ 4) (hm : m ≤ 3) (hl : l ≤ 9) : mOK (nqq kd m l) m := ⟨⟨fun _ => hd, fun _ => Nat.zero_le _, hl, m2_lt m (by omega)⟩, Nat.sub_lt (Nat.two_pow_pos m) (by decide), hm⟩
set_option maxRecDepth 100000 in
set_option maxHeartbeats 4000000 in
theorem mX7_breaksOf (s : Nat → Int32) (la : Nat → Int32) (r : rT) (v : vT) (c : Nat → Nat → Int32) (l : Nat → Int32) (tn : Int32) (p : Nat → Int32) (pa : Nat → Nat → Int32) (m : Nat) (q : rT) (b : Int32) (x : Nat → Nat) (h : Nat → Nat → Int64) (qc : rT) (i t z : Nat) (hE : qE q qc m) (hM : mOK qc m) (hi : i < m) (ht : t < 100) (hz : z < 8) (h0 : 0 < z) : J KX7_breaksOf 21 (fun o B => o = some (.int (nI (ten qc z t i))) ∧ B = (wM s la r v c l tn p pa m q b x h)) 0 [some (.ref 0), some (.int (nI i)), some (.int (nI t)), some (.int (nI z)), none, none, none] [] (wM s la r v c l tn p pa m q b x h) 0 0 := by
  refine J.aload_n dX7_breaksOf_0 rfl rfl ?_
  refine J.mg24 dX7_breaksOf_1 rfl ?_
  refine J.iload_n dX7_breaksOf_4 rfl rfl ?_
  refine J.ml9 (i) dX7_breaksOf_5 rfl (by have := hM.2.2; omega) ?_
  rw [(hE.1 i hi).2]
  refine J.iload_n dX7_breaksOf_6 rfl rfl ?_
  refine J.iadd dX7_breaksOf_7 ?_
  refine J.bipush (9) dX7_breaksOf_8 (by decide) ?_
  refine J.icmp_le (tgt := 18) dX7_breaksOf_10 (by decide) (fun c10 => ?_) (fun c10 => ?_)
  · refine J.aload_n dX7_breaksOf_18 rfl rfl ?_
    refine J.mg24 dX7_breaksOf_19 rfl ?_
    refine J.iload_n dX7_breaksOf_22 rfl rfl ?_
    refine J.ml9 (i) dX7_breaksOf_23 rfl (by have := hM.2.2; omega) ?_
    rw [(hE.1 i hi).2]
    refine J.iload_n dX7_breaksOf_24 rfl rfl ?_
    refine J.iadd dX7_breaksOf_25 ?_
    first
    | (rw [show (9 : Int32) = nI (min 9 (qc 1 i + t)) from by rw [Nat.min_eq_left (Nat.not_lt.mp (fun h9 => c10 (by rw [nI_add]; exact (nI_lei (b := 9) (by have := hM.1.2.1 i; omega) (by decide)).mpr (by omega))))] <;> rfl])
    | (rw [show nI (qc 1 i) + nI t = nI (min 9 (qc 1 i + t)) from by rw [nI_add] at c10 ⊢; rw [Nat.min_eq_right ((nI_lei (b := 9) (by have := hM.1.2.1 i; omega) (by decide)).mp c10)]])
    refine J.istore dX7_breaksOf_26 (by decide) rfl ?_
    try dsimp only [List.set]
    refine J.iload dX7_breaksOf_28 rfl ?_
    refine J.iconst (2) dX7_breaksOf_30 (by decide) ?_
    refine J.idiv dX7_breaksOf_31 (by decide) ?_
    refine J.istore dX7_breaksOf_32 (by decide) rfl ?_
    try dsimp only [List.set]
    refine J.aload_n dX7_breaksOf_34 rfl rfl ?_
    refine J.mg23 dX7_breaksOf_35 rfl ?_
    refine J.iload_n dX7_breaksOf_38 rfl rfl ?_
    refine J.ml8 (i) dX7_breaksOf_39 rfl (by have := hM.2.2; omega) ?_
    rw [(hE.1 i hi).1]
    refine J.iconst (3) dX7_breaksOf_40 (by decide) ?_
    refine J.icmp_ge (tgt := 56) dX7_breaksOf_41 (by decide) (fun c41 => ?_) (fun c41 => ?_)
    · refine J.iload dX7_breaksOf_56 rfl ?_
      refine J.iconst (2) dX7_breaksOf_58 (by decide) ?_
      refine J.idiv dX7_breaksOf_59 (by decide) ?_
      refine J.aload_n dX7_breaksOf_60 rfl rfl ?_
      refine J.mg23 dX7_breaksOf_61 rfl ?_
      refine J.iload_n dX7_breaksOf_64 rfl rfl ?_
      refine J.ml8 (i) dX7_breaksOf_65 rfl (by have := hM.2.2; omega) ?_
      rw [(hE.1 i hi).1]
      refine J.iconst (3) dX7_breaksOf_66 (by decide) ?_
      refine J.isub dX7_breaksOf_67 ?_
      refine J.isub dX7_breaksOf_68 ?_
      refine J.istore dX7_breaksOf_69 (by decide) rfl ?_
      try dsimp only [List.set]
      refine J.iload dX7_breaksOf_71 rfl ?_
      refine J.aload_n dX7_breaksOf_73 rfl rfl ?_
      refine J.mg27 dX7_breaksOf_74 rfl ?_
      rw [hE.2.2]
      refine J.iload_n dX7_breaksOf_77 rfl rfl ?_
      refine J.cs (as := [.int _]) (is := []) okX7_bitsOf jcX7_189 (mX7_bitsOf z hz) dX7_breaksOf_78 rfl rfl rfl rfl rfl rfl (fun r9 B9 hq => ?_)
      obtain ⟨rfl, rfl⟩ := hq
      refine ⟨rfl, ?_⟩
      show J _ _ _ _ _ (.int _ :: _) (wM s la r v c l tn p pa m q b x h) _ _
      refine J.iadd dX7_breaksOf_81 ?_
      refine J.iconst (1) dX7_breaksOf_82 (by decide) ?_
      refine J.isub dX7_breaksOf_83 ?_
      refine J.iload_n dX7_breaksOf_84 rfl rfl ?_
      refine J.cs (as := [.int _]) (is := []) okX7_bitsOf jcX7_189 (mX7_bitsOf z hz) dX7_breaksOf_85 rfl rfl rfl rfl rfl rfl (fun r9 B9 hq => ?_)
      obtain ⟨rfl, rfl⟩ := hq
      refine ⟨rfl, ?_⟩
      show J _ _ _ _ _ (.int _ :: _) (wM s la r v c l tn p pa m q b x h) _ _
      refine J.idiv dX7_breaksOf_88 (nI_pcn hz h0) ?_
      refine J.iadd dX7_breaksOf_89 ?_
      refine J.iconst (1) dX7_breaksOf_90 (by decide) ?_
      refine J.isub dX7_breaksOf_91 ?_
      refine J.istore dX7_breaksOf_92 (by decide) rfl ?_
      try dsimp only [List.set]
      refine J.iload dX7_breaksOf_94 rfl ?_
      refine J.if_ge (tgt := 103) dX7_breaksOf_96 (by decide) (fun c96 => ?_) (fun c96 => ?_)
      · refine J.iload dX7_breaksOf_103 rfl ?_
        refine J.bipush (10) dX7_breaksOf_105 (by decide) ?_
        refine J.icmp_le (tgt := 115) dX7_breaksOf_107 (by decide) (fun c107 => ?_) (fun c107 => ?_)
        · refine J.iload dX7_breaksOf_115 rfl ?_
          have e9 := brkM (qc 0 i) (Nat.lt_succ_of_le (hM.1.1 i)) (min 9 (qc 1 i + t)) (by omega) (qc 6 1) (Nat.lt_succ_of_le hM.1.2.2.1) (pc3 z) (Nat.lt_succ_of_le (pc3_le z)) (pc3_pos z hz h0)
          first | rw [if_pos c41] at e9 | rw [if_neg c41] at e9
          refine J.iret dX7_breaksOf_117 rfl rfl (Nat.le_refl _) (Nat.le_refl _) ⟨congrArg (fun z => some (Value.int z)) (Eq.trans ?_ e9), rfl⟩
          first
          | (rw [if_pos c96, if_pos c107])
          | (rw [if_pos c96, if_neg c107])
          | (rw [if_neg c96])
        · refine J.bipush (10) dX7_breaksOf_110 (by decide) ?_
          refine J.goto (tgt := 117) dX7_breaksOf_112 (by decide) ?_
          have e9 := brkM (qc 0 i) (Nat.lt_succ_of_le (hM.1.1 i)) (min 9 (qc 1 i + t)) (by omega) (qc 6 1) (Nat.lt_succ_of_le hM.1.2.2.1) (pc3 z) (Nat.lt_succ_of_le (pc3_le z)) (pc3_pos z hz h0)
          first | rw [if_pos c41] at e9 | rw [if_neg c41] at e9
          refine J.iret dX7_breaksOf_117 rfl rfl (Nat.le_refl _) (Nat.le_refl _) ⟨congrArg (fun z => some (Value.int z)) (Eq.trans ?_ e9), rfl⟩
          first
          | (rw [if_pos c96, if_pos c107])
          | (rw [if_pos c96, if_neg c107])
          | (rw [if_neg c96])
      · refine J.iconst (0) dX7_breaksOf_99 (by decide) ?_
        refine J.goto (tgt := 117) dX7_breaksOf_100 (by decide) ?_
        have e9 := brkM (qc 0 i) (Nat.lt_succ_of_le (hM.1.1 i)) (min 9 (qc 1 i + t)) (by omega) (qc 6 1) (Nat.lt_succ_of_le hM.1.2.2.1) (pc3 z) (Nat.lt_succ_of_le (pc3_le z)) (pc3_pos z hz h0)
        first | rw [if_pos c41] at e9 | rw [if_neg c41] at e9
        refine J.iret dX7_breaksOf_117 rfl rfl (Nat.le_refl _) (Nat.le_refl _) ⟨congrArg (fun z => some (Value.int z)) (Eq.trans ?_ e9), rfl⟩
        first
        | (rw [if_pos c96, if_pos c107])
        | (rw [if_pos c96, if_neg c107])
        | (rw [if_neg c96])
    · refine J.iload dX7_breaksOf_44 rfl ?_
      refine J.aload_n dX7_breaksOf_46 rfl rfl ?_
      refine J.mg23 dX7_breaksOf_47 rfl ?_
      refine J.iload_n dX7_breaksOf_50 rfl rfl ?_
      refine J.ml8 (i) dX7_breaksOf_51 rfl (by have := hM.2.2; omega) ?_
      rw [(hE.1 i hi).1]
      refine J.iadd dX7_breaksOf_52 ?_
      refine J.goto (tgt := 69) dX7_breaksOf_53 (by decide) ?_
      refine J.istore dX7_breaksOf_69 (by decide) rfl ?_
      try dsimp only [List.set]
      refine J.iload dX7_breaksOf_71 rfl ?_
      refine J.aload_n dX7_breaksOf_73 rfl rfl ?_
      refine J.mg27 dX7_breaksOf_74 rfl ?_
      rw [hE.2.2]
      refine J.iload_n dX7_breaksOf_77 rfl rfl ?_
      refine J.cs (as := [.int _]) (is := []) okX7_bitsOf jcX7_189 (mX7_bitsOf z hz) dX7_breaksOf_78 rfl rfl rfl rfl rfl rfl (fun r9 B9 hq => ?_)
      obtain ⟨rfl, rfl⟩ := hq
      refine ⟨rfl, ?_⟩
      show J _ _ _ _ _ (.int _ :: _) (wM s la r v c l tn p pa m q b x h) _ _
      refine J.iadd dX7_breaksOf_81 ?_
      refine J.iconst (1) dX7_breaksOf_82 (by decide) ?_
      refine J.isub dX7_breaksOf_83 ?_
      refine J.iload_n dX7_breaksOf_84 rfl rfl ?_
      refine J.cs (as := [.int _]) (is := []) okX7_bitsOf jcX7_189 (mX7_bitsOf z hz) dX7_breaksOf_85 rfl rfl rfl rfl rfl rfl (fun r9 B9 hq => ?_)
      obtain ⟨rfl, rfl⟩ := hq
      refine ⟨rfl, ?_⟩
      show J _ _ _ _ _ (.int _ :: _) (wM s la r v c l tn p pa m q b x h) _ _
      refine J.idiv dX7_breaksOf_88 (nI_pcn hz h0) ?_
      refine J.iadd dX7_breaksOf_89 ?_
      refine J.iconst (1) dX7_breaksOf_90 (by decide) ?_
      refine J.isub dX7_breaksOf_91 ?_
      refine J.istore dX7_breaksOf_92 (by decide) rfl ?_
      try dsimp only [List.set]
      refine J.iload dX7_breaksOf_94 rfl ?_
      refine J.if_ge (tgt := 103) dX7_breaksOf_96 (by decide) (fun c96 => ?_) (fun c96 => ?_)
      · refine J.iload dX7_breaksOf_103 rfl ?_
        refine J.bipush (10) dX7_breaksOf_105 (by decide) ?_
        refine J.icmp_le (tgt := 115) dX7_breaksOf_107 (by decide) (fun c107 => ?_) (fun c107 => ?_)
        · refine J.iload dX7_breaksOf_115 rfl ?_
          have e9 := brkM (qc 0 i) (Nat.lt_succ_of_le (hM.1.1 i)) (min 9 (qc 1 i + t)) (by omega) (qc 6 1) (Nat.lt_succ_of_le hM.1.2.2.1) (pc3 z) (Nat.lt_succ_of_le (pc3_le z)) (pc3_pos z hz h0)
          first | rw [if_pos c41] at e9 | rw [if_neg c41] at e9
          refine J.iret dX7_breaksOf_117 rfl rfl (Nat.le_refl _) (Nat.le_refl _) ⟨congrArg (fun z => some (Value.int z)) (Eq.trans ?_ e9), rfl⟩
          first
          | (rw [if_pos c96, if_pos c107])
          | (rw [if_pos c96, if_neg c107])
          | (rw [if_neg c96])
        · refine J.bipush (10) dX7_breaksOf_110 (by decide) ?_
          refine J.goto (tgt := 117) dX7_breaksOf_112 (by decide) ?_
          have e9 := brkM (qc 0 i) (Nat.lt_succ_of_le (hM.1.1 i)) (min 9 (qc 1 i + t)) (by omega) (qc 6 1) (Nat.lt_succ_of_le hM.1.2.2.1) (pc3 z) (Nat.lt_succ_of_le (pc3_le z)) (pc3_pos z hz h0)
          first | rw [if_pos c41] at e9 | rw [if_neg c41] at e9
          refine J.iret dX7_breaksOf_117 rfl rfl (Nat.le_refl _) (Nat.le_refl _) ⟨congrArg (fun z => some (Value.int z)) (Eq.trans ?_ e9), rfl⟩
          first
          | (rw [if_pos c96, if_pos c107])
          | (rw [if_pos c96, if_neg c107])
          | (rw [if_neg c96])
      · refine J.iconst (0) dX7_breaksOf_99 (by decide) ?_
        refine J.goto (tgt := 117) dX7_breaksOf_100 (by decide) ?_
        have e9 := brkM (qc 0 i) (Nat.lt_succ_of_le (hM.1.1 i)) (min 9 (qc 1 i + t)) (by omega) (qc 6 1) (Nat.lt_succ_of_le hM.1.2.2.1) (pc3 z) (Nat.lt_succ_of_le (pc3_le z)) (pc3_pos z hz h0)
        first | rw [if_pos c41] at e9 | rw [if_neg c41] at e9
        refine J.iret dX7_breaksOf_117 rfl rfl (Nat.le_refl _) (Nat.le_refl _) ⟨congrArg (fun z => some (Value.int z)) (Eq.trans ?_ e9), rfl⟩
        first
        | (rw [if_pos c96, if_pos c107])
        | (rw [if_pos c96, if_neg c107])
        | (rw [if_neg c96])
  · refine J.bipush (9) dX7_breaksOf_13 (by decide) ?_
    refine J.goto (tgt := 26) dX7_breaksOf_15 (by decide) ?_
    first
    | (rw [show (9 : Int32) = nI (min 9 (qc 1 i + t)) from by rw [Nat.min_eq_left (Nat.not_lt.mp (fun h9 => c10 (by rw [nI_add]; exact (nI_lei (b := 9) (by have := hM.1.2.1 i; omega) (by decide)).mpr (by omega))))] <;> rfl])
    | (rw [show nI (qc 1 i) + nI t = nI (min 9 (qc 1 i + t)) from by rw [nI_add] at c10 ⊢; rw [Nat.min_eq_right ((nI_lei (b := 9) (by have := hM.1.2.1 i; omega) (by decide)).mp c10)]])
    refine J.istore dX7_breaksOf_26 (by decide) rfl ?_
    try dsimp only [List.set]
    refine J.iload dX7_breaksOf_28 rfl ?_
    refine J.iconst (2) dX7_breaksOf_30 (by decide) ?_
    refine J.idiv dX7_breaksOf_31 (by decide) ?_
    refine J.istore dX7_breaksOf_32 (by decide) rfl ?_
    try dsimp only [List.set]
    refine J.aload_n dX7_breaksOf_34 rfl rfl ?_
    refine J.mg23 dX7_breaksOf_35 rfl ?_
    refine J.iload_n dX7_breaksOf_38 rfl rfl ?_
    refine J.ml8 (i) dX7_breaksOf_39 rfl (by have := hM.2.2; omega) ?_
    rw [(hE.1 i hi).1]
    refine J.iconst (3) dX7_breaksOf_40 (by decide) ?_
    refine J.icmp_ge (tgt := 56) dX7_breaksOf_41 (by decide) (fun c41 => ?_) (fun c41 => ?_)
    · refine J.iload dX7_breaksOf_56 rfl ?_
      refine J.iconst (2) dX7_breaksOf_58 (by decide) ?_
      refine J.idiv dX7_breaksOf_59 (by decide) ?_
      refine J.aload_n dX7_breaksOf_60 rfl rfl ?_
      refine J.mg23 dX7_breaksOf_61 rfl ?_
      refine J.iload_n dX7_breaksOf_64 rfl rfl ?_
      refine J.ml8 (i) dX7_breaksOf_65 rfl (by have := hM.2.2; omega) ?_
      rw [(hE.1 i hi).1]
      refine J.iconst (3) dX7_breaksOf_66 (by decide) ?_
      refine J.isub dX7_breaksOf_67 ?_
      refine J.isub dX7_breaksOf_68 ?_
      refine J.istore dX7_breaksOf_69 (by decide) rfl ?_
      try dsimp only [List.set]
      refine J.iload dX7_breaksOf_71 rfl ?_
      refine J.aload_n dX7_breaksOf_73 rfl rfl ?_
      refine J.mg27 dX7_breaksOf_74 rfl ?_
      rw [hE.2.2]
      refine J.iload_n dX7_breaksOf_77 rfl rfl ?_
      refine J.cs (as := [.int _]) (is := []) okX7_bitsOf jcX7_189 (mX7_bitsOf z hz) dX7_breaksOf_78 rfl rfl rfl rfl rfl rfl (fun r9 B9 hq => ?_)
      obtain ⟨rfl, rfl⟩ := hq
      refine ⟨rfl, ?_⟩
      show J _ _ _ _ _ (.int _ :: _) (wM s la r v c l tn p pa m q b x h) _ _
      refine J.iadd dX7_breaksOf_81 ?_
      refine J.iconst (1) dX7_breaksOf_82 (by decide) ?_
      refine J.isub dX7_breaksOf_83 ?_
      refine J.iload_n dX7_breaksOf_84 rfl rfl ?_
      refine J.cs (as := [.int _]) (is := []) okX7_bitsOf jcX7_189 (mX7_bitsOf z hz) dX7_breaksOf_85 rfl rfl rfl rfl rfl rfl (fun r9 B9 hq => ?_)
      obtain ⟨rfl, rfl⟩ := hq
      refine ⟨rfl, ?_⟩
      show J _ _ _ _ _ (.int _ :: _) (wM s la r v c l tn p pa m q b x h) _ _
      refine J.idiv dX7_breaksOf_88 (nI_pcn hz h0) ?_
      refine J.iadd dX7_breaksOf_89 ?_
      refine J.iconst (1) dX7_breaksOf_90 (by decide) ?_
      refine J.isub dX7_breaksOf_91 ?_
      refine J.istore dX7_breaksOf_92 (by decide) rfl ?_
      try dsimp only [List.set]
      refine J.iload dX7_breaksOf_94 rfl ?_
      refine J.if_ge (tgt := 103) dX7_breaksOf_96 (by decide) (fun c96 => ?_) (fun c96 => ?_)
      · refine J.iload dX7_breaksOf_103 rfl ?_
        refine J.bipush (10) dX7_breaksOf_105 (by decide) ?_
        refine J.icmp_le (tgt := 115) dX7_breaksOf_107 (by decide) (fun c107 => ?_) (fun c107 => ?_)
        · refine J.iload dX7_breaksOf_115 rfl ?_
          have e9 := brkM (qc 0 i) (Nat.lt_succ_of_le (hM.1.1 i)) (min 9 (qc 1 i + t)) (by omega) (qc 6 1) (Nat.lt_succ_of_le hM.1.2.2.1) (pc3 z) (Nat.lt_succ_of_le (pc3_le z)) (pc3_pos z hz h0)
          first | rw [if_pos c41] at e9 | rw [if_neg c41] at e9
          refine J.iret dX7_breaksOf_117 rfl rfl (Nat.le_refl _) (Nat.le_refl _) ⟨congrArg (fun z => some (Value.int z)) (Eq.trans ?_ e9), rfl⟩
          first
          | (rw [if_pos c96, if_pos c107])
          | (rw [if_pos c96, if_neg c107])
          | (rw [if_neg c96])
        · refine J.bipush (10) dX7_breaksOf_110 (by decide) ?_
          refine J.goto (tgt := 117) dX7_breaksOf_112 (by decide) ?_
          have e9 := brkM (qc 0 i) (Nat.lt_succ_of_le (hM.1.1 i)) (min 9 (qc 1 i + t)) (by omega) (qc 6 1) (Nat.lt_succ_of_le hM.1.2.2.1) (pc3 z) (Nat.lt_succ_of_le (pc3_le z)) (pc3_pos z hz h0)
          first | rw [if_pos c41] at e9 | rw [if_neg c41] at e9
          refine J.iret dX7_breaksOf_117 rfl rfl (Nat.le_refl _) (Nat.le_refl _) ⟨congrArg (fun z => some (Value.int z)) (Eq.trans ?_ e9), rfl⟩
          first
          | (rw [if_pos c96, if_pos c107])
          | (rw [if_pos c96, if_neg c107])
          | (rw [if_neg c96])
      · refine J.iconst (0) dX7_breaksOf_99 (by decide) ?_
        refine J.goto (tgt := 117) dX7_breaksOf_100 (by decide) ?_
        have e9 := brkM (qc 0 i) (Nat.lt_succ_of_le (hM.1.1 i)) (min 9 (qc 1 i + t)) (by omega) (qc 6 1) (Nat.lt_succ_of_le hM.1.2.2.1) (pc3 z) (Nat.lt_succ_of_le (pc3_le z)) (pc3_pos z hz h0)
        first | rw [if_pos c41] at e9 | rw [if_neg c41] at e9
        refine J.iret dX7_breaksOf_117 rfl rfl (Nat.le_refl _) (Nat.le_refl _) ⟨congrArg (fun z => some (Value.int z)) (Eq.trans ?_ e9), rfl⟩
        first
        | (rw [if_pos c96, if_pos c107])
        | (rw [if_pos c96, if_neg c107])
        | (rw [if_neg c96])
    · refine J.iload dX7_breaksOf_44 rfl ?_
      refine J.aload_n dX7_breaksOf_46 rfl rfl ?_
      refine J.mg23 dX7_breaksOf_47 rfl ?_
      refine J.iload_n dX7_breaksOf_50 rfl rfl ?_
      refine J.ml8 (i) dX7_breaksOf_51 rfl (by have := hM.2.2; omega) ?_
      rw [(hE.1 i hi).1]
      refine J.iadd dX7_breaksOf_52 ?_
      refine J.goto (tgt := 69) dX7_breaksOf_53 (by decide) ?_
      refine J.istore dX7_breaksOf_69 (by decide) rfl ?_
      try dsimp only [List.set]
      refine J.iload dX7_breaksOf_71 rfl ?_
      refine J.aload_n dX7_breaksOf_73 rfl rfl ?_
      refine J.mg27 dX7_breaksOf_74 rfl ?_
      rw [hE.2.2]
      refine J.iload_n dX7_breaksOf_77 rfl rfl ?_
      refine J.cs (as := [.int _]) (is := []) okX7_bitsOf jcX7_189 (mX7_bitsOf z hz) dX7_breaksOf_78 rfl rfl rfl rfl rfl rfl (fun r9 B9 hq => ?_)
      obtain ⟨rfl, rfl⟩ := hq
      refine ⟨rfl, ?_⟩
      show J _ _ _ _ _ (.int _ :: _) (wM s la r v c l tn p pa m q b x h) _ _
      refine J.iadd dX7_breaksOf_81 ?_
      refine J.iconst (1) dX7_breaksOf_82 (by decide) ?_
      refine J.isub dX7_breaksOf_83 ?_
      refine J.iload_n dX7_breaksOf_84 rfl rfl ?_
      refine J.cs (as := [.int _]) (is := []) okX7_bitsOf jcX7_189 (mX7_bitsOf z hz) dX7_breaksOf_85 rfl rfl rfl rfl rfl rfl (fun r9 B9 hq => ?_)
      obtain ⟨rfl, rfl⟩ := hq
      refine ⟨rfl, ?_⟩
      show J _ _ _ _ _ (.int _ :: _) (wM s la r v c l tn p pa m q b x h) _ _
      refine J.idiv dX7_breaksOf_88 (nI_pcn hz h0) ?_
      refine J.iadd dX7_breaksOf_89 ?_
      refine J.iconst (1) dX7_breaksOf_90 (by decide) ?_
      refine J.isub dX7_breaksOf_91 ?_
      refine J.istore dX7_breaksOf_92 (by decide) rfl ?_
      try dsimp only [List.set]
      refine J.iload dX7_breaksOf_94 rfl ?_
      refine J.if_ge (tgt := 103) dX7_breaksOf_96 (by decide) (fun c96 => ?_) (fun c96 => ?_)
      · refine J.iload dX7_breaksOf_103 rfl ?_
        refine J.bipush (10) dX7_breaksOf_105 (by decide) ?_
        refine J.icmp_le (tgt := 115) dX7_breaksOf_107 (by decide) (fun c107 => ?_) (fun c107 => ?_)
        · refine J.iload dX7_breaksOf_115 rfl ?_
          have e9 := brkM (qc 0 i) (Nat.lt_succ_of_le (hM.1.1 i)) (min 9 (qc 1 i + t)) (by omega) (qc 6 1) (Nat.lt_succ_of_le hM.1.2.2.1) (pc3 z) (Nat.lt_succ_of_le (pc3_le z)) (pc3_pos z hz h0)
          first | rw [if_pos c41] at e9 | rw [if_neg c41] at e9
          refine J.iret dX7_breaksOf_117 rfl rfl (Nat.le_refl _) (Nat.le_refl _) ⟨congrArg (fun z => some (Value.int z)) (Eq.trans ?_ e9), rfl⟩
          first
          | (rw [if_pos c96, if_pos c107])
          | (rw [if_pos c96, if_neg c107])
          | (rw [if_neg c96])
        · refine J.bipush (10) dX7_breaksOf_110 (by decide) ?_
          refine J.goto (tgt := 117) dX7_breaksOf_112 (by decide) ?_
          have e9 := brkM (qc 0 i) (Nat.lt_succ_of_le (hM.1.1 i)) (min 9 (qc 1 i + t)) (by omega) (qc 6 1) (Nat.lt_succ_of_le hM.1.2.2.1) (pc3 z) (Nat.lt_succ_of_le (pc3_le z)) (pc3_pos z hz h0)
          first | rw [if_pos c41] at e9 | rw [if_neg c41] at e9
          refine J.iret dX7_breaksOf_117 rfl rfl (Nat.le_refl _) (Nat.le_refl _) ⟨congrArg (fun z => some (Value.int z)) (Eq.trans ?_ e9), rfl⟩
          first
          | (rw [if_pos c96, if_pos c107])
          | (rw [if_pos c96, if_neg c107])
          | (rw [if_neg c96])
      · refine J.iconst (0) dX7_breaksOf_99 (by decide) ?_
        refine J.goto (tgt := 117) dX7_breaksOf_100 (by decide) ?_
        have e9 := brkM (qc 0 i) (Nat.lt_succ_of_le (hM.1.1 i)) (min 9 (qc 1 i + t)) (by omega) (qc 6 1) (Nat.lt_succ_of_le hM.1.2.2.1) (pc3 z) (Nat.lt_succ_of_le (pc3_le z)) (pc3_pos z hz h0)
        first | rw [if_pos c41] at e9 | rw [if_neg c41] at e9
        refine J.iret dX7_breaksOf_117 rfl rfl (Nat.le_refl _) (Nat.le_refl _) ⟨congrArg (fun z => some (Value.int z)) (Eq.trans ?_ e9), rfl⟩
        first
        | (rw [if_pos c96, if_pos c107])
        | (rw [if_pos c96, if_neg c107])
        | (rw [if_neg c96])
