theorem dX6_within_0 : decode cX6_within 0 = .ok (.iload_n 0, 1) := by decide +kernel
theorem dX6_within_1 : decode cX6_within 1 = .ok (.iload_n 1, 1) := by decide +kernel
theorem dX6_within_2 : decode cX6_within 2 = .ok (.if_icmp .lt 12, 3) := by decide +kernel
theorem dX6_within_5 : decode cX6_within 5 = .ok (.iload_n 0, 1) := by decide +kernel
theorem dX6_within_6 : decode cX6_within 6 = .ok (.iload_n 2, 1) := by decide +kernel
theorem dX6_within_7 : decode cX6_within 7 = .ok (.if_icmp .gt 7, 3) := by decide +kernel
theorem dX6_within_10 : decode cX6_within 10 = .ok (.iconst 1, 1) := by decide +kernel
theorem dX6_within_11 : decode cX6_within 11 = .ok (.goto 4, 3) := by decide +kernel
theorem dX6_within_14 : decode cX6_within 14 = .ok (.iconst 0, 1) := by decide +kernel
theorem dX6_within_15 : decode cX6_within 15 = .ok (.ireturn, 1) := by decide +kernel
theorem dX6_foreseen_0 : decode cX6_foreseen 0 = .ok (.iload_n 0, 1) := by decide +kernel
theorem dX6_foreseen_1 : decode cX6_foreseen 1 = .ok (.iconst 0, 1) := by decide +kernel
theorem dX6_foreseen_2 : decode cX6_foreseen 2 = .ok (.iconst 5, 1) := by decide +kernel
theorem dX6_foreseen_3 : decode cX6_foreseen 3 = .ok (.invokestatic 59, 3) := by decide +kernel
theorem dX6_foreseen_6 : decode cX6_foreseen 6 = .ok (.ireturn, 1) := by decide +kernel
theorem dX6_thousands_0 : decode cX6_thousands 0 = .ok (.lconst 1, 1) := by decide +kernel
theorem dX6_thousands_1 : decode cX6_thousands 1 = .ok (.lstore_n 1, 1) := by decide +kernel
theorem dX6_thousands_2 : decode cX6_thousands 2 = .ok (.iconst 0, 1) := by decide +kernel
theorem dX6_thousands_3 : decode cX6_thousands 3 = .ok (.istore_n 3, 1) := by decide +kernel
theorem dX6_thousands_4 : decode cX6_thousands 4 = .ok (.iload_n 3, 1) := by decide +kernel
theorem dX6_thousands_5 : decode cX6_thousands 5 = .ok (.iload_n 0, 1) := by decide +kernel
theorem dX6_thousands_6 : decode cX6_thousands 6 = .ok (.if_icmp .ge 15, 3) := by decide +kernel
theorem dX6_thousands_9 : decode cX6_thousands 9 = .ok (.lload_n 1, 1) := by decide +kernel
theorem dX6_thousands_10 : decode cX6_thousands 10 = .ok (.ldc2_w 253, 3) := by decide +kernel
theorem dX6_thousands_13 : decode cX6_thousands 13 = .ok (.lmul, 1) := by decide +kernel
theorem dX6_thousands_14 : decode cX6_thousands 14 = .ok (.lstore_n 1, 1) := by decide +kernel
theorem dX6_thousands_15 : decode cX6_thousands 15 = .ok (.iinc 3 1, 3) := by decide +kernel
theorem dX6_thousands_18 : decode cX6_thousands 18 = .ok (.goto (-14), 3) := by decide +kernel
theorem dX6_thousands_21 : decode cX6_thousands 21 = .ok (.lload_n 1, 1) := by decide +kernel
theorem dX6_thousands_22 : decode cX6_thousands 22 = .ok (.lreturn, 1) := by decide +kernel
theorem dJ6_bitCount_0f7a4_0 : decode cJ6_bitCount_0f7a4 0 = .ok (.iload_n 0, 1) := by decide +kernel
theorem dJ6_bitCount_0f7a4_1 : decode cJ6_bitCount_0f7a4 1 = .ok (.iload_n 0, 1) := by decide +kernel
theorem dJ6_bitCount_0f7a4_2 : decode cJ6_bitCount_0f7a4 2 = .ok (.iconst 1, 1) := by decide +kernel
theorem dJ6_bitCount_0f7a4_3 : decode cJ6_bitCount_0f7a4 3 = .ok (.iushr, 1) := by decide +kernel
theorem dJ6_bitCount_0f7a4_4 : decode cJ6_bitCount_0f7a4 4 = .ok (.ldc_w 265, 3) := by decide +kernel
theorem dJ6_bitCount_0f7a4_7 : decode cJ6_bitCount_0f7a4 7 = .ok (.iand, 1) := by decide +kernel
theorem dJ6_bitCount_0f7a4_8 : decode cJ6_bitCount_0f7a4 8 = .ok (.isub, 1) := by decide +kernel
theorem dJ6_bitCount_0f7a4_9 : decode cJ6_bitCount_0f7a4 9 = .ok (.istore_n 0, 1) := by decide +kernel
theorem dJ6_bitCount_0f7a4_10 : decode cJ6_bitCount_0f7a4 10 = .ok (.iload_n 0, 1) := by decide +kernel
theorem dJ6_bitCount_0f7a4_11 : decode cJ6_bitCount_0f7a4 11 = .ok (.ldc_w 266, 3) := by decide +kernel
theorem dJ6_bitCount_0f7a4_14 : decode cJ6_bitCount_0f7a4 14 = .ok (.iand, 1) := by decide +kernel
theorem dJ6_bitCount_0f7a4_15 : decode cJ6_bitCount_0f7a4 15 = .ok (.iload_n 0, 1) := by decide +kernel
theorem dJ6_bitCount_0f7a4_16 : decode cJ6_bitCount_0f7a4 16 = .ok (.iconst 2, 1) := by decide +kernel
theorem dJ6_bitCount_0f7a4_17 : decode cJ6_bitCount_0f7a4 17 = .ok (.iushr, 1) := by decide +kernel
theorem dJ6_bitCount_0f7a4_18 : decode cJ6_bitCount_0f7a4 18 = .ok (.ldc_w 266, 3) := by decide +kernel
theorem dJ6_bitCount_0f7a4_21 : decode cJ6_bitCount_0f7a4 21 = .ok (.iand, 1) := by decide +kernel
theorem dJ6_bitCount_0f7a4_22 : decode cJ6_bitCount_0f7a4 22 = .ok (.iadd, 1) := by decide +kernel
theorem dJ6_bitCount_0f7a4_23 : decode cJ6_bitCount_0f7a4 23 = .ok (.istore_n 0, 1) := by decide +kernel
theorem dJ6_bitCount_0f7a4_24 : decode cJ6_bitCount_0f7a4 24 = .ok (.iload_n 0, 1) := by decide +kernel
theorem dJ6_bitCount_0f7a4_25 : decode cJ6_bitCount_0f7a4 25 = .ok (.iload_n 0, 1) := by decide +kernel
theorem dJ6_bitCount_0f7a4_26 : decode cJ6_bitCount_0f7a4 26 = .ok (.iconst 4, 1) := by decide +kernel
theorem dJ6_bitCount_0f7a4_27 : decode cJ6_bitCount_0f7a4 27 = .ok (.iushr, 1) := by decide +kernel
theorem dJ6_bitCount_0f7a4_28 : decode cJ6_bitCount_0f7a4 28 = .ok (.iadd, 1) := by decide +kernel
theorem dJ6_bitCount_0f7a4_29 : decode cJ6_bitCount_0f7a4 29 = .ok (.ldc_w 267, 3) := by decide +kernel
theorem dJ6_bitCount_0f7a4_32 : decode cJ6_bitCount_0f7a4 32 = .ok (.iand, 1) := by decide +kernel
theorem dJ6_bitCount_0f7a4_33 : decode cJ6_bitCount_0f7a4 33 = .ok (.istore_n 0, 1) := by decide +kernel
theorem dJ6_bitCount_0f7a4_34 : decode cJ6_bitCount_0f7a4 34 = .ok (.iload_n 0, 1) := by decide +kernel
theorem dJ6_bitCount_0f7a4_35 : decode cJ6_bitCount_0f7a4 35 = .ok (.iload_n 0, 1) := by decide +kernel
theorem dJ6_bitCount_0f7a4_36 : decode cJ6_bitCount_0f7a4 36 = .ok (.bipush 8, 2) := by decide +kernel
theorem dJ6_bitCount_0f7a4_38 : decode cJ6_bitCount_0f7a4 38 = .ok (.iushr, 1) := by decide +kernel
theorem dJ6_bitCount_0f7a4_39 : decode cJ6_bitCount_0f7a4 39 = .ok (.iadd, 1) := by decide +kernel
theorem dJ6_bitCount_0f7a4_40 : decode cJ6_bitCount_0f7a4 40 = .ok (.istore_n 0, 1) := by decide +kernel
theorem dJ6_bitCount_0f7a4_41 : decode cJ6_bitCount_0f7a4 41 = .ok (.iload_n 0, 1) := by decide +kernel
theorem dJ6_bitCount_0f7a4_42 : decode cJ6_bitCount_0f7a4 42 = .ok (.iload_n 0, 1) := by decide +kernel
theorem dJ6_bitCount_0f7a4_43 : decode cJ6_bitCount_0f7a4 43 = .ok (.bipush 16, 2) := by decide +kernel
theorem dJ6_bitCount_0f7a4_45 : decode cJ6_bitCount_0f7a4 45 = .ok (.iushr, 1) := by decide +kernel
theorem dJ6_bitCount_0f7a4_46 : decode cJ6_bitCount_0f7a4 46 = .ok (.iadd, 1) := by decide +kernel
theorem dJ6_bitCount_0f7a4_47 : decode cJ6_bitCount_0f7a4 47 = .ok (.istore_n 0, 1) := by decide +kernel
theorem dJ6_bitCount_0f7a4_48 : decode cJ6_bitCount_0f7a4 48 = .ok (.iload_n 0, 1) := by decide +kernel
theorem dJ6_bitCount_0f7a4_49 : decode cJ6_bitCount_0f7a4 49 = .ok (.bipush 63, 2) := by decide +kernel
theorem dJ6_bitCount_0f7a4_51 : decode cJ6_bitCount_0f7a4 51 = .ok (.iand, 1) := by decide +kernel
theorem dJ6_bitCount_0f7a4_52 : decode cJ6_bitCount_0f7a4 52 = .ok (.ireturn, 1) := by decide +kernel
theorem dX6_baseOf_0 : decode cX6_baseOf 0 = .ok (.iload_n 1, 1) := by decide +kernel
theorem dX6_baseOf_1 : decode cX6_baseOf 1 = .ok (.iconst 2, 1) := by decide +kernel
theorem dX6_baseOf_2 : decode cX6_baseOf 2 = .ok (.idiv, 1) := by decide +kernel
theorem dX6_baseOf_3 : decode cX6_baseOf 3 = .ok (.istore_n 2, 1) := by decide +kernel
theorem dX6_baseOf_4 : decode cX6_baseOf 4 = .ok (.iload_n 0, 1) := by decide +kernel
theorem dX6_baseOf_5 : decode cX6_baseOf 5 = .ok (.tableswitch 49 1 4 #[31, 35, 39, 43], 31) := by decide +kernel
theorem dX6_baseOf_36 : decode cX6_baseOf 36 = .ok (.iload_n 2, 1) := by decide +kernel
theorem dX6_baseOf_37 : decode cX6_baseOf 37 = .ok (.iconst 1, 1) := by decide +kernel
theorem dX6_baseOf_38 : decode cX6_baseOf 38 = .ok (.iadd, 1) := by decide +kernel
theorem dX6_baseOf_39 : decode cX6_baseOf 39 = .ok (.ireturn, 1) := by decide +kernel
theorem dX6_baseOf_40 : decode cX6_baseOf 40 = .ok (.iload_n 2, 1) := by decide +kernel
theorem dX6_baseOf_41 : decode cX6_baseOf 41 = .ok (.iconst 2, 1) := by decide +kernel
theorem dX6_baseOf_42 : decode cX6_baseOf 42 = .ok (.iadd, 1) := by decide +kernel
theorem dX6_baseOf_43 : decode cX6_baseOf 43 = .ok (.ireturn, 1) := by decide +kernel
theorem dX6_baseOf_44 : decode cX6_baseOf 44 = .ok (.iload_n 2, 1) := by decide +kernel
theorem dX6_baseOf_45 : decode cX6_baseOf 45 = .ok (.iconst 2, 1) := by decide +kernel
theorem dX6_baseOf_46 : decode cX6_baseOf 46 = .ok (.idiv, 1) := by decide +kernel
theorem dX6_baseOf_47 : decode cX6_baseOf 47 = .ok (.ireturn, 1) := by decide +kernel
theorem dX6_baseOf_48 : decode cX6_baseOf 48 = .ok (.iload_n 2, 1) := by decide +kernel
theorem dX6_baseOf_49 : decode cX6_baseOf 49 = .ok (.iconst 2, 1) := by decide +kernel
theorem dX6_baseOf_50 : decode cX6_baseOf 50 = .ok (.idiv, 1) := by decide +kernel
theorem dX6_baseOf_51 : decode cX6_baseOf 51 = .ok (.iconst 1, 1) := by decide +kernel
theorem dX6_baseOf_52 : decode cX6_baseOf 52 = .ok (.isub, 1) := by decide +kernel
theorem dX6_baseOf_53 : decode cX6_baseOf 53 = .ok (.ireturn, 1) := by decide +kernel
theorem dX6_baseOf_54 : decode cX6_baseOf 54 = .ok (.iload_n 2, 1) := by decide +kernel
theorem dX6_baseOf_55 : decode cX6_baseOf 55 = .ok (.ireturn, 1) := by decide +kernel
theorem dX6_breaksOf_0 : decode cX6_breaksOf 0 = .ok (.iload_n 3, 1) := by decide +kernel
theorem dX6_breaksOf_1 : decode cX6_breaksOf 1 = .ok (.ifCond .gt 5, 3) := by decide +kernel
theorem dX6_breaksOf_4 : decode cX6_breaksOf 4 = .ok (.iconst 0, 1) := by decide +kernel
theorem dX6_breaksOf_5 : decode cX6_breaksOf 5 = .ok (.ireturn, 1) := by decide +kernel
theorem dX6_breaksOf_6 : decode cX6_breaksOf 6 = .ok (.iload_n 2, 1) := by decide +kernel
theorem dX6_breaksOf_7 : decode cX6_breaksOf 7 = .ok (.iload_n 3, 1) := by decide +kernel
theorem dX6_breaksOf_8 : decode cX6_breaksOf 8 = .ok (.iadd, 1) := by decide +kernel
theorem dX6_breaksOf_9 : decode cX6_breaksOf 9 = .ok (.iconst 1, 1) := by decide +kernel
theorem dX6_breaksOf_10 : decode cX6_breaksOf 10 = .ok (.isub, 1) := by decide +kernel
theorem dX6_breaksOf_11 : decode cX6_breaksOf 11 = .ok (.iload_n 3, 1) := by decide +kernel
theorem dX6_breaksOf_12 : decode cX6_breaksOf 12 = .ok (.idiv, 1) := by decide +kernel
theorem dX6_breaksOf_13 : decode cX6_breaksOf 13 = .ok (.istore 4, 2) := by decide +kernel
theorem dX6_breaksOf_15 : decode cX6_breaksOf 15 = .ok (.iconst 0, 1) := by decide +kernel
theorem dX6_breaksOf_16 : decode cX6_breaksOf 16 = .ok (.bipush 10, 2) := by decide +kernel
theorem dX6_breaksOf_18 : decode cX6_breaksOf 18 = .ok (.iload_n 0, 1) := by decide +kernel
theorem dX6_breaksOf_19 : decode cX6_breaksOf 19 = .ok (.iload_n 1, 1) := by decide +kernel
theorem dX6_breaksOf_20 : decode cX6_breaksOf 20 = .ok (.invokestatic 265, 3) := by decide +kernel
theorem dX6_breaksOf_23 : decode cX6_breaksOf 23 = .ok (.iload 4, 2) := by decide +kernel
theorem dX6_breaksOf_25 : decode cX6_breaksOf 25 = .ok (.iadd, 1) := by decide +kernel
theorem dX6_breaksOf_26 : decode cX6_breaksOf 26 = .ok (.iconst 1, 1) := by decide +kernel
theorem dX6_breaksOf_27 : decode cX6_breaksOf 27 = .ok (.isub, 1) := by decide +kernel
theorem dX6_breaksOf_28 : decode cX6_breaksOf 28 = .ok (.invokestatic 268, 3) := by decide +kernel
theorem dX6_breaksOf_31 : decode cX6_breaksOf 31 = .ok (.invokestatic 271, 3) := by decide +kernel
theorem dX6_breaksOf_34 : decode cX6_breaksOf 34 = .ok (.ireturn, 1) := by decide +kernel
set_option maxRecDepth 100000 in
set_option maxHeartbeats 4000000 in
theorem mX6_within (v lo hi : Int32) : J KX6_within 0 (fun r B => r = some (.int (jB (lo ≤ v ∧ v ≤ hi))) ∧ B = []) 0 [some (.int v), some (.int lo), some (.int hi)] [] [] 0 0 := by
  refine J.iload_n dX6_within_0 rfl rfl ?_
  refine J.iload_n dX6_within_1 rfl rfl ?_
  refine J.icmp_lt (tgt := 14) dX6_within_2 (by decide) (fun c2 => ?_) (fun c2 => ?_)
  · refine J.iconst (0) dX6_within_14 (by decide) ?_
    exact J.iret dX6_within_15 rfl (by decide) (Nat.le_refl _) (Nat.le_refl _) ⟨congrArg (fun x => some (Value.int x)) (by first | exact (jB_f _ (fun h => absurd c2 (Int32.not_lt.mpr h.1))).symm | exact (jB_f _ (fun h => absurd c7 (Int32.not_lt.mpr h.2))).symm | exact (jB_t _ ⟨Int32.not_lt.mp c2, Int32.not_lt.mp c7⟩).symm), rfl⟩
  · refine J.iload_n dX6_within_5 rfl rfl ?_
    refine J.iload_n dX6_within_6 rfl rfl ?_
    refine J.icmp_gt (tgt := 14) dX6_within_7 (by decide) (fun c7 => ?_) (fun c7 => ?_)
    · refine J.iconst (0) dX6_within_14 (by decide) ?_
      exact J.iret dX6_within_15 rfl (by decide) (Nat.le_refl _) (Nat.le_refl _) ⟨congrArg (fun x => some (Value.int x)) (by first | exact (jB_f _ (fun h => absurd c2 (Int32.not_lt.mpr h.1))).symm | exact (jB_f _ (fun h => absurd c7 (Int32.not_lt.mpr h.2))).symm | exact (jB_t _ ⟨Int32.not_lt.mp c2, Int32.not_lt.mp c7⟩).symm), rfl⟩
    · refine J.iconst (1) dX6_within_10 (by decide) ?_
      refine J.goto (tgt := 15) dX6_within_11 (by decide) ?_
      exact J.iret dX6_within_15 rfl (by decide) (Nat.le_refl _) (Nat.le_refl _) ⟨congrArg (fun x => some (Value.int x)) (by first | exact (jB_f _ (fun h => absurd c2 (Int32.not_lt.mpr h.1))).symm | exact (jB_f _ (fun h => absurd c7 (Int32.not_lt.mpr h.2))).symm | exact (jB_t _ ⟨Int32.not_lt.mp c2, Int32.not_lt.mp c7⟩).symm), rfl⟩
set_option maxRecDepth 100000 in
set_option maxHeartbeats 4000000 in
theorem mX6_foreseen (n : Int32) : J KX6_foreseen 0 (fun r B => r = some (.int (jB (0 ≤ n ∧ n ≤ 5))) ∧ B = []) 0 [some (.int n)] [] [] 0 0 := by
  refine J.iload_n dX6_foreseen_0 rfl rfl ?_
  refine J.iconst (0) dX6_foreseen_1 (by decide) ?_
  refine J.iconst (5) dX6_foreseen_2 (by decide) ?_
  refine J.cs (as := [.int _, .int _, .int _]) (is := []) okX6_within jcX6_59 (mX6_within _ _ _) dX6_foreseen_3 rfl rfl rfl rfl rfl rfl (fun r B9 hq => ?_)
  obtain ⟨rfl, rfl⟩ := hq
  refine ⟨rfl, ?_⟩
  dsimp only [Option.map, Option.toList, jput, List.map, jg, List.cons_append, List.nil_append]
  exact J.iret dX6_foreseen_6 rfl (jB_z _) (Nat.le_refl _) (Nat.le_refl _) ⟨rfl, rfl⟩
set_option maxRecDepth 100000 in
set_option maxHeartbeats 4000000 in
theorem mX6_thousands_l (N : Nat) (hN : N < 2 ^ 31) : ∀ (k i : Nat), i + k = N → J KX6_thousands 0 (fun r B => r = some (.long (lN (1000 ^ N))) ∧ B = []) 4 [some (.int (nI N)), some (.long (lN (1000 ^ i))), none, some (.int (nI i))] [] [] 0 0 := by
  intro k
  induction k with
  | zero =>
    intro i hi
    obtain rfl : i = N := by omega
    refine J.iload_n dX6_thousands_4 rfl rfl ?_
    refine J.iload_n dX6_thousands_5 rfl rfl ?_
    refine J.icmp_ge (tgt := 21) dX6_thousands_6 (by decide) (fun c6 => ?_) (fun c6 => absurd c6 (fun h => h (Int32.le_refl _)))
    refine J.lload_n dX6_thousands_21 rfl rfl ?_
    exact J.lret dX6_thousands_22 rfl (Nat.le_refl _) (Nat.le_refl _) ⟨rfl, rfl⟩
  | succ k ih =>
    intro i hi
    refine J.iload_n dX6_thousands_4 rfl rfl ?_
    refine J.iload_n dX6_thousands_5 rfl rfl ?_
    refine J.icmp_ge (tgt := 21) dX6_thousands_6 (by decide) (fun c6 => absurd c6 (nI_ge (by omega) hN)) (fun c6 => ?_)
    refine J.lload_n dX6_thousands_9 rfl rfl ?_
    refine J.ldc2 (v := 1000) dX6_thousands_10 (jt 531 rfl rfl) ?_
    refine J.lmul dX6_thousands_13 ?_
    refine J.lstore_n dX6_thousands_14 rfl (by decide) rfl ?_
    dsimp only [List.set]
    refine J.iinc (1) dX6_thousands_15 (by decide) rfl (by decide) rfl ?_
    dsimp only [List.set]
    refine J.goto (tgt := 4) dX6_thousands_18 (by decide) ?_
    exact J.at (ih (i + 1) (by omega)) (by rw [Nat.pow_succ, ← lN_mul, ← nI_1]; rfl) rfl rfl
set_option maxRecDepth 100000 in
set_option maxHeartbeats 4000000 in
theorem mX6_thousands (N : Nat) (hN : N < 2 ^ 31) : J KX6_thousands 0 (fun r B => r = some (.long (lN (1000 ^ N))) ∧ B = []) 0 [some (.int (nI N)), none, none, none] [] [] 0 0 := by
  refine J.lconst 1 dX6_thousands_0 (by decide) ?_
  refine J.lstore_n dX6_thousands_1 rfl (by decide) rfl ?_
  dsimp only [List.set]
  refine J.iconst (0) dX6_thousands_2 (by decide) ?_
  refine J.istore_n dX6_thousands_3 rfl (by decide) rfl ?_
  dsimp only [List.set]
  exact mX6_thousands_l N hN N 0 (by omega)
set_option maxRecDepth 100000 in
set_option maxHeartbeats 4000000 in
theorem mJ6_bitCount_0f7a4 (w : Nat) (hw : w < 8) : J KJ6_bitCount_0f7a4 0 (fun r B => r = some (.int (nI (pc3 w))) ∧ B = []) 0 [some (.int (nI w))] [] [] 0 0 := by
  refine J.iload_n dJ6_bitCount_0f7a4_0 rfl rfl ?_
  refine J.iload_n dJ6_bitCount_0f7a4_1 rfl rfl ?_
  refine J.iconst (1) dJ6_bitCount_0f7a4_2 (by decide) ?_
  refine J.iushr dJ6_bitCount_0f7a4_3 ?_
  refine J.ldcw (v := 1431655765) dJ6_bitCount_0f7a4_4 (jt 464 rfl rfl) ?_
  refine J.iand dJ6_bitCount_0f7a4_7 ?_
  refine J.isub dJ6_bitCount_0f7a4_8 ?_
  refine J.istore_n dJ6_bitCount_0f7a4_9 rfl (by decide) rfl ?_
  dsimp only [List.set]
  refine J.iload_n dJ6_bitCount_0f7a4_10 rfl rfl ?_
  refine J.ldcw (v := 858993459) dJ6_bitCount_0f7a4_11 (jt 465 rfl rfl) ?_
  refine J.iand dJ6_bitCount_0f7a4_14 ?_
  refine J.iload_n dJ6_bitCount_0f7a4_15 rfl rfl ?_
  refine J.iconst (2) dJ6_bitCount_0f7a4_16 (by decide) ?_
  refine J.iushr dJ6_bitCount_0f7a4_17 ?_
  refine J.ldcw (v := 858993459) dJ6_bitCount_0f7a4_18 (jt 465 rfl rfl) ?_
  refine J.iand dJ6_bitCount_0f7a4_21 ?_
  refine J.iadd dJ6_bitCount_0f7a4_22 ?_
  refine J.istore_n dJ6_bitCount_0f7a4_23 rfl (by decide) rfl ?_
  dsimp only [List.set]
  refine J.iload_n dJ6_bitCount_0f7a4_24 rfl rfl ?_
  refine J.iload_n dJ6_bitCount_0f7a4_25 rfl rfl ?_
  refine J.iconst (4) dJ6_bitCount_0f7a4_26 (by decide) ?_
  refine J.iushr dJ6_bitCount_0f7a4_27 ?_
  refine J.iadd dJ6_bitCount_0f7a4_28 ?_
  refine J.ldcw (v := 252645135) dJ6_bitCount_0f7a4_29 (jt 466 rfl rfl) ?_
  refine J.iand dJ6_bitCount_0f7a4_32 ?_
  refine J.istore_n dJ6_bitCount_0f7a4_33 rfl (by decide) rfl ?_
  dsimp only [List.set]
  refine J.iload_n dJ6_bitCount_0f7a4_34 rfl rfl ?_
  refine J.iload_n dJ6_bitCount_0f7a4_35 rfl rfl ?_
  refine J.bipush (8) dJ6_bitCount_0f7a4_36 (by decide) ?_
  refine J.iushr dJ6_bitCount_0f7a4_38 ?_
  refine J.iadd dJ6_bitCount_0f7a4_39 ?_
  refine J.istore_n dJ6_bitCount_0f7a4_40 rfl (by decide) rfl ?_
  dsimp only [List.set]
  refine J.iload_n dJ6_bitCount_0f7a4_41 rfl rfl ?_
  refine J.iload_n dJ6_bitCount_0f7a4_42 rfl rfl ?_
  refine J.bipush (16) dJ6_bitCount_0f7a4_43 (by decide) ?_
  refine J.iushr dJ6_bitCount_0f7a4_45 ?_
  refine J.iadd dJ6_bitCount_0f7a4_46 ?_
  refine J.istore_n dJ6_bitCount_0f7a4_47 rfl (by decide) rfl ?_
  dsimp only [List.set]
  refine J.iload_n dJ6_bitCount_0f7a4_48 rfl rfl ?_
  refine J.bipush (63) dJ6_bitCount_0f7a4_49 (by decide) ?_
  refine J.iand dJ6_bitCount_0f7a4_51 ?_
  exact J.iret dJ6_bitCount_0f7a4_52 rfl rfl (Nat.le_refl _) (Nat.le_refl _) ⟨congrArg (fun x => some (Value.int x)) (by revert w; decide +kernel), rfl⟩
set_option maxRecDepth 100000 in
set_option maxHeartbeats 4000000 in
theorem mX6_baseOf (k a : Nat) (hk : k < 5) (ha : a < 10) : J KX6_baseOf 0 (fun r B => r = some (.int (Int32.ofInt (bas k a))) ∧ B = []) 0 [some (.int (nI k)), some (.int (nI a)), none] [] [] 0 0 := by
  rcases (show k = 0 ∨ k = 1 ∨ k = 2 ∨ k = 3 ∨ k = 4 by omega) with rfl | rfl | rfl | rfl | rfl
  · refine J.iload_n dX6_baseOf_0 rfl rfl ?_
    refine J.iconst (2) dX6_baseOf_1 (by decide) ?_
    refine J.idiv dX6_baseOf_2 (by decide) ?_
    refine J.istore_n dX6_baseOf_3 rfl (by decide) rfl ?_
    dsimp only [List.set]
    refine J.iload_n dX6_baseOf_4 rfl rfl ?_
    refine J.tableOut (tgt := 54) dX6_baseOf_5 (by decide) (by decide) ?_
    refine J.iload_n dX6_baseOf_54 rfl rfl ?_
    exact J.iret dX6_baseOf_55 rfl rfl (Nat.le_refl _) (Nat.le_refl _) ⟨congrArg (fun x => some (Value.int x)) (by revert a; decide +kernel), rfl⟩
  · refine J.iload_n dX6_baseOf_0 rfl rfl ?_
    refine J.iconst (2) dX6_baseOf_1 (by decide) ?_
    refine J.idiv dX6_baseOf_2 (by decide) ?_
    refine J.istore_n dX6_baseOf_3 rfl (by decide) rfl ?_
    dsimp only [List.set]
    refine J.iload_n dX6_baseOf_4 rfl rfl ?_
    refine J.tableIn (off := 31) (tgt := 36) dX6_baseOf_5 (by decide) (by decide) (by decide) (by decide) ?_
    refine J.iload_n dX6_baseOf_36 rfl rfl ?_
    refine J.iconst (1) dX6_baseOf_37 (by decide) ?_
    refine J.iadd dX6_baseOf_38 ?_
    exact J.iret dX6_baseOf_39 rfl rfl (Nat.le_refl _) (Nat.le_refl _) ⟨congrArg (fun x => some (Value.int x)) (by revert a; decide +kernel), rfl⟩
  · refine J.iload_n dX6_baseOf_0 rfl rfl ?_
    refine J.iconst (2) dX6_baseOf_1 (by decide) ?_
    refine J.idiv dX6_baseOf_2 (by decide) ?_
    refine J.istore_n dX6_baseOf_3 rfl (by decide) rfl ?_
    dsimp only [List.set]
    refine J.iload_n dX6_baseOf_4 rfl rfl ?_
    refine J.tableIn (off := 35) (tgt := 40) dX6_baseOf_5 (by decide) (by decide) (by decide) (by decide) ?_
    refine J.iload_n dX6_baseOf_40 rfl rfl ?_
    refine J.iconst (2) dX6_baseOf_41 (by decide) ?_
    refine J.iadd dX6_baseOf_42 ?_
    exact J.iret dX6_baseOf_43 rfl rfl (Nat.le_refl _) (Nat.le_refl _) ⟨congrArg (fun x => some (Value.int x)) (by revert a; decide +kernel), rfl⟩
  · refine J.iload_n dX6_baseOf_0 rfl rfl ?_
    refine J.iconst (2) dX6_baseOf_1 (by decide) ?_
    refine J.idiv dX6_baseOf_2 (by decide) ?_
    refine J.istore_n dX6_baseOf_3 rfl (by decide) rfl ?_
    dsimp only [List.set]
    refine J.iload_n dX6_baseOf_4 rfl rfl ?_
    refine J.tableIn (off := 39) (tgt := 44) dX6_baseOf_5 (by decide) (by decide) (by decide) (by decide) ?_
    refine J.iload_n dX6_baseOf_44 rfl rfl ?_
    refine J.iconst (2) dX6_baseOf_45 (by decide) ?_
    refine J.idiv dX6_baseOf_46 (by decide) ?_
    exact J.iret dX6_baseOf_47 rfl rfl (Nat.le_refl _) (Nat.le_refl _) ⟨congrArg (fun x => some (Value.int x)) (by revert a; decide +kernel), rfl⟩
  · refine J.iload_n dX6_baseOf_0 rfl rfl ?_
    refine J.iconst (2) dX6_baseOf_1 (by decide) ?_
    refine J.idiv dX6_baseOf_2 (by decide) ?_
    refine J.istore_n dX6_baseOf_3 rfl (by decide) rfl ?_
    dsimp only [List.set]
    refine J.iload_n dX6_baseOf_4 rfl rfl ?_
    refine J.tableIn (off := 43) (tgt := 48) dX6_baseOf_5 (by decide) (by decide) (by decide) (by decide) ?_
    refine J.iload_n dX6_baseOf_48 rfl rfl ?_
    refine J.iconst (2) dX6_baseOf_49 (by decide) ?_
    refine J.idiv dX6_baseOf_50 (by decide) ?_
    refine J.iconst (1) dX6_baseOf_51 (by decide) ?_
    refine J.isub dX6_baseOf_52 ?_
    exact J.iret dX6_baseOf_53 rfl rfl (Nat.le_refl _) (Nat.le_refl _) ⟨congrArg (fun x => some (Value.int x)) (by revert a; decide +kernel), rfl⟩
theorem brk_eval : ∀ k, k < 5 → ∀ a, a < 10 → ∀ l, l < 10 → ∀ m, m < 4 → 0 < m → (if 0 < (if Int32.ofInt (bas k a) + (nI l + nI m - 1) / nI m - 1 < 10 then Int32.ofInt (bas k a) + (nI l + nI m - 1) / nI m - 1 else 10) then (if Int32.ofInt (bas k a) + (nI l + nI m - 1) / nI m - 1 < 10 then Int32.ofInt (bas k a) + (nI l + nI m - 1) / nI m - 1 else 10) else 0) = nI (brk k a l m) := by decide +kernel
set_option maxRecDepth 100000 in
set_option maxHeartbeats 4000000 in
theorem mX6_breaksOf (k a l m : Nat) (hk : k < 5) (ha : a < 10) (hl : l < 10) (hm4 : m < 4) : J KX6_breaksOf 0 (fun r B => r = some (.int (nI (brk k a l m))) ∧ B = []) 0 [some (.int (nI k)), some (.int (nI a)), some (.int (nI l)), some (.int (nI m)), none] [] [] 0 0 := by
  by_cases hm : 0 < m
  · refine J.iload_n dX6_breaksOf_0 rfl rfl ?_
    refine J.if_gt (tgt := 6) dX6_breaksOf_1 (by decide) (fun c1 => ?_) (fun c1 => absurd c1 (fun h => h (by exact (nI_lti (a := 0) (by decide) (by omega)).mpr hm)))
    refine J.iload_n dX6_breaksOf_6 rfl rfl ?_
    refine J.iload_n dX6_breaksOf_7 rfl rfl ?_
    refine J.iadd dX6_breaksOf_8 ?_
    refine J.iconst (1) dX6_breaksOf_9 (by decide) ?_
    refine J.isub dX6_breaksOf_10 ?_
    refine J.iload_n dX6_breaksOf_11 rfl rfl ?_
    refine J.idiv dX6_breaksOf_12 (nI_ne0 hm (by omega)) ?_
    refine J.istore dX6_breaksOf_13 (by decide) rfl ?_
    dsimp only [List.set]
    refine J.iconst (0) dX6_breaksOf_15 (by decide) ?_
    refine J.bipush (10) dX6_breaksOf_16 (by decide) ?_
    refine J.iload_n dX6_breaksOf_18 rfl rfl ?_
    refine J.iload_n dX6_breaksOf_19 rfl rfl ?_
    refine J.cs (as := [.int _, .int _]) (is := []) okX6_baseOf jcX6_265 (mX6_baseOf k a hk ha) dX6_breaksOf_20 rfl rfl rfl rfl rfl rfl (fun r B9 hq => ?_)
    obtain ⟨rfl, rfl⟩ := hq
    refine ⟨rfl, ?_⟩
    dsimp only [Option.map, Option.toList, jput, List.map, jg, List.cons_append, List.nil_append]
    refine J.iload dX6_breaksOf_23 rfl ?_
    refine J.iadd dX6_breaksOf_25 ?_
    refine J.iconst (1) dX6_breaksOf_26 (by decide) ?_
    refine J.isub dX6_breaksOf_27 ?_
    refine J.mmin dX6_breaksOf_28 (jt 473 rfl rfl) rfl ?_
    refine J.mmax dX6_breaksOf_31 (jt 476 rfl rfl) rfl ?_
    exact J.iret dX6_breaksOf_34 rfl rfl (Nat.le_refl _) (Nat.le_refl _) ⟨congrArg (fun x => some (Value.int x)) (brk_eval k hk a ha l hl m hm4 hm), rfl⟩
  · obtain rfl : m = 0 := by omega
    refine J.iload_n dX6_breaksOf_0 rfl rfl ?_
    refine J.if_gt (tgt := 6) dX6_breaksOf_1 (by decide) (fun c1 => absurd c1 (by decide)) (fun c1 => ?_)
    refine J.iconst (0) dX6_breaksOf_4 (by decide) ?_
    exact J.iret dX6_breaksOf_5 rfl rfl (Nat.le_refl _) (Nat.le_refl _) ⟨rfl, rfl⟩
