theorem dX6_within_0 : decode cX6_within 0 = .ok (.iload_n 0, 1) := by decide +kernel
theorem dX6_within_1 : decode cX6_within 1 = .ok (.iload_n 1, 1) := by decide +kernel
theorem dX6_within_2 : decode cX6_within 2 = .ok (.if_icmp .lt 12, 3) := by decide +kernel
theorem dX6_within_5 : decode cX6_within 5 = .ok (.iload_n 0, 1) := by decide +kernel
theorem dX6_within_6 : decode cX6_within 6 = .ok (.iload_n 2, 1) := by decide +kernel
theorem dX6_within_7 : decode cX6_within 7 = .ok (.if_icmp .gt 7, 3) := by decide +kernel
theorem dX6_within_10 : decode cX6_within 10 = .ok (.iconst 1, 1) := by decide +kernel
theorem dX6_within_11 : decode cX6_within 11 = .ok (.goto 4, 3) := by decide +kernel
theorem dX6_within_14 : decode cX6_within 14 = .ok (.iconst 0, 1) := by decide +kernel
theorem dX6_within_15 : decode cX6_within 15 = .ok (.ireturn, 1) := by decide +kernel
theorem dX6_foreseen_0 : decode cX6_foreseen 0 = .ok (.iload_n 0, 1) := by decide +kernel
theorem dX6_foreseen_1 : decode cX6_foreseen 1 = .ok (.iconst 0, 1) := by decide +kernel
theorem dX6_foreseen_2 : decode cX6_foreseen 2 = .ok (.iconst 5, 1) := by decide +kernel
theorem dX6_foreseen_3 : decode cX6_foreseen 3 = .ok (.invokestatic 59, 3) := by decide +kernel
theorem dX6_foreseen_6 : decode cX6_foreseen 6 = .ok (.ireturn, 1) := by decide +kernel
theorem dX6_thousands_0 : decode cX6_thousands 0 = .ok (.lconst 1, 1) := by decide +kernel
theorem dX6_thousands_1 : decode cX6_thousands 1 = .ok (.lstore_n 1, 1) := by decide +kernel
theorem dX6_thousands_2 : decode cX6_thousands 2 = .ok (.iconst 0, 1) := by decide +kernel
theorem dX6_thousands_3 : decode cX6_thousands 3 = .ok (.istore_n 3, 1) := by decide +kernel
theorem dX6_thousands_4 : decode cX6_thousands 4 = .ok (.iload_n 3, 1) := by decide +kernel
theorem dX6_thousands_5 : decode cX6_thousands 5 = .ok (.iload_n 0, 1) := by decide +kernel
theorem dX6_thousands_6 : decode cX6_thousands 6 = .ok (.if_icmp .ge 15, 3) := by decide +kernel
theorem dX6_thousands_9 : decode cX6_thousands 9 = .ok (.lload_n 1, 1) := by decide +kernel
theorem dX6_thousands_10 : decode cX6_thousands 10 = .ok (.ldc2_w 253, 3) := by decide +kernel
theorem dX6_thousands_13 : decode cX6_thousands 13 = .ok (.lmul, 1) := by decide +kernel
theorem dX6_thousands_14 : decode cX6_thousands 14 = .ok (.lstore_n 1, 1) := by decide +kernel
theorem dX6_thousands_15 : decode cX6_thousands 15 = .ok (.iinc 3 1, 3) := by decide +kernel
theorem dX6_thousands_18 : decode cX6_thousands 18 = .ok (.goto (-14), 3) := by decide +kernel
theorem dX6_thousands_21 : decode cX6_thousands 21 = .ok (.lload_n 1, 1) := by decide +kernel
theorem dX6_thousands_22 : decode cX6_thousands 22 = .ok (.lreturn, 1) := by decide +kernel
set_option maxRecDepth 100000 in
set_option maxHeartbeats 4000000 in
theorem mX6_within (v lo hi : Int32) : J KX6_within 0 (fun r B => r = some (.int (jB (lo ≤ v ∧ v ≤ hi))) ∧ B = []) 0 [some (.int v), some (.int lo), some (.int hi)] [] [] 0 0 := by
  refine J.iload_n dX6_within_0 rfl rfl ?_
  refine J.iload_n dX6_within_1 rfl rfl ?_
  refine J.icmp_lt (tgt := 14) dX6_within_2 (by decide) (fun c2 => ?_) (fun c2 => ?_)
  · refine J.iconst (0) dX6_within_14 (by decide) ?_
    exact J.iret dX6_within_15 rfl (by decide) (Nat.le_refl _) (Nat.le_refl _) ⟨congrArg (fun x => some (Value.int x)) (by first | exact (jB_f _ (fun h => absurd c2 (Int32.not_lt.mpr h.1))).symm | exact (jB_f _ (fun h => absurd c7 (Int32.not_lt.mpr h.2))).symm | exact (jB_t _ ⟨Int32.not_lt.mp c2, Int32.not_lt.mp c7⟩).symm), rfl⟩
  · refine J.iload_n dX6_within_5 rfl rfl ?_
    refine J.iload_n dX6_within_6 rfl rfl ?_
    refine J.icmp_gt (tgt := 14) dX6_within_7 (by decide) (fun c7 => ?_) (fun c7 => ?_)
    · refine J.iconst (0) dX6_within_14 (by decide) ?_
      exact J.iret dX6_within_15 rfl (by decide) (Nat.le_refl _) (Nat.le_refl _) ⟨congrArg (fun x => some (Value.int x)) (by first | exact (jB_f _ (fun h => absurd c2 (Int32.not_lt.mpr h.1))).symm | exact (jB_f _ (fun h => absurd c7 (Int32.not_lt.mpr h.2))).symm | exact (jB_t _ ⟨Int32.not_lt.mp c2, Int32.not_lt.mp c7⟩).symm), rfl⟩
    · refine J.iconst (1) dX6_within_10 (by decide) ?_
      refine J.goto (tgt := 15) dX6_within_11 (by decide) ?_
      exact J.iret dX6_within_15 rfl (by decide) (Nat.le_refl _) (Nat.le_refl _) ⟨congrArg (fun x => some (Value.int x)) (by first | exact (jB_f _ (fun h => absurd c2 (Int32.not_lt.mpr h.1))).symm | exact (jB_f _ (fun h => absurd c7 (Int32.not_lt.mpr h.2))).symm | exact (jB_t _ ⟨Int32.not_lt.mp c2, Int32.not_lt.mp c7⟩).symm), rfl⟩
set_option maxRecDepth 100000 in
set_option maxHeartbeats 4000000 in
theorem mX6_foreseen (n : Int32) : J KX6_foreseen 0 (fun r B => r = some (.int (jB (0 ≤ n ∧ n ≤ 5))) ∧ B = []) 0 [some (.int n)] [] [] 0 0 := by
  refine J.iload_n dX6_foreseen_0 rfl rfl ?_
  refine J.iconst (0) dX6_foreseen_1 (by decide) ?_
  refine J.iconst (5) dX6_foreseen_2 (by decide) ?_
  refine J.cs (as := [.int _, .int _, .int _]) (is := []) okX6_within jcX6_59 (mX6_within _ _ _) dX6_foreseen_3 rfl rfl rfl rfl rfl rfl (fun r B9 hq => ?_)
  obtain ⟨rfl, rfl⟩ := hq
  refine ⟨rfl, ?_⟩
  dsimp only [Option.map, Option.toList, jput, List.map, jg, List.cons_append, List.nil_append]
  exact J.iret dX6_foreseen_6 rfl (jB_z _) (Nat.le_refl _) (Nat.le_refl _) ⟨rfl, rfl⟩
set_option maxRecDepth 100000 in
set_option maxHeartbeats 4000000 in
theorem mX6_thousands_l (N : Nat) (hN : N < 2 ^ 31) : ∀ (k i : Nat), i + k = N → J KX6_thousands 0 (fun r B => r = some (.long (lN (1000 ^ N))) ∧ B = []) 4 [some (.int (nI N)), some (.long (lN (1000 ^ i))), none, some (.int (nI i))] [] [] 0 0 := by
  intro k
  induction k with
  | zero =>
    intro i hi
    obtain rfl : i = N := by omega
    refine J.iload_n dX6_thousands_4 rfl rfl ?_
    refine J.iload_n dX6_thousands_5 rfl rfl ?_
    refine J.icmp_ge (tgt := 21) dX6_thousands_6 (by decide) (fun c6 => ?_) (fun c6 => absurd c6 (fun h => h (Int32.le_refl _)))
    refine J.lload_n dX6_thousands_21 rfl rfl ?_
    exact J.lret dX6_thousands_22 rfl (Nat.le_refl _) (Nat.le_refl _) ⟨rfl, rfl⟩
  | succ k ih =>
    intro i hi
    refine J.iload_n dX6_thousands_4 rfl rfl ?_
    refine J.iload_n dX6_thousands_5 rfl rfl ?_
    refine J.icmp_ge (tgt := 21) dX6_thousands_6 (by decide) (fun c6 => absurd c6 (nI_ge (by omega) hN)) (fun c6 => ?_)
    refine J.lload_n dX6_thousands_9 rfl rfl ?_
    refine J.ldc2 (v := 1000) dX6_thousands_10 (jt 531 rfl rfl) ?_
    refine J.lmul dX6_thousands_13 ?_
    refine J.lstore_n dX6_thousands_14 rfl (by decide) rfl ?_
    dsimp only [List.set]
    refine J.iinc (1) dX6_thousands_15 (by decide) rfl (by decide) rfl ?_
    dsimp only [List.set]
    refine J.goto (tgt := 4) dX6_thousands_18 (by decide) ?_
    exact J.at (ih (i + 1) (by omega)) (by rw [Nat.pow_succ, ← lN_mul, ← nI_1]; rfl) rfl rfl
set_option maxRecDepth 100000 in
set_option maxHeartbeats 4000000 in
theorem mX6_thousands (N : Nat) (hN : N < 2 ^ 31) : J KX6_thousands 0 (fun r B => r = some (.long (lN (1000 ^ N))) ∧ B = []) 0 [some (.int (nI N)), none, none, none] [] [] 0 0 := by
  refine J.lconst 1 dX6_thousands_0 (by decide) ?_
  refine J.lstore_n dX6_thousands_1 rfl (by decide) rfl ?_
  dsimp only [List.set]
  refine J.iconst (0) dX6_thousands_2 (by decide) ?_
  refine J.istore_n dX6_thousands_3 rfl (by decide) rfl ?_
  dsimp only [List.set]
  exact mX6_thousands_l N hN N 0 (by omega)
