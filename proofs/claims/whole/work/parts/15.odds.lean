theorem dX0_passHour_0 : decode cX0_passHour 0 = .ok (.iconst 0, 1) := by decide +kernel
theorem dX0_passHour_1 : decode cX0_passHour 1 = .ok (.istore_n 2, 1) := by decide +kernel
theorem dX0_passHour_2 : decode cX0_passHour 2 = .ok (.iload_n 2, 1) := by decide +kernel
theorem dX0_passHour_3 : decode cX0_passHour 3 = .ok (.bipush 8, 2) := by decide +kernel
theorem dX0_passHour_5 : decode cX0_passHour 5 = .ok (.if_icmp .ge 16, 3) := by decide +kernel
theorem dX0_passHour_8 : decode cX0_passHour 8 = .ok (.aload_n 0, 1) := by decide +kernel
theorem dX0_passHour_9 : decode cX0_passHour 9 = .ok (.getfield 25, 3) := by decide +kernel
theorem dX0_passHour_12 : decode cX0_passHour 12 = .ok (.iload_n 2, 1) := by decide +kernel
theorem dX0_passHour_13 : decode cX0_passHour 13 = .ok (.lconst 0, 1) := by decide +kernel
theorem dX0_passHour_14 : decode cX0_passHour 14 = .ok (.lastore, 1) := by decide +kernel
theorem dX0_passHour_15 : decode cX0_passHour 15 = .ok (.iinc 2 1, 3) := by decide +kernel
theorem dX0_passHour_18 : decode cX0_passHour 18 = .ok (.goto (-16), 3) := by decide +kernel
theorem dX0_passHour_21 : decode cX0_passHour 21 = .ok (.iconst 0, 1) := by decide +kernel
theorem dX0_passHour_22 : decode cX0_passHour 22 = .ok (.istore_n 2, 1) := by decide +kernel
theorem dX0_passHour_23 : decode cX0_passHour 23 = .ok (.iload_n 2, 1) := by decide +kernel
theorem dX0_passHour_24 : decode cX0_passHour 24 = .ok (.bipush 8, 2) := by decide +kernel
theorem dX0_passHour_26 : decode cX0_passHour 26 = .ok (.if_icmp .ge 61, 3) := by decide +kernel
theorem dX0_passHour_29 : decode cX0_passHour 29 = .ok (.aload_n 0, 1) := by decide +kernel
theorem dX0_passHour_30 : decode cX0_passHour 30 = .ok (.getfield 21, 3) := by decide +kernel
theorem dX0_passHour_33 : decode cX0_passHour 33 = .ok (.iload_n 2, 1) := by decide +kernel
theorem dX0_passHour_34 : decode cX0_passHour 34 = .ok (.laload, 1) := by decide +kernel
theorem dX0_passHour_35 : decode cX0_passHour 35 = .ok (.lconst 0, 1) := by decide +kernel
theorem dX0_passHour_36 : decode cX0_passHour 36 = .ok (.lcmp, 1) := by decide +kernel
theorem dX0_passHour_37 : decode cX0_passHour 37 = .ok (.ifCond .eq 44, 3) := by decide +kernel
theorem dX0_passHour_40 : decode cX0_passHour 40 = .ok (.aload_n 0, 1) := by decide +kernel
theorem dX0_passHour_41 : decode cX0_passHour 41 = .ok (.iload_n 2, 1) := by decide +kernel
theorem dX0_passHour_42 : decode cX0_passHour 42 = .ok (.iload_n 1, 1) := by decide +kernel
theorem dX0_passHour_43 : decode cX0_passHour 43 = .ok (.invokevirtual 61, 3) := by decide +kernel
theorem dX0_passHour_46 : decode cX0_passHour 46 = .ok (.iconst 0, 1) := by decide +kernel
theorem dX0_passHour_47 : decode cX0_passHour 47 = .ok (.istore_n 3, 1) := by decide +kernel
theorem dX0_passHour_48 : decode cX0_passHour 48 = .ok (.iload_n 3, 1) := by decide +kernel
theorem dX0_passHour_49 : decode cX0_passHour 49 = .ok (.iload_n 2, 1) := by decide +kernel
theorem dX0_passHour_50 : decode cX0_passHour 50 = .ok (.if_icmp .gt 31, 3) := by decide +kernel
theorem dX0_passHour_53 : decode cX0_passHour 53 = .ok (.aload_n 0, 1) := by decide +kernel
theorem dX0_passHour_54 : decode cX0_passHour 54 = .ok (.getfield 25, 3) := by decide +kernel
theorem dX0_passHour_57 : decode cX0_passHour 57 = .ok (.iload_n 3, 1) := by decide +kernel
theorem dX0_passHour_58 : decode cX0_passHour 58 = .ok (.dup2, 1) := by decide +kernel
theorem dX0_passHour_59 : decode cX0_passHour 59 = .ok (.laload, 1) := by decide +kernel
theorem dX0_passHour_60 : decode cX0_passHour 60 = .ok (.aload_n 0, 1) := by decide +kernel
theorem dX0_passHour_61 : decode cX0_passHour 61 = .ok (.getfield 21, 3) := by decide +kernel
theorem dX0_passHour_64 : decode cX0_passHour 64 = .ok (.iload_n 2, 1) := by decide +kernel
theorem dX0_passHour_65 : decode cX0_passHour 65 = .ok (.laload, 1) := by decide +kernel
theorem dX0_passHour_66 : decode cX0_passHour 66 = .ok (.aload_n 0, 1) := by decide +kernel
theorem dX0_passHour_67 : decode cX0_passHour 67 = .ok (.iload_n 2, 1) := by decide +kernel
theorem dX0_passHour_68 : decode cX0_passHour 68 = .ok (.iload_n 3, 1) := by decide +kernel
theorem dX0_passHour_69 : decode cX0_passHour 69 = .ok (.invokevirtual 65, 3) := by decide +kernel
theorem dX0_passHour_72 : decode cX0_passHour 72 = .ok (.lmul, 1) := by decide +kernel
theorem dX0_passHour_73 : decode cX0_passHour 73 = .ok (.ladd, 1) := by decide +kernel
theorem dX0_passHour_74 : decode cX0_passHour 74 = .ok (.lastore, 1) := by decide +kernel
theorem dX0_passHour_75 : decode cX0_passHour 75 = .ok (.iinc 3 1, 3) := by decide +kernel
theorem dX0_passHour_78 : decode cX0_passHour 78 = .ok (.goto (-30), 3) := by decide +kernel
theorem dX0_passHour_81 : decode cX0_passHour 81 = .ok (.iinc 2 1, 3) := by decide +kernel
theorem dX0_passHour_84 : decode cX0_passHour 84 = .ok (.goto (-61), 3) := by decide +kernel
theorem dX0_passHour_87 : decode cX0_passHour 87 = .ok (.iconst 0, 1) := by decide +kernel
theorem dX0_passHour_88 : decode cX0_passHour 88 = .ok (.istore_n 2, 1) := by decide +kernel
theorem dX0_passHour_89 : decode cX0_passHour 89 = .ok (.iload_n 2, 1) := by decide +kernel
theorem dX0_passHour_90 : decode cX0_passHour 90 = .ok (.bipush 8, 2) := by decide +kernel
theorem dX0_passHour_92 : decode cX0_passHour 92 = .ok (.if_icmp .ge 21, 3) := by decide +kernel
theorem dX0_passHour_95 : decode cX0_passHour 95 = .ok (.aload_n 0, 1) := by decide +kernel
theorem dX0_passHour_96 : decode cX0_passHour 96 = .ok (.getfield 21, 3) := by decide +kernel
theorem dX0_passHour_99 : decode cX0_passHour 99 = .ok (.iload_n 2, 1) := by decide +kernel
theorem dX0_passHour_100 : decode cX0_passHour 100 = .ok (.aload_n 0, 1) := by decide +kernel
theorem dX0_passHour_101 : decode cX0_passHour 101 = .ok (.getfield 25, 3) := by decide +kernel
theorem dX0_passHour_104 : decode cX0_passHour 104 = .ok (.iload_n 2, 1) := by decide +kernel
theorem dX0_passHour_105 : decode cX0_passHour 105 = .ok (.laload, 1) := by decide +kernel
theorem dX0_passHour_106 : decode cX0_passHour 106 = .ok (.lastore, 1) := by decide +kernel
theorem dX0_passHour_107 : decode cX0_passHour 107 = .ok (.iinc 2 1, 3) := by decide +kernel
theorem dX0_passHour_110 : decode cX0_passHour 110 = .ok (.goto (-21), 3) := by decide +kernel
theorem dX0_passHour_113 : decode cX0_passHour 113 = .ok (.return_, 1) := by decide +kernel
theorem dX0_passHours_0 : decode cX0_passHours 0 = .ok (.iconst 0, 1) := by decide +kernel
theorem dX0_passHours_1 : decode cX0_passHours 1 = .ok (.istore_n 2, 1) := by decide +kernel
theorem dX0_passHours_2 : decode cX0_passHours 2 = .ok (.iload_n 2, 1) := by decide +kernel
theorem dX0_passHours_3 : decode cX0_passHours 3 = .ok (.iload_n 1, 1) := by decide +kernel
theorem dX0_passHours_4 : decode cX0_passHours 4 = .ok (.if_icmp .ge 14, 3) := by decide +kernel
theorem dX0_passHours_7 : decode cX0_passHours 7 = .ok (.aload_n 0, 1) := by decide +kernel
theorem dX0_passHours_8 : decode cX0_passHours 8 = .ok (.iload_n 2, 1) := by decide +kernel
theorem dX0_passHours_9 : decode cX0_passHours 9 = .ok (.invokevirtual 58, 3) := by decide +kernel
theorem dX0_passHours_12 : decode cX0_passHours 12 = .ok (.iinc 2 1, 3) := by decide +kernel
theorem dX0_passHours_15 : decode cX0_passHours 15 = .ok (.goto (-13), 3) := by decide +kernel
theorem dX0_passHours_18 : decode cX0_passHours 18 = .ok (.return_, 1) := by decide +kernel
theorem dX0_holdsBy_0 : decode cX0_holdsBy 0 = .ok (.aload_n 0, 1) := by decide +kernel
theorem dX0_holdsBy_1 : decode cX0_holdsBy 1 = .ok (.invokevirtual 87, 3) := by decide +kernel
theorem dX0_holdsBy_4 : decode cX0_holdsBy 4 = .ok (.ldc2_w 85, 3) := by decide +kernel
theorem dX0_holdsBy_7 : decode cX0_holdsBy 7 = .ok (.lmul, 1) := by decide +kernel
theorem dX0_holdsBy_8 : decode cX0_holdsBy 8 = .ok (.iload_n 1, 1) := by decide +kernel
theorem dX0_holdsBy_9 : decode cX0_holdsBy 9 = .ok (.i2l, 1) := by decide +kernel
theorem dX0_holdsBy_10 : decode cX0_holdsBy 10 = .ok (.iload_n 2, 1) := by decide +kernel
theorem dX0_holdsBy_11 : decode cX0_holdsBy 11 = .ok (.invokestatic 91, 3) := by decide +kernel
theorem dX0_holdsBy_14 : decode cX0_holdsBy 14 = .ok (.lmul, 1) := by decide +kernel
theorem dX0_holdsBy_15 : decode cX0_holdsBy 15 = .ok (.lcmp, 1) := by decide +kernel
theorem dX0_holdsBy_16 : decode cX0_holdsBy 16 = .ok (.ifCond .lt 7, 3) := by decide +kernel
theorem dX0_holdsBy_19 : decode cX0_holdsBy 19 = .ok (.iconst 1, 1) := by decide +kernel
theorem dX0_holdsBy_20 : decode cX0_holdsBy 20 = .ok (.goto 4, 3) := by decide +kernel
theorem dX0_holdsBy_23 : decode cX0_holdsBy 23 = .ok (.iconst 0, 1) := by decide +kernel
theorem dX0_holdsBy_24 : decode cX0_holdsBy 24 = .ok (.ireturn, 1) := by decide +kernel
theorem dX0_foresee_0 : decode cX0_foresee 0 = .ok (.iconst 0, 1) := by decide +kernel
theorem dX0_foresee_1 : decode cX0_foresee 1 = .ok (.istore_n 1, 1) := by decide +kernel
theorem dX0_foresee_2 : decode cX0_foresee 2 = .ok (.iload_n 1, 1) := by decide +kernel
theorem dX0_foresee_3 : decode cX0_foresee 3 = .ok (.iconst 5, 1) := by decide +kernel
theorem dX0_foresee_4 : decode cX0_foresee 4 = .ok (.if_icmp .gt 36, 3) := by decide +kernel
theorem dX0_foresee_7 : decode cX0_foresee 7 = .ok (.aload_n 0, 1) := by decide +kernel
theorem dX0_foresee_8 : decode cX0_foresee 8 = .ok (.getfield 34, 3) := by decide +kernel
theorem dX0_foresee_11 : decode cX0_foresee 11 = .ok (.iload_n 1, 1) := by decide +kernel
theorem dX0_foresee_12 : decode cX0_foresee 12 = .ok (.aload_n 0, 1) := by decide +kernel
theorem dX0_foresee_13 : decode cX0_foresee 13 = .ok (.invokevirtual 87, 3) := by decide +kernel
theorem dX0_foresee_16 : decode cX0_foresee 16 = .ok (.iconst 5, 1) := by decide +kernel
theorem dX0_foresee_17 : decode cX0_foresee 17 = .ok (.iload_n 1, 1) := by decide +kernel
theorem dX0_foresee_18 : decode cX0_foresee 18 = .ok (.isub, 1) := by decide +kernel
theorem dX0_foresee_19 : decode cX0_foresee 19 = .ok (.invokestatic 91, 3) := by decide +kernel
theorem dX0_foresee_22 : decode cX0_foresee 22 = .ok (.lmul, 1) := by decide +kernel
theorem dX0_foresee_23 : decode cX0_foresee 23 = .ok (.lastore, 1) := by decide +kernel
theorem dX0_foresee_24 : decode cX0_foresee 24 = .ok (.iload_n 1, 1) := by decide +kernel
theorem dX0_foresee_25 : decode cX0_foresee 25 = .ok (.iconst 5, 1) := by decide +kernel
theorem dX0_foresee_26 : decode cX0_foresee 26 = .ok (.if_icmp .ge 8, 3) := by decide +kernel
theorem dX0_foresee_29 : decode cX0_foresee 29 = .ok (.aload_n 0, 1) := by decide +kernel
theorem dX0_foresee_30 : decode cX0_foresee 30 = .ok (.iload_n 1, 1) := by decide +kernel
theorem dX0_foresee_31 : decode cX0_foresee 31 = .ok (.invokevirtual 58, 3) := by decide +kernel
theorem dX0_foresee_34 : decode cX0_foresee 34 = .ok (.iinc 1 1, 3) := by decide +kernel
theorem dX0_foresee_37 : decode cX0_foresee 37 = .ok (.goto (-35), 3) := by decide +kernel
theorem dX0_foresee_40 : decode cX0_foresee 40 = .ok (.return_, 1) := by decide +kernel
theorem dX0_clearGains_0 : decode cX0_clearGains 0 = .ok (.iconst 0, 1) := by decide +kernel
theorem dX0_clearGains_1 : decode cX0_clearGains 1 = .ok (.istore_n 1, 1) := by decide +kernel
theorem dX0_clearGains_2 : decode cX0_clearGains 2 = .ok (.iload_n 1, 1) := by decide +kernel
theorem dX0_clearGains_3 : decode cX0_clearGains 3 = .ok (.aload_n 0, 1) := by decide +kernel
theorem dX0_clearGains_4 : decode cX0_clearGains 4 = .ok (.arraylength, 1) := by decide +kernel
theorem dX0_clearGains_5 : decode cX0_clearGains 5 = .ok (.if_icmp .ge 13, 3) := by decide +kernel
theorem dX0_clearGains_8 : decode cX0_clearGains 8 = .ok (.aload_n 0, 1) := by decide +kernel
theorem dX0_clearGains_9 : decode cX0_clearGains 9 = .ok (.iload_n 1, 1) := by decide +kernel
theorem dX0_clearGains_10 : decode cX0_clearGains 10 = .ok (.lconst 0, 1) := by decide +kernel
theorem dX0_clearGains_11 : decode cX0_clearGains 11 = .ok (.lastore, 1) := by decide +kernel
theorem dX0_clearGains_12 : decode cX0_clearGains 12 = .ok (.iinc 1 1, 3) := by decide +kernel
theorem dX0_clearGains_15 : decode cX0_clearGains 15 = .ok (.goto (-13), 3) := by decide +kernel
theorem dX0_clearGains_18 : decode cX0_clearGains 18 = .ok (.return_, 1) := by decide +kernel
def sm (f : Nat → Nat) : Nat → Nat
  | 0 => 0
  | n + 1 => sm f n + f n
def not0 (x : Nat → Nat) : Nat → Nat := fun j => if j = 0 then 0 else x j
def only (k : Nat) (x : Nat → Nat) : Nat → Nat := fun j => if pc3 j = k then x j else 0
set_option maxRecDepth 100000 in
set_option maxHeartbeats 4000000 in
theorem mX0_held_l (q : rT) (x : Nat → Nat) (n : Nat → Int64) (u : uT) : ∀ (k9 i : Nat), i + k9 = 8 → 1 ≤ i → J KX0_held 9 (fun o B => o = some (.long (lN (sm (not0 x) 8))) ∧ B = wO q x n u) 4 [some (.ref 0), some (.long (lN (sm (not0 x) i))), none, some (.int (nI i))] [] (wO q x n u) 0 0 := by
  intro k9
  induction k9 with
  | zero =>
    intro i hi
    obtain hiN : i = 8 := by omega
    intro hst
    subst hiN
    refine J.iload_n dX0_held_4 rfl rfl ?_
    refine J.bipush (8) dX0_held_5 (by decide) ?_
    refine J.icmp_ge (tgt := 25) dX0_held_7 (by decide) (fun c7 => ?_) (fun c7 => absurd c7 (fun h => h (by decide)))
    refine J.lload_n dX0_held_25 rfl rfl ?_
    exact J.lret dX0_held_26 rfl (Nat.le_refl _) (Nat.le_refl _) ⟨rfl, rfl⟩
  | succ k9 ih =>
    intro i hi
    have hiN : i < 8 := by omega
    intro hst
    refine J.iload_n dX0_held_4 rfl rfl ?_
    refine J.bipush (8) dX0_held_5 (by decide) ?_
    refine J.icmp_ge (tgt := 25) dX0_held_7 (by decide) (fun c7 => absurd c7 (nI_ge (b := 8) hiN (by decide))) (fun c7 => ?_)
    refine J.lload_n dX0_held_10 rfl rfl ?_
    refine J.aload_n dX0_held_11 rfl rfl ?_
    refine J.getfield dX0_held_12 jFX0_21 rfl rfl ?_
    refine J.iload_n dX0_held_15 rfl rfl ?_
    refine J.laloadN dX0_held_16 rfl hiN ?_
    refine J.ladd dX0_held_17 ?_
    refine J.lstore_n dX0_held_18 rfl (by decide) rfl ?_
    try dsimp only [List.set, wO, wR]
    refine J.iinc (1) dX0_held_19 (by decide) rfl (by decide) rfl ?_
    try dsimp only [List.set, wO, wR]
    refine J.goto (tgt := 4) dX0_held_22 (by decide) ?_
    refine J.at (ih (i + 1) (by omega) (by omega)) ?_ rfl rfl
    rw [← nI_1, sm, not0, if_neg (show ¬ i = 0 by omega), ← lN_add]
set_option maxRecDepth 100000 in
set_option maxHeartbeats 4000000 in
theorem mX0_held (q : rT) (x : Nat → Nat) (n : Nat → Int64) (u : uT) : J KX0_held 9 (fun o B => o = some (.long (lN (sm (not0 x) 8))) ∧ B = wO q x n u) 0 [some (.ref 0), none, none, none] [] (wO q x n u) 0 0 := by
  refine J.lconst 0 dX0_held_0 (by decide) ?_
  refine J.lstore_n dX0_held_1 rfl (by decide) rfl ?_
  try dsimp only [List.set, wO, wR]
  refine J.iconst (1) dX0_held_2 (by decide) ?_
  refine J.istore_n dX0_held_3 rfl (by decide) rfl ?_
  try dsimp only [List.set, wO, wR]
  exact mX0_held_l q x n u 7 1 (by omega) (by omega)
set_option maxRecDepth 100000 in
set_option maxHeartbeats 4000000 in
theorem mX0_all (q : rT) (x : Nat → Nat) (n : Nat → Int64) (u : uT) : J KX0_all 9 (fun o B => o = some (.long (lN (x 0 + sm (not0 x) 8))) ∧ B = wO q x n u) 0 [some (.ref 0)] [] (wO q x n u) 0 0 := by
  refine J.aload_n dX0_all_0 rfl rfl ?_
  refine J.getfield dX0_all_1 jFX0_21 rfl rfl ?_
  refine J.iconst (0) dX0_all_4 (by decide) ?_
  refine J.laloadN (i := 0) dX0_all_5 rfl (by decide) ?_
  refine J.aload_n dX0_all_6 rfl rfl ?_
  refine J.cv (as := []) (is := [0, 1, 2, 3, 4, 5, 6, 7, 8]) (o := 0) okX0_held jcX0_87 (mX0_held q x n u) dX0_all_7 rfl rfl rfl rfl rfl rfl rfl (fun r9 B9 hq => ?_)
  obtain ⟨rfl, rfl⟩ := hq
  refine ⟨rfl, ?_⟩
  show J _ _ _ _ _ (.long _ :: _) (wO q x n u) _ _
  refine J.ladd dX0_all_10 ?_
  exact J.lret dX0_all_11 rfl (Nat.le_refl _) (Nat.le_refl _) ⟨by rw [lN_add], rfl⟩
set_option maxRecDepth 100000 in
set_option maxHeartbeats 4000000 in
theorem mX0_justWhole_l (q : rT) (x : Nat → Nat) (n : Nat → Int64) (u : uT) (k : Nat) (hk : k < 100) : ∀ (k9 i : Nat), i + k9 = 8 → J KX0_justWhole 9 (fun o B => o = some (.long (lN (sm (only k x) 8))) ∧ B = wO q x n u) 5 [some (.ref 0), some (.int (nI k)), some (.long (lN (sm (only k x) i))), none, some (.int (nI i))] [] (wO q x n u) 0 0 := by
  intro k9
  induction k9 with
  | zero =>
    intro i hi
    obtain hiN : i = 8 := by omega
    subst hiN
    refine J.iload dX0_justWhole_5 rfl ?_
    refine J.bipush (8) dX0_justWhole_7 (by decide) ?_
    refine J.icmp_ge (tgt := 41) dX0_justWhole_9 (by decide) (fun c9 => ?_) (fun c9 => absurd c9 (fun h => h (by decide)))
    refine J.lload_n dX0_justWhole_41 rfl rfl ?_
    exact J.lret dX0_justWhole_42 rfl (Nat.le_refl _) (Nat.le_refl _) ⟨rfl, rfl⟩
  | succ k9 ih =>
    intro i hi
    have hiN : i < 8 := by omega
    refine J.iload dX0_justWhole_5 rfl ?_
    refine J.bipush (8) dX0_justWhole_7 (by decide) ?_
    refine J.icmp_ge (tgt := 41) dX0_justWhole_9 (by decide) (fun c9 => absurd c9 (nI_ge (b := 8) hiN (by decide))) (fun c9 => ?_)
    refine J.lload_n dX0_justWhole_12 rfl rfl ?_
    refine J.iload dX0_justWhole_13 rfl ?_
    refine J.cs (as := [.int _]) (is := []) okJ6_bitCount_0f7a4 jcX0_69 (mJ6_bitCount_0f7a4 _ hiN) dX0_justWhole_15 rfl rfl rfl rfl rfl rfl (fun r9 B9 hq => ?_)
    obtain ⟨rfl, rfl⟩ := hq
    refine ⟨rfl, ?_⟩
    show J _ _ _ _ _ (.int _ :: .long _ :: _) (wO q x n u) _ _
    refine J.iload_n dX0_justWhole_18 rfl rfl ?_
    refine J.icmp_ne (tgt := 32) dX0_justWhole_19 (by decide) (fun c19 => ?_) (fun c19 => ?_)
    · refine J.lconst 0 dX0_justWhole_32 (by decide) ?_
      refine J.ladd dX0_justWhole_33 ?_
      refine J.lstore_n dX0_justWhole_34 rfl (by decide) rfl ?_
      try dsimp only [List.set, wO, wR]
      refine J.iinc (1) dX0_justWhole_35 (by decide) rfl (by decide) rfl ?_
      try dsimp only [List.set, wO, wR]
      refine J.goto (tgt := 5) dX0_justWhole_38 (by decide) ?_
      refine J.at (ih (i + 1) (by omega)) ?_ rfl rfl
      first | rw [← nI_1, sm, only, if_pos ((nI_eqi (by have := pc3_le i; omega) (by omega)).mp c19), ← lN_add] | rw [← nI_1, sm, only, if_neg (fun h => c19 (by rw [h])), ← lN_add, lN_0]
    · refine J.aload_n dX0_justWhole_22 rfl rfl ?_
      refine J.getfield dX0_justWhole_23 jFX0_21 rfl rfl ?_
      refine J.iload dX0_justWhole_26 rfl ?_
      refine J.laloadN dX0_justWhole_28 rfl hiN ?_
      refine J.goto (tgt := 33) dX0_justWhole_29 (by decide) ?_
      refine J.ladd dX0_justWhole_33 ?_
      refine J.lstore_n dX0_justWhole_34 rfl (by decide) rfl ?_
      try dsimp only [List.set, wO, wR]
      refine J.iinc (1) dX0_justWhole_35 (by decide) rfl (by decide) rfl ?_
      try dsimp only [List.set, wO, wR]
      refine J.goto (tgt := 5) dX0_justWhole_38 (by decide) ?_
      refine J.at (ih (i + 1) (by omega)) ?_ rfl rfl
      first | rw [← nI_1, sm, only, if_pos ((nI_eqi (by have := pc3_le i; omega) (by omega)).mp c19), ← lN_add] | rw [← nI_1, sm, only, if_neg (fun h => c19 (by rw [h])), ← lN_add, lN_0]
set_option maxRecDepth 100000 in
set_option maxHeartbeats 4000000 in
theorem mX0_justWhole (q : rT) (x : Nat → Nat) (n : Nat → Int64) (u : uT) (k : Nat) (hk : k < 100) : J KX0_justWhole 9 (fun o B => o = some (.long (lN (sm (only k x) 8))) ∧ B = wO q x n u) 0 [some (.ref 0), some (.int (nI k)), none, none, none] [] (wO q x n u) 0 0 := by
  refine J.lconst 0 dX0_justWhole_0 (by decide) ?_
  refine J.lstore_n dX0_justWhole_1 rfl (by decide) rfl ?_
  try dsimp only [List.set, wO, wR]
  refine J.iconst (0) dX0_justWhole_2 (by decide) ?_
  refine J.istore dX0_justWhole_3 (by decide) rfl ?_
  try dsimp only [List.set, wO, wR]
  exact mX0_justWhole_l q x n u k hk 8 0 (by omega)
set_option maxRecDepth 100000 in
set_option maxHeartbeats 4000000 in
theorem mX0_keepOnly_l (q : rT) (x : Nat → Nat) (n : Nat → Int64) (u : uT) (k : Nat) (hk : k < 100) : ∀ (k9 i : Nat), i + k9 = 8 → J KX0_keepOnly 9 (fun o B => o = none ∧ B = wO q (only k x) n u) 2 [some (.ref 0), some (.int (nI k)), some (.int (nI i))] [] [.inr (0, [.ref 1, .ref 2, .ref 3, .int (nI (q 6 0)), .int (nI (q 6 1)), .ref 4, .ref 5, .ref 6, .ref 7, .ref 8, .long (u 3 0), .long (u 3 1)]), .inl (0, 3, .inl (fun j => nI (q 0 j))), .inl (0, 3, .inl (fun j => nI (q 1 j))), .inl (0, 3, .inl (fun j => nI (q 2 j))), .inl (1, 8, .inr (.inl (fun j => lN (if j < i then only k x j else x j)))), .inl (1, 8, .inr (.inl (n))), .inl (1, 8, .inr (.inl (u 0))), .inl (1, 8, .inr (.inl (u 1))), .inl (1, 6, .inr (.inl (u 2)))] 0 0 := by
  intro k9
  induction k9 with
  | zero =>
    intro i hi
    obtain hiN : i = 8 := by omega
    subst hiN
    refine J.iload_n dX0_keepOnly_2 rfl rfl ?_
    refine J.bipush (8) dX0_keepOnly_3 (by decide) ?_
    refine J.icmp_ge (tgt := 29) dX0_keepOnly_5 (by decide) (fun c5 => ?_) (fun c5 => absurd c5 (fun h => h (by decide)))
    refine J.arrL 4 1 (fun j => lN (only k x j)) rfl (fun j hj => by rw [if_pos hj]) ?_
    exact J.vret dX0_keepOnly_29 rfl (Nat.le_refl _) (Nat.le_refl _) ⟨rfl, rfl⟩
  | succ k9 ih =>
    intro i hi
    have hiN : i < 8 := by omega
    refine J.iload_n dX0_keepOnly_2 rfl rfl ?_
    refine J.bipush (8) dX0_keepOnly_3 (by decide) ?_
    refine J.icmp_ge (tgt := 29) dX0_keepOnly_5 (by decide) (fun c5 => absurd c5 (nI_ge (b := 8) hiN (by decide))) (fun c5 => ?_)
    refine J.iload_n dX0_keepOnly_8 rfl rfl ?_
    refine J.cs (as := [.int _]) (is := []) okJ6_bitCount_0f7a4 jcX0_69 (mJ6_bitCount_0f7a4 _ hiN) dX0_keepOnly_9 rfl rfl rfl rfl rfl rfl (fun r9 B9 hq => ?_)
    obtain ⟨rfl, rfl⟩ := hq
    refine ⟨rfl, ?_⟩
    show J _ _ _ _ _ (.int _ :: _) [.inr (0, [.ref 1, .ref 2, .ref 3, .int (nI (q 6 0)), .int (nI (q 6 1)), .ref 4, .ref 5, .ref 6, .ref 7, .ref 8, .long (u 3 0), .long (u 3 1)]), .inl (0, 3, .inl (fun j => nI (q 0 j))), .inl (0, 3, .inl (fun j => nI (q 1 j))), .inl (0, 3, .inl (fun j => nI (q 2 j))), .inl (1, 8, .inr (.inl (fun j => lN (if j < i then only k x j else x j)))), .inl (1, 8, .inr (.inl (n))), .inl (1, 8, .inr (.inl (u 0))), .inl (1, 8, .inr (.inl (u 1))), .inl (1, 6, .inr (.inl (u 2)))] _ _
    refine J.iload_n dX0_keepOnly_12 rfl rfl ?_
    refine J.icmp_eq (tgt := 23) dX0_keepOnly_13 (by decide) (fun c13 => ?_) (fun c13 => ?_)
    · refine J.iinc (1) dX0_keepOnly_23 (by decide) rfl (by decide) rfl ?_
      try dsimp only [List.set, wO, wR]
      refine J.goto (tgt := 2) dX0_keepOnly_26 (by decide) ?_
      refine J.at (ih (i + 1) (by omega)) (by rw [← nI_1]) rfl ?_
      simp only [jlt_e (fun j => only k x j) (fun j => x j)]
      first | done | (have e9 : (fun j => lN (if j = i then only k x i else if j < i then only k x j else x j)) = fun j => lN (if j < i then only k x j else x j) := by (funext j; by_cases hj : j = i; (subst hj; rw [if_pos rfl, if_neg (Nat.lt_irrefl j), only, if_pos ((nI_eqi (by have := pc3_le j; omega) (by omega)).mp c13)]); rw [if_neg hj])); rw [e9]
    · refine J.aload_n dX0_keepOnly_16 rfl rfl ?_
      refine J.getfield dX0_keepOnly_17 jFX0_21 rfl rfl ?_
      refine J.iload_n dX0_keepOnly_20 rfl rfl ?_
      refine J.lconst 0 dX0_keepOnly_21 (by decide) ?_
      refine J.lastoreN dX0_keepOnly_22 rfl hiN ?_
      rw [show (0 : Int64) = lN (only k x i) from by rw [only, if_neg (fun h => c13 (by rw [h]))]; rfl, updL_lN]
      try dsimp only [List.set, wO, wR]
      refine J.iinc (1) dX0_keepOnly_23 (by decide) rfl (by decide) rfl ?_
      try dsimp only [List.set, wO, wR]
      refine J.goto (tgt := 2) dX0_keepOnly_26 (by decide) ?_
      refine J.at (ih (i + 1) (by omega)) (by rw [← nI_1]) rfl ?_
      simp only [jlt_e (fun j => only k x j) (fun j => x j)]
      first | done | (have e9 : (fun j => lN (if j = i then only k x i else if j < i then only k x j else x j)) = fun j => lN (if j < i then only k x j else x j) := by (funext j; by_cases hj : j = i; (subst hj; rw [if_pos rfl, if_neg (Nat.lt_irrefl j), only, if_pos ((nI_eqi (by have := pc3_le j; omega) (by omega)).mp c13)]); rw [if_neg hj])); rw [e9]
set_option maxRecDepth 100000 in
set_option maxHeartbeats 4000000 in
theorem mX0_keepOnly (q : rT) (x : Nat → Nat) (n : Nat → Int64) (u : uT) (k : Nat) (hk : k < 100) : J KX0_keepOnly 9 (fun o B => o = none ∧ B = wO q (only k x) n u) 0 [some (.ref 0), some (.int (nI k)), none] [] (wO q x n u) 0 0 := by
  refine J.iconst (0) dX0_keepOnly_0 (by decide) ?_
  refine J.istore_n dX0_keepOnly_1 rfl (by decide) rfl ?_
  try dsimp only [List.set, wO, wR]
  exact J.at (mX0_keepOnly_l q x n u k hk 8 0 (by omega)) rfl rfl (by simp only [Nat.not_lt_zero, if_false] <;> rfl)
theorem sub_le : ∀ s, s < 8 → ∀ r, r < 8 → r &&& (7 - s) = 0 → r ≤ s := by decide +kernel
/-- what comes of the shares x in the HOUR behind t: of the first s sets' shares, to the set r -/
def acc (q : rT) (x : Nat → Nat) (t : Nat) : Nat → Nat → Nat
  | 0, _ => 0
  | s + 1, r => acc q x t s r + x s * wtn (ten q s t) s r
def sh (q : rT) (x : Nat → Nat) : Nat → Nat → Nat
  | 0 => x
  | t + 1 => acc q (sh q x t) t 8
theorem acc_row (q : rT) (g : Nat → Nat) (x : Nat → Nat) (t : Nat) : ∀ s r, acc (rrow q 2 g) x t s r = acc q x t s r
  | 0, _ => rfl
  | s + 1, r => by rw [acc, acc, acc_row q g x t s r]; rfl
set_option maxRecDepth 100000 in
set_option maxHeartbeats 4000000 in
theorem mX0_passHour_l3 (q : rT) (x : Nat → Nat) (u : uT) (t : Nat) (g : Nat → Nat) (z : Option Value) : ∀ (k9 i : Nat), i + k9 = 8 → J KX0_passHour 9 (fun o B => o = none ∧ ∃ g n9, B = wO (rrow q 2 g) (acc q x t 8) n9 u) 89 [some (.ref 0), some (.int (nI t)), some (.int (nI i)), z] [] (wO (rrow q 2 g) (fun j => if j < i then acc q x t 8 j else x j) (fun r => lN (acc q x t 8 r)) u) 0 0 := by
  intro k9
  induction k9 with
  | zero =>
    intro i hi
    obtain hiN : i = 8 := by omega
    subst hiN
    refine J.iload_n dX0_passHour_89 rfl rfl ?_
    refine J.bipush (8) dX0_passHour_90 (by decide) ?_
    refine J.icmp_ge (tgt := 113) dX0_passHour_92 (by decide) (fun c92 => ?_) (fun c92 => absurd c92 (fun h => h (by decide)))
    refine J.arrL 4 1 (fun j => lN (acc q x t 8 j)) rfl (fun j hj => by simp only [if_pos hj]) ?_
    exact J.vret dX0_passHour_113 rfl (Nat.le_refl _) (Nat.le_refl _) ⟨rfl, g, _, rfl⟩
  | succ k9 ih =>
    intro i hi
    have hiN : i < 8 := by omega
    refine J.iload_n dX0_passHour_89 rfl rfl ?_
    refine J.bipush (8) dX0_passHour_90 (by decide) ?_
    refine J.icmp_ge (tgt := 113) dX0_passHour_92 (by decide) (fun c92 => absurd c92 (nI_ge (b := 8) hiN (by decide))) (fun c92 => ?_)
    refine J.aload_n dX0_passHour_95 rfl rfl ?_
    refine J.getfield dX0_passHour_96 jFX0_21 rfl rfl ?_
    refine J.iload_n dX0_passHour_99 rfl rfl ?_
    refine J.aload_n dX0_passHour_100 rfl rfl ?_
    refine J.getfield dX0_passHour_101 jFX0_25 rfl rfl ?_
    refine J.iload_n dX0_passHour_104 rfl rfl ?_
    refine J.laloadN dX0_passHour_105 rfl hiN ?_
    refine J.lastoreN dX0_passHour_106 rfl hiN ?_
    rw [updL_lN]
    try dsimp only [List.set, wO, wR]
    refine J.iinc (1) dX0_passHour_107 (by decide) rfl (by decide) rfl ?_
    try dsimp only [List.set, wO, wR]
    refine J.goto (tgt := 89) dX0_passHour_110 (by decide) ?_
    refine J.at (ih (i + 1) (by omega)) (by rw [← nI_1]) rfl ?_
    simp only [jlt_e (fun j => acc q x t 8 j) (fun j => x j)]
    rfl
set_option maxRecDepth 100000 in
set_option maxHeartbeats 4000000 in
theorem mX0_passHour_l2 (q : rT) (x : Nat → Nat) (u : uT) (t : Nat) (s : Nat) (hs : s < 8) (hk : J KX0_passHour 9 (fun o B => o = none ∧ ∃ g n9, B = wO (rrow q 2 g) (acc q x t 8) n9 u) 81 [some (.ref 0), some (.int (nI t)), some (.int (nI s)), some (.int (nI (s + 1)))] [] (wO (rrow q 2 (ten q s t)) x (fun j => lN (acc q x t (s + 1) j)) u) 0 0) : ∀ (k9 i : Nat), i + k9 = s + 1 → J KX0_passHour 9 (fun o B => o = none ∧ ∃ g n9, B = wO (rrow q 2 g) (acc q x t 8) n9 u) 48 [some (.ref 0), some (.int (nI t)), some (.int (nI s)), some (.int (nI i))] [] (wO (rrow q 2 (ten q s t)) x (fun j => lN (if j < i then acc q x t s j + x s * wtn (ten q s t) s j else acc q x t s j)) u) 0 0 := by
  intro k9
  induction k9 with
  | zero =>
    intro i hi
    obtain hiN : i = s + 1 := by omega
    subst hiN
    refine J.iload_n dX0_passHour_48 rfl rfl ?_
    refine J.iload_n dX0_passHour_49 rfl rfl ?_
    refine J.icmp_gt (tgt := 81) dX0_passHour_50 (by decide) (fun c50 => ?_) (fun c50 => absurd c50 (fun h => h ((nI_lti (by omega) (by omega)).mpr (Nat.lt_succ_self s))))
    refine J.arrL 5 1 (fun j => lN (acc q x t (s + 1) j)) rfl (fun j hj => ?_) (J.at hk rfl rfl rfl)
    by_cases h : j < s + 1
    · rw [if_pos h]; rfl
    · rw [if_neg h, acc, wtn, if_neg (fun h9 => h (Nat.lt_succ_of_le (sub_le s hs j hj h9))), Nat.mul_zero, Nat.add_zero]
  | succ k9 ih =>
    intro i hi
    have hiN : i < s + 1 := by omega
    refine J.iload_n dX0_passHour_48 rfl rfl ?_
    refine J.iload_n dX0_passHour_49 rfl rfl ?_
    refine J.icmp_gt (tgt := 81) dX0_passHour_50 (by decide) (fun c50 => absurd c50 (fun h => absurd ((nI_lti (by omega) (by omega)).mp h) (by omega))) (fun c50 => ?_)
    refine J.aload_n dX0_passHour_53 rfl rfl ?_
    refine J.getfield dX0_passHour_54 jFX0_25 rfl rfl ?_
    refine J.iload_n dX0_passHour_57 rfl rfl ?_
    refine J.dup2 dX0_passHour_58 rfl rfl ?_
    refine J.laloadN dX0_passHour_59 rfl (show i < 8 by omega) ?_
    rw [if_neg (Nat.lt_irrefl i)]
    refine J.aload_n dX0_passHour_60 rfl rfl ?_
    refine J.getfield dX0_passHour_61 jFX0_21 rfl rfl ?_
    refine J.iload_n dX0_passHour_64 rfl rfl ?_
    refine J.laloadN dX0_passHour_65 rfl hs ?_
    refine J.aload_n dX0_passHour_66 rfl rfl ?_
    refine J.iload_n dX0_passHour_67 rfl rfl ?_
    refine J.iload_n dX0_passHour_68 rfl rfl ?_
    refine J.cv (as := [.int _, .int _]) (is := [0, 1, 2, 3, 4, 5, 6, 7, 8]) (o := 0) okX0_weight jcX0_65 (mX0_weight (rrow q 2 (ten q s t)) x (fun j => lN (if j < i then acc q x t s j + x s * wtn (ten q s t) s j else acc q x t s j)) u s i hs (by omega) (fun i => ten_le q s t i)) dX0_passHour_69 rfl rfl rfl rfl rfl rfl rfl (fun r9 B9 hq => ?_)
    obtain ⟨rfl, rfl⟩ := hq
    refine ⟨rfl, ?_⟩
    show J _ _ _ _ _ (.long _ :: .long _ :: .long _ :: .int _ :: .ref _ :: _) (wO (rrow q 2 (ten q s t)) x (fun j => lN (if j < i then acc q x t s j + x s * wtn (ten q s t) s j else acc q x t s j)) u) _ _
    refine J.lmul dX0_passHour_72 ?_
    refine J.ladd dX0_passHour_73 ?_
    rw [lN_mul, lN_add]
    refine J.lastoreN dX0_passHour_74 rfl (show i < 8 by omega) ?_
    rw [updL_lN]
    try dsimp only [List.set, wO, wR]
    refine J.iinc (1) dX0_passHour_75 (by decide) rfl (by decide) rfl ?_
    try dsimp only [List.set, wO, wR]
    refine J.goto (tgt := 48) dX0_passHour_78 (by decide) ?_
    refine J.at (ih (i + 1) (by omega)) (by rw [← nI_1]) rfl ?_
    simp only [jlt_e (fun j => acc q x t s j + x s * wtn (ten q s t) s j) (fun j => acc q x t s j)]
    rfl
theorem lg_eq0 {a : Int64} (h : lg_cmp a 0 = 0) : a = 0 := by
  unfold lg_cmp at h
  split at h
  · exact absurd h (by decide)
  · split at h
    · next h2 => simpa using h2
    · exact absurd h (by decide)
set_option maxRecDepth 100000 in
set_option maxHeartbeats 4000000 in
theorem mX0_passHour_l1 (q : rT) (x : Nat → Nat) (u : uT) (t : Nat) (hq : oOK q) (ht : t < 100) : ∀ (k9 i : Nat), i + k9 = 8 → ∀ (g : Nat → Nat) (z : Option Value), J KX0_passHour 9 (fun o B => o = none ∧ ∃ g n9, B = wO (rrow q 2 g) (acc q x t 8) n9 u) 23 [some (.ref 0), some (.int (nI t)), some (.int (nI i)), z] [] (wO (rrow q 2 g) x (fun r => lN (acc q x t i r)) u) 0 0 := by
  intro k9
  induction k9 with
  | zero =>
    intro i hi
    obtain hiN : i = 8 := by omega
    intro g z
    subst hiN
    refine J.iload_n dX0_passHour_23 rfl rfl ?_
    refine J.bipush (8) dX0_passHour_24 (by decide) ?_
    refine J.icmp_ge (tgt := 87) dX0_passHour_26 (by decide) (fun c26 => ?_) (fun c26 => absurd c26 (fun h => h (by decide)))
    refine J.iconst (0) dX0_passHour_87 (by decide) ?_
    refine J.istore_n dX0_passHour_88 rfl (by decide) rfl ?_
    try dsimp only [List.set, wO, wR]
    exact J.at (mX0_passHour_l3 q x u t g z 8 0 (by omega)) rfl rfl (by simp only [Nat.not_lt_zero, if_false] <;> rfl)
  | succ k9 ih =>
    intro i hi
    have hiN : i < 8 := by omega
    intro g z
    refine J.iload_n dX0_passHour_23 rfl rfl ?_
    refine J.bipush (8) dX0_passHour_24 (by decide) ?_
    refine J.icmp_ge (tgt := 87) dX0_passHour_26 (by decide) (fun c26 => absurd c26 (nI_ge (b := 8) hiN (by decide))) (fun c26 => ?_)
    refine J.aload_n dX0_passHour_29 rfl rfl ?_
    refine J.getfield dX0_passHour_30 jFX0_21 rfl rfl ?_
    refine J.iload_n dX0_passHour_33 rfl rfl ?_
    refine J.laloadN dX0_passHour_34 rfl hiN ?_
    refine J.lconst 0 dX0_passHour_35 (by decide) ?_
    refine J.lcmp dX0_passHour_36 ?_
    refine J.if_eq (tgt := 81) dX0_passHour_37 (by decide) (fun c37 => ?_) (fun c37 => ?_)
    · refine J.iinc (1) dX0_passHour_81 (by decide) rfl (by decide) rfl ?_
      try dsimp only [List.set, wO, wR]
      refine J.goto (tgt := 23) dX0_passHour_84 (by decide) ?_
      refine J.arrL 5 1 (fun r => lN (acc q x t (i + 1) r)) rfl (fun j hj => ?_) (J.at (ih (i + 1) (by omega) g _) (by rw [← nI_1]) rfl rfl)
      rw [acc, ← lN_add, ← lN_mul, show lN (x i) = 0 from lg_eq0 c37, Int64.zero_mul, Int64.add_zero]
    · refine J.aload_n dX0_passHour_40 rfl rfl ?_
      refine J.iload_n dX0_passHour_41 rfl rfl ?_
      refine J.iload_n dX0_passHour_42 rfl rfl ?_
      refine J.cv (as := [.int _, .int _]) (is := [0, 1, 2, 3, 4, 5, 6, 7, 8]) (o := 0) okX0_weigh jcX0_61 (mX0_weigh (rrow q 2 g) x (fun r => lN (acc q x t i r)) u i t hq hiN ht) dX0_passHour_43 rfl rfl rfl rfl rfl rfl rfl (fun r9 B9 hq => ?_)
      obtain ⟨rfl, rfl⟩ := hq
      refine ⟨rfl, ?_⟩
      show J _ _ _ _ _ [] (wO (rrow q 2 (ten q i t)) x (fun r => lN (acc q x t i r)) u) _ _
      refine J.iconst (0) dX0_passHour_46 (by decide) ?_
      refine J.istore_n dX0_passHour_47 rfl (by decide) rfl ?_
      try dsimp only [List.set, wO, wR]
      refine J.at (mX0_passHour_l2 q x u t i hiN ?_ (i + 1) 0 (by omega)) rfl rfl (by simp only [Nat.not_lt_zero, if_false] <;> rfl)
      refine J.iinc (1) dX0_passHour_81 (by decide) rfl (by decide) rfl ?_
      dsimp only [List.set]
      refine J.goto (tgt := 23) dX0_passHour_84 (by decide) ?_
      exact J.at (ih (i + 1) (by omega) (ten q i t) _) (by rw [← nI_1]) rfl rfl
set_option maxRecDepth 100000 in
set_option maxHeartbeats 4000000 in
theorem mX0_passHour_l0 (q : rT) (x : Nat → Nat) (n : Nat → Int64) (u : uT) (t : Nat) (hq : oOK q) (ht : t < 100) : ∀ (k9 i : Nat), i + k9 = 8 → J KX0_passHour 9 (fun o B => o = none ∧ ∃ g n9, B = wO (rrow q 2 g) (acc q x t 8) n9 u) 2 [some (.ref 0), some (.int (nI t)), some (.int (nI i)), none] [] (wO q x (fun j => if j < i then 0 else n j) u) 0 0 := by
  intro k9
  induction k9 with
  | zero =>
    intro i hi
    obtain hiN : i = 8 := by omega
    subst hiN
    refine J.iload_n dX0_passHour_2 rfl rfl ?_
    refine J.bipush (8) dX0_passHour_3 (by decide) ?_
    refine J.icmp_ge (tgt := 21) dX0_passHour_5 (by decide) (fun c5 => ?_) (fun c5 => absurd c5 (fun h => h (by decide)))
    refine J.iconst (0) dX0_passHour_21 (by decide) ?_
    refine J.istore_n dX0_passHour_22 rfl (by decide) rfl ?_
    try dsimp only [List.set, wO, wR]
    refine J.arrL 5 1 (fun r => lN (acc q x t 0 r)) rfl (fun j hj => by rw [if_pos hj]; rfl) ?_
    exact J.at (mX0_passHour_l1 q x u t hq ht 8 0 (by omega) (q 2) none) rfl rfl rfl
  | succ k9 ih =>
    intro i hi
    have hiN : i < 8 := by omega
    refine J.iload_n dX0_passHour_2 rfl rfl ?_
    refine J.bipush (8) dX0_passHour_3 (by decide) ?_
    refine J.icmp_ge (tgt := 21) dX0_passHour_5 (by decide) (fun c5 => absurd c5 (nI_ge (b := 8) hiN (by decide))) (fun c5 => ?_)
    refine J.aload_n dX0_passHour_8 rfl rfl ?_
    refine J.getfield dX0_passHour_9 jFX0_25 rfl rfl ?_
    refine J.iload_n dX0_passHour_12 rfl rfl ?_
    refine J.lconst 0 dX0_passHour_13 (by decide) ?_
    refine J.lastoreN dX0_passHour_14 rfl hiN ?_
    try dsimp only [List.set, wO, wR]
    refine J.iinc (1) dX0_passHour_15 (by decide) rfl (by decide) rfl ?_
    try dsimp only [List.set, wO, wR]
    refine J.goto (tgt := 2) dX0_passHour_18 (by decide) ?_
    refine J.at (ih (i + 1) (by omega)) (by rw [← nI_1]) rfl ?_
    have e9 : vp_updL (fun j => if j < i then 0 else n j) i 0 = fun j => if j < i + 1 then 0 else n j := (jlt_s (fun _ => (0 : Int64)) n i)
    rw [e9]
    rfl
set_option maxRecDepth 100000 in
set_option maxHeartbeats 4000000 in
theorem mX0_passHour (q : rT) (x : Nat → Nat) (n : Nat → Int64) (u : uT) (t : Nat) (hq : oOK q) (ht : t < 100) : J KX0_passHour 9 (fun o B => o = none ∧ ∃ g n9, B = wO (rrow q 2 g) (acc q x t 8) n9 u) 0 [some (.ref 0), some (.int (nI t)), none, none] [] (wO q x n u) 0 0 := by
  refine J.iconst (0) dX0_passHour_0 (by decide) ?_
  refine J.istore_n dX0_passHour_1 rfl (by decide) rfl ?_
  try dsimp only [List.set, wO, wR]
  exact J.at (mX0_passHour_l0 q x n u t hq ht 8 0 (by omega)) rfl rfl (by simp only [Nat.not_lt_zero, if_false] <;> rfl)
