theorem dX6_likely_0 : decode cX6_likely 0 = .ok (.iload_n 1, 1) := by decide +kernel
theorem dX6_likely_1 : decode cX6_likely 1 = .ok (.iconst 0, 1) := by decide +kernel
theorem dX6_likely_2 : decode cX6_likely 2 = .ok (.iconst 4, 1) := by decide +kernel
theorem dX6_likely_3 : decode cX6_likely 3 = .ok (.invokestatic 59, 3) := by decide +kernel
theorem dX6_likely_6 : decode cX6_likely 6 = .ok (.ifCond .eq 21, 3) := by decide +kernel
theorem dX6_likely_9 : decode cX6_likely 9 = .ok (.iload_n 2, 1) := by decide +kernel
theorem dX6_likely_10 : decode cX6_likely 10 = .ok (.iconst 1, 1) := by decide +kernel
theorem dX6_likely_11 : decode cX6_likely 11 = .ok (.iconst 3, 1) := by decide +kernel
theorem dX6_likely_12 : decode cX6_likely 12 = .ok (.invokestatic 59, 3) := by decide +kernel
theorem dX6_likely_15 : decode cX6_likely 15 = .ok (.ifCond .eq 12, 3) := by decide +kernel
theorem dX6_likely_18 : decode cX6_likely 18 = .ok (.iload_n 3, 1) := by decide +kernel
theorem dX6_likely_19 : decode cX6_likely 19 = .ok (.iconst 0, 1) := by decide +kernel
theorem dX6_likely_20 : decode cX6_likely 20 = .ok (.iconst 1, 1) := by decide +kernel
theorem dX6_likely_21 : decode cX6_likely 21 = .ok (.invokestatic 59, 3) := by decide +kernel
theorem dX6_likely_24 : decode cX6_likely 24 = .ok (.ifCond .ne 7, 3) := by decide +kernel
theorem dX6_likely_27 : decode cX6_likely 27 = .ok (.ldc2_w 146, 3) := by decide +kernel
theorem dX6_likely_30 : decode cX6_likely 30 = .ok (.lreturn, 1) := by decide +kernel
theorem dX6_likely_31 : decode cX6_likely 31 = .ok (.aload_n 0, 1) := by decide +kernel
theorem dX6_likely_32 : decode cX6_likely 32 = .ok (.iload_n 1, 1) := by decide +kernel
theorem dX6_likely_33 : decode cX6_likely 33 = .ok (.iload_n 2, 1) := by decide +kernel
theorem dX6_likely_34 : decode cX6_likely 34 = .ok (.invokevirtual 217, 3) := by decide +kernel
theorem dX6_likely_37 : decode cX6_likely 37 = .ok (.aload_n 0, 1) := by decide +kernel
theorem dX6_likely_38 : decode cX6_likely 38 = .ok (.getfield 44, 3) := by decide +kernel
theorem dX6_likely_41 : decode cX6_likely 41 = .ok (.invokevirtual 220, 3) := by decide +kernel
theorem dX6_likely_44 : decode cX6_likely 44 = .ok (.invokestatic 148, 3) := by decide +kernel
theorem dX6_likely_47 : decode cX6_likely 47 = .ok (.iload_n 3, 1) := by decide +kernel
theorem dX6_likely_48 : decode cX6_likely 48 = .ok (.invokestatic 155, 3) := by decide +kernel
theorem dX6_likely_51 : decode cX6_likely 51 = .ok (.lreturn, 1) := by decide +kernel
theorem dX6_guess_0 : decode cX6_guess 0 = .ok (.iload_n 1, 1) := by decide +kernel
theorem dX6_guess_1 : decode cX6_guess 1 = .ok (.iconst 0, 1) := by decide +kernel
theorem dX6_guess_2 : decode cX6_guess 2 = .ok (.iconst 2, 1) := by decide +kernel
theorem dX6_guess_3 : decode cX6_guess 3 = .ok (.invokestatic 59, 3) := by decide +kernel
theorem dX6_guess_6 : decode cX6_guess 6 = .ok (.ifCond .ne 7, 3) := by decide +kernel
theorem dX6_guess_9 : decode cX6_guess 9 = .ok (.ldc2_w 146, 3) := by decide +kernel
theorem dX6_guess_12 : decode cX6_guess 12 = .ok (.lreturn, 1) := by decide +kernel
theorem dX6_guess_13 : decode cX6_guess 13 = .ok (.bipush (-4), 2) := by decide +kernel
theorem dX6_guess_15 : decode cX6_guess 15 = .ok (.istore_n 2, 1) := by decide +kernel
theorem dX6_guess_16 : decode cX6_guess 16 = .ok (.lconst 0, 1) := by decide +kernel
theorem dX6_guess_17 : decode cX6_guess 17 = .ok (.lstore_n 3, 1) := by decide +kernel
theorem dX6_guess_18 : decode cX6_guess 18 = .ok (.iconst 0, 1) := by decide +kernel
theorem dX6_guess_19 : decode cX6_guess 19 = .ok (.istore 5, 2) := by decide +kernel
theorem dX6_guess_21 : decode cX6_guess 21 = .ok (.iload 5, 2) := by decide +kernel
theorem dX6_guess_23 : decode cX6_guess 23 = .ok (.iconst 5, 1) := by decide +kernel
theorem dX6_guess_24 : decode cX6_guess 24 = .ok (.if_icmp .ge 53, 3) := by decide +kernel
theorem dX6_guess_27 : decode cX6_guess 27 = .ok (.iconst 1, 1) := by decide +kernel
theorem dX6_guess_28 : decode cX6_guess 28 = .ok (.istore 6, 2) := by decide +kernel
theorem dX6_guess_30 : decode cX6_guess 30 = .ok (.iload 6, 2) := by decide +kernel
theorem dX6_guess_32 : decode cX6_guess 32 = .ok (.iconst 3, 1) := by decide +kernel
theorem dX6_guess_33 : decode cX6_guess 33 = .ok (.if_icmp .gt 38, 3) := by decide +kernel
theorem dX6_guess_36 : decode cX6_guess 36 = .ok (.aload_n 0, 1) := by decide +kernel
theorem dX6_guess_37 : decode cX6_guess 37 = .ok (.iload 5, 2) := by decide +kernel
theorem dX6_guess_39 : decode cX6_guess 39 = .ok (.iload 6, 2) := by decide +kernel
theorem dX6_guess_41 : decode cX6_guess 41 = .ok (.invokevirtual 217, 3) := by decide +kernel
theorem dX6_guess_44 : decode cX6_guess 44 = .ok (.lstore 7, 2) := by decide +kernel
theorem dX6_guess_46 : decode cX6_guess 46 = .ok (.lload 7, 2) := by decide +kernel
theorem dX6_guess_48 : decode cX6_guess 48 = .ok (.lload_n 3, 1) := by decide +kernel
theorem dX6_guess_49 : decode cX6_guess 49 = .ok (.lcmp, 1) := by decide +kernel
theorem dX6_guess_50 : decode cX6_guess 50 = .ok (.ifCond .le 15, 3) := by decide +kernel
theorem dX6_guess_53 : decode cX6_guess 53 = .ok (.lload 7, 2) := by decide +kernel
theorem dX6_guess_55 : decode cX6_guess 55 = .ok (.lstore_n 3, 1) := by decide +kernel
theorem dX6_guess_56 : decode cX6_guess 56 = .ok (.bipush 10, 2) := by decide +kernel
theorem dX6_guess_58 : decode cX6_guess 58 = .ok (.iload 5, 2) := by decide +kernel
theorem dX6_guess_60 : decode cX6_guess 60 = .ok (.imul, 1) := by decide +kernel
theorem dX6_guess_61 : decode cX6_guess 61 = .ok (.iload 6, 2) := by decide +kernel
theorem dX6_guess_63 : decode cX6_guess 63 = .ok (.iadd, 1) := by decide +kernel
theorem dX6_guess_64 : decode cX6_guess 64 = .ok (.istore_n 2, 1) := by decide +kernel
theorem dX6_guess_65 : decode cX6_guess 65 = .ok (.iinc 6 1, 3) := by decide +kernel
theorem dX6_guess_68 : decode cX6_guess 68 = .ok (.goto (-38), 3) := by decide +kernel
theorem dX6_guess_71 : decode cX6_guess 71 = .ok (.iinc 5 1, 3) := by decide +kernel
theorem dX6_guess_74 : decode cX6_guess 74 = .ok (.goto (-53), 3) := by decide +kernel
theorem dX6_guess_77 : decode cX6_guess 77 = .ok (.iload_n 1, 1) := by decide +kernel
theorem dX6_guess_78 : decode cX6_guess 78 = .ok (.ifCond .eq 9, 3) := by decide +kernel
theorem dX6_guess_81 : decode cX6_guess 81 = .ok (.iload_n 2, 1) := by decide +kernel
theorem dX6_guess_82 : decode cX6_guess 82 = .ok (.bipush (-4), 2) := by decide +kernel
theorem dX6_guess_84 : decode cX6_guess 84 = .ok (.if_icmp .ne 6, 3) := by decide +kernel
theorem dX6_guess_87 : decode cX6_guess 87 = .ok (.iload_n 2, 1) := by decide +kernel
theorem dX6_guess_88 : decode cX6_guess 88 = .ok (.i2l, 1) := by decide +kernel
theorem dX6_guess_89 : decode cX6_guess 89 = .ok (.lreturn, 1) := by decide +kernel
theorem dX6_guess_90 : decode cX6_guess 90 = .ok (.lload_n 3, 1) := by decide +kernel
theorem dX6_guess_91 : decode cX6_guess 91 = .ok (.aload_n 0, 1) := by decide +kernel
theorem dX6_guess_92 : decode cX6_guess 92 = .ok (.getfield 44, 3) := by decide +kernel
theorem dX6_guess_95 : decode cX6_guess 95 = .ok (.invokevirtual 220, 3) := by decide +kernel
theorem dX6_guess_98 : decode cX6_guess 98 = .ok (.invokestatic 148, 3) := by decide +kernel
theorem dX6_guess_101 : decode cX6_guess 101 = .ok (.iload_n 1, 1) := by decide +kernel
theorem dX6_guess_102 : decode cX6_guess 102 = .ok (.iconst 1, 1) := by decide +kernel
theorem dX6_guess_103 : decode cX6_guess 103 = .ok (.isub, 1) := by decide +kernel
theorem dX6_guess_104 : decode cX6_guess 104 = .ok (.invokestatic 155, 3) := by decide +kernel
theorem dX6_guess_107 : decode cX6_guess 107 = .ok (.lreturn, 1) := by decide +kernel
/-- the KING who gains most -/
def cr (r : rT) (N : Nat) : Nat → Int × Nat
  | 0 => (gnZ r 0 N True, 0)
  | k + 1 => if (cr r N k).1 < gnZ r (k + 1) N True then (gnZ r (k + 1) N True, k + 1) else cr r N k
theorem cr_le {r : rT} (h : rOK r) {N : Nat} (hN : N ≤ 5) : ∀ i, (cr r N i).1.natAbs ≤ 1000000000000000000
  | 0 => gnZ_le h 0 hN True
  | i + 1 => by
    rw [cr]
    split
    · exact gnZ_le h (i + 1) hN True
    · exact cr_le h hN i
def crownA (r : rT) (N : Nat) (wh : Int32) : Int64 := if wh = 0 then (nI (cr r N (r 6 1 - 1)).2).toInt64 else lowT (cr r N (r 6 1 - 1)).1 (1000 ^ N) (wh - 1)
theorem shl_eval : ∀ m, m < 4 → 1 <<< (nI m &&& 31) = nI (2 ^ m) := by decide +kernel
theorem p2_le : ∀ m, m ≤ 3 → 1 ≤ 2 ^ m ∧ 2 ^ m ≤ 8 := by decide
theorem lwS_le (r : rT) (h5 : ∀ i, r 5 i ≤ 9) {hb : Nat → Nat} {M : Nat} (hM : ∀ t, t ≤ 5 → hb t ≤ M) (s : Nat) : ∀ l, lwS r hb s l ≤ 9 * M * l
  | 0 => Nat.le_refl _
  | l + 1 => by
    have ih := lwS_le r h5 hM s l
    rw [lwS, Nat.mul_succ]
    split
    · next h => exact Nat.add_le_add ih (Nat.mul_le_mul (h5 l) (hM _ h.2))
    · omega
theorem hbe_le (q : rT) {x : Nat → Nat} (hx : sm x 8 ≤ 1) {t : Nat} (ht : t ≤ 5) : hbe q x t ≤ 1000000000000000 := by
  have h1 := not0_le (sh q x t)
  rw [sh_sum] at h1
  have h2 : sm (not0 (sh q x t)) 8 ≤ 1000 ^ t := Nat.le_trans h1 (by rw [← Nat.mul_one (1000 ^ t), Nat.mul_assoc, Nat.one_mul]; exact Nat.mul_le_mul_left _ hx)
  have h3 : hbe q x t ≤ 1000 ^ t * 1000 ^ (5 - t) := Nat.mul_le_mul_right _ h2
  rw [← Nat.pow_add, show t + (5 - t) = 5 by omega] at h3
  exact h3
def hbR (r : rT) : Nat → Nat := hbe (oqR r) (one (r 6 3))
theorem hbR_e (q r : rT) : hbe (otake q r) (one (r 6 3)) = hbR r := funext (hbe_c (ten_take q r) _)
theorem hbR_le {r : rT} (h : rOK r) : ∀ t, t ≤ 5 → hbR r t ≤ 1000000000000000 := fun t ht => hbe_le _ (Nat.le_of_eq (one_sum _ h.w)) ht
theorem lwR_le {r : rT} (h : rOK r) (s : Nat) : lwS r (hbR r) s (r 6 2) ≤ 27000000000000000 := by
  have h1 := lwS_le r h.2.2.2.2.2.2.2.2.2.2.2.2.2 (hbR_le h) s (r 6 2)
  have := h.2.2.1
  omega
def lw (r : rT) : Nat → Nat × Nat
  | 0 => (0, 0)
  | i + 1 => if (lw r i).1 < lwS r (hbR r) (i + 1) (r 6 2) then (lwS r (hbR r) (i + 1) (r 6 2), i + 1) else lw r i
theorem lw_le {r : rT} (h : rOK r) : ∀ i, (lw r i).1 ≤ 27000000000000000
  | 0 => Nat.zero_le _
  | i + 1 => by
    rw [lw]
    split
    · exact lwR_le h _
    · exact lw_le h i
def lawsA (r : rT) (wh : Int32) : Int64 := if wh = 0 then (nI (lw r (2 ^ r 6 2 - 1)).2).toInt64 else lowT ((lw r (2 ^ r 6 2 - 1)).1 : Int) (1000 ^ 5) (wh - 1)
set_option maxRecDepth 100000 in
set_option maxHeartbeats 4000000 in
theorem mX6_crown_l (rs : Nat → rT) (v : Nat → Nat → Nat) (c : Nat → Nat → Int32) (l : Nat → Int32) (tn : Int32) (N : Nat) (hN : N ≤ 5) (wh : Int32) (hw : 0 ≤ wh ∧ wh ≤ 2) (hr : rOK (rs 0)) (hK : 1 ≤ rs 0 6 1) : ∀ (k9 i : Nat), i + k9 = rs 0 6 1 - 1 → ∀ (z1 z2 : Option Value) (q : rT) (x : Nat → Nat) (n : Nat → Int64) (u : uT), J KX6_crown 62 (fun o B => o = some (.long (crownA (rs 0) N wh)) ∧ ∃ q9 x9 n9 u9, B = wC rs v q9 x9 n9 u9 c l tn) 47 [some (.ref 0), some (.int (nI N)), some (.int wh), some (.int (nI (cr (rs 0) N i).2)), some (.long (lI (cr (rs 0) N i).1)), none, some (.int (nI (i + 1))), z1, z2] [] (wC rs v q x n u c l tn) 0 0 := by
  intro k9
  induction k9 with
  | zero =>
    intro i hi
    obtain hiN : i = rs 0 6 1 - 1 := by omega
    intro z1 z2 q x n u
    subst hiN
    refine J.iload dX6_crown_47 rfl ?_
    refine J.aload_n dX6_crown_49 rfl rfl ?_
    refine J.getfield dX6_crown_50 jFX6_12 rfl rfl ?_
    refine J.getfield dX6_crown_53 jFX6_96 rfl rfl ?_
    refine J.icmp_ge (tgt := 89) dX6_crown_56 (by decide) (fun c56 => ?_) (fun c56 => absurd c56 (fun h => h ((nI_lei (by have := hr.2.1; omega) (by have := hr.2.1; omega)).mpr (by omega))))
    refine J.iload_n dX6_crown_89 rfl rfl ?_
    refine J.if_ne (tgt := 98) dX6_crown_90 (by decide) (fun c90 => ?_) (fun c90 => ?_)
    · refine J.lload dX6_crown_98 rfl ?_
      refine J.iload_n dX6_crown_100 rfl rfl ?_
      refine J.cs (as := [.int _]) (is := []) okX6_thousands jcX6_148 (mX6_thousands N (by omega)) dX6_crown_101 rfl rfl rfl rfl rfl rfl (fun r9 B9 hq => ?_)
      obtain ⟨rfl, rfl⟩ := hq
      refine ⟨rfl, ?_⟩
      show J _ _ _ _ _ (.long _ :: .long _ :: _) (wC rs v q x n u c l tn) _ _
      refine J.iload_n dX6_crown_104 rfl rfl ?_
      refine J.iconst (1) dX6_crown_105 (by decide) ?_
      refine J.isub dX6_crown_106 ?_
      refine J.cs (as := [.long _, .long _, .int _]) (is := []) okX6_part jcX6_155 (mX6_part (cr (rs 0) N (rs 0 6 1 - 1)).1 (1000 ^ N) (wh - 1) (by have := cr_le hr hN (rs 0 6 1 - 1); omega) (by have := cr_le hr hN (rs 0 6 1 - 1); omega) (by have := p1000 N hN; omega) (by have := p1000 N hN; omega)) dX6_crown_107 rfl rfl rfl rfl rfl rfl (fun r9 B9 hq => ?_)
      obtain ⟨rfl, rfl⟩ := hq
      refine ⟨rfl, ?_⟩
      show J _ _ _ _ _ (.long _ :: _) (wC rs v q x n u c l tn) _ _
      first | exact J.lret dX6_crown_110 rfl (Nat.le_refl _) (Nat.le_refl _) ⟨congrArg (fun z => some (Value.long z)) (if_pos c90).symm, _, _, _, _, rfl⟩ | exact J.lret dX6_crown_110 rfl (Nat.le_refl _) (Nat.le_refl _) ⟨congrArg (fun z => some (Value.long z)) (if_neg c90).symm, _, _, _, _, rfl⟩
    · refine J.iload_n dX6_crown_93 rfl rfl ?_
      refine J.i2l dX6_crown_94 ?_
      refine J.goto (tgt := 110) dX6_crown_95 (by decide) ?_
      first | exact J.lret dX6_crown_110 rfl (Nat.le_refl _) (Nat.le_refl _) ⟨congrArg (fun z => some (Value.long z)) (if_pos c90).symm, _, _, _, _, rfl⟩ | exact J.lret dX6_crown_110 rfl (Nat.le_refl _) (Nat.le_refl _) ⟨congrArg (fun z => some (Value.long z)) (if_neg c90).symm, _, _, _, _, rfl⟩
  | succ k9 ih =>
    intro i hi
    have hiN : i < rs 0 6 1 - 1 := by omega
    intro z1 z2 q x n u
    refine J.iload dX6_crown_47 rfl ?_
    refine J.aload_n dX6_crown_49 rfl rfl ?_
    refine J.getfield dX6_crown_50 jFX6_12 rfl rfl ?_
    refine J.getfield dX6_crown_53 jFX6_96 rfl rfl ?_
    refine J.icmp_ge (tgt := 89) dX6_crown_56 (by decide) (fun c56 => absurd c56 (nI_ge (by omega) (by have := hr.2.1; omega))) (fun c56 => ?_)
    refine J.aload_n dX6_crown_59 rfl rfl ?_
    refine J.iload dX6_crown_60 rfl ?_
    refine J.iload_n dX6_crown_62 rfl rfl ?_
    refine J.cvC (as := [.int _, .int _]) rs v q x n u c l tn [] okX6_seeingGain jcX6_173 (mX6_seeingGain rs v q x n u c l tn (i + 1) N (by have := hr.2.1; omega) hN hr) dX6_crown_63 rfl rfl rfl rfl rfl (fun r9 B9 hq9 => ?_)
    obtain ⟨rfl, q9, x9, n9, u9, rfl⟩ := hq9
    refine ⟨_, _, _, _, _, _, _, _, _, rfl, ?_⟩
    show J _ _ _ _ _ (.long _ :: _) (wC rs v q9 x9 n9 u9 c l tn) _ _
    rw [gnR_Z hr (i + 1) hN True]
    refine J.lstore dX6_crown_66 (by decide) rfl ?_
    try dsimp only [List.set]
    refine J.lload dX6_crown_68 rfl ?_
    refine J.lload dX6_crown_70 rfl ?_
    refine J.lcmp dX6_crown_72 ?_
    have hlt : lI (cr (rs 0) N i).1 < lI (gnZ (rs 0) (i + 1) N True) ↔ (cr (rs 0) N i).1 < gnZ (rs 0) (i + 1) N True := lI_lt (cr_le hr hN i) (gnZ_le hr (i + 1) hN True)
    refine J.if_le (tgt := 83) dX6_crown_73 (by decide) (fun c73 => ?_) (fun c73 => ?_)
    · refine J.iinc (1) dX6_crown_83 (by decide) rfl (by decide) rfl ?_
      try dsimp only [List.set]
      refine J.goto (tgt := 47) dX6_crown_86 (by decide) ?_
      first
      | (have e9 : cr (rs 0) N (i + 1) = cr (rs 0) N i := if_neg (fun h9 => cmpN c73 (hlt.mpr h9))
         exact J.at (ih (i + 1) (by omega) _ _ q9 x9 n9 u9) (by rw [e9, ← nI_1 (i + 1)]) rfl rfl)
      | (have e9 : cr (rs 0) N (i + 1) = (gnZ (rs 0) (i + 1) N True, i + 1) := if_pos (hlt.mp (cmpP c73))
         exact J.at (ih (i + 1) (by omega) _ _ q9 x9 n9 u9) (by rw [e9, ← nI_1 (i + 1)] <;> rfl) rfl rfl)
    · refine J.lload dX6_crown_76 rfl ?_
      refine J.lstore dX6_crown_78 (by decide) rfl ?_
      try dsimp only [List.set]
      refine J.iload dX6_crown_80 rfl ?_
      refine J.istore_n dX6_crown_82 rfl (by decide) rfl ?_
      try dsimp only [List.set]
      refine J.iinc (1) dX6_crown_83 (by decide) rfl (by decide) rfl ?_
      try dsimp only [List.set]
      refine J.goto (tgt := 47) dX6_crown_86 (by decide) ?_
      first
      | (have e9 : cr (rs 0) N (i + 1) = cr (rs 0) N i := if_neg (fun h9 => cmpN c73 (hlt.mpr h9))
         exact J.at (ih (i + 1) (by omega) _ _ q9 x9 n9 u9) (by rw [e9, ← nI_1 (i + 1)]) rfl rfl)
      | (have e9 : cr (rs 0) N (i + 1) = (gnZ (rs 0) (i + 1) N True, i + 1) := if_pos (hlt.mp (cmpP c73))
         exact J.at (ih (i + 1) (by omega) _ _ q9 x9 n9 u9) (by rw [e9, ← nI_1 (i + 1)] <;> rfl) rfl rfl)
set_option maxRecDepth 100000 in
set_option maxHeartbeats 4000000 in
theorem mX6_crown (rs : Nat → rT) (v : Nat → Nat → Nat) (q : rT) (x : Nat → Nat) (n : Nat → Int64) (u : uT) (c : Nat → Nat → Int32) (l : Nat → Int32) (tn : Int32) (N : Nat) (hN : N ≤ 5) (wh : Int32) (hw : 0 ≤ wh ∧ wh ≤ 2) (hr : rOK (rs 0)) (hK : 1 ≤ rs 0 6 1) : J KX6_crown 62 (fun o B => o = some (.long (crownA (rs 0) N wh)) ∧ ∃ q9 x9 n9 u9, B = wC rs v q9 x9 n9 u9 c l tn) 0 [some (.ref 0), some (.int (nI N)), some (.int wh), none, none, none, none, none, none] [] (wC rs v q x n u c l tn) 0 0 := by
  refine J.iload_n dX6_crown_0 rfl rfl ?_
  refine J.cs (as := [.int _]) (is := []) okX6_foreseen jcX6_143 (mX6_foreseen _) dX6_crown_1 rfl rfl rfl rfl rfl rfl (fun r9 B9 hq => ?_)
  obtain ⟨rfl, rfl⟩ := hq
  refine ⟨rfl, ?_⟩
  show J _ _ _ _ _ (.int _ :: _) (wC rs v q x n u c l tn) _ _
  refine J.if_eq (tgt := 16) dX6_crown_4 (by decide) (fun c4 => absurd c4 (fun h => (jB_0 _).mp h (jw (a := 0) (c := 5) (by decide) (Nat.zero_le _) hN))) (fun c4 => ?_)
  refine J.iload_n dX6_crown_7 rfl rfl ?_
  refine J.iconst (0) dX6_crown_8 (by decide) ?_
  refine J.iconst (2) dX6_crown_9 (by decide) ?_
  refine J.cs (as := [.int _, .int _, .int _]) (is := []) okX6_within jcX6_59 (mX6_within _ _ _) dX6_crown_10 rfl rfl rfl rfl rfl rfl (fun r9 B9 hq => ?_)
  obtain ⟨rfl, rfl⟩ := hq
  refine ⟨rfl, ?_⟩
  show J _ _ _ _ _ (.int _ :: _) (wC rs v q x n u c l tn) _ _
  refine J.if_ne (tgt := 20) dX6_crown_13 (by decide) (fun c13 => ?_) (fun c13 => absurd c13 (fun h => (jB_0 _).mp h hw))
  refine J.aload_n dX6_crown_20 rfl rfl ?_
  refine J.getfield dX6_crown_21 jFX6_12 rfl rfl ?_
  refine J.getfield dX6_crown_24 jFX6_96 rfl rfl ?_
  refine J.if_ne (tgt := 34) dX6_crown_27 (by decide) (fun c27 => ?_) (fun c27 => absurd c27 (nI_ne0 (by omega) (by have := hr.2.1; omega)))
  refine J.iconst (0) dX6_crown_34 (by decide) ?_
  refine J.istore_n dX6_crown_35 rfl (by decide) rfl ?_
  try dsimp only [List.set]
  refine J.aload_n dX6_crown_36 rfl rfl ?_
  refine J.iconst (0) dX6_crown_37 (by decide) ?_
  refine J.iload_n dX6_crown_38 rfl rfl ?_
  refine J.cvC (as := [.int _, .int _]) rs v q x n u c l tn [] okX6_seeingGain jcX6_173 (mX6_seeingGain rs v q x n u c l tn 0 N (by have := hr.2.1; omega) hN hr) dX6_crown_39 rfl rfl rfl rfl rfl (fun r9 B9 hq9 => ?_)
  obtain ⟨rfl, q9, x9, n9, u9, rfl⟩ := hq9
  refine ⟨_, _, _, _, _, _, _, _, _, rfl, ?_⟩
  show J _ _ _ _ _ (.long _ :: _) (wC rs v q9 x9 n9 u9 c l tn) _ _
  rw [gnR_Z hr 0 hN True]
  refine J.lstore dX6_crown_42 (by decide) rfl ?_
  try dsimp only [List.set]
  refine J.iconst (1) dX6_crown_44 (by decide) ?_
  refine J.istore dX6_crown_45 (by decide) rfl ?_
  try dsimp only [List.set]
  exact J.at (mX6_crown_l rs v c l tn N hN wh hw hr hK (rs 0 6 1 - 1) 0 (by omega) none none q9 x9 n9 u9) rfl rfl rfl
set_option maxRecDepth 100000 in
set_option maxHeartbeats 4000000 in
theorem mX6_crown_bad (rs : Nat → rT) (v : Nat → Nat → Nat) (q : rT) (x : Nat → Nat) (n : Nat → Int64) (u : uT) (c : Nat → Nat → Int32) (l : Nat → Int32) (tn : Int32) (N wh : Int32) (hb : ¬ (0 ≤ N ∧ N ≤ 5) ∨ ¬ (0 ≤ wh ∧ wh ≤ 2)) : J KX6_crown 62 (fun o B => o = some (.long (-1)) ∧ B = (wC rs v q x n u c l tn)) 0 [some (.ref 0), some (.int N), some (.int wh), none, none, none, none, none, none] [] (wC rs v q x n u c l tn) 0 0 := by
  refine J.iload_n dX6_crown_0 rfl rfl ?_
  refine J.cs (as := [.int _]) (is := []) okX6_foreseen jcX6_143 (mX6_foreseen _) dX6_crown_1 rfl rfl rfl rfl rfl rfl (fun r9 B9 hq => ?_)
  obtain ⟨rfl, rfl⟩ := hq
  refine ⟨rfl, ?_⟩
  show J _ _ _ _ _ (.int _ :: _) (wC rs v q x n u c l tn) _ _
  refine J.if_eq (tgt := 16) dX6_crown_4 (by decide) (fun c4 => ?_) (fun c4 => ?_)
  · refine J.ldc2 (v := -1) dX6_crown_16 (jt 527 rfl rfl) ?_
    exact J.lret dX6_crown_19 rfl (Nat.le_refl _) (Nat.le_refl _) ⟨rfl, rfl⟩
  · refine J.iload_n dX6_crown_7 rfl rfl ?_
    refine J.iconst (0) dX6_crown_8 (by decide) ?_
    refine J.iconst (2) dX6_crown_9 (by decide) ?_
    refine J.cs (as := [.int _, .int _, .int _]) (is := []) okX6_within jcX6_59 (mX6_within _ _ _) dX6_crown_10 rfl rfl rfl rfl rfl rfl (fun r9 B9 hq => ?_)
    obtain ⟨rfl, rfl⟩ := hq
    refine ⟨rfl, ?_⟩
    show J _ _ _ _ _ (.int _ :: _) (wC rs v q x n u c l tn) _ _
    refine J.if_ne (tgt := 20) dX6_crown_13 (by decide) (fun c13 => absurd c13 (fun h => h ((jB_0 _).mpr (fun hC => (fun h => h.elim (fun h => h (Decidable.not_not.mp (fun h9 => c4 ((jB_0 _).mpr h9)))) (fun h => h hC)) hb)))) (fun c13 => ?_)
    refine J.ldc2 (v := -1) dX6_crown_16 (jt 527 rfl rfl) ?_
    exact J.lret dX6_crown_19 rfl (Nat.le_refl _) (Nat.le_refl _) ⟨rfl, rfl⟩
set_option maxRecDepth 100000 in
set_option maxHeartbeats 4000000 in
theorem mX6_crown_none (rs : Nat → rT) (v : Nat → Nat → Nat) (q : rT) (x : Nat → Nat) (n : Nat → Int64) (u : uT) (c : Nat → Nat → Int32) (l : Nat → Int32) (tn : Int32) (N : Nat) (hN : N ≤ 5) (wh : Int32) (hw : 0 ≤ wh ∧ wh ≤ 2) (hK : rs 0 6 1 = 0) : J KX6_crown 62 (fun o B => o = some (.long (-2)) ∧ B = (wC rs v q x n u c l tn)) 0 [some (.ref 0), some (.int (nI N)), some (.int wh), none, none, none, none, none, none] [] (wC rs v q x n u c l tn) 0 0 := by
  refine J.iload_n dX6_crown_0 rfl rfl ?_
  refine J.cs (as := [.int _]) (is := []) okX6_foreseen jcX6_143 (mX6_foreseen _) dX6_crown_1 rfl rfl rfl rfl rfl rfl (fun r9 B9 hq => ?_)
  obtain ⟨rfl, rfl⟩ := hq
  refine ⟨rfl, ?_⟩
  show J _ _ _ _ _ (.int _ :: _) (wC rs v q x n u c l tn) _ _
  refine J.if_eq (tgt := 16) dX6_crown_4 (by decide) (fun c4 => absurd c4 (fun h => (jB_0 _).mp h (jw (a := 0) (c := 5) (by decide) (Nat.zero_le _) hN))) (fun c4 => ?_)
  refine J.iload_n dX6_crown_7 rfl rfl ?_
  refine J.iconst (0) dX6_crown_8 (by decide) ?_
  refine J.iconst (2) dX6_crown_9 (by decide) ?_
  refine J.cs (as := [.int _, .int _, .int _]) (is := []) okX6_within jcX6_59 (mX6_within _ _ _) dX6_crown_10 rfl rfl rfl rfl rfl rfl (fun r9 B9 hq => ?_)
  obtain ⟨rfl, rfl⟩ := hq
  refine ⟨rfl, ?_⟩
  show J _ _ _ _ _ (.int _ :: _) (wC rs v q x n u c l tn) _ _
  refine J.if_ne (tgt := 20) dX6_crown_13 (by decide) (fun c13 => ?_) (fun c13 => absurd c13 (fun h => (jB_0 _).mp h hw))
  refine J.aload_n dX6_crown_20 rfl rfl ?_
  refine J.getfield dX6_crown_21 jFX6_12 rfl rfl ?_
  refine J.getfield dX6_crown_24 jFX6_96 rfl rfl ?_
  refine J.if_ne (tgt := 34) dX6_crown_27 (by decide) (fun c27 => absurd c27 (fun h => h (by rw [hK] <;> rfl))) (fun c27 => ?_)
  refine J.ldc2 (v := -2) dX6_crown_30 (jt 660 rfl rfl) ?_
  exact J.lret dX6_crown_33 rfl (Nat.le_refl _) (Nat.le_refl _) ⟨rfl, rfl⟩
set_option maxRecDepth 100000 in
set_option maxHeartbeats 4000000 in
theorem mX6_reads (rs : Nat → rT) (v : Nat → Nat → Nat) (q : rT) (x : Nat → Nat) (n : Nat → Int64) (u : uT) (c : Nat → Nat → Int32) (l : Nat → Int32) (tn : Int32) (s : Nat) (hs : s < 2 ^ rs 0 6 2) (wh : Int32) (hw : 0 ≤ wh ∧ wh ≤ 1) (hr : rOK (rs 0)) : J KX6_reads 62 (fun o B => o = some (.long (lowT ((lwS (rs 0) (hbR (rs 0)) s (rs 0 6 2) : Nat) : Int) (1000 ^ 5) wh)) ∧ ∃ q9 x9 n9 u9, B = wC rs v q9 x9 n9 u9 c l tn) 0 [some (.ref 0), some (.int (nI s)), some (.int wh)] [] (wC rs v q x n u c l tn) 0 0 := by
  refine J.iload_n dX6_reads_0 rfl rfl ?_
  refine J.iconst (0) dX6_reads_1 (by decide) ?_
  refine J.iconst (1) dX6_reads_2 (by decide) ?_
  refine J.aload_n dX6_reads_3 rfl rfl ?_
  refine J.getfield dX6_reads_4 jFX6_12 rfl rfl ?_
  refine J.getfield dX6_reads_7 jFX6_99 rfl rfl ?_
  refine J.ishl dX6_reads_10 ?_
  refine J.iconst (1) dX6_reads_11 (by decide) ?_
  refine J.isub dX6_reads_12 ?_
  rw [full_eval _ (show rs 0 6 2 < 4 by have := hr.2.2.1; omega)]
  refine J.cs (as := [.int _, .int _, .int _]) (is := []) okX6_within jcX6_59 (mX6_within _ _ _) dX6_reads_13 rfl rfl rfl rfl rfl rfl (fun r9 B9 hq => ?_)
  obtain ⟨rfl, rfl⟩ := hq
  refine ⟨rfl, ?_⟩
  show J _ _ _ _ _ (.int _ :: _) (wC rs v q x n u c l tn) _ _
  refine J.if_eq (tgt := 28) dX6_reads_16 (by decide) (fun c16 => absurd c16 (fun h => (jB_0 _).mp h (jw (a := 0) (by have := p2_le _ hr.2.2.1; omega) (Nat.zero_le _) (show s ≤ 2 ^ rs 0 6 2 - 1 by omega)))) (fun c16 => ?_)
  refine J.iload_n dX6_reads_19 rfl rfl ?_
  refine J.iconst (0) dX6_reads_20 (by decide) ?_
  refine J.iconst (1) dX6_reads_21 (by decide) ?_
  refine J.cs (as := [.int _, .int _, .int _]) (is := []) okX6_within jcX6_59 (mX6_within _ _ _) dX6_reads_22 rfl rfl rfl rfl rfl rfl (fun r9 B9 hq => ?_)
  obtain ⟨rfl, rfl⟩ := hq
  refine ⟨rfl, ?_⟩
  show J _ _ _ _ _ (.int _ :: _) (wC rs v q x n u c l tn) _ _
  refine J.if_ne (tgt := 32) dX6_reads_25 (by decide) (fun c25 => ?_) (fun c25 => absurd c25 (fun h => (jB_0 _).mp h hw))
  refine J.aload_n dX6_reads_32 rfl rfl ?_
  refine J.getfield dX6_reads_33 jFX6_37 rfl rfl ?_
  refine J.aload_n dX6_reads_36 rfl rfl ?_
  refine J.getfield dX6_reads_37 jFX6_12 rfl rfl ?_
  refine J.cv (as := [.ref 9]) (is := [27, 28, 29, 30, 31, 32, 33, 34, 35, 1, 2, 3, 4, 5, 6, 7]) (o := 0) okX0_take jcX6_159 (mX0_take q x n u (rs 0) hr.w) dX6_reads_40 rfl rfl rfl rfl rfl rfl rfl (fun r9 B9 hq => ?_)
  obtain ⟨rfl, rfl⟩ := hq
  refine ⟨rfl, ?_⟩
  show J _ _ _ _ _ [] (wC rs v (otake q (rs 0)) (one (rs 0 6 3)) n u c l tn) _ _
  refine J.aload_n dX6_reads_43 rfl rfl ?_
  refine J.getfield dX6_reads_44 jFX6_37 rfl rfl ?_
  refine J.cv (as := []) (is := [27, 28, 29, 30, 31, 32, 33, 34, 35]) (o := 0) okX0_foresee jcX6_209 (mX0_foresee (otake q (rs 0)) (one (rs 0 6 3)) n u (hr.o q)) dX6_reads_47 rfl rfl rfl rfl rfl rfl rfl (fun r9 B9 hq9 => ?_)
  obtain ⟨rfl, g9, n9, x9, rfl⟩ := hq9
  refine ⟨rfl, ?_⟩
  show J _ _ _ _ _ [] (wC rs v (rrow (otake q (rs 0)) 2 g9) x9 n9 (urow u 2 (fun t => lN ((hbe (otake q (rs 0)) (one (rs 0 6 3))) t))) c l tn) _ _
  rw [hbR_e q (rs 0)]
  refine J.aload_n dX6_reads_50 rfl rfl ?_
  refine J.iload_n dX6_reads_51 rfl rfl ?_
  refine J.cvC (as := [.int _]) rs v (rrow (otake q (rs 0)) 2 g9) x9 n9 (urow u 2 (fun t => lN (hbR (rs 0) t))) c l tn [] okX6_worthOfLaws jcX6_212 (mX6_worthOfLaws rs v (rrow (otake q (rs 0)) 2 g9) x9 n9 u c l tn (hbR (rs 0)) s (by have := p2_le _ hr.2.2.1; omega) hr) dX6_reads_52 rfl rfl rfl rfl rfl (fun r9 B9 hq9 => ?_)
  obtain ⟨rfl, rfl⟩ := hq9
  refine ⟨_, _, _, _, _, _, _, _, _, rfl, ?_⟩
  show J _ _ _ _ _ (.long _ :: _) (wC rs v (rrow (otake q (rs 0)) 2 g9) x9 n9 (urow u 2 (fun t => lN (hbR (rs 0) t))) c l tn) _ _
  refine J.iconst (5) dX6_reads_55 (by decide) ?_
  rw [show (5 : Int32) = nI 5 from rfl]
  refine J.cs (as := [.int _]) (is := []) okX6_thousands jcX6_148 (mX6_thousands 5 (by omega)) dX6_reads_56 rfl rfl rfl rfl rfl rfl (fun r9 B9 hq => ?_)
  obtain ⟨rfl, rfl⟩ := hq
  refine ⟨rfl, ?_⟩
  show J _ _ _ _ _ (.long _ :: .long _ :: _) (wC rs v (rrow (otake q (rs 0)) 2 g9) x9 n9 (urow u 2 (fun t => lN (hbR (rs 0) t))) c l tn) _ _
  refine J.iload_n dX6_reads_59 rfl rfl ?_
  refine J.cs (as := [.long _, .long _, .int _]) (is := []) okX6_part jcX6_155 (mX6_partN (lwS (rs 0) (hbR (rs 0)) s (rs 0 6 2)) (1000 ^ 5) wh (by have := lwR_le hr s; omega) (by decide) (by decide)) dX6_reads_60 rfl rfl rfl rfl rfl rfl (fun r9 B9 hq => ?_)
  obtain ⟨rfl, rfl⟩ := hq
  refine ⟨rfl, ?_⟩
  show J _ _ _ _ _ (.long _ :: _) (wC rs v (rrow (otake q (rs 0)) 2 g9) x9 n9 (urow u 2 (fun t => lN (hbR (rs 0) t))) c l tn) _ _
  exact J.lret dX6_reads_63 rfl (Nat.le_refl _) (Nat.le_refl _) ⟨rfl, _, _, _, _, rfl⟩
set_option maxRecDepth 100000 in
set_option maxHeartbeats 4000000 in
theorem mX6_reads_bad (rs : Nat → rT) (v : Nat → Nat → Nat) (q : rT) (x : Nat → Nat) (n : Nat → Int64) (u : uT) (c : Nat → Nat → Int32) (l : Nat → Int32) (tn : Int32) (s wh : Int32) (hr : rOK (rs 0)) (hb : ¬ (0 ≤ s ∧ s ≤ nI (2 ^ rs 0 6 2 - 1)) ∨ ¬ (0 ≤ wh ∧ wh ≤ 1)) : J KX6_reads 62 (fun o B => o = some (.long (-1)) ∧ B = (wC rs v q x n u c l tn)) 0 [some (.ref 0), some (.int s), some (.int wh)] [] (wC rs v q x n u c l tn) 0 0 := by
  refine J.iload_n dX6_reads_0 rfl rfl ?_
  refine J.iconst (0) dX6_reads_1 (by decide) ?_
  refine J.iconst (1) dX6_reads_2 (by decide) ?_
  refine J.aload_n dX6_reads_3 rfl rfl ?_
  refine J.getfield dX6_reads_4 jFX6_12 rfl rfl ?_
  refine J.getfield dX6_reads_7 jFX6_99 rfl rfl ?_
  refine J.ishl dX6_reads_10 ?_
  refine J.iconst (1) dX6_reads_11 (by decide) ?_
  refine J.isub dX6_reads_12 ?_
  rw [full_eval _ (show rs 0 6 2 < 4 by have := hr.2.2.1; omega)]
  refine J.cs (as := [.int _, .int _, .int _]) (is := []) okX6_within jcX6_59 (mX6_within _ _ _) dX6_reads_13 rfl rfl rfl rfl rfl rfl (fun r9 B9 hq => ?_)
  obtain ⟨rfl, rfl⟩ := hq
  refine ⟨rfl, ?_⟩
  show J _ _ _ _ _ (.int _ :: _) (wC rs v q x n u c l tn) _ _
  refine J.if_eq (tgt := 28) dX6_reads_16 (by decide) (fun c16 => ?_) (fun c16 => ?_)
  · refine J.ldc2 (v := -1) dX6_reads_28 (jt 527 rfl rfl) ?_
    exact J.lret dX6_reads_31 rfl (Nat.le_refl _) (Nat.le_refl _) ⟨rfl, rfl⟩
  · refine J.iload_n dX6_reads_19 rfl rfl ?_
    refine J.iconst (0) dX6_reads_20 (by decide) ?_
    refine J.iconst (1) dX6_reads_21 (by decide) ?_
    refine J.cs (as := [.int _, .int _, .int _]) (is := []) okX6_within jcX6_59 (mX6_within _ _ _) dX6_reads_22 rfl rfl rfl rfl rfl rfl (fun r9 B9 hq => ?_)
    obtain ⟨rfl, rfl⟩ := hq
    refine ⟨rfl, ?_⟩
    show J _ _ _ _ _ (.int _ :: _) (wC rs v q x n u c l tn) _ _
    refine J.if_ne (tgt := 32) dX6_reads_25 (by decide) (fun c25 => absurd c25 (fun h => h ((jB_0 _).mpr (fun hC => (fun h => h.elim (fun h => h (Decidable.not_not.mp (fun h9 => c16 ((jB_0 _).mpr h9)))) (fun h => h hC)) hb)))) (fun c25 => ?_)
    refine J.ldc2 (v := -1) dX6_reads_28 (jt 527 rfl rfl) ?_
    exact J.lret dX6_reads_31 rfl (Nat.le_refl _) (Nat.le_refl _) ⟨rfl, rfl⟩
set_option maxRecDepth 100000 in
set_option maxHeartbeats 4000000 in
theorem mX6_laws_l (rs : Nat → rT) (v : Nat → Nat → Nat) (q : rT) (x : Nat → Nat) (n : Nat → Int64) (u : uT) (c : Nat → Nat → Int32) (l : Nat → Int32) (tn : Int32) (wh : Int32) (hw : 0 ≤ wh ∧ wh ≤ 2) (hr : rOK (rs 0)) : ∀ (k9 i : Nat), i + k9 = 2 ^ rs 0 6 2 - 1 → ∀ (z1 z2 : Option Value), J KX6_laws 62 (fun o B => o = some (.long (lawsA (rs 0) wh)) ∧ ∃ q9 x9 n9 u9, B = wC rs v q9 x9 n9 u9 c l tn) 38 [some (.ref 0), some (.int wh), some (.int (nI (lw (rs 0) i).2)), some (.long (lN (lw (rs 0) i).1)), none, some (.int (nI (i + 1))), z1, z2] [] (wC rs v q x n (urow u 2 (fun t => lN (hbR (rs 0) t))) c l tn) 0 0 := by
  intro k9
  induction k9 with
  | zero =>
    intro i hi
    obtain hiN : i = 2 ^ rs 0 6 2 - 1 := by omega
    intro z1 z2
    subst hiN
    refine J.iload dX6_laws_38 rfl ?_
    refine J.iconst (1) dX6_laws_40 (by decide) ?_
    refine J.aload_n dX6_laws_41 rfl rfl ?_
    refine J.getfield dX6_laws_42 jFX6_12 rfl rfl ?_
    refine J.getfield dX6_laws_45 jFX6_99 rfl rfl ?_
    refine J.ishl dX6_laws_48 ?_
    rw [shl_eval _ (show rs 0 6 2 < 4 by have := hr.2.2.1; omega)]
    refine J.icmp_ge (tgt := 79) dX6_laws_49 (by decide) (fun c49 => ?_) (fun c49 => absurd c49 (fun h => h ((nI_lei (by have := p2_le _ hr.2.2.1; omega) (by have := p2_le _ hr.2.2.1; omega)).mpr (by omega))))
    refine J.iload_n dX6_laws_79 rfl rfl ?_
    refine J.if_ne (tgt := 88) dX6_laws_80 (by decide) (fun c80 => ?_) (fun c80 => ?_)
    · refine J.lload_n dX6_laws_88 rfl rfl ?_
      refine J.iconst (5) dX6_laws_89 (by decide) ?_
      rw [show (5 : Int32) = nI 5 from rfl]
      refine J.cs (as := [.int _]) (is := []) okX6_thousands jcX6_148 (mX6_thousands 5 (by omega)) dX6_laws_90 rfl rfl rfl rfl rfl rfl (fun r9 B9 hq => ?_)
      obtain ⟨rfl, rfl⟩ := hq
      refine ⟨rfl, ?_⟩
      show J _ _ _ _ _ (.long _ :: .long _ :: _) (wC rs v q x n (urow u 2 (fun t => lN (hbR (rs 0) t))) c l tn) _ _
      refine J.iload_n dX6_laws_93 rfl rfl ?_
      refine J.iconst (1) dX6_laws_94 (by decide) ?_
      refine J.isub dX6_laws_95 ?_
      refine J.cs (as := [.long _, .long _, .int _]) (is := []) okX6_part jcX6_155 (mX6_partN (lw (rs 0) (2 ^ rs 0 6 2 - 1)).1 (1000 ^ 5) (wh - 1) (by have := lw_le hr (2 ^ rs 0 6 2 - 1); omega) (by decide) (by decide)) dX6_laws_96 rfl rfl rfl rfl rfl rfl (fun r9 B9 hq => ?_)
      obtain ⟨rfl, rfl⟩ := hq
      refine ⟨rfl, ?_⟩
      show J _ _ _ _ _ (.long _ :: _) (wC rs v q x n (urow u 2 (fun t => lN (hbR (rs 0) t))) c l tn) _ _
      first | exact J.lret dX6_laws_99 rfl (Nat.le_refl _) (Nat.le_refl _) ⟨congrArg (fun z => some (Value.long z)) (if_pos c80).symm, _, _, _, _, rfl⟩ | exact J.lret dX6_laws_99 rfl (Nat.le_refl _) (Nat.le_refl _) ⟨congrArg (fun z => some (Value.long z)) (if_neg c80).symm, _, _, _, _, rfl⟩
    · refine J.iload_n dX6_laws_83 rfl rfl ?_
      refine J.i2l dX6_laws_84 ?_
      refine J.goto (tgt := 99) dX6_laws_85 (by decide) ?_
      first | exact J.lret dX6_laws_99 rfl (Nat.le_refl _) (Nat.le_refl _) ⟨congrArg (fun z => some (Value.long z)) (if_pos c80).symm, _, _, _, _, rfl⟩ | exact J.lret dX6_laws_99 rfl (Nat.le_refl _) (Nat.le_refl _) ⟨congrArg (fun z => some (Value.long z)) (if_neg c80).symm, _, _, _, _, rfl⟩
  | succ k9 ih =>
    intro i hi
    have hiN : i < 2 ^ rs 0 6 2 - 1 := by omega
    intro z1 z2
    refine J.iload dX6_laws_38 rfl ?_
    refine J.iconst (1) dX6_laws_40 (by decide) ?_
    refine J.aload_n dX6_laws_41 rfl rfl ?_
    refine J.getfield dX6_laws_42 jFX6_12 rfl rfl ?_
    refine J.getfield dX6_laws_45 jFX6_99 rfl rfl ?_
    refine J.ishl dX6_laws_48 ?_
    rw [shl_eval _ (show rs 0 6 2 < 4 by have := hr.2.2.1; omega)]
    refine J.icmp_ge (tgt := 79) dX6_laws_49 (by decide) (fun c49 => absurd c49 (nI_ge (by omega) (by have := p2_le _ hr.2.2.1; omega))) (fun c49 => ?_)
    refine J.aload_n dX6_laws_52 rfl rfl ?_
    refine J.iload dX6_laws_53 rfl ?_
    refine J.cvC (as := [.int _]) rs v q x n (urow u 2 (fun t => lN (hbR (rs 0) t))) c l tn [] okX6_worthOfLaws jcX6_212 (mX6_worthOfLaws rs v q x n u c l tn (hbR (rs 0)) (i + 1) (by have := p2_le _ hr.2.2.1; omega) hr) dX6_laws_55 rfl rfl rfl rfl rfl (fun r9 B9 hq9 => ?_)
    obtain ⟨rfl, rfl⟩ := hq9
    refine ⟨_, _, _, _, _, _, _, _, _, rfl, ?_⟩
    show J _ _ _ _ _ (.long _ :: _) (wC rs v q x n (urow u 2 (fun t => lN (hbR (rs 0) t))) c l tn) _ _
    refine J.lstore dX6_laws_58 (by decide) rfl ?_
    try dsimp only [List.set]
    refine J.lload dX6_laws_60 rfl ?_
    refine J.lload_n dX6_laws_62 rfl rfl ?_
    refine J.lcmp dX6_laws_63 ?_
    have hlt : lN (lw (rs 0) i).1 < lN (lwS (rs 0) (hbR (rs 0)) (i + 1) (rs 0 6 2)) ↔ (lw (rs 0) i).1 < lwS (rs 0) (hbR (rs 0)) (i + 1) (rs 0 6 2) := lN_lt63 (by have := lw_le hr i; omega) (by have := lwR_le hr (i + 1); omega)
    refine J.if_le (tgt := 73) dX6_laws_64 (by decide) (fun c64 => ?_) (fun c64 => ?_)
    · refine J.iinc (1) dX6_laws_73 (by decide) rfl (by decide) rfl ?_
      try dsimp only [List.set]
      refine J.goto (tgt := 38) dX6_laws_76 (by decide) ?_
      first
      | (have e9 : lw (rs 0) (i + 1) = lw (rs 0) i := if_neg (fun h9 => cmpN c64 (hlt.mpr h9))
         exact J.at (ih (i + 1) (by omega) _ _) (by rw [e9, ← nI_1 (i + 1)]) rfl rfl)
      | (have e9 : lw (rs 0) (i + 1) = (lwS (rs 0) (hbR (rs 0)) (i + 1) (rs 0 6 2), i + 1) := if_pos (hlt.mp (cmpP c64))
         exact J.at (ih (i + 1) (by omega) _ _) (by rw [e9, ← nI_1 (i + 1)] <;> rfl) rfl rfl)
    · refine J.lload dX6_laws_67 rfl ?_
      refine J.lstore_n dX6_laws_69 rfl (by decide) rfl ?_
      try dsimp only [List.set]
      refine J.iload dX6_laws_70 rfl ?_
      refine J.istore_n dX6_laws_72 rfl (by decide) rfl ?_
      try dsimp only [List.set]
      refine J.iinc (1) dX6_laws_73 (by decide) rfl (by decide) rfl ?_
      try dsimp only [List.set]
      refine J.goto (tgt := 38) dX6_laws_76 (by decide) ?_
      first
      | (have e9 : lw (rs 0) (i + 1) = lw (rs 0) i := if_neg (fun h9 => cmpN c64 (hlt.mpr h9))
         exact J.at (ih (i + 1) (by omega) _ _) (by rw [e9, ← nI_1 (i + 1)]) rfl rfl)
      | (have e9 : lw (rs 0) (i + 1) = (lwS (rs 0) (hbR (rs 0)) (i + 1) (rs 0 6 2), i + 1) := if_pos (hlt.mp (cmpP c64))
         exact J.at (ih (i + 1) (by omega) _ _) (by rw [e9, ← nI_1 (i + 1)] <;> rfl) rfl rfl)
set_option maxRecDepth 100000 in
set_option maxHeartbeats 4000000 in
theorem mX6_laws (rs : Nat → rT) (v : Nat → Nat → Nat) (q : rT) (x : Nat → Nat) (n : Nat → Int64) (u : uT) (c : Nat → Nat → Int32) (l : Nat → Int32) (tn : Int32) (wh : Int32) (hw : 0 ≤ wh ∧ wh ≤ 2) (hr : rOK (rs 0)) : J KX6_laws 62 (fun o B => o = some (.long (lawsA (rs 0) wh)) ∧ ∃ q9 x9 n9 u9, B = wC rs v q9 x9 n9 u9 c l tn) 0 [some (.ref 0), some (.int wh), none, none, none, none, none, none] [] (wC rs v q x n u c l tn) 0 0 := by
  refine J.iload_n dX6_laws_0 rfl rfl ?_
  refine J.iconst (0) dX6_laws_1 (by decide) ?_
  refine J.iconst (2) dX6_laws_2 (by decide) ?_
  refine J.cs (as := [.int _, .int _, .int _]) (is := []) okX6_within jcX6_59 (mX6_within _ _ _) dX6_laws_3 rfl rfl rfl rfl rfl rfl (fun r9 B9 hq => ?_)
  obtain ⟨rfl, rfl⟩ := hq
  refine ⟨rfl, ?_⟩
  show J _ _ _ _ _ (.int _ :: _) (wC rs v q x n u c l tn) _ _
  refine J.if_ne (tgt := 13) dX6_laws_6 (by decide) (fun c6 => ?_) (fun c6 => absurd c6 (fun h => (jB_0 _).mp h hw))
  refine J.aload_n dX6_laws_13 rfl rfl ?_
  refine J.getfield dX6_laws_14 jFX6_37 rfl rfl ?_
  refine J.aload_n dX6_laws_17 rfl rfl ?_
  refine J.getfield dX6_laws_18 jFX6_12 rfl rfl ?_
  refine J.cv (as := [.ref 9]) (is := [27, 28, 29, 30, 31, 32, 33, 34, 35, 1, 2, 3, 4, 5, 6, 7]) (o := 0) okX0_take jcX6_159 (mX0_take q x n u (rs 0) hr.w) dX6_laws_21 rfl rfl rfl rfl rfl rfl rfl (fun r9 B9 hq => ?_)
  obtain ⟨rfl, rfl⟩ := hq
  refine ⟨rfl, ?_⟩
  show J _ _ _ _ _ [] (wC rs v (otake q (rs 0)) (one (rs 0 6 3)) n u c l tn) _ _
  refine J.aload_n dX6_laws_24 rfl rfl ?_
  refine J.getfield dX6_laws_25 jFX6_37 rfl rfl ?_
  refine J.cv (as := []) (is := [27, 28, 29, 30, 31, 32, 33, 34, 35]) (o := 0) okX0_foresee jcX6_209 (mX0_foresee (otake q (rs 0)) (one (rs 0 6 3)) n u (hr.o q)) dX6_laws_28 rfl rfl rfl rfl rfl rfl rfl (fun r9 B9 hq9 => ?_)
  obtain ⟨rfl, g9, n9, x9, rfl⟩ := hq9
  refine ⟨rfl, ?_⟩
  show J _ _ _ _ _ [] (wC rs v (rrow (otake q (rs 0)) 2 g9) x9 n9 (urow u 2 (fun t => lN ((hbe (otake q (rs 0)) (one (rs 0 6 3))) t))) c l tn) _ _
  rw [hbR_e q (rs 0)]
  refine J.iconst (0) dX6_laws_31 (by decide) ?_
  refine J.istore_n dX6_laws_32 rfl (by decide) rfl ?_
  try dsimp only [List.set]
  refine J.lconst 0 dX6_laws_33 (by decide) ?_
  refine J.lstore_n dX6_laws_34 rfl (by decide) rfl ?_
  try dsimp only [List.set]
  refine J.iconst (1) dX6_laws_35 (by decide) ?_
  refine J.istore dX6_laws_36 (by decide) rfl ?_
  try dsimp only [List.set]
  exact J.at (mX6_laws_l rs v (rrow (otake q (rs 0)) 2 g9) x9 n9 u c l tn wh hw hr (2 ^ rs 0 6 2 - 1) 0 (by omega) none none) rfl rfl rfl
set_option maxRecDepth 100000 in
set_option maxHeartbeats 4000000 in
theorem mX6_laws_bad (rs : Nat → rT) (v : Nat → Nat → Nat) (q : rT) (x : Nat → Nat) (n : Nat → Int64) (u : uT) (c : Nat → Nat → Int32) (l : Nat → Int32) (tn : Int32) (wh : Int32) (hb : ¬ (0 ≤ wh ∧ wh ≤ 2)) : J KX6_laws 62 (fun o B => o = some (.long (-1)) ∧ B = (wC rs v q x n u c l tn)) 0 [some (.ref 0), some (.int wh), none, none, none, none, none, none] [] (wC rs v q x n u c l tn) 0 0 := by
  refine J.iload_n dX6_laws_0 rfl rfl ?_
  refine J.iconst (0) dX6_laws_1 (by decide) ?_
  refine J.iconst (2) dX6_laws_2 (by decide) ?_
  refine J.cs (as := [.int _, .int _, .int _]) (is := []) okX6_within jcX6_59 (mX6_within _ _ _) dX6_laws_3 rfl rfl rfl rfl rfl rfl (fun r9 B9 hq => ?_)
  obtain ⟨rfl, rfl⟩ := hq
  refine ⟨rfl, ?_⟩
  show J _ _ _ _ _ (.int _ :: _) (wC rs v q x n u c l tn) _ _
  refine J.if_ne (tgt := 13) dX6_laws_6 (by decide) (fun c6 => absurd c6 (fun h => h ((jB_0 _).mpr hb))) (fun c6 => ?_)
  refine J.ldc2 (v := -1) dX6_laws_9 (jt 527 rfl rfl) ?_
  exact J.lret dX6_laws_12 rfl (Nat.le_refl _) (Nat.le_refl _) ⟨rfl, rfl⟩
/-- what was SEEN, as far as it goes -/
def vOK (v : vT) : Prop := (∀ i, v 2 i ≤ 5) ∧ (∀ i, v 3 i ≤ 3) ∧ v 4 1 ≤ 6
theorem sf_le (a b : Nat → Nat) (t : Nat) (x : Nat → Nat) : ∀ m, sm (sf a b t x m) 8 ≤ sm x 8
  | 0 => Nat.le_refl _
  | m + 1 => by
    rw [sf]
    split
    · exact Nat.le_trans (only_le _ _) (sf_le a b t x m)
    · exact sf_le a b t x m
theorem lk_le (q : rT) (a b : Nat → Nat) (m : Nat) {w : Nat} (hw : w < 8) : ∀ t, sm (lk q a b m w t) 8 ≤ 1000 ^ t
  | 0 => by rw [lk, one_sum w hw]; exact Nat.le_refl _
  | t + 1 => by
    have h1 := sf_le a b t (lk q a b m w t) m
    have h2 := lk_le q a b m hw t
    rw [lk, acc_sum _ _ _ 8 (Nat.le_refl _), Nat.pow_succ, Nat.mul_comm]
    exact Nat.mul_le_mul_right _ (Nat.le_trans h1 h2)
theorem lkA_le (q : rT) (a b : Nat → Nat) (m : Nat) {w : Nat} (hw : w < 8) : lkA q a b m w ≤ 1000 ^ mxs a m := Nat.le_trans (sf_le _ _ _ _ _) (lk_le q a b m hw _)
def lkR (v : vT) (r : rT) (kd m : Nat) : Nat := lkA (nqq kd m (r 6 4)) (v 2) (v 3) (v 4 1) (2 ^ m - 1)
theorem lkR_le {v : vT} (hv : vOK v) (r : rT) (kd : Nat) {m : Nat} (hm : m ≤ 3) : lkR v r kd m ≤ 1000 ^ mxs (v 2) (v 4 1) ∧ 1 ≤ 1000 ^ mxs (v 2) (v 4 1) ∧ 1000 ^ mxs (v 2) (v 4 1) ≤ 1000000000000000 := ⟨lkA_le _ _ _ _ (m2_lt m (by omega)), p1000 _ (mxs_le hv.1 _)⟩
set_option maxRecDepth 100000 in
set_option maxHeartbeats 4000000 in
theorem mX6_likelihood_j (rs : Nat → rT) (v : Nat → Nat → Nat) (q : rT) (n : Nat → Int64) (u : uT) (c : Nat → Nat → Int32) (l : Nat → Int32) (tn : Int32) (kd m : Nat) (hd : kd ≤ 4) (hm : m ≤ 3) (hv : vOK v) (hr : rOK (rs 0)) (t : Nat) (ht : t < 100) (X : Nat → Nat) (hk : J KX6_likelihood 62 (fun o B => o = some (.long (lN (lkR v (rs 0) kd m))) ∧ ∃ q9 x9 n9 u9, B = wC rs v q9 x9 n9 u9 c l tn) 86 [some (.ref 0), some (.int (nI kd)), some (.int (nI m)), some (.int (nI (mxs (v 2) (v 4 1)))), some (.int (nI t)), some (.int (nI (v 4 1)))] [] (wC rs v q (sf (v 2) (v 3) t X (v 4 1)) n u c l tn) 0 0) : ∀ (k9 i : Nat), i + k9 = v 4 1 → J KX6_likelihood 62 (fun o B => o = some (.long (lN (lkR v (rs 0) kd m))) ∧ ∃ q9 x9 n9 u9, B = wC rs v q9 x9 n9 u9 c l tn) 36 [some (.ref 0), some (.int (nI kd)), some (.int (nI m)), some (.int (nI (mxs (v 2) (v 4 1)))), some (.int (nI t)), some (.int (nI i))] [] (wC rs v q (sf (v 2) (v 3) t X i) n u c l tn) 0 0 := by
  intro k9
  induction k9 with
  | zero =>
    intro i hi
    obtain hiN : i = v 4 1 := by omega
    subst hiN
    refine J.iload dX6_likelihood_36 rfl ?_
    refine J.aload_n dX6_likelihood_38 rfl rfl ?_
    refine J.getfield dX6_likelihood_39 jFX6_44 rfl rfl ?_
    refine J.getfield dX6_likelihood_42 jFX6_90 rfl rfl ?_
    refine J.icmp_ge (tgt := 86) dX6_likelihood_45 (by decide) (fun c45 => ?_) (fun c45 => absurd c45 (fun h => h (Int32.le_refl _)))
    exact hk
  | succ k9 ih =>
    intro i hi
    have hiN : i < v 4 1 := by omega
    refine J.iload dX6_likelihood_36 rfl ?_
    refine J.aload_n dX6_likelihood_38 rfl rfl ?_
    refine J.getfield dX6_likelihood_39 jFX6_44 rfl rfl ?_
    refine J.getfield dX6_likelihood_42 jFX6_90 rfl rfl ?_
    refine J.icmp_ge (tgt := 86) dX6_likelihood_45 (by decide) (fun c45 => absurd c45 (nI_ge hiN (by have := hv.2.2; omega))) (fun c45 => ?_)
    refine J.aload_n dX6_likelihood_48 rfl rfl ?_
    refine J.getfield dX6_likelihood_49 jFX6_44 rfl rfl ?_
    refine J.getfield dX6_likelihood_52 jFX6_278 rfl rfl ?_
    refine J.iload dX6_likelihood_55 rfl ?_
    refine J.ialoadN dX6_likelihood_57 rfl (show i < 6 by have := hv.2.2; omega) ?_
    refine J.iload dX6_likelihood_58 rfl ?_
    refine J.icmp_ne (tgt := 80) dX6_likelihood_60 (by decide) (fun c60 => ?_) (fun c60 => ?_)
    · refine J.iinc (1) dX6_likelihood_80 (by decide) rfl (by decide) rfl ?_
      try dsimp only [List.set]
      refine J.goto (tgt := 36) dX6_likelihood_83 (by decide) ?_
      first
      | (have e9 : sf (v 2) (v 3) t X (i + 1) = sf (v 2) (v 3) t X i := if_neg (fun h9 => c60 (congrArg nI h9))
         exact J.at (ih (i + 1) (by omega)) (by rw [← nI_1 i]) rfl (by rw [e9]))
      | (have e9 : sf (v 2) (v 3) t X (i + 1) = only (v 3 i) (sf (v 2) (v 3) t X i) := if_pos ((nI_eqi (by have := hv.1 i; omega) (by omega)).mp c60)
         exact J.at (ih (i + 1) (by omega)) (by rw [← nI_1 i]) rfl (by rw [e9]))
    · refine J.aload_n dX6_likelihood_63 rfl rfl ?_
      refine J.getfield dX6_likelihood_64 jFX6_37 rfl rfl ?_
      refine J.aload_n dX6_likelihood_67 rfl rfl ?_
      refine J.getfield dX6_likelihood_68 jFX6_44 rfl rfl ?_
      refine J.getfield dX6_likelihood_71 jFX6_281 rfl rfl ?_
      refine J.iload dX6_likelihood_74 rfl ?_
      refine J.ialoadN dX6_likelihood_76 rfl (show i < 6 by have := hv.2.2; omega) ?_
      refine J.cv (as := [.int _]) (is := [27, 28, 29, 30, 31, 32, 33, 34, 35]) (o := 0) okX0_keepOnly jcX6_283 (mX0_keepOnly q (sf (v 2) (v 3) t X i) n u (v 3 i) (by have := hv.2.1 i; omega)) dX6_likelihood_77 rfl rfl rfl rfl rfl rfl rfl (fun r9 B9 hq => ?_)
      obtain ⟨rfl, rfl⟩ := hq
      refine ⟨rfl, ?_⟩
      show J _ _ _ _ _ [] (wC rs v q (only (v 3 i) (sf (v 2) (v 3) t X i)) n u c l tn) _ _
      refine J.iinc (1) dX6_likelihood_80 (by decide) rfl (by decide) rfl ?_
      try dsimp only [List.set]
      refine J.goto (tgt := 36) dX6_likelihood_83 (by decide) ?_
      first
      | (have e9 : sf (v 2) (v 3) t X (i + 1) = sf (v 2) (v 3) t X i := if_neg (fun h9 => c60 (congrArg nI h9))
         exact J.at (ih (i + 1) (by omega)) (by rw [← nI_1 i]) rfl (by rw [e9]))
      | (have e9 : sf (v 2) (v 3) t X (i + 1) = only (v 3 i) (sf (v 2) (v 3) t X i) := if_pos ((nI_eqi (by have := hv.1 i; omega) (by omega)).mp c60)
         exact J.at (ih (i + 1) (by omega)) (by rw [← nI_1 i]) rfl (by rw [e9]))
set_option maxRecDepth 100000 in
set_option maxHeartbeats 4000000 in
theorem mX6_likelihood_l (rs : Nat → rT) (v : Nat → Nat → Nat) (u : uT) (c : Nat → Nat → Int32) (l : Nat → Int32) (tn : Int32) (kd m : Nat) (hd : kd ≤ 4) (hm : m ≤ 3) (hv : vOK v) (hr : rOK (rs 0)) : ∀ (k9 i : Nat), i + k9 = (mxs (v 2) (v 4 1)) → ∀ (z : Option Value) (q : rT) (n : Nat → Int64) (hq : oL q (nqq kd m (rs 0 6 4))), J KX6_likelihood 62 (fun o B => o = some (.long (lN (lkR v (rs 0) kd m))) ∧ ∃ q9 x9 n9 u9, B = wC rs v q9 x9 n9 u9 c l tn) 27 [some (.ref 0), some (.int (nI kd)), some (.int (nI m)), some (.int (nI (mxs (v 2) (v 4 1)))), some (.int (nI i)), z] [] (wC rs v q (lk (nqq kd m (rs 0 6 4)) (v 2) (v 3) (v 4 1) (2 ^ m - 1) i) n u c l tn) 0 0 := by
  intro k9
  induction k9 with
  | zero =>
    intro i hi
    obtain hiN : i = (mxs (v 2) (v 4 1)) := by omega
    intro z q n hq
    subst hiN
    refine J.iload dX6_likelihood_27 rfl ?_
    refine J.iload_n dX6_likelihood_29 rfl rfl ?_
    refine J.icmp_gt (tgt := 107) dX6_likelihood_30 (by decide) (fun c30 => absurd c30 (Int32.not_lt.mpr (Int32.le_refl _))) (fun c30 => ?_)
    refine J.iconst (0) dX6_likelihood_33 (by decide) ?_
    refine J.istore dX6_likelihood_34 (by decide) rfl ?_
    try dsimp only [List.set]
    refine mX6_likelihood_j rs v q n u c l tn kd m hd hm hv hr (mxs (v 2) (v 4 1)) (by have := mxs_le hv.1 (v 4 1); omega) (lk (nqq kd m (rs 0 6 4)) (v 2) (v 3) (v 4 1) (2 ^ m - 1) (mxs (v 2) (v 4 1))) ?_ (v 4 1) 0 (by omega)
    refine J.iload dX6_likelihood_86 rfl ?_
    refine J.iload_n dX6_likelihood_88 rfl rfl ?_
    refine J.icmp_ge (tgt := 101) dX6_likelihood_89 (by decide) (fun c89 => ?_) (fun c89 => absurd c89 (fun h => h (Int32.le_refl _)))
    refine J.iinc (1) dX6_likelihood_101 (by decide) rfl (by decide) rfl ?_
    try dsimp only [List.set]
    refine J.goto (tgt := 27) dX6_likelihood_104 (by decide) ?_
    refine J.iload dX6_likelihood_27 rfl ?_
    refine J.iload_n dX6_likelihood_29 rfl rfl ?_
    refine J.icmp_gt (tgt := 107) dX6_likelihood_30 (by decide) (fun c30 => ?_) (fun c30 => absurd c30 (fun h => h (by rw [nI_1]; exact nI_lt (by omega) (by have := mxs_le hv.1 (v 4 1); omega))))
    refine J.aload_n dX6_likelihood_107 rfl rfl ?_
    refine J.getfield dX6_likelihood_108 jFX6_37 rfl rfl ?_
    refine J.cv (as := []) (is := [27, 28, 29, 30, 31, 32, 33, 34, 35]) (o := 0) okX0_all jcX6_286 (mX0_all q (sf (v 2) (v 3) (mxs (v 2) (v 4 1)) (lk (nqq kd m (rs 0 6 4)) (v 2) (v 3) (v 4 1) (2 ^ m - 1) (mxs (v 2) (v 4 1))) (v 4 1)) n u) dX6_likelihood_111 rfl rfl rfl rfl rfl rfl rfl (fun r9 B9 hq => ?_)
    obtain ⟨rfl, rfl⟩ := hq
    refine ⟨rfl, ?_⟩
    show J _ _ _ _ _ (.long _ :: _) (wC rs v q (sf (v 2) (v 3) (mxs (v 2) (v 4 1)) (lk (nqq kd m (rs 0 6 4)) (v 2) (v 3) (v 4 1) (2 ^ m - 1) (mxs (v 2) (v 4 1))) (v 4 1)) n u c l tn) _ _
    exact J.lret dX6_likelihood_114 rfl (Nat.le_refl _) (Nat.le_refl _) ⟨congrArg (fun z => some (Value.long (lN z))) (by rw [Nat.add_comm, not0_sum] <;> rfl), _, _, _, _, rfl⟩
  | succ k9 ih =>
    intro i hi
    have hiN : i < (mxs (v 2) (v 4 1)) := by omega
    intro z q n hq
    refine J.iload dX6_likelihood_27 rfl ?_
    refine J.iload_n dX6_likelihood_29 rfl rfl ?_
    refine J.icmp_gt (tgt := 107) dX6_likelihood_30 (by decide) (fun c30 => absurd c30 (Int32.not_lt.mpr (nI_le (Nat.le_of_lt hiN) (by have := mxs_le hv.1 (v 4 1); omega)))) (fun c30 => ?_)
    refine J.iconst (0) dX6_likelihood_33 (by decide) ?_
    refine J.istore dX6_likelihood_34 (by decide) rfl ?_
    try dsimp only [List.set]
    refine mX6_likelihood_j rs v q n u c l tn kd m hd hm hv hr i (by have := mxs_le hv.1 (v 4 1); omega) (lk (nqq kd m (rs 0 6 4)) (v 2) (v 3) (v 4 1) (2 ^ m - 1) i) ?_ (v 4 1) 0 (by omega)
    refine J.iload dX6_likelihood_86 rfl ?_
    refine J.iload_n dX6_likelihood_88 rfl rfl ?_
    refine J.icmp_ge (tgt := 101) dX6_likelihood_89 (by decide) (fun c89 => absurd c89 (nI_ge hiN (by have := mxs_le hv.1 (v 4 1); omega))) (fun c89 => ?_)
    refine J.aload_n dX6_likelihood_92 rfl rfl ?_
    refine J.getfield dX6_likelihood_93 jFX6_37 rfl rfl ?_
    refine J.iload dX6_likelihood_96 rfl ?_
    refine J.cv (as := [.int _]) (is := [27, 28, 29, 30, 31, 32, 33, 34, 35]) (o := 0) okX0_passHour jcX6_178 (mX0_passHourC q (nqq kd m (rs 0 6 4)) (sf (v 2) (v 3) i (lk (nqq kd m (rs 0 6 4)) (v 2) (v 3) (v 4 1) (2 ^ m - 1) i) (v 4 1)) n u i hq (by have := mxs_le hv.1 (v 4 1); omega)) dX6_likelihood_98 rfl rfl rfl rfl rfl rfl rfl (fun r9 B9 hq9 => ?_)
    obtain ⟨rfl, q9, n9, hq9, rfl⟩ := hq9
    refine ⟨rfl, ?_⟩
    show J _ _ _ _ _ [] (wC rs v q9 (lk (nqq kd m (rs 0 6 4)) (v 2) (v 3) (v 4 1) (2 ^ m - 1) (i + 1)) n9 u c l tn) _ _
    refine J.iinc (1) dX6_likelihood_101 (by decide) rfl (by decide) rfl ?_
    try dsimp only [List.set]
    refine J.goto (tgt := 27) dX6_likelihood_104 (by decide) ?_
    exact J.at (ih (i + 1) (by omega) _ q9 n9 hq9) (by rw [← nI_1 i]) rfl rfl
set_option maxRecDepth 100000 in
set_option maxHeartbeats 4000000 in
theorem mX6_likelihood (rs : Nat → rT) (v : Nat → Nat → Nat) (q : rT) (x : Nat → Nat) (n : Nat → Int64) (u : uT) (c : Nat → Nat → Int32) (l : Nat → Int32) (tn : Int32) (kd m : Nat) (hd : kd ≤ 4) (hm : m ≤ 3) (hv : vOK v) (hr : rOK (rs 0)) : J KX6_likelihood 62 (fun o B => o = some (.long (lN (lkR v (rs 0) kd m))) ∧ ∃ q9 x9 n9 u9, B = wC rs v q9 x9 n9 u9 c l tn) 0 [some (.ref 0), some (.int (nI kd)), some (.int (nI m)), none, none, none] [] (wC rs v q x n u c l tn) 0 0 := by
  refine J.aload_n dX6_likelihood_0 rfl rfl ?_
  refine J.getfield dX6_likelihood_1 jFX6_37 rfl rfl ?_
  refine J.iload_n dX6_likelihood_4 rfl rfl ?_
  refine J.iload_n dX6_likelihood_5 rfl rfl ?_
  refine J.aload_n dX6_likelihood_6 rfl rfl ?_
  refine J.getfield dX6_likelihood_7 jFX6_12 rfl rfl ?_
  refine J.getfield dX6_likelihood_10 jFX6_102 rfl rfl ?_
  refine J.cv (as := [.int _, .int _, .int _]) (is := [27, 28, 29, 30, 31, 32, 33, 34, 35]) (o := 0) okX0_takeNew jcX6_185 (mX0_takeNew q x n u kd m (rs 0 6 4) (by omega)) dX6_likelihood_13 rfl rfl rfl rfl rfl rfl rfl (fun r9 B9 hq => ?_)
  obtain ⟨rfl, rfl⟩ := hq
  refine ⟨rfl, ?_⟩
  show J _ _ _ _ _ [] (wC rs v (onew q kd m (rs 0 6 4)) (one (2 ^ m - 1)) n u c l tn) _ _
  refine J.aload_n dX6_likelihood_16 rfl rfl ?_
  refine J.getfield dX6_likelihood_17 jFX6_44 rfl rfl ?_
  refine J.cv (as := []) (is := [36, 37, 38]) (o := 0) okX3_lastHour jcX6_220 (mX3_lastHour (v 2) (v 3) (v 4 1) hv.2.2 (fun i => by have := hv.1 i; omega)) dX6_likelihood_20 rfl rfl rfl rfl rfl rfl rfl (fun r9 B9 hq => ?_)
  obtain ⟨rfl, rfl⟩ := hq
  refine ⟨rfl, ?_⟩
  show J _ _ _ _ _ (.int _ :: _) (wC rs v (onew q kd m (rs 0 6 4)) (one (2 ^ m - 1)) n u c l tn) _ _
  refine J.istore_n dX6_likelihood_23 rfl (by decide) rfl ?_
  try dsimp only [List.set]
  refine J.iconst (0) dX6_likelihood_24 (by decide) ?_
  refine J.istore dX6_likelihood_25 (by decide) rfl ?_
  try dsimp only [List.set]
  exact J.at (mX6_likelihood_l rs v u c l tn kd m hd hm hv hr (mxs (v 2) (v 4 1)) 0 (by omega) none (onew q kd m (rs 0 6 4)) n ⟨rfl, ⟨fun _ => hd, fun _ => Nat.zero_le _, hr.2.2.2.2.2.1, m2_lt m (by omega)⟩, rfl⟩) rfl rfl rfl
set_option maxRecDepth 100000 in
set_option maxHeartbeats 4000000 in
theorem mX6_likely (rs : Nat → rT) (v : Nat → Nat → Nat) (q : rT) (x : Nat → Nat) (n : Nat → Int64) (u : uT) (c : Nat → Nat → Int32) (l : Nat → Int32) (tn : Int32) (kd m : Nat) (hd : kd ≤ 4) (hm1 : 1 ≤ m) (hm : m ≤ 3) (wh : Int32) (hw : 0 ≤ wh ∧ wh ≤ 1) (hv : vOK v) (hr : rOK (rs 0)) : J KX6_likely 62 (fun o B => o = some (.long (lowT ((lkR v (rs 0) kd m : Nat) : Int) (1000 ^ (mxs (v 2) (v 4 1))) wh)) ∧ ∃ q9 x9 n9 u9, B = wC rs v q9 x9 n9 u9 c l tn) 0 [some (.ref 0), some (.int (nI kd)), some (.int (nI m)), some (.int wh)] [] (wC rs v q x n u c l tn) 0 0 := by
  refine J.iload_n dX6_likely_0 rfl rfl ?_
  refine J.iconst (0) dX6_likely_1 (by decide) ?_
  refine J.iconst (4) dX6_likely_2 (by decide) ?_
  refine J.cs (as := [.int _, .int _, .int _]) (is := []) okX6_within jcX6_59 (mX6_within _ _ _) dX6_likely_3 rfl rfl rfl rfl rfl rfl (fun r9 B9 hq => ?_)
  obtain ⟨rfl, rfl⟩ := hq
  refine ⟨rfl, ?_⟩
  show J _ _ _ _ _ (.int _ :: _) (wC rs v q x n u c l tn) _ _
  refine J.if_eq (tgt := 27) dX6_likely_6 (by decide) (fun c6 => absurd c6 (fun h => (jB_0 _).mp h (jw (a := 0) (c := 4) (by decide) (Nat.zero_le _) hd))) (fun c6 => ?_)
  refine J.iload_n dX6_likely_9 rfl rfl ?_
  refine J.iconst (1) dX6_likely_10 (by decide) ?_
  refine J.iconst (3) dX6_likely_11 (by decide) ?_
  refine J.cs (as := [.int _, .int _, .int _]) (is := []) okX6_within jcX6_59 (mX6_within _ _ _) dX6_likely_12 rfl rfl rfl rfl rfl rfl (fun r9 B9 hq => ?_)
  obtain ⟨rfl, rfl⟩ := hq
  refine ⟨rfl, ?_⟩
  show J _ _ _ _ _ (.int _ :: _) (wC rs v q x n u c l tn) _ _
  refine J.if_eq (tgt := 27) dX6_likely_15 (by decide) (fun c15 => absurd c15 (fun h => (jB_0 _).mp h (jw (a := 1) (c := 3) (by decide) hm1 hm))) (fun c15 => ?_)
  refine J.iload_n dX6_likely_18 rfl rfl ?_
  refine J.iconst (0) dX6_likely_19 (by decide) ?_
  refine J.iconst (1) dX6_likely_20 (by decide) ?_
  refine J.cs (as := [.int _, .int _, .int _]) (is := []) okX6_within jcX6_59 (mX6_within _ _ _) dX6_likely_21 rfl rfl rfl rfl rfl rfl (fun r9 B9 hq => ?_)
  obtain ⟨rfl, rfl⟩ := hq
  refine ⟨rfl, ?_⟩
  show J _ _ _ _ _ (.int _ :: _) (wC rs v q x n u c l tn) _ _
  refine J.if_ne (tgt := 31) dX6_likely_24 (by decide) (fun c24 => ?_) (fun c24 => absurd c24 (fun h => (jB_0 _).mp h hw))
  refine J.aload_n dX6_likely_31 rfl rfl ?_
  refine J.iload_n dX6_likely_32 rfl rfl ?_
  refine J.iload_n dX6_likely_33 rfl rfl ?_
  refine J.cvC (as := [.int _, .int _]) rs v q x n u c l tn [] okX6_likelihood jcX6_217 (mX6_likelihood rs v q x n u c l tn kd m hd hm hv hr) dX6_likely_34 rfl rfl rfl rfl rfl (fun r9 B9 hq9 => ?_)
  obtain ⟨rfl, q9, x9, n9, u9, rfl⟩ := hq9
  refine ⟨_, _, _, _, _, _, _, _, _, rfl, ?_⟩
  show J _ _ _ _ _ (.long _ :: _) (wC rs v q9 x9 n9 u9 c l tn) _ _
  refine J.aload_n dX6_likely_37 rfl rfl ?_
  refine J.getfield dX6_likely_38 jFX6_44 rfl rfl ?_
  refine J.cv (as := []) (is := [36, 37, 38]) (o := 0) okX3_lastHour jcX6_220 (mX3_lastHour (v 2) (v 3) (v 4 1) hv.2.2 (fun i => by have := hv.1 i; omega)) dX6_likely_41 rfl rfl rfl rfl rfl rfl rfl (fun r9 B9 hq => ?_)
  obtain ⟨rfl, rfl⟩ := hq
  refine ⟨rfl, ?_⟩
  show J _ _ _ _ _ (.int _ :: .long _ :: _) (wC rs v q9 x9 n9 u9 c l tn) _ _
  refine J.cs (as := [.int _]) (is := []) okX6_thousands jcX6_148 (mX6_thousands (mxs (v 2) (v 4 1)) (by have := mxs_le hv.1 (v 4 1); omega)) dX6_likely_44 rfl rfl rfl rfl rfl rfl (fun r9 B9 hq => ?_)
  obtain ⟨rfl, rfl⟩ := hq
  refine ⟨rfl, ?_⟩
  show J _ _ _ _ _ (.long _ :: .long _ :: _) (wC rs v q9 x9 n9 u9 c l tn) _ _
  refine J.iload_n dX6_likely_47 rfl rfl ?_
  refine J.cs (as := [.long _, .long _, .int _]) (is := []) okX6_part jcX6_155 (mX6_partN (lkR v (rs 0) kd m) (1000 ^ (mxs (v 2) (v 4 1))) wh (by have := lkR_le hv (rs 0) kd hm; omega) (by have := lkR_le hv (rs 0) kd hm; omega) (by have := lkR_le hv (rs 0) kd hm; omega)) dX6_likely_48 rfl rfl rfl rfl rfl rfl (fun r9 B9 hq => ?_)
  obtain ⟨rfl, rfl⟩ := hq
  refine ⟨rfl, ?_⟩
  show J _ _ _ _ _ (.long _ :: _) (wC rs v q9 x9 n9 u9 c l tn) _ _
  exact J.lret dX6_likely_51 rfl (Nat.le_refl _) (Nat.le_refl _) ⟨rfl, _, _, _, _, rfl⟩
set_option maxRecDepth 100000 in
set_option maxHeartbeats 4000000 in
theorem mX6_likely_bad (rs : Nat → rT) (v : Nat → Nat → Nat) (q : rT) (x : Nat → Nat) (n : Nat → Int64) (u : uT) (c : Nat → Nat → Int32) (l : Nat → Int32) (tn : Int32) (kd m wh : Int32) (hb : ¬ (0 ≤ kd ∧ kd ≤ 4) ∨ ¬ (1 ≤ m ∧ m ≤ 3) ∨ ¬ (0 ≤ wh ∧ wh ≤ 1)) : J KX6_likely 62 (fun o B => o = some (.long (-1)) ∧ B = (wC rs v q x n u c l tn)) 0 [some (.ref 0), some (.int kd), some (.int m), some (.int wh)] [] (wC rs v q x n u c l tn) 0 0 := by
  refine J.iload_n dX6_likely_0 rfl rfl ?_
  refine J.iconst (0) dX6_likely_1 (by decide) ?_
  refine J.iconst (4) dX6_likely_2 (by decide) ?_
  refine J.cs (as := [.int _, .int _, .int _]) (is := []) okX6_within jcX6_59 (mX6_within _ _ _) dX6_likely_3 rfl rfl rfl rfl rfl rfl (fun r9 B9 hq => ?_)
  obtain ⟨rfl, rfl⟩ := hq
  refine ⟨rfl, ?_⟩
  show J _ _ _ _ _ (.int _ :: _) (wC rs v q x n u c l tn) _ _
  refine J.if_eq (tgt := 27) dX6_likely_6 (by decide) (fun c6 => ?_) (fun c6 => ?_)
  · refine J.ldc2 (v := -1) dX6_likely_27 (jt 527 rfl rfl) ?_
    exact J.lret dX6_likely_30 rfl (Nat.le_refl _) (Nat.le_refl _) ⟨rfl, rfl⟩
  · refine J.iload_n dX6_likely_9 rfl rfl ?_
    refine J.iconst (1) dX6_likely_10 (by decide) ?_
    refine J.iconst (3) dX6_likely_11 (by decide) ?_
    refine J.cs (as := [.int _, .int _, .int _]) (is := []) okX6_within jcX6_59 (mX6_within _ _ _) dX6_likely_12 rfl rfl rfl rfl rfl rfl (fun r9 B9 hq => ?_)
    obtain ⟨rfl, rfl⟩ := hq
    refine ⟨rfl, ?_⟩
    show J _ _ _ _ _ (.int _ :: _) (wC rs v q x n u c l tn) _ _
    refine J.if_eq (tgt := 27) dX6_likely_15 (by decide) (fun c15 => ?_) (fun c15 => ?_)
    · refine J.ldc2 (v := -1) dX6_likely_27 (jt 527 rfl rfl) ?_
      exact J.lret dX6_likely_30 rfl (Nat.le_refl _) (Nat.le_refl _) ⟨rfl, rfl⟩
    · refine J.iload_n dX6_likely_18 rfl rfl ?_
      refine J.iconst (0) dX6_likely_19 (by decide) ?_
      refine J.iconst (1) dX6_likely_20 (by decide) ?_
      refine J.cs (as := [.int _, .int _, .int _]) (is := []) okX6_within jcX6_59 (mX6_within _ _ _) dX6_likely_21 rfl rfl rfl rfl rfl rfl (fun r9 B9 hq => ?_)
      obtain ⟨rfl, rfl⟩ := hq
      refine ⟨rfl, ?_⟩
      show J _ _ _ _ _ (.int _ :: _) (wC rs v q x n u c l tn) _ _
      refine J.if_ne (tgt := 31) dX6_likely_24 (by decide) (fun c24 => absurd c24 (fun h => h ((jB_0 _).mpr (fun hC => (fun h => h.elim (fun h => h (Decidable.not_not.mp (fun h9 => c6 ((jB_0 _).mpr h9)))) (fun h => h.elim (fun h => h (Decidable.not_not.mp (fun h9 => c15 ((jB_0 _).mpr h9)))) (fun h => h hC))) hb)))) (fun c24 => ?_)
      refine J.ldc2 (v := -1) dX6_likely_27 (jt 527 rfl rfl) ?_
      exact J.lret dX6_likely_30 rfl (Nat.le_refl _) (Nat.le_refl _) ⟨rfl, rfl⟩
/-- the likeliest so far, of the first c -/
def gu (v : vT) (r : rT) : Nat → Nat × Int32
  | 0 => (0, -4)
  | c + 1 => if (gu v r c).1 < lkR v r (c / 3) (c % 3 + 1) then (lkR v r (c / 3) (c % 3 + 1), nI (10 * (c / 3) + (c % 3 + 1))) else gu v r c
theorem gu_le {v : vT} (hv : vOK v) (r : rT) : ∀ c, (gu v r c).1 ≤ 1000 ^ mxs (v 2) (v 4 1)
  | 0 => Nat.zero_le _
  | c + 1 => by
    rw [gu]
    split
    · exact (lkR_le hv r _ (by omega)).1
    · exact gu_le hv r c
def guessA (v : vT) (r : rT) (wh : Int32) : Int64 := if wh = 0 ∨ (gu v r 15).2 = -4 then (gu v r 15).2.toInt64 else lowT ((gu v r 15).1 : Int) (1000 ^ mxs (v 2) (v 4 1)) (wh - 1)
theorem gu_s (v : vT) (r : rT) (kd i : Nat) (hi : i < 3) : gu v r (3 * kd + i + 1) = if (gu v r (3 * kd + i)).1 < lkR v r kd (i + 1) then (lkR v r kd (i + 1), nI (10 * kd + (i + 1))) else gu v r (3 * kd + i) := by
  rw [gu, show (3 * kd + i) / 3 = kd by omega, show (3 * kd + i) % 3 = i by omega]
theorem nI_mul (a b : Nat) : nI a * nI b = nI (a * b) := (Int32.ofNat_mul a b).symm
set_option maxRecDepth 100000 in
set_option maxHeartbeats 4000000 in
theorem mX6_guess_m (rs : Nat → rT) (v : Nat → Nat → Nat) (c : Nat → Nat → Int32) (l : Nat → Int32) (tn : Int32) (wh : Int32) (hw : 0 ≤ wh ∧ wh ≤ 2) (hv : vOK v) (hr : rOK (rs 0)) (kd : Nat) (hd : kd ≤ 4) (hk : ∀ (z z1 z2 : Option Value) (q : rT) (x : Nat → Nat) (n : Nat → Int64) (u : uT), J KX6_guess 62 (fun o B => o = some (.long (guessA v (rs 0) wh)) ∧ ∃ q9 x9 n9 u9, B = wC rs v q9 x9 n9 u9 c l tn) 71 [some (.ref 0), some (.int wh), some (.int (gu v (rs 0) (3 * kd + 3)).2), some (.long (lN (gu v (rs 0) (3 * kd + 3)).1)), none, some (.int (nI kd)), z, z1, z2] [] (wC rs v q x n u c l tn) 0 0) : ∀ (k9 i : Nat), i + k9 = 3 → ∀ (z1 z2 : Option Value) (q : rT) (x : Nat → Nat) (n : Nat → Int64) (u : uT), J KX6_guess 62 (fun o B => o = some (.long (guessA v (rs 0) wh)) ∧ ∃ q9 x9 n9 u9, B = wC rs v q9 x9 n9 u9 c l tn) 30 [some (.ref 0), some (.int wh), some (.int (gu v (rs 0) (3 * kd + i)).2), some (.long (lN (gu v (rs 0) (3 * kd + i)).1)), none, some (.int (nI kd)), some (.int (nI (i + 1))), z1, z2] [] (wC rs v q x n u c l tn) 0 0 := by
  intro k9
  induction k9 with
  | zero =>
    intro i hi
    obtain hiN : i = 3 := by omega
    intro z1 z2 q x n u
    subst hiN
    refine J.iload dX6_guess_30 rfl ?_
    refine J.iconst (3) dX6_guess_32 (by decide) ?_
    refine J.icmp_gt (tgt := 71) dX6_guess_33 (by decide) (fun c33 => ?_) (fun c33 => absurd c33 (fun h => h (by decide)))
    exact hk _ _ _ q x n u
  | succ k9 ih =>
    intro i hi
    have hiN : i < 3 := by omega
    intro z1 z2 q x n u
    refine J.iload dX6_guess_30 rfl ?_
    refine J.iconst (3) dX6_guess_32 (by decide) ?_
    refine J.icmp_gt (tgt := 71) dX6_guess_33 (by decide) (fun c33 => absurd c33 (fun h => absurd ((nI_lti (a := 3) (by decide) (by omega)).mp h) (by omega))) (fun c33 => ?_)
    refine J.aload_n dX6_guess_36 rfl rfl ?_
    refine J.iload dX6_guess_37 rfl ?_
    refine J.iload dX6_guess_39 rfl ?_
    refine J.cvC (as := [.int _, .int _]) rs v q x n u c l tn [] okX6_likelihood jcX6_217 (mX6_likelihood rs v q x n u c l tn kd (i + 1) hd (by omega) hv hr) dX6_guess_41 rfl rfl rfl rfl rfl (fun r9 B9 hq9 => ?_)
    obtain ⟨rfl, q9, x9, n9, u9, rfl⟩ := hq9
    refine ⟨_, _, _, _, _, _, _, _, _, rfl, ?_⟩
    show J _ _ _ _ _ (.long _ :: _) (wC rs v q9 x9 n9 u9 c l tn) _ _
    refine J.lstore dX6_guess_44 (by decide) rfl ?_
    try dsimp only [List.set]
    refine J.lload dX6_guess_46 rfl ?_
    refine J.lload_n dX6_guess_48 rfl rfl ?_
    refine J.lcmp dX6_guess_49 ?_
    have hlt : lN (gu v (rs 0) (3 * kd + i)).1 < lN (lkR v (rs 0) kd (i + 1)) ↔ (gu v (rs 0) (3 * kd + i)).1 < lkR v (rs 0) kd (i + 1) := lN_lt63 (by have := gu_le hv (rs 0) (3 * kd + i); have := lkR_le hv (rs 0) kd (m := i + 1) (by omega); omega) (by have := lkR_le hv (rs 0) kd (m := i + 1) (by omega); omega)
    refine J.if_le (tgt := 65) dX6_guess_50 (by decide) (fun c50 => ?_) (fun c50 => ?_)
    · refine J.iinc (1) dX6_guess_65 (by decide) rfl (by decide) rfl ?_
      try dsimp only [List.set]
      refine J.goto (tgt := 30) dX6_guess_68 (by decide) ?_
      first
      | (have e9 : gu v (rs 0) (3 * kd + (i + 1)) = gu v (rs 0) (3 * kd + i) := (gu_s v (rs 0) kd i (by omega)).trans (if_neg (fun h9 => cmpN c50 (hlt.mpr h9)))
         exact J.at (ih (i + 1) (by omega) _ _ q9 x9 n9 u9) (by rw [e9, ← nI_1 (i + 1)]) rfl rfl)
      | (have e9 : gu v (rs 0) (3 * kd + (i + 1)) = (lkR v (rs 0) kd (i + 1), nI (10 * kd + (i + 1))) := (gu_s v (rs 0) kd i (by omega)).trans (if_pos (hlt.mp (cmpP c50)))
         exact J.at (ih (i + 1) (by omega) _ _ q9 x9 n9 u9) (by rw [e9, ← nI_1 (i + 1), ← nI_add, ← nI_mul] <;> rfl) rfl rfl)
    · refine J.lload dX6_guess_53 rfl ?_
      refine J.lstore_n dX6_guess_55 rfl (by decide) rfl ?_
      try dsimp only [List.set]
      refine J.bipush (10) dX6_guess_56 (by decide) ?_
      refine J.iload dX6_guess_58 rfl ?_
      refine J.imul dX6_guess_60 ?_
      refine J.iload dX6_guess_61 rfl ?_
      refine J.iadd dX6_guess_63 ?_
      refine J.istore_n dX6_guess_64 rfl (by decide) rfl ?_
      try dsimp only [List.set]
      refine J.iinc (1) dX6_guess_65 (by decide) rfl (by decide) rfl ?_
      try dsimp only [List.set]
      refine J.goto (tgt := 30) dX6_guess_68 (by decide) ?_
      first
      | (have e9 : gu v (rs 0) (3 * kd + (i + 1)) = gu v (rs 0) (3 * kd + i) := (gu_s v (rs 0) kd i (by omega)).trans (if_neg (fun h9 => cmpN c50 (hlt.mpr h9)))
         exact J.at (ih (i + 1) (by omega) _ _ q9 x9 n9 u9) (by rw [e9, ← nI_1 (i + 1)]) rfl rfl)
      | (have e9 : gu v (rs 0) (3 * kd + (i + 1)) = (lkR v (rs 0) kd (i + 1), nI (10 * kd + (i + 1))) := (gu_s v (rs 0) kd i (by omega)).trans (if_pos (hlt.mp (cmpP c50)))
         exact J.at (ih (i + 1) (by omega) _ _ q9 x9 n9 u9) (by rw [e9, ← nI_1 (i + 1), ← nI_add, ← nI_mul] <;> rfl) rfl rfl)
set_option maxRecDepth 100000 in
set_option maxHeartbeats 4000000 in
theorem mX6_guess_l (rs : Nat → rT) (v : Nat → Nat → Nat) (c : Nat → Nat → Int32) (l : Nat → Int32) (tn : Int32) (wh : Int32) (hw : 0 ≤ wh ∧ wh ≤ 2) (hv : vOK v) (hr : rOK (rs 0)) : ∀ (k9 i : Nat), i + k9 = 5 → ∀ (z z1 z2 : Option Value) (q : rT) (x : Nat → Nat) (n : Nat → Int64) (u : uT), J KX6_guess 62 (fun o B => o = some (.long (guessA v (rs 0) wh)) ∧ ∃ q9 x9 n9 u9, B = wC rs v q9 x9 n9 u9 c l tn) 21 [some (.ref 0), some (.int wh), some (.int (gu v (rs 0) (3 * i)).2), some (.long (lN (gu v (rs 0) (3 * i)).1)), none, some (.int (nI i)), z, z1, z2] [] (wC rs v q x n u c l tn) 0 0 := by
  intro k9
  induction k9 with
  | zero =>
    intro i hi
    obtain hiN : i = 5 := by omega
    intro z z1 z2 q x n u
    subst hiN
    refine J.iload dX6_guess_21 rfl ?_
    refine J.iconst (5) dX6_guess_23 (by decide) ?_
    refine J.icmp_ge (tgt := 77) dX6_guess_24 (by decide) (fun c24 => ?_) (fun c24 => absurd c24 (fun h => h (by decide)))
    refine J.iload_n dX6_guess_77 rfl rfl ?_
    refine J.if_eq (tgt := 87) dX6_guess_78 (by decide) (fun c78 => ?_) (fun c78 => ?_)
    · refine J.iload_n dX6_guess_87 rfl rfl ?_
      refine J.i2l dX6_guess_88 ?_
      exact J.lret dX6_guess_89 rfl (Nat.le_refl _) (Nat.le_refl _) ⟨congrArg (fun z => some (Value.long z)) (if_pos (by first | exact Or.inl c78 | exact Or.inr (Decidable.not_not.mp c84) | exact Or.inr c84)).symm, _, _, _, _, rfl⟩
    · refine J.iload_n dX6_guess_81 rfl rfl ?_
      refine J.bipush (-4) dX6_guess_82 (by decide) ?_
      refine J.icmp_ne (tgt := 90) dX6_guess_84 (by decide) (fun c84 => ?_) (fun c84 => ?_)
      · refine J.lload_n dX6_guess_90 rfl rfl ?_
        refine J.aload_n dX6_guess_91 rfl rfl ?_
        refine J.getfield dX6_guess_92 jFX6_44 rfl rfl ?_
        refine J.cv (as := []) (is := [36, 37, 38]) (o := 0) okX3_lastHour jcX6_220 (mX3_lastHour (v 2) (v 3) (v 4 1) hv.2.2 (fun i => by have := hv.1 i; omega)) dX6_guess_95 rfl rfl rfl rfl rfl rfl rfl (fun r9 B9 hq => ?_)
        obtain ⟨rfl, rfl⟩ := hq
        refine ⟨rfl, ?_⟩
        show J _ _ _ _ _ (.int _ :: .long _ :: _) (wC rs v q x n u c l tn) _ _
        refine J.cs (as := [.int _]) (is := []) okX6_thousands jcX6_148 (mX6_thousands (mxs (v 2) (v 4 1)) (by have := mxs_le hv.1 (v 4 1); omega)) dX6_guess_98 rfl rfl rfl rfl rfl rfl (fun r9 B9 hq => ?_)
        obtain ⟨rfl, rfl⟩ := hq
        refine ⟨rfl, ?_⟩
        show J _ _ _ _ _ (.long _ :: .long _ :: _) (wC rs v q x n u c l tn) _ _
        refine J.iload_n dX6_guess_101 rfl rfl ?_
        refine J.iconst (1) dX6_guess_102 (by decide) ?_
        refine J.isub dX6_guess_103 ?_
        refine J.cs (as := [.long _, .long _, .int _]) (is := []) okX6_part jcX6_155 (mX6_partN (gu v (rs 0) 15).1 (1000 ^ (mxs (v 2) (v 4 1))) (wh - 1) (by have := gu_le hv (rs 0) 15; have := lkR_le hv (rs 0) 0 (m := 0) (by omega); omega) (by have := lkR_le hv (rs 0) 0 (m := 0) (by omega); omega) (by have := lkR_le hv (rs 0) 0 (m := 0) (by omega); omega)) dX6_guess_104 rfl rfl rfl rfl rfl rfl (fun r9 B9 hq => ?_)
        obtain ⟨rfl, rfl⟩ := hq
        refine ⟨rfl, ?_⟩
        show J _ _ _ _ _ (.long _ :: _) (wC rs v q x n u c l tn) _ _
        exact J.lret dX6_guess_107 rfl (Nat.le_refl _) (Nat.le_refl _) ⟨congrArg (fun z => some (Value.long z)) (if_neg (fun h9 => h9.elim c78 c84)).symm, _, _, _, _, rfl⟩
      · refine J.iload_n dX6_guess_87 rfl rfl ?_
        refine J.i2l dX6_guess_88 ?_
        exact J.lret dX6_guess_89 rfl (Nat.le_refl _) (Nat.le_refl _) ⟨congrArg (fun z => some (Value.long z)) (if_pos (by first | exact Or.inl c78 | exact Or.inr (Decidable.not_not.mp c84) | exact Or.inr c84)).symm, _, _, _, _, rfl⟩
  | succ k9 ih =>
    intro i hi
    have hiN : i < 5 := by omega
    intro z z1 z2 q x n u
    refine J.iload dX6_guess_21 rfl ?_
    refine J.iconst (5) dX6_guess_23 (by decide) ?_
    refine J.icmp_ge (tgt := 77) dX6_guess_24 (by decide) (fun c24 => absurd c24 (nI_ge (b := 5) (by omega) (by decide))) (fun c24 => ?_)
    refine J.iconst (1) dX6_guess_27 (by decide) ?_
    refine J.istore dX6_guess_28 (by decide) rfl ?_
    try dsimp only [List.set]
    refine J.at (mX6_guess_m rs v c l tn wh hw hv hr i (by omega) (fun z z1 z2 q x n u => ?_) 3 0 (by omega) z1 z2 q x n u) rfl rfl rfl
    refine J.iinc (1) dX6_guess_71 (by decide) rfl (by decide) rfl ?_
    try dsimp only [List.set]
    refine J.goto (tgt := 21) dX6_guess_74 (by decide) ?_
    exact J.at (ih (i + 1) (by omega) _ _ _ q x n u) (by rw [← nI_1 i, show 3 * (i + 1) = 3 * i + 3 by omega]) rfl rfl
set_option maxRecDepth 100000 in
set_option maxHeartbeats 4000000 in
theorem mX6_guess (rs : Nat → rT) (v : Nat → Nat → Nat) (q : rT) (x : Nat → Nat) (n : Nat → Int64) (u : uT) (c : Nat → Nat → Int32) (l : Nat → Int32) (tn : Int32) (wh : Int32) (hw : 0 ≤ wh ∧ wh ≤ 2) (hv : vOK v) (hr : rOK (rs 0)) : J KX6_guess 62 (fun o B => o = some (.long (guessA v (rs 0) wh)) ∧ ∃ q9 x9 n9 u9, B = wC rs v q9 x9 n9 u9 c l tn) 0 [some (.ref 0), some (.int wh), none, none, none, none, none, none, none] [] (wC rs v q x n u c l tn) 0 0 := by
  refine J.iload_n dX6_guess_0 rfl rfl ?_
  refine J.iconst (0) dX6_guess_1 (by decide) ?_
  refine J.iconst (2) dX6_guess_2 (by decide) ?_
  refine J.cs (as := [.int _, .int _, .int _]) (is := []) okX6_within jcX6_59 (mX6_within _ _ _) dX6_guess_3 rfl rfl rfl rfl rfl rfl (fun r9 B9 hq => ?_)
  obtain ⟨rfl, rfl⟩ := hq
  refine ⟨rfl, ?_⟩
  show J _ _ _ _ _ (.int _ :: _) (wC rs v q x n u c l tn) _ _
  refine J.if_ne (tgt := 13) dX6_guess_6 (by decide) (fun c6 => ?_) (fun c6 => absurd c6 (fun h => (jB_0 _).mp h hw))
  refine J.bipush (-4) dX6_guess_13 (by decide) ?_
  refine J.istore_n dX6_guess_15 rfl (by decide) rfl ?_
  try dsimp only [List.set]
  refine J.lconst 0 dX6_guess_16 (by decide) ?_
  refine J.lstore_n dX6_guess_17 rfl (by decide) rfl ?_
  try dsimp only [List.set]
  refine J.iconst (0) dX6_guess_18 (by decide) ?_
  refine J.istore dX6_guess_19 (by decide) rfl ?_
  try dsimp only [List.set]
  exact J.at (mX6_guess_l rs v c l tn wh hw hv hr 5 0 (by omega) none none none q x n u) rfl rfl rfl
set_option maxRecDepth 100000 in
set_option maxHeartbeats 4000000 in
theorem mX6_guess_bad (rs : Nat → rT) (v : Nat → Nat → Nat) (q : rT) (x : Nat → Nat) (n : Nat → Int64) (u : uT) (c : Nat → Nat → Int32) (l : Nat → Int32) (tn : Int32) (wh : Int32) (hb : ¬ (0 ≤ wh ∧ wh ≤ 2)) : J KX6_guess 62 (fun o B => o = some (.long (-1)) ∧ B = (wC rs v q x n u c l tn)) 0 [some (.ref 0), some (.int wh), none, none, none, none, none, none, none] [] (wC rs v q x n u c l tn) 0 0 := by
  refine J.iload_n dX6_guess_0 rfl rfl ?_
  refine J.iconst (0) dX6_guess_1 (by decide) ?_
  refine J.iconst (2) dX6_guess_2 (by decide) ?_
  refine J.cs (as := [.int _, .int _, .int _]) (is := []) okX6_within jcX6_59 (mX6_within _ _ _) dX6_guess_3 rfl rfl rfl rfl rfl rfl (fun r9 B9 hq => ?_)
  obtain ⟨rfl, rfl⟩ := hq
  refine ⟨rfl, ?_⟩
  show J _ _ _ _ _ (.int _ :: _) (wC rs v q x n u c l tn) _ _
  refine J.if_ne (tgt := 13) dX6_guess_6 (by decide) (fun c6 => absurd c6 (fun h => h ((jB_0 _).mpr hb))) (fun c6 => ?_)
  refine J.ldc2 (v := -1) dX6_guess_9 (jt 527 rfl rfl) ?_
  exact J.lret dX6_guess_12 rfl (Nat.le_refl _) (Nat.le_refl _) ⟨rfl, rfl⟩
