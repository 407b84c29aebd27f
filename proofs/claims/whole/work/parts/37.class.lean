theorem dX6_crown_0 : decode cX6_crown 0 = .ok (.iload_n 1, 1) := by decide +kernel
theorem dX6_crown_1 : decode cX6_crown 1 = .ok (.invokestatic 143, 3) := by decide +kernel
theorem dX6_crown_4 : decode cX6_crown 4 = .ok (.ifCond .eq 12, 3) := by decide +kernel
theorem dX6_crown_7 : decode cX6_crown 7 = .ok (.iload_n 2, 1) := by decide +kernel
theorem dX6_crown_8 : decode cX6_crown 8 = .ok (.iconst 0, 1) := by decide +kernel
theorem dX6_crown_9 : decode cX6_crown 9 = .ok (.iconst 2, 1) := by decide +kernel
theorem dX6_crown_10 : decode cX6_crown 10 = .ok (.invokestatic 59, 3) := by decide +kernel
theorem dX6_crown_13 : decode cX6_crown 13 = .ok (.ifCond .ne 7, 3) := by decide +kernel
theorem dX6_crown_16 : decode cX6_crown 16 = .ok (.ldc2_w 146, 3) := by decide +kernel
theorem dX6_crown_19 : decode cX6_crown 19 = .ok (.lreturn, 1) := by decide +kernel
theorem dX6_crown_20 : decode cX6_crown 20 = .ok (.aload_n 0, 1) := by decide +kernel
theorem dX6_crown_21 : decode cX6_crown 21 = .ok (.getfield 12, 3) := by decide +kernel
theorem dX6_crown_24 : decode cX6_crown 24 = .ok (.getfield 96, 3) := by decide +kernel
theorem dX6_crown_27 : decode cX6_crown 27 = .ok (.ifCond .ne 7, 3) := by decide +kernel
theorem dX6_crown_30 : decode cX6_crown 30 = .ok (.ldc2_w 207, 3) := by decide +kernel
theorem dX6_crown_33 : decode cX6_crown 33 = .ok (.lreturn, 1) := by decide +kernel
theorem dX6_crown_34 : decode cX6_crown 34 = .ok (.iconst 0, 1) := by decide +kernel
theorem dX6_crown_35 : decode cX6_crown 35 = .ok (.istore_n 3, 1) := by decide +kernel
theorem dX6_crown_36 : decode cX6_crown 36 = .ok (.aload_n 0, 1) := by decide +kernel
theorem dX6_crown_37 : decode cX6_crown 37 = .ok (.iconst 0, 1) := by decide +kernel
theorem dX6_crown_38 : decode cX6_crown 38 = .ok (.iload_n 1, 1) := by decide +kernel
theorem dX6_crown_39 : decode cX6_crown 39 = .ok (.invokevirtual 173, 3) := by decide +kernel
theorem dX6_crown_42 : decode cX6_crown 42 = .ok (.lstore 4, 2) := by decide +kernel
theorem dX6_crown_44 : decode cX6_crown 44 = .ok (.iconst 1, 1) := by decide +kernel
theorem dX6_crown_45 : decode cX6_crown 45 = .ok (.istore 6, 2) := by decide +kernel
theorem dX6_crown_47 : decode cX6_crown 47 = .ok (.iload 6, 2) := by decide +kernel
theorem dX6_crown_49 : decode cX6_crown 49 = .ok (.aload_n 0, 1) := by decide +kernel
theorem dX6_crown_50 : decode cX6_crown 50 = .ok (.getfield 12, 3) := by decide +kernel
theorem dX6_crown_53 : decode cX6_crown 53 = .ok (.getfield 96, 3) := by decide +kernel
theorem dX6_crown_56 : decode cX6_crown 56 = .ok (.if_icmp .ge 33, 3) := by decide +kernel
theorem dX6_crown_59 : decode cX6_crown 59 = .ok (.aload_n 0, 1) := by decide +kernel
theorem dX6_crown_60 : decode cX6_crown 60 = .ok (.iload 6, 2) := by decide +kernel
theorem dX6_crown_62 : decode cX6_crown 62 = .ok (.iload_n 1, 1) := by decide +kernel
theorem dX6_crown_63 : decode cX6_crown 63 = .ok (.invokevirtual 173, 3) := by decide +kernel
theorem dX6_crown_66 : decode cX6_crown 66 = .ok (.lstore 7, 2) := by decide +kernel
theorem dX6_crown_68 : decode cX6_crown 68 = .ok (.lload 7, 2) := by decide +kernel
theorem dX6_crown_70 : decode cX6_crown 70 = .ok (.lload 4, 2) := by decide +kernel
theorem dX6_crown_72 : decode cX6_crown 72 = .ok (.lcmp, 1) := by decide +kernel
theorem dX6_crown_73 : decode cX6_crown 73 = .ok (.ifCond .le 10, 3) := by decide +kernel
theorem dX6_crown_76 : decode cX6_crown 76 = .ok (.lload 7, 2) := by decide +kernel
theorem dX6_crown_78 : decode cX6_crown 78 = .ok (.lstore 4, 2) := by decide +kernel
theorem dX6_crown_80 : decode cX6_crown 80 = .ok (.iload 6, 2) := by decide +kernel
theorem dX6_crown_82 : decode cX6_crown 82 = .ok (.istore_n 3, 1) := by decide +kernel
theorem dX6_crown_83 : decode cX6_crown 83 = .ok (.iinc 6 1, 3) := by decide +kernel
theorem dX6_crown_86 : decode cX6_crown 86 = .ok (.goto (-39), 3) := by decide +kernel
theorem dX6_crown_89 : decode cX6_crown 89 = .ok (.iload_n 2, 1) := by decide +kernel
theorem dX6_crown_90 : decode cX6_crown 90 = .ok (.ifCond .ne 8, 3) := by decide +kernel
theorem dX6_crown_93 : decode cX6_crown 93 = .ok (.iload_n 3, 1) := by decide +kernel
theorem dX6_crown_94 : decode cX6_crown 94 = .ok (.i2l, 1) := by decide +kernel
theorem dX6_crown_95 : decode cX6_crown 95 = .ok (.goto 15, 3) := by decide +kernel
theorem dX6_crown_98 : decode cX6_crown 98 = .ok (.lload 4, 2) := by decide +kernel
theorem dX6_crown_100 : decode cX6_crown 100 = .ok (.iload_n 1, 1) := by decide +kernel
theorem dX6_crown_101 : decode cX6_crown 101 = .ok (.invokestatic 148, 3) := by decide +kernel
theorem dX6_crown_104 : decode cX6_crown 104 = .ok (.iload_n 2, 1) := by decide +kernel
theorem dX6_crown_105 : decode cX6_crown 105 = .ok (.iconst 1, 1) := by decide +kernel
theorem dX6_crown_106 : decode cX6_crown 106 = .ok (.isub, 1) := by decide +kernel
theorem dX6_crown_107 : decode cX6_crown 107 = .ok (.invokestatic 155, 3) := by decide +kernel
theorem dX6_crown_110 : decode cX6_crown 110 = .ok (.lreturn, 1) := by decide +kernel
theorem dX6_reads_0 : decode cX6_reads 0 = .ok (.iload_n 1, 1) := by decide +kernel
theorem dX6_reads_1 : decode cX6_reads 1 = .ok (.iconst 0, 1) := by decide +kernel
theorem dX6_reads_2 : decode cX6_reads 2 = .ok (.iconst 1, 1) := by decide +kernel
theorem dX6_reads_3 : decode cX6_reads 3 = .ok (.aload_n 0, 1) := by decide +kernel
theorem dX6_reads_4 : decode cX6_reads 4 = .ok (.getfield 12, 3) := by decide +kernel
theorem dX6_reads_7 : decode cX6_reads 7 = .ok (.getfield 99, 3) := by decide +kernel
theorem dX6_reads_10 : decode cX6_reads 10 = .ok (.ishl, 1) := by decide +kernel
theorem dX6_reads_11 : decode cX6_reads 11 = .ok (.iconst 1, 1) := by decide +kernel
theorem dX6_reads_12 : decode cX6_reads 12 = .ok (.isub, 1) := by decide +kernel
theorem dX6_reads_13 : decode cX6_reads 13 = .ok (.invokestatic 59, 3) := by decide +kernel
theorem dX6_reads_16 : decode cX6_reads 16 = .ok (.ifCond .eq 12, 3) := by decide +kernel
theorem dX6_reads_19 : decode cX6_reads 19 = .ok (.iload_n 2, 1) := by decide +kernel
theorem dX6_reads_20 : decode cX6_reads 20 = .ok (.iconst 0, 1) := by decide +kernel
theorem dX6_reads_21 : decode cX6_reads 21 = .ok (.iconst 1, 1) := by decide +kernel
theorem dX6_reads_22 : decode cX6_reads 22 = .ok (.invokestatic 59, 3) := by decide +kernel
theorem dX6_reads_25 : decode cX6_reads 25 = .ok (.ifCond .ne 7, 3) := by decide +kernel
theorem dX6_reads_28 : decode cX6_reads 28 = .ok (.ldc2_w 146, 3) := by decide +kernel
theorem dX6_reads_31 : decode cX6_reads 31 = .ok (.lreturn, 1) := by decide +kernel
theorem dX6_reads_32 : decode cX6_reads 32 = .ok (.aload_n 0, 1) := by decide +kernel
theorem dX6_reads_33 : decode cX6_reads 33 = .ok (.getfield 37, 3) := by decide +kernel
theorem dX6_reads_36 : decode cX6_reads 36 = .ok (.aload_n 0, 1) := by decide +kernel
theorem dX6_reads_37 : decode cX6_reads 37 = .ok (.getfield 12, 3) := by decide +kernel
theorem dX6_reads_40 : decode cX6_reads 40 = .ok (.invokevirtual 159, 3) := by decide +kernel
theorem dX6_reads_43 : decode cX6_reads 43 = .ok (.aload_n 0, 1) := by decide +kernel
theorem dX6_reads_44 : decode cX6_reads 44 = .ok (.getfield 37, 3) := by decide +kernel
theorem dX6_reads_47 : decode cX6_reads 47 = .ok (.invokevirtual 209, 3) := by decide +kernel
theorem dX6_reads_50 : decode cX6_reads 50 = .ok (.aload_n 0, 1) := by decide +kernel
theorem dX6_reads_51 : decode cX6_reads 51 = .ok (.iload_n 1, 1) := by decide +kernel
theorem dX6_reads_52 : decode cX6_reads 52 = .ok (.invokevirtual 212, 3) := by decide +kernel
theorem dX6_reads_55 : decode cX6_reads 55 = .ok (.iconst 5, 1) := by decide +kernel
theorem dX6_reads_56 : decode cX6_reads 56 = .ok (.invokestatic 148, 3) := by decide +kernel
theorem dX6_reads_59 : decode cX6_reads 59 = .ok (.iload_n 2, 1) := by decide +kernel
theorem dX6_reads_60 : decode cX6_reads 60 = .ok (.invokestatic 155, 3) := by decide +kernel
theorem dX6_reads_63 : decode cX6_reads 63 = .ok (.lreturn, 1) := by decide +kernel
theorem dX6_laws_0 : decode cX6_laws 0 = .ok (.iload_n 1, 1) := by decide +kernel
theorem dX6_laws_1 : decode cX6_laws 1 = .ok (.iconst 0, 1) := by decide +kernel
theorem dX6_laws_2 : decode cX6_laws 2 = .ok (.iconst 2, 1) := by decide +kernel
theorem dX6_laws_3 : decode cX6_laws 3 = .ok (.invokestatic 59, 3) := by decide +kernel
theorem dX6_laws_6 : decode cX6_laws 6 = .ok (.ifCond .ne 7, 3) := by decide +kernel
theorem dX6_laws_9 : decode cX6_laws 9 = .ok (.ldc2_w 146, 3) := by decide +kernel
theorem dX6_laws_12 : decode cX6_laws 12 = .ok (.lreturn, 1) := by decide +kernel
theorem dX6_laws_13 : decode cX6_laws 13 = .ok (.aload_n 0, 1) := by decide +kernel
theorem dX6_laws_14 : decode cX6_laws 14 = .ok (.getfield 37, 3) := by decide +kernel
theorem dX6_laws_17 : decode cX6_laws 17 = .ok (.aload_n 0, 1) := by decide +kernel
theorem dX6_laws_18 : decode cX6_laws 18 = .ok (.getfield 12, 3) := by decide +kernel
theorem dX6_laws_21 : decode cX6_laws 21 = .ok (.invokevirtual 159, 3) := by decide +kernel
theorem dX6_laws_24 : decode cX6_laws 24 = .ok (.aload_n 0, 1) := by decide +kernel
theorem dX6_laws_25 : decode cX6_laws 25 = .ok (.getfield 37, 3) := by decide +kernel
theorem dX6_laws_28 : decode cX6_laws 28 = .ok (.invokevirtual 209, 3) := by decide +kernel
theorem dX6_laws_31 : decode cX6_laws 31 = .ok (.iconst 0, 1) := by decide +kernel
theorem dX6_laws_32 : decode cX6_laws 32 = .ok (.istore_n 2, 1) := by decide +kernel
theorem dX6_laws_33 : decode cX6_laws 33 = .ok (.lconst 0, 1) := by decide +kernel
theorem dX6_laws_34 : decode cX6_laws 34 = .ok (.lstore_n 3, 1) := by decide +kernel
theorem dX6_laws_35 : decode cX6_laws 35 = .ok (.iconst 1, 1) := by decide +kernel
theorem dX6_laws_36 : decode cX6_laws 36 = .ok (.istore 5, 2) := by decide +kernel
theorem dX6_laws_38 : decode cX6_laws 38 = .ok (.iload 5, 2) := by decide +kernel
theorem dX6_laws_40 : decode cX6_laws 40 = .ok (.iconst 1, 1) := by decide +kernel
theorem dX6_laws_41 : decode cX6_laws 41 = .ok (.aload_n 0, 1) := by decide +kernel
theorem dX6_laws_42 : decode cX6_laws 42 = .ok (.getfield 12, 3) := by decide +kernel
theorem dX6_laws_45 : decode cX6_laws 45 = .ok (.getfield 99, 3) := by decide +kernel
theorem dX6_laws_48 : decode cX6_laws 48 = .ok (.ishl, 1) := by decide +kernel
theorem dX6_laws_49 : decode cX6_laws 49 = .ok (.if_icmp .ge 30, 3) := by decide +kernel
theorem dX6_laws_52 : decode cX6_laws 52 = .ok (.aload_n 0, 1) := by decide +kernel
theorem dX6_laws_53 : decode cX6_laws 53 = .ok (.iload 5, 2) := by decide +kernel
theorem dX6_laws_55 : decode cX6_laws 55 = .ok (.invokevirtual 212, 3) := by decide +kernel
theorem dX6_laws_58 : decode cX6_laws 58 = .ok (.lstore 6, 2) := by decide +kernel
theorem dX6_laws_60 : decode cX6_laws 60 = .ok (.lload 6, 2) := by decide +kernel
theorem dX6_laws_62 : decode cX6_laws 62 = .ok (.lload_n 3, 1) := by decide +kernel
theorem dX6_laws_63 : decode cX6_laws 63 = .ok (.lcmp, 1) := by decide +kernel
theorem dX6_laws_64 : decode cX6_laws 64 = .ok (.ifCond .le 9, 3) := by decide +kernel
theorem dX6_laws_67 : decode cX6_laws 67 = .ok (.lload 6, 2) := by decide +kernel
theorem dX6_laws_69 : decode cX6_laws 69 = .ok (.lstore_n 3, 1) := by decide +kernel
theorem dX6_laws_70 : decode cX6_laws 70 = .ok (.iload 5, 2) := by decide +kernel
theorem dX6_laws_72 : decode cX6_laws 72 = .ok (.istore_n 2, 1) := by decide +kernel
theorem dX6_laws_73 : decode cX6_laws 73 = .ok (.iinc 5 1, 3) := by decide +kernel
theorem dX6_laws_76 : decode cX6_laws 76 = .ok (.goto (-38), 3) := by decide +kernel
theorem dX6_laws_79 : decode cX6_laws 79 = .ok (.iload_n 1, 1) := by decide +kernel
theorem dX6_laws_80 : decode cX6_laws 80 = .ok (.ifCond .ne 8, 3) := by decide +kernel
theorem dX6_laws_83 : decode cX6_laws 83 = .ok (.iload_n 2, 1) := by decide +kernel
theorem dX6_laws_84 : decode cX6_laws 84 = .ok (.i2l, 1) := by decide +kernel
theorem dX6_laws_85 : decode cX6_laws 85 = .ok (.goto 14, 3) := by decide +kernel
theorem dX6_laws_88 : decode cX6_laws 88 = .ok (.lload_n 3, 1) := by decide +kernel
theorem dX6_laws_89 : decode cX6_laws 89 = .ok (.iconst 5, 1) := by decide +kernel
theorem dX6_laws_90 : decode cX6_laws 90 = .ok (.invokestatic 148, 3) := by decide +kernel
theorem dX6_laws_93 : decode cX6_laws 93 = .ok (.iload_n 1, 1) := by decide +kernel
theorem dX6_laws_94 : decode cX6_laws 94 = .ok (.iconst 1, 1) := by decide +kernel
theorem dX6_laws_95 : decode cX6_laws 95 = .ok (.isub, 1) := by decide +kernel
theorem dX6_laws_96 : decode cX6_laws 96 = .ok (.invokestatic 155, 3) := by decide +kernel
theorem dX6_laws_99 : decode cX6_laws 99 = .ok (.lreturn, 1) := by decide +kernel
/-- a HAIR mended; the best so far -/
def oqM (r : rT) (i : Nat) : rT := oq (r 0) (fun j => if j = i then 0 else r 1 j) (r 6 4) (r 6 3 ||| 2 ^ i)
def mdH (r : rT) (N i : Nat) : Nat := sm (not0 (sh (oqM r i) (one (r 6 3 ||| 2 ^ i)) N)) 8
def md (r : rT) (N : Nat) : Nat → Nat × Int32
  | 0 => (hdR r N, -4)
  | i + 1 => if (md r N i).1 < mdH r N i then (mdH r N i, nI i) else md r N i
theorem mdH_le {r : rT} (h : rOK r) {N i : Nat} (hi : i < 3) : mdH r N i ≤ 1000 ^ N := by
  have h1 := not0_le (sh (oqM r i) (one (r 6 3 ||| 2 ^ i)) N)
  rw [sh1_sum _ (ws_lt _ h.w i hi)] at h1
  exact h1
theorem md_le {r : rT} (h : rOK r) (N : Nat) : ∀ i, i ≤ 3 → (md r N i).1 ≤ 1000 ^ N
  | 0, _ => by have := hdR_le h N; show hdR r N ≤ _; omega
  | i + 1, hi => by
    rw [md]
    split
    · exact mdH_le h (by omega)
    · exact md_le h N i (by omega)
def mendA (r : rT) (N : Nat) (wh : Int32) : Int64 := if wh = 0 ∨ (md r N (r 6 0)).2 = -4 then (md r N (r 6 0)).2.toInt64 else lowT ((md r N (r 6 0)).1 : Int) (1000 ^ N) (wh - 1)
set_option maxRecDepth 100000 in
set_option maxHeartbeats 4000000 in
theorem mX6_mend_l (rs : Nat → rT) (v : Nat → Nat → Nat) (c : Nat → Nat → Int32) (l : Nat → Int32) (tn : Int32) (N : Nat) (hN : N ≤ 5) (wh : Int32) (hw : 0 ≤ wh ∧ wh ≤ 2) (hr : rOK (rs 0)) : ∀ (k9 i : Nat), i + k9 = rs 0 6 0 → ∀ (z1 z2 : Option Value) (q : rT) (x : Nat → Nat) (n : Nat → Int64) (u : uT), J KX6_mend 62 (fun o B => o = some (.long (mendA (rs 0) N wh)) ∧ ∃ q9 x9 n9 u9, B = wC rs v q9 x9 n9 u9 c l tn) 33 [some (.ref 0), some (.int (nI N)), some (.int wh), some (.long (lN (md (rs 0) N i).1)), none, some (.int (md (rs 0) N i).2), some (.int (nI i)), z1, z2] [] (wC rs v q x n u c l tn) 0 0 := by
  intro k9
  induction k9 with
  | zero =>
    intro i hi
    obtain hiN : i = rs 0 6 0 := by omega
    intro z1 z2 q x n u
    subst hiN
    refine J.iload dX6_mend_33 rfl ?_
    refine J.aload_n dX6_mend_35 rfl rfl ?_
    refine J.getfield dX6_mend_36 jFX6_12 rfl rfl ?_
    refine J.getfield dX6_mend_39 jFX6_93 rfl rfl ?_
    refine J.icmp_ge (tgt := 102) dX6_mend_42 (by decide) (fun c42 => ?_) (fun c42 => absurd c42 (fun h => h (Int32.le_refl _)))
    refine J.iload_n dX6_mend_102 rfl rfl ?_
    refine J.if_eq (tgt := 113) dX6_mend_103 (by decide) (fun c103 => ?_) (fun c103 => ?_)
    · refine J.iload dX6_mend_113 rfl ?_
      refine J.i2l dX6_mend_115 ?_
      exact J.lret dX6_mend_116 rfl (Nat.le_refl _) (Nat.le_refl _) ⟨congrArg (fun z => some (Value.long z)) (if_pos (by first | exact Or.inl c103 | exact Or.inr c110)).symm, _, _, _, _, rfl⟩
    · refine J.iload dX6_mend_106 rfl ?_
      refine J.bipush (-4) dX6_mend_108 (by decide) ?_
      refine J.icmp_ne (tgt := 117) dX6_mend_110 (by decide) (fun c110 => ?_) (fun c110 => ?_)
      · refine J.lload_n dX6_mend_117 rfl rfl ?_
        refine J.iload_n dX6_mend_118 rfl rfl ?_
        refine J.cs (as := [.int _]) (is := []) okX6_thousands jcX6_148 (mX6_thousands N (by omega)) dX6_mend_119 rfl rfl rfl rfl rfl rfl (fun r9 B9 hq => ?_)
        obtain ⟨rfl, rfl⟩ := hq
        refine ⟨rfl, ?_⟩
        show J _ _ _ _ _ (.long _ :: .long _ :: _) (wC rs v q x n u c l tn) _ _
        refine J.iload_n dX6_mend_122 rfl rfl ?_
        refine J.iconst (1) dX6_mend_123 (by decide) ?_
        refine J.isub dX6_mend_124 ?_
        refine J.cs (as := [.long _, .long _, .int _]) (is := []) okX6_part jcX6_155 (mX6_partN (md (rs 0) N (rs 0 6 0)).1 (1000 ^ N) (wh - 1) (by have := p1000 N hN; have := md_le hr N (rs 0 6 0) hr.1; omega) (by have := p1000 N hN; omega) (by have := p1000 N hN; omega)) dX6_mend_125 rfl rfl rfl rfl rfl rfl (fun r9 B9 hq => ?_)
        obtain ⟨rfl, rfl⟩ := hq
        refine ⟨rfl, ?_⟩
        show J _ _ _ _ _ (.long _ :: _) (wC rs v q x n u c l tn) _ _
        exact J.lret dX6_mend_128 rfl (Nat.le_refl _) (Nat.le_refl _) ⟨congrArg (fun z => some (Value.long z)) (if_neg (fun h9 => h9.elim c103 c110)).symm, _, _, _, _, rfl⟩
      · refine J.iload dX6_mend_113 rfl ?_
        refine J.i2l dX6_mend_115 ?_
        exact J.lret dX6_mend_116 rfl (Nat.le_refl _) (Nat.le_refl _) ⟨congrArg (fun z => some (Value.long z)) (if_pos (by first | exact Or.inl c103 | exact Or.inr c110)).symm, _, _, _, _, rfl⟩
  | succ k9 ih =>
    intro i hi
    have hiN : i < rs 0 6 0 := by omega
    intro z1 z2 q x n u
    refine J.iload dX6_mend_33 rfl ?_
    refine J.aload_n dX6_mend_35 rfl rfl ?_
    refine J.getfield dX6_mend_36 jFX6_12 rfl rfl ?_
    refine J.getfield dX6_mend_39 jFX6_93 rfl rfl ?_
    refine J.icmp_ge (tgt := 102) dX6_mend_42 (by decide) (fun c42 => absurd c42 (nI_ge hiN (by have := hr.1; omega))) (fun c42 => ?_)
    refine J.aload_n dX6_mend_45 rfl rfl ?_
    refine J.getfield dX6_mend_46 jFX6_37 rfl rfl ?_
    refine J.aload_n dX6_mend_49 rfl rfl ?_
    refine J.getfield dX6_mend_50 jFX6_12 rfl rfl ?_
    refine J.cv (as := [.ref 9]) (is := [27, 28, 29, 30, 31, 32, 33, 34, 35, 1, 2, 3, 4, 5, 6, 7]) (o := 0) okX0_take jcX6_159 (mX0_take q x n u (rs 0) hr.w) dX6_mend_53 rfl rfl rfl rfl rfl rfl rfl (fun r9 B9 hq => ?_)
    obtain ⟨rfl, rfl⟩ := hq
    refine ⟨rfl, ?_⟩
    show J _ _ _ _ _ [] (wC rs v (otake q (rs 0)) (one (rs 0 6 3)) n u c l tn) _ _
    refine J.aload_n dX6_mend_56 rfl rfl ?_
    refine J.getfield dX6_mend_57 jFX6_37 rfl rfl ?_
    refine J.iload dX6_mend_60 rfl ?_
    refine J.cv (as := [.int _]) (is := [27, 28, 29, 30, 31, 32, 33, 34, 35]) (o := 0) okX0_renew jcX6_193 (mX0_renew (otake q (rs 0)) (one (rs 0 6 3)) n u i (by have := hr.1; omega) hr.w) dX6_mend_62 rfl rfl rfl rfl rfl rfl rfl (fun r9 B9 hq => ?_)
    obtain ⟨rfl, rfl⟩ := hq
    refine ⟨rfl, ?_⟩
    show J _ _ _ _ _ [] (wC rs v (orenew (otake q (rs 0)) i) (one (rs 0 6 3 ||| 2 ^ i)) n u c l tn) _ _
    refine J.aload_n dX6_mend_65 rfl rfl ?_
    refine J.getfield dX6_mend_66 jFX6_37 rfl rfl ?_
    refine J.iload_n dX6_mend_69 rfl rfl ?_
    refine J.cv (as := [.int _]) (is := [27, 28, 29, 30, 31, 32, 33, 34, 35]) (o := 0) okX0_passHours jcX6_162 (mX0_passHoursC (orenew (otake q (rs 0)) i) (oqM (rs 0) i) (one (rs 0 6 3 ||| 2 ^ i)) n u N ⟨rfl, ⟨hr.2.2.2.2.2.2.2.2.1, (fun j => by show (if j = i then 0 else rs 0 1 j) ≤ 9; have := hr.2.2.2.2.2.2.2.2.2.1 j; split <;> omega), hr.2.2.2.2.2.1, ws_lt _ hr.w i (by have := hr.1; omega)⟩, rfl⟩ (by omega)) dX6_mend_70 rfl rfl rfl rfl rfl rfl rfl (fun r9 B9 hq9 => ?_)
    obtain ⟨rfl, q9, n9, hq9, rfl⟩ := hq9
    refine ⟨rfl, ?_⟩
    show J _ _ _ _ _ [] (wC rs v q9 (sh (oqM (rs 0) i) (one (rs 0 6 3 ||| 2 ^ i)) N) n9 u c l tn) _ _
    refine J.aload_n dX6_mend_73 rfl rfl ?_
    refine J.getfield dX6_mend_74 jFX6_37 rfl rfl ?_
    refine J.cv (as := []) (is := [27, 28, 29, 30, 31, 32, 33, 34, 35]) (o := 0) okX0_held jcX6_181 (mX0_held q9 (sh (oqM (rs 0) i) (one (rs 0 6 3 ||| 2 ^ i)) N) n9 u) dX6_mend_77 rfl rfl rfl rfl rfl rfl rfl (fun r9 B9 hq => ?_)
    obtain ⟨rfl, rfl⟩ := hq
    refine ⟨rfl, ?_⟩
    show J _ _ _ _ _ (.long _ :: _) (wC rs v q9 (sh (oqM (rs 0) i) (one (rs 0 6 3 ||| 2 ^ i)) N) n9 u c l tn) _ _
    refine J.lstore dX6_mend_80 (by decide) rfl ?_
    try dsimp only [List.set]
    refine J.lload dX6_mend_82 rfl ?_
    refine J.lload_n dX6_mend_84 rfl rfl ?_
    refine J.lcmp dX6_mend_85 ?_
    have hlt : lN (md (rs 0) N i).1 < lN (sm (not0 (sh (oqM (rs 0) i) (one (rs 0 6 3 ||| 2 ^ i)) N)) 8) ↔ (md (rs 0) N i).1 < mdH (rs 0) N i := lN_lt63 (by have := p1000 N hN; have := md_le hr N i (by have := hr.1; omega); omega) (show mdH (rs 0) N i < 2 ^ 63 by have := p1000 N hN; have := mdH_le hr (N := N) (i := i) (by have := hr.1; omega); omega)
    refine J.if_le (tgt := 96) dX6_mend_86 (by decide) (fun c86 => ?_) (fun c86 => ?_)
    · refine J.iinc (1) dX6_mend_96 (by decide) rfl (by decide) rfl ?_
      try dsimp only [List.set]
      refine J.goto (tgt := 33) dX6_mend_99 (by decide) ?_
      first
      | (have e9 : md (rs 0) N (i + 1) = md (rs 0) N i := if_neg (fun h9 => cmpN c86 (hlt.mpr h9))
         exact J.at (ih (i + 1) (by omega) _ _ q9 _ n9 u) (by rw [e9, ← nI_1]) rfl rfl)
      | (have e9 : md (rs 0) N (i + 1) = (mdH (rs 0) N i, nI i) := if_pos (hlt.mp (cmpP c86))
         exact J.at (ih (i + 1) (by omega) _ _ q9 _ n9 u) (by rw [e9, ← nI_1] <;> rfl) rfl rfl)
    · refine J.lload dX6_mend_89 rfl ?_
      refine J.lstore_n dX6_mend_91 rfl (by decide) rfl ?_
      try dsimp only [List.set]
      refine J.iload dX6_mend_92 rfl ?_
      refine J.istore dX6_mend_94 (by decide) rfl ?_
      try dsimp only [List.set]
      refine J.iinc (1) dX6_mend_96 (by decide) rfl (by decide) rfl ?_
      try dsimp only [List.set]
      refine J.goto (tgt := 33) dX6_mend_99 (by decide) ?_
      first
      | (have e9 : md (rs 0) N (i + 1) = md (rs 0) N i := if_neg (fun h9 => cmpN c86 (hlt.mpr h9))
         exact J.at (ih (i + 1) (by omega) _ _ q9 _ n9 u) (by rw [e9, ← nI_1]) rfl rfl)
      | (have e9 : md (rs 0) N (i + 1) = (mdH (rs 0) N i, nI i) := if_pos (hlt.mp (cmpP c86))
         exact J.at (ih (i + 1) (by omega) _ _ q9 _ n9 u) (by rw [e9, ← nI_1] <;> rfl) rfl rfl)
set_option maxRecDepth 100000 in
set_option maxHeartbeats 4000000 in
theorem mX6_mend (rs : Nat → rT) (v : Nat → Nat → Nat) (q : rT) (x : Nat → Nat) (n : Nat → Int64) (u : uT) (c : Nat → Nat → Int32) (l : Nat → Int32) (tn : Int32) (N : Nat) (hN : N ≤ 5) (wh : Int32) (hw : 0 ≤ wh ∧ wh ≤ 2) (hr : rOK (rs 0)) : J KX6_mend 62 (fun o B => o = some (.long (mendA (rs 0) N wh)) ∧ ∃ q9 x9 n9 u9, B = wC rs v q9 x9 n9 u9 c l tn) 0 [some (.ref 0), some (.int (nI N)), some (.int wh), none, none, none, none, none, none] [] (wC rs v q x n u c l tn) 0 0 := by
  refine J.iload_n dX6_mend_0 rfl rfl ?_
  refine J.cs (as := [.int _]) (is := []) okX6_foreseen jcX6_143 (mX6_foreseen _) dX6_mend_1 rfl rfl rfl rfl rfl rfl (fun r9 B9 hq => ?_)
  obtain ⟨rfl, rfl⟩ := hq
  refine ⟨rfl, ?_⟩
  show J _ _ _ _ _ (.int _ :: _) (wC rs v q x n u c l tn) _ _
  refine J.if_eq (tgt := 16) dX6_mend_4 (by decide) (fun c4 => absurd c4 (fun h => (jB_0 _).mp h (jw (a := 0) (c := 5) (by decide) (Nat.zero_le _) hN))) (fun c4 => ?_)
  refine J.iload_n dX6_mend_7 rfl rfl ?_
  refine J.iconst (0) dX6_mend_8 (by decide) ?_
  refine J.iconst (2) dX6_mend_9 (by decide) ?_
  refine J.cs (as := [.int _, .int _, .int _]) (is := []) okX6_within jcX6_59 (mX6_within _ _ _) dX6_mend_10 rfl rfl rfl rfl rfl rfl (fun r9 B9 hq => ?_)
  obtain ⟨rfl, rfl⟩ := hq
  refine ⟨rfl, ?_⟩
  show J _ _ _ _ _ (.int _ :: _) (wC rs v q x n u c l tn) _ _
  refine J.if_ne (tgt := 20) dX6_mend_13 (by decide) (fun c13 => ?_) (fun c13 => absurd c13 (fun h => (jB_0 _).mp h hw))
  refine J.aload_n dX6_mend_20 rfl rfl ?_
  refine J.iload_n dX6_mend_21 rfl rfl ?_
  refine J.cvC (as := [.int _]) rs v q x n u c l tn [] okX6_heldFromNow jcX6_152 (mX6_heldFromNow rs v q x n u c l tn N hN hr) dX6_mend_22 rfl rfl rfl rfl rfl (fun r9 B9 hq9 => ?_)
  obtain ⟨rfl, q9, x9, n9, u9, rfl⟩ := hq9
  refine ⟨_, _, _, _, _, _, _, _, _, rfl, ?_⟩
  show J _ _ _ _ _ (.long _ :: _) (wC rs v q9 x9 n9 u9 c l tn) _ _
  refine J.lstore_n dX6_mend_25 rfl (by decide) rfl ?_
  try dsimp only [List.set]
  refine J.bipush (-4) dX6_mend_26 (by decide) ?_
  refine J.istore dX6_mend_28 (by decide) rfl ?_
  try dsimp only [List.set]
  refine J.iconst (0) dX6_mend_30 (by decide) ?_
  refine J.istore dX6_mend_31 (by decide) rfl ?_
  try dsimp only [List.set]
  exact J.at (mX6_mend_l rs v c l tn N hN wh hw hr (rs 0 6 0) 0 (by omega) none none q9 x9 n9 u9) rfl rfl rfl
set_option maxRecDepth 100000 in
set_option maxHeartbeats 4000000 in
theorem mX6_mend_bad (rs : Nat → rT) (v : Nat → Nat → Nat) (q : rT) (x : Nat → Nat) (n : Nat → Int64) (u : uT) (c : Nat → Nat → Int32) (l : Nat → Int32) (tn : Int32) (N wh : Int32) (hb : ¬ (0 ≤ N ∧ N ≤ 5) ∨ ¬ (0 ≤ wh ∧ wh ≤ 2)) : J KX6_mend 62 (fun o B => o = some (.long (-1)) ∧ B = (wC rs v q x n u c l tn)) 0 [some (.ref 0), some (.int N), some (.int wh), none, none, none, none, none, none] [] (wC rs v q x n u c l tn) 0 0 := by
  refine J.iload_n dX6_mend_0 rfl rfl ?_
  refine J.cs (as := [.int _]) (is := []) okX6_foreseen jcX6_143 (mX6_foreseen _) dX6_mend_1 rfl rfl rfl rfl rfl rfl (fun r9 B9 hq => ?_)
  obtain ⟨rfl, rfl⟩ := hq
  refine ⟨rfl, ?_⟩
  show J _ _ _ _ _ (.int _ :: _) (wC rs v q x n u c l tn) _ _
  refine J.if_eq (tgt := 16) dX6_mend_4 (by decide) (fun c4 => ?_) (fun c4 => ?_)
  · refine J.ldc2 (v := -1) dX6_mend_16 (jt 527 rfl rfl) ?_
    exact J.lret dX6_mend_19 rfl (Nat.le_refl _) (Nat.le_refl _) ⟨rfl, rfl⟩
  · refine J.iload_n dX6_mend_7 rfl rfl ?_
    refine J.iconst (0) dX6_mend_8 (by decide) ?_
    refine J.iconst (2) dX6_mend_9 (by decide) ?_
    refine J.cs (as := [.int _, .int _, .int _]) (is := []) okX6_within jcX6_59 (mX6_within _ _ _) dX6_mend_10 rfl rfl rfl rfl rfl rfl (fun r9 B9 hq => ?_)
    obtain ⟨rfl, rfl⟩ := hq
    refine ⟨rfl, ?_⟩
    show J _ _ _ _ _ (.int _ :: _) (wC rs v q x n u c l tn) _ _
    refine J.if_ne (tgt := 20) dX6_mend_13 (by decide) (fun c13 => absurd c13 (fun h => h ((jB_0 _).mpr (fun hC => (fun h => h.elim (fun h => h (Decidable.not_not.mp (fun h9 => c4 ((jB_0 _).mpr h9)))) (fun h => h hC)) hb)))) (fun c13 => ?_)
    refine J.ldc2 (v := -1) dX6_mend_16 (jt 527 rfl rfl) ?_
    exact J.lret dX6_mend_19 rfl (Nat.le_refl _) (Nat.le_refl _) ⟨rfl, rfl⟩
def dl0 (r : rT) (a b N : Nat) : Int := dgZ (oqR r) r a b N N 0 (r 6 3)
def dl1 (r : rT) (a b N : Nat) : Int := if r 6 3 = 0 ∧ 0 < N then (r 6 5 : Nat) * (1000 ^ N : Nat) else dgZ (oqR r) r a b N N 1 (r 6 3)
theorem dl0_le {r : rT} (h : rOK r) (a b : Nat) {N : Nat} (hN : N ≤ 5) : (dl0 r a b N).natAbs ≤ 1000000000000000000 := by
  have h1 := dgZ_le (oqR r) r a b N h.w h N hN 0 (r 6 3)
  have := bG_s N (by omega)
  unfold dl0
  omega
theorem dl1_le {r : rT} (h : rOK r) (a b : Nat) {N : Nat} (hN : N ≤ 5) : (dl1 r a b N).natAbs ≤ 1000000000000000000 := by
  have h1 := dgZ_le (oqR r) r a b N h.w h N hN 1 (r 6 3)
  have h2 := uK (n := r 6 5) (k := N) h.2.2.2.2.2.2.1
  have := bG_s N (by omega)
  unfold dl1
  exact ab_ite (by omega) (by omega)
theorem dl0_e {r : rT} (h : rOK r) (q : rT) (a b : Nat) {N : Nat} (hN : N ≤ 5) : dg (otake q r) r a b N N 0 (r 6 3) = lI (dl0 r a b N) := (dg_c (ten_take q r) rfl r a b N N 0 _).trans (dg_Z (oqR r) r a b N h.w h N hN 0 _)
theorem dl1_e {r : rT} (h : rOK r) (q : rT) (a b : Nat) {N : Nat} (hN : N ≤ 5) : (if r 6 3 = 0 ∧ 0 < N then (nI (r 6 5)).toInt64 * lN (1000 ^ N) else dg (otake q r) r a b N N 1 (r 6 3)) = lI (dl1 r a b N) := by
  unfold dl1
  by_cases hc : r 6 3 = 0 ∧ 0 < N
  · rw [if_pos hc, if_pos hc, wo_l h.2.2.2.2.2.2.1, ← lI_nat, lI_mul]
  · rw [if_neg hc, if_neg hc]
    exact (dg_c (ten_take q r) rfl r a b N N 1 _).trans (dg_Z (oqR r) r a b N h.w h N hN 1 _)
theorem mX0_contestC (q : rT) (n : Nat → Int64) (u : uT) (r : rT) (a b N : Nat) (hr : rOK r) (ha : a < 4) (hb : b < 4) (hN : N ≤ 5) : J KX0_contest 16 (fun o B => o = none ∧ ∃ q9 u9, u9 3 0 = lI (dl0 r a b N) ∧ u9 3 1 = lI (dl1 r a b N) ∧ B = wO q9 (one (r 6 3)) n u9 ++ wRb 9 r) 0 [some (.ref 0), some (.ref 9), some (.int (nI a)), some (.int (nI b)), some (.int (nI N)), none, none, none, none, none, none, none, none] [] (wO (otake q r) (one (r 6 3)) n u ++ wRb 9 r) 0 0 := by
  refine (mX0_contest (otake q r) _ n u r a b N (hr.o q) ha hb (by omega)).weaken (fun o B h => ?_)
  obtain ⟨h1, g9, f1, f2, h2⟩ := h
  refine ⟨h1, _, _, ?_, ?_, h2⟩
  · exact dl0_e hr q a b hN
  · exact dl1_e hr q a b hN
set_option maxRecDepth 100000 in
set_option maxHeartbeats 4000000 in
theorem mX6_duel4 (rs : Nat → rT) (v : Nat → Nat → Nat) (q : rT) (x : Nat → Nat) (n : Nat → Int64) (u : uT) (c : Nat → Nat → Int32) (l : Nat → Int32) (tn : Int32) (a b N : Nat) (ha : a < rs 0 6 1) (hb : b < rs 0 6 1) (hne : a ≠ b) (hN : N ≤ 5) (hr : rOK (rs 0)) : J KX6_duel 62 (fun o B => o = some (.long (if 0 < dl0 (rs 0) a b N then 1 else 0)) ∧ ∃ q9 x9 n9 u9, B = wC rs v q9 x9 n9 u9 c l tn) 0 [some (.ref 0), some (.int (nI a)), some (.int (nI b)), some (.int (nI N)), some (.int 4)] [] (wC rs v q x n u c l tn) 0 0 := by
  refine J.iload_n dX6_duel_0 rfl rfl ?_
  refine J.iconst (0) dX6_duel_1 (by decide) ?_
  refine J.aload_n dX6_duel_2 rfl rfl ?_
  refine J.getfield dX6_duel_3 jFX6_12 rfl rfl ?_
  refine J.getfield dX6_duel_6 jFX6_96 rfl rfl ?_
  refine J.iconst (1) dX6_duel_9 (by decide) ?_
  refine J.isub dX6_duel_10 ?_
  refine J.cs (as := [.int _, .int _, .int _]) (is := []) okX6_within jcX6_59 (mX6_within _ _ _) dX6_duel_11 rfl rfl rfl rfl rfl rfl (fun r9 B9 hq => ?_)
  obtain ⟨rfl, rfl⟩ := hq
  refine ⟨rfl, ?_⟩
  show J _ _ _ _ _ (.int _ :: _) (wC rs v q x n u c l tn) _ _
  refine J.if_eq (tgt := 39) dX6_duel_14 (by decide) (fun c14 => absurd c14 (fun h => (jB_0 _).mp h (jin_ge (by have := hr.2.1; omega) ha))) (fun c14 => ?_)
  refine J.iload_n dX6_duel_17 rfl rfl ?_
  refine J.iconst (0) dX6_duel_18 (by decide) ?_
  refine J.aload_n dX6_duel_19 rfl rfl ?_
  refine J.getfield dX6_duel_20 jFX6_12 rfl rfl ?_
  refine J.getfield dX6_duel_23 jFX6_96 rfl rfl ?_
  refine J.iconst (1) dX6_duel_26 (by decide) ?_
  refine J.isub dX6_duel_27 ?_
  refine J.cs (as := [.int _, .int _, .int _]) (is := []) okX6_within jcX6_59 (mX6_within _ _ _) dX6_duel_28 rfl rfl rfl rfl rfl rfl (fun r9 B9 hq => ?_)
  obtain ⟨rfl, rfl⟩ := hq
  refine ⟨rfl, ?_⟩
  show J _ _ _ _ _ (.int _ :: _) (wC rs v q x n u c l tn) _ _
  refine J.if_eq (tgt := 39) dX6_duel_31 (by decide) (fun c31 => absurd c31 (fun h => (jB_0 _).mp h (jin_ge (by have := hr.2.1; omega) hb))) (fun c31 => ?_)
  refine J.iload_n dX6_duel_34 rfl rfl ?_
  refine J.iload_n dX6_duel_35 rfl rfl ?_
  refine J.icmp_ne (tgt := 43) dX6_duel_36 (by decide) (fun c36 => ?_) (fun c36 => absurd c36 (fun h9 => hne ((nI_eqi (by have := hr.2.1; omega) (by have := hr.2.1; omega)).mp h9)))
  refine J.iload_n dX6_duel_43 rfl rfl ?_
  refine J.cs (as := [.int _]) (is := []) okX6_foreseen jcX6_143 (mX6_foreseen _) dX6_duel_44 rfl rfl rfl rfl rfl rfl (fun r9 B9 hq => ?_)
  obtain ⟨rfl, rfl⟩ := hq
  refine ⟨rfl, ?_⟩
  show J _ _ _ _ _ (.int _ :: _) (wC rs v q x n u c l tn) _ _
  refine J.if_eq (tgt := 60) dX6_duel_47 (by decide) (fun c47 => absurd c47 (fun h => (jB_0 _).mp h (jw (a := 0) (c := 5) (by decide) (Nat.zero_le _) hN))) (fun c47 => ?_)
  refine J.iload dX6_duel_50 rfl ?_
  refine J.iconst (0) dX6_duel_52 (by decide) ?_
  refine J.iconst (4) dX6_duel_53 (by decide) ?_
  refine J.cs (as := [.int _, .int _, .int _]) (is := []) okX6_within jcX6_59 (mX6_within _ _ _) dX6_duel_54 rfl rfl rfl rfl rfl rfl (fun r9 B9 hq => ?_)
  obtain ⟨rfl, rfl⟩ := hq
  refine ⟨rfl, ?_⟩
  show J _ _ _ _ _ (.int _ :: _) (wC rs v q x n u c l tn) _ _
  refine J.if_ne (tgt := 64) dX6_duel_57 (by decide) (fun c57 => ?_) (fun c57 => absurd c57 (fun h => (jB_0 _).mp h (by decide)))
  refine J.aload_n dX6_duel_64 rfl rfl ?_
  refine J.getfield dX6_duel_65 jFX6_37 rfl rfl ?_
  refine J.aload_n dX6_duel_68 rfl rfl ?_
  refine J.getfield dX6_duel_69 jFX6_12 rfl rfl ?_
  refine J.cv (as := [.ref 9]) (is := [27, 28, 29, 30, 31, 32, 33, 34, 35, 1, 2, 3, 4, 5, 6, 7]) (o := 0) okX0_take jcX6_159 (mX0_take q x n u (rs 0) hr.w) dX6_duel_72 rfl rfl rfl rfl rfl rfl rfl (fun r9 B9 hq => ?_)
  obtain ⟨rfl, rfl⟩ := hq
  refine ⟨rfl, ?_⟩
  show J _ _ _ _ _ [] (wC rs v (otake q (rs 0)) (one (rs 0 6 3)) n u c l tn) _ _
  refine J.aload_n dX6_duel_75 rfl rfl ?_
  refine J.getfield dX6_duel_76 jFX6_37 rfl rfl ?_
  refine J.aload_n dX6_duel_79 rfl rfl ?_
  refine J.getfield dX6_duel_80 jFX6_12 rfl rfl ?_
  refine J.iload_n dX6_duel_83 rfl rfl ?_
  refine J.iload_n dX6_duel_84 rfl rfl ?_
  refine J.iload_n dX6_duel_85 rfl rfl ?_
  refine J.cv (as := [.ref 9, .int _, .int _, .int _]) (is := [27, 28, 29, 30, 31, 32, 33, 34, 35, 1, 2, 3, 4, 5, 6, 7]) (o := 0) okX0_contest jcX6_196 (mX0_contestC q n u (rs 0) a b N hr (by have := hr.2.1; omega) (by have := hr.2.1; omega) hN) dX6_duel_86 rfl rfl rfl rfl rfl rfl rfl (fun r9 B9 hq9 => ?_)
  obtain ⟨rfl, q9, u9, h30, h31, rfl⟩ := hq9
  refine ⟨rfl, ?_⟩
  show J _ _ _ _ _ [] (wC rs v q9 (one (rs 0 6 3)) n u9 c l tn) _ _
  refine J.iload dX6_duel_89 rfl ?_
  refine J.iconst (4) dX6_duel_91 (by decide) ?_
  refine J.icmp_ne (tgt := 113) dX6_duel_92 (by decide) (fun c92 => absurd c92 (fun h => h rfl)) (fun c92 => ?_)
  refine J.aload_n dX6_duel_95 rfl rfl ?_
  refine J.getfield dX6_duel_96 jFX6_37 rfl rfl ?_
  refine J.getfield dX6_duel_99 jFX6_200 rfl rfl ?_
  rw [h30]
  refine J.lconst 0 dX6_duel_102 (by decide) ?_
  refine J.lcmp dX6_duel_103 ?_
  refine J.if_le (tgt := 111) dX6_duel_104 (by decide) (fun c104 => ?_) (fun c104 => ?_)
  · refine J.lconst 0 dX6_duel_111 (by decide) ?_
    first | exact J.lret dX6_duel_112 rfl (Nat.le_refl _) (Nat.le_refl _) ⟨congrArg (fun z => some (Value.long z)) (if_pos ((lI_pos (dl0_le hr a b hN)).mp (cmpP c104))).symm, _, _, _, _, rfl⟩ | exact J.lret dX6_duel_112 rfl (Nat.le_refl _) (Nat.le_refl _) ⟨congrArg (fun z => some (Value.long z)) (if_neg (fun h9 => cmpN c104 ((lI_pos (dl0_le hr a b hN)).mpr h9))).symm, _, _, _, _, rfl⟩
  · refine J.lconst 1 dX6_duel_107 (by decide) ?_
    refine J.goto (tgt := 112) dX6_duel_108 (by decide) ?_
    first | exact J.lret dX6_duel_112 rfl (Nat.le_refl _) (Nat.le_refl _) ⟨congrArg (fun z => some (Value.long z)) (if_pos ((lI_pos (dl0_le hr a b hN)).mp (cmpP c104))).symm, _, _, _, _, rfl⟩ | exact J.lret dX6_duel_112 rfl (Nat.le_refl _) (Nat.le_refl _) ⟨congrArg (fun z => some (Value.long z)) (if_neg (fun h9 => cmpN c104 ((lI_pos (dl0_le hr a b hN)).mpr h9))).symm, _, _, _, _, rfl⟩
set_option maxRecDepth 100000 in
set_option maxHeartbeats 4000000 in
theorem mX6_duel0 (rs : Nat → rT) (v : Nat → Nat → Nat) (q : rT) (x : Nat → Nat) (n : Nat → Int64) (u : uT) (c : Nat → Nat → Int32) (l : Nat → Int32) (tn : Int32) (a b N : Nat) (ha : a < rs 0 6 1) (hb : b < rs 0 6 1) (hne : a ≠ b) (hN : N ≤ 5) (wh : Int32) (hw : 0 ≤ wh ∧ wh ≤ 1) (hr : rOK (rs 0)) : J KX6_duel 62 (fun o B => o = some (.long (lowT (dl0 (rs 0) a b N) (1000 ^ N) (wh &&& 1))) ∧ ∃ q9 x9 n9 u9, B = wC rs v q9 x9 n9 u9 c l tn) 0 [some (.ref 0), some (.int (nI a)), some (.int (nI b)), some (.int (nI N)), some (.int wh)] [] (wC rs v q x n u c l tn) 0 0 := by
  refine J.iload_n dX6_duel_0 rfl rfl ?_
  refine J.iconst (0) dX6_duel_1 (by decide) ?_
  refine J.aload_n dX6_duel_2 rfl rfl ?_
  refine J.getfield dX6_duel_3 jFX6_12 rfl rfl ?_
  refine J.getfield dX6_duel_6 jFX6_96 rfl rfl ?_
  refine J.iconst (1) dX6_duel_9 (by decide) ?_
  refine J.isub dX6_duel_10 ?_
  refine J.cs (as := [.int _, .int _, .int _]) (is := []) okX6_within jcX6_59 (mX6_within _ _ _) dX6_duel_11 rfl rfl rfl rfl rfl rfl (fun r9 B9 hq => ?_)
  obtain ⟨rfl, rfl⟩ := hq
  refine ⟨rfl, ?_⟩
  show J _ _ _ _ _ (.int _ :: _) (wC rs v q x n u c l tn) _ _
  refine J.if_eq (tgt := 39) dX6_duel_14 (by decide) (fun c14 => absurd c14 (fun h => (jB_0 _).mp h (jin_ge (by have := hr.2.1; omega) ha))) (fun c14 => ?_)
  refine J.iload_n dX6_duel_17 rfl rfl ?_
  refine J.iconst (0) dX6_duel_18 (by decide) ?_
  refine J.aload_n dX6_duel_19 rfl rfl ?_
  refine J.getfield dX6_duel_20 jFX6_12 rfl rfl ?_
  refine J.getfield dX6_duel_23 jFX6_96 rfl rfl ?_
  refine J.iconst (1) dX6_duel_26 (by decide) ?_
  refine J.isub dX6_duel_27 ?_
  refine J.cs (as := [.int _, .int _, .int _]) (is := []) okX6_within jcX6_59 (mX6_within _ _ _) dX6_duel_28 rfl rfl rfl rfl rfl rfl (fun r9 B9 hq => ?_)
  obtain ⟨rfl, rfl⟩ := hq
  refine ⟨rfl, ?_⟩
  show J _ _ _ _ _ (.int _ :: _) (wC rs v q x n u c l tn) _ _
  refine J.if_eq (tgt := 39) dX6_duel_31 (by decide) (fun c31 => absurd c31 (fun h => (jB_0 _).mp h (jin_ge (by have := hr.2.1; omega) hb))) (fun c31 => ?_)
  refine J.iload_n dX6_duel_34 rfl rfl ?_
  refine J.iload_n dX6_duel_35 rfl rfl ?_
  refine J.icmp_ne (tgt := 43) dX6_duel_36 (by decide) (fun c36 => ?_) (fun c36 => absurd c36 (fun h9 => hne ((nI_eqi (by have := hr.2.1; omega) (by have := hr.2.1; omega)).mp h9)))
  refine J.iload_n dX6_duel_43 rfl rfl ?_
  refine J.cs (as := [.int _]) (is := []) okX6_foreseen jcX6_143 (mX6_foreseen _) dX6_duel_44 rfl rfl rfl rfl rfl rfl (fun r9 B9 hq => ?_)
  obtain ⟨rfl, rfl⟩ := hq
  refine ⟨rfl, ?_⟩
  show J _ _ _ _ _ (.int _ :: _) (wC rs v q x n u c l tn) _ _
  refine J.if_eq (tgt := 60) dX6_duel_47 (by decide) (fun c47 => absurd c47 (fun h => (jB_0 _).mp h (jw (a := 0) (c := 5) (by decide) (Nat.zero_le _) hN))) (fun c47 => ?_)
  refine J.iload dX6_duel_50 rfl ?_
  refine J.iconst (0) dX6_duel_52 (by decide) ?_
  refine J.iconst (4) dX6_duel_53 (by decide) ?_
  refine J.cs (as := [.int _, .int _, .int _]) (is := []) okX6_within jcX6_59 (mX6_within _ _ _) dX6_duel_54 rfl rfl rfl rfl rfl rfl (fun r9 B9 hq => ?_)
  obtain ⟨rfl, rfl⟩ := hq
  refine ⟨rfl, ?_⟩
  show J _ _ _ _ _ (.int _ :: _) (wC rs v q x n u c l tn) _ _
  refine J.if_ne (tgt := 64) dX6_duel_57 (by decide) (fun c57 => ?_) (fun c57 => absurd c57 (fun h => (jB_0 _).mp h ⟨hw.1, Int32.le_trans hw.2 (by decide)⟩))
  refine J.aload_n dX6_duel_64 rfl rfl ?_
  refine J.getfield dX6_duel_65 jFX6_37 rfl rfl ?_
  refine J.aload_n dX6_duel_68 rfl rfl ?_
  refine J.getfield dX6_duel_69 jFX6_12 rfl rfl ?_
  refine J.cv (as := [.ref 9]) (is := [27, 28, 29, 30, 31, 32, 33, 34, 35, 1, 2, 3, 4, 5, 6, 7]) (o := 0) okX0_take jcX6_159 (mX0_take q x n u (rs 0) hr.w) dX6_duel_72 rfl rfl rfl rfl rfl rfl rfl (fun r9 B9 hq => ?_)
  obtain ⟨rfl, rfl⟩ := hq
  refine ⟨rfl, ?_⟩
  show J _ _ _ _ _ [] (wC rs v (otake q (rs 0)) (one (rs 0 6 3)) n u c l tn) _ _
  refine J.aload_n dX6_duel_75 rfl rfl ?_
  refine J.getfield dX6_duel_76 jFX6_37 rfl rfl ?_
  refine J.aload_n dX6_duel_79 rfl rfl ?_
  refine J.getfield dX6_duel_80 jFX6_12 rfl rfl ?_
  refine J.iload_n dX6_duel_83 rfl rfl ?_
  refine J.iload_n dX6_duel_84 rfl rfl ?_
  refine J.iload_n dX6_duel_85 rfl rfl ?_
  refine J.cv (as := [.ref 9, .int _, .int _, .int _]) (is := [27, 28, 29, 30, 31, 32, 33, 34, 35, 1, 2, 3, 4, 5, 6, 7]) (o := 0) okX0_contest jcX6_196 (mX0_contestC q n u (rs 0) a b N hr (by have := hr.2.1; omega) (by have := hr.2.1; omega) hN) dX6_duel_86 rfl rfl rfl rfl rfl rfl rfl (fun r9 B9 hq9 => ?_)
  obtain ⟨rfl, q9, u9, h30, h31, rfl⟩ := hq9
  refine ⟨rfl, ?_⟩
  show J _ _ _ _ _ [] (wC rs v q9 (one (rs 0 6 3)) n u9 c l tn) _ _
  refine J.iload dX6_duel_89 rfl ?_
  refine J.iconst (4) dX6_duel_91 (by decide) ?_
  refine J.icmp_ne (tgt := 113) dX6_duel_92 (by decide) (fun c92 => ?_) (fun c92 => absurd c92 (fun h => absurd hw.2 (by rw [h]; decide)))
  refine J.iload dX6_duel_113 rfl ?_
  refine J.iconst (2) dX6_duel_115 (by decide) ?_
  refine J.icmp_ge (tgt := 129) dX6_duel_116 (by decide) (fun c116 => absurd c116 (fun h => absurd (Int32.le_trans h hw.2) (by decide))) (fun c116 => ?_)
  refine J.aload_n dX6_duel_119 rfl rfl ?_
  refine J.getfield dX6_duel_120 jFX6_37 rfl rfl ?_
  refine J.getfield dX6_duel_123 jFX6_200 rfl rfl ?_
  refine J.goto (tgt := 136) dX6_duel_126 (by decide) ?_
  refine J.iload_n dX6_duel_136 rfl rfl ?_
  refine J.cs (as := [.int _]) (is := []) okX6_thousands jcX6_148 (mX6_thousands N (by omega)) dX6_duel_137 rfl rfl rfl rfl rfl rfl (fun r9 B9 hq => ?_)
  obtain ⟨rfl, rfl⟩ := hq
  refine ⟨rfl, ?_⟩
  show J _ _ _ _ _ (.long _ :: .long _ :: _) (wC rs v q9 (one (rs 0 6 3)) n u9 c l tn) _ _
  refine J.iload dX6_duel_140 rfl ?_
  refine J.iconst (1) dX6_duel_142 (by decide) ?_
  refine J.iand dX6_duel_143 ?_
  rw [h30]
  refine J.cs (as := [.long _, .long _, .int _]) (is := []) okX6_part jcX6_155 (mX6_part (dl0 (rs 0) a b N) (1000 ^ N) (wh &&& 1) (by have := dl0_le hr a b hN; omega) (by have := dl0_le hr a b hN; omega) (by have := p1000 N hN; omega) (by have := p1000 N hN; omega)) dX6_duel_144 rfl rfl rfl rfl rfl rfl (fun r9 B9 hq => ?_)
  obtain ⟨rfl, rfl⟩ := hq
  refine ⟨rfl, ?_⟩
  show J _ _ _ _ _ (.long _ :: _) (wC rs v q9 (one (rs 0 6 3)) n u9 c l tn) _ _
  exact J.lret dX6_duel_147 rfl (Nat.le_refl _) (Nat.le_refl _) ⟨rfl, _, _, _, _, rfl⟩
set_option maxRecDepth 100000 in
set_option maxHeartbeats 4000000 in
theorem mX6_duel1 (rs : Nat → rT) (v : Nat → Nat → Nat) (q : rT) (x : Nat → Nat) (n : Nat → Int64) (u : uT) (c : Nat → Nat → Int32) (l : Nat → Int32) (tn : Int32) (a b N : Nat) (ha : a < rs 0 6 1) (hb : b < rs 0 6 1) (hne : a ≠ b) (hN : N ≤ 5) (wh : Int32) (hw : 2 ≤ wh ∧ wh ≤ 3) (hr : rOK (rs 0)) : J KX6_duel 62 (fun o B => o = some (.long (lowT (dl1 (rs 0) a b N) (1000 ^ N) (wh &&& 1))) ∧ ∃ q9 x9 n9 u9, B = wC rs v q9 x9 n9 u9 c l tn) 0 [some (.ref 0), some (.int (nI a)), some (.int (nI b)), some (.int (nI N)), some (.int wh)] [] (wC rs v q x n u c l tn) 0 0 := by
  refine J.iload_n dX6_duel_0 rfl rfl ?_
  refine J.iconst (0) dX6_duel_1 (by decide) ?_
  refine J.aload_n dX6_duel_2 rfl rfl ?_
  refine J.getfield dX6_duel_3 jFX6_12 rfl rfl ?_
  refine J.getfield dX6_duel_6 jFX6_96 rfl rfl ?_
  refine J.iconst (1) dX6_duel_9 (by decide) ?_
  refine J.isub dX6_duel_10 ?_
  refine J.cs (as := [.int _, .int _, .int _]) (is := []) okX6_within jcX6_59 (mX6_within _ _ _) dX6_duel_11 rfl rfl rfl rfl rfl rfl (fun r9 B9 hq => ?_)
  obtain ⟨rfl, rfl⟩ := hq
  refine ⟨rfl, ?_⟩
  show J _ _ _ _ _ (.int _ :: _) (wC rs v q x n u c l tn) _ _
  refine J.if_eq (tgt := 39) dX6_duel_14 (by decide) (fun c14 => absurd c14 (fun h => (jB_0 _).mp h (jin_ge (by have := hr.2.1; omega) ha))) (fun c14 => ?_)
  refine J.iload_n dX6_duel_17 rfl rfl ?_
  refine J.iconst (0) dX6_duel_18 (by decide) ?_
  refine J.aload_n dX6_duel_19 rfl rfl ?_
  refine J.getfield dX6_duel_20 jFX6_12 rfl rfl ?_
  refine J.getfield dX6_duel_23 jFX6_96 rfl rfl ?_
  refine J.iconst (1) dX6_duel_26 (by decide) ?_
  refine J.isub dX6_duel_27 ?_
  refine J.cs (as := [.int _, .int _, .int _]) (is := []) okX6_within jcX6_59 (mX6_within _ _ _) dX6_duel_28 rfl rfl rfl rfl rfl rfl (fun r9 B9 hq => ?_)
  obtain ⟨rfl, rfl⟩ := hq
  refine ⟨rfl, ?_⟩
  show J _ _ _ _ _ (.int _ :: _) (wC rs v q x n u c l tn) _ _
  refine J.if_eq (tgt := 39) dX6_duel_31 (by decide) (fun c31 => absurd c31 (fun h => (jB_0 _).mp h (jin_ge (by have := hr.2.1; omega) hb))) (fun c31 => ?_)
  refine J.iload_n dX6_duel_34 rfl rfl ?_
  refine J.iload_n dX6_duel_35 rfl rfl ?_
  refine J.icmp_ne (tgt := 43) dX6_duel_36 (by decide) (fun c36 => ?_) (fun c36 => absurd c36 (fun h9 => hne ((nI_eqi (by have := hr.2.1; omega) (by have := hr.2.1; omega)).mp h9)))
  refine J.iload_n dX6_duel_43 rfl rfl ?_
  refine J.cs (as := [.int _]) (is := []) okX6_foreseen jcX6_143 (mX6_foreseen _) dX6_duel_44 rfl rfl rfl rfl rfl rfl (fun r9 B9 hq => ?_)
  obtain ⟨rfl, rfl⟩ := hq
  refine ⟨rfl, ?_⟩
  show J _ _ _ _ _ (.int _ :: _) (wC rs v q x n u c l tn) _ _
  refine J.if_eq (tgt := 60) dX6_duel_47 (by decide) (fun c47 => absurd c47 (fun h => (jB_0 _).mp h (jw (a := 0) (c := 5) (by decide) (Nat.zero_le _) hN))) (fun c47 => ?_)
  refine J.iload dX6_duel_50 rfl ?_
  refine J.iconst (0) dX6_duel_52 (by decide) ?_
  refine J.iconst (4) dX6_duel_53 (by decide) ?_
  refine J.cs (as := [.int _, .int _, .int _]) (is := []) okX6_within jcX6_59 (mX6_within _ _ _) dX6_duel_54 rfl rfl rfl rfl rfl rfl (fun r9 B9 hq => ?_)
  obtain ⟨rfl, rfl⟩ := hq
  refine ⟨rfl, ?_⟩
  show J _ _ _ _ _ (.int _ :: _) (wC rs v q x n u c l tn) _ _
  refine J.if_ne (tgt := 64) dX6_duel_57 (by decide) (fun c57 => ?_) (fun c57 => absurd c57 (fun h => (jB_0 _).mp h ⟨Int32.le_trans (by decide) hw.1, Int32.le_trans hw.2 (by decide)⟩))
  refine J.aload_n dX6_duel_64 rfl rfl ?_
  refine J.getfield dX6_duel_65 jFX6_37 rfl rfl ?_
  refine J.aload_n dX6_duel_68 rfl rfl ?_
  refine J.getfield dX6_duel_69 jFX6_12 rfl rfl ?_
  refine J.cv (as := [.ref 9]) (is := [27, 28, 29, 30, 31, 32, 33, 34, 35, 1, 2, 3, 4, 5, 6, 7]) (o := 0) okX0_take jcX6_159 (mX0_take q x n u (rs 0) hr.w) dX6_duel_72 rfl rfl rfl rfl rfl rfl rfl (fun r9 B9 hq => ?_)
  obtain ⟨rfl, rfl⟩ := hq
  refine ⟨rfl, ?_⟩
  show J _ _ _ _ _ [] (wC rs v (otake q (rs 0)) (one (rs 0 6 3)) n u c l tn) _ _
  refine J.aload_n dX6_duel_75 rfl rfl ?_
  refine J.getfield dX6_duel_76 jFX6_37 rfl rfl ?_
  refine J.aload_n dX6_duel_79 rfl rfl ?_
  refine J.getfield dX6_duel_80 jFX6_12 rfl rfl ?_
  refine J.iload_n dX6_duel_83 rfl rfl ?_
  refine J.iload_n dX6_duel_84 rfl rfl ?_
  refine J.iload_n dX6_duel_85 rfl rfl ?_
  refine J.cv (as := [.ref 9, .int _, .int _, .int _]) (is := [27, 28, 29, 30, 31, 32, 33, 34, 35, 1, 2, 3, 4, 5, 6, 7]) (o := 0) okX0_contest jcX6_196 (mX0_contestC q n u (rs 0) a b N hr (by have := hr.2.1; omega) (by have := hr.2.1; omega) hN) dX6_duel_86 rfl rfl rfl rfl rfl rfl rfl (fun r9 B9 hq9 => ?_)
  obtain ⟨rfl, q9, u9, h30, h31, rfl⟩ := hq9
  refine ⟨rfl, ?_⟩
  show J _ _ _ _ _ [] (wC rs v q9 (one (rs 0 6 3)) n u9 c l tn) _ _
  refine J.iload dX6_duel_89 rfl ?_
  refine J.iconst (4) dX6_duel_91 (by decide) ?_
  refine J.icmp_ne (tgt := 113) dX6_duel_92 (by decide) (fun c92 => ?_) (fun c92 => absurd c92 (fun h => absurd hw.2 (by rw [h]; decide)))
  refine J.iload dX6_duel_113 rfl ?_
  refine J.iconst (2) dX6_duel_115 (by decide) ?_
  refine J.icmp_ge (tgt := 129) dX6_duel_116 (by decide) (fun c116 => ?_) (fun c116 => absurd c116 (fun h => h hw.1))
  refine J.aload_n dX6_duel_129 rfl rfl ?_
  refine J.getfield dX6_duel_130 jFX6_37 rfl rfl ?_
  refine J.getfield dX6_duel_133 jFX6_204 rfl rfl ?_
  refine J.iload_n dX6_duel_136 rfl rfl ?_
  refine J.cs (as := [.int _]) (is := []) okX6_thousands jcX6_148 (mX6_thousands N (by omega)) dX6_duel_137 rfl rfl rfl rfl rfl rfl (fun r9 B9 hq => ?_)
  obtain ⟨rfl, rfl⟩ := hq
  refine ⟨rfl, ?_⟩
  show J _ _ _ _ _ (.long _ :: .long _ :: _) (wC rs v q9 (one (rs 0 6 3)) n u9 c l tn) _ _
  refine J.iload dX6_duel_140 rfl ?_
  refine J.iconst (1) dX6_duel_142 (by decide) ?_
  refine J.iand dX6_duel_143 ?_
  rw [h31]
  refine J.cs (as := [.long _, .long _, .int _]) (is := []) okX6_part jcX6_155 (mX6_part (dl1 (rs 0) a b N) (1000 ^ N) (wh &&& 1) (by have := dl1_le hr a b hN; omega) (by have := dl1_le hr a b hN; omega) (by have := p1000 N hN; omega) (by have := p1000 N hN; omega)) dX6_duel_144 rfl rfl rfl rfl rfl rfl (fun r9 B9 hq => ?_)
  obtain ⟨rfl, rfl⟩ := hq
  refine ⟨rfl, ?_⟩
  show J _ _ _ _ _ (.long _ :: _) (wC rs v q9 (one (rs 0 6 3)) n u9 c l tn) _ _
  exact J.lret dX6_duel_147 rfl (Nat.le_refl _) (Nat.le_refl _) ⟨rfl, _, _, _, _, rfl⟩
set_option maxRecDepth 100000 in
set_option maxHeartbeats 4000000 in
theorem mX6_duel_bad1 (rs : Nat → rT) (v : Nat → Nat → Nat) (q : rT) (x : Nat → Nat) (n : Nat → Int64) (u : uT) (c : Nat → Nat → Int32) (l : Nat → Int32) (tn : Int32) (a b N wh : Int32) (hb : ¬ (0 ≤ a ∧ a ≤ nI (rs 0 6 1) - 1) ∨ ¬ (0 ≤ b ∧ b ≤ nI (rs 0 6 1) - 1) ∨ a = b) : J KX6_duel 62 (fun o B => o = some (.long (-1)) ∧ B = (wC rs v q x n u c l tn)) 0 [some (.ref 0), some (.int a), some (.int b), some (.int N), some (.int wh)] [] (wC rs v q x n u c l tn) 0 0 := by
  refine J.iload_n dX6_duel_0 rfl rfl ?_
  refine J.iconst (0) dX6_duel_1 (by decide) ?_
  refine J.aload_n dX6_duel_2 rfl rfl ?_
  refine J.getfield dX6_duel_3 jFX6_12 rfl rfl ?_
  refine J.getfield dX6_duel_6 jFX6_96 rfl rfl ?_
  refine J.iconst (1) dX6_duel_9 (by decide) ?_
  refine J.isub dX6_duel_10 ?_
  refine J.cs (as := [.int _, .int _, .int _]) (is := []) okX6_within jcX6_59 (mX6_within _ _ _) dX6_duel_11 rfl rfl rfl rfl rfl rfl (fun r9 B9 hq => ?_)
  obtain ⟨rfl, rfl⟩ := hq
  refine ⟨rfl, ?_⟩
  show J _ _ _ _ _ (.int _ :: _) (wC rs v q x n u c l tn) _ _
  refine J.if_eq (tgt := 39) dX6_duel_14 (by decide) (fun c14 => ?_) (fun c14 => ?_)
  · refine J.ldc2 (v := -1) dX6_duel_39 (jt 527 rfl rfl) ?_
    exact J.lret dX6_duel_42 rfl (Nat.le_refl _) (Nat.le_refl _) ⟨rfl, rfl⟩
  · refine J.iload_n dX6_duel_17 rfl rfl ?_
    refine J.iconst (0) dX6_duel_18 (by decide) ?_
    refine J.aload_n dX6_duel_19 rfl rfl ?_
    refine J.getfield dX6_duel_20 jFX6_12 rfl rfl ?_
    refine J.getfield dX6_duel_23 jFX6_96 rfl rfl ?_
    refine J.iconst (1) dX6_duel_26 (by decide) ?_
    refine J.isub dX6_duel_27 ?_
    refine J.cs (as := [.int _, .int _, .int _]) (is := []) okX6_within jcX6_59 (mX6_within _ _ _) dX6_duel_28 rfl rfl rfl rfl rfl rfl (fun r9 B9 hq => ?_)
    obtain ⟨rfl, rfl⟩ := hq
    refine ⟨rfl, ?_⟩
    show J _ _ _ _ _ (.int _ :: _) (wC rs v q x n u c l tn) _ _
    refine J.if_eq (tgt := 39) dX6_duel_31 (by decide) (fun c31 => ?_) (fun c31 => ?_)
    · refine J.ldc2 (v := -1) dX6_duel_39 (jt 527 rfl rfl) ?_
      exact J.lret dX6_duel_42 rfl (Nat.le_refl _) (Nat.le_refl _) ⟨rfl, rfl⟩
    · refine J.iload_n dX6_duel_34 rfl rfl ?_
      refine J.iload_n dX6_duel_35 rfl rfl ?_
      refine J.icmp_ne (tgt := 43) dX6_duel_36 (by decide) (fun c36 => absurd c36 (fun h => hb.elim (fun h9 => h9 (Decidable.not_not.mp (fun h9 => c14 ((jB_0 _).mpr h9)))) (fun h9 => h9.elim (fun h8 => h8 (Decidable.not_not.mp (fun h9 => c31 ((jB_0 _).mpr h9)))) h))) (fun c36 => ?_)
      refine J.ldc2 (v := -1) dX6_duel_39 (jt 527 rfl rfl) ?_
      exact J.lret dX6_duel_42 rfl (Nat.le_refl _) (Nat.le_refl _) ⟨rfl, rfl⟩
set_option maxRecDepth 100000 in
set_option maxHeartbeats 4000000 in
theorem mX6_duel_bad2 (rs : Nat → rT) (v : Nat → Nat → Nat) (q : rT) (x : Nat → Nat) (n : Nat → Int64) (u : uT) (c : Nat → Nat → Int32) (l : Nat → Int32) (tn : Int32) (a b N wh : Int32) (hb : ¬ (0 ≤ N ∧ N ≤ 5) ∨ ¬ (0 ≤ wh ∧ wh ≤ 4)) : J KX6_duel 62 (fun o B => o = some (.long (-1)) ∧ B = (wC rs v q x n u c l tn)) 0 [some (.ref 0), some (.int a), some (.int b), some (.int N), some (.int wh)] [] (wC rs v q x n u c l tn) 0 0 := by
  refine J.iload_n dX6_duel_0 rfl rfl ?_
  refine J.iconst (0) dX6_duel_1 (by decide) ?_
  refine J.aload_n dX6_duel_2 rfl rfl ?_
  refine J.getfield dX6_duel_3 jFX6_12 rfl rfl ?_
  refine J.getfield dX6_duel_6 jFX6_96 rfl rfl ?_
  refine J.iconst (1) dX6_duel_9 (by decide) ?_
  refine J.isub dX6_duel_10 ?_
  refine J.cs (as := [.int _, .int _, .int _]) (is := []) okX6_within jcX6_59 (mX6_within _ _ _) dX6_duel_11 rfl rfl rfl rfl rfl rfl (fun r9 B9 hq => ?_)
  obtain ⟨rfl, rfl⟩ := hq
  refine ⟨rfl, ?_⟩
  show J _ _ _ _ _ (.int _ :: _) (wC rs v q x n u c l tn) _ _
  refine J.if_eq (tgt := 39) dX6_duel_14 (by decide) (fun c14 => ?_) (fun c14 => ?_)
  · refine J.ldc2 (v := -1) dX6_duel_39 (jt 527 rfl rfl) ?_
    exact J.lret dX6_duel_42 rfl (Nat.le_refl _) (Nat.le_refl _) ⟨rfl, rfl⟩
  · refine J.iload_n dX6_duel_17 rfl rfl ?_
    refine J.iconst (0) dX6_duel_18 (by decide) ?_
    refine J.aload_n dX6_duel_19 rfl rfl ?_
    refine J.getfield dX6_duel_20 jFX6_12 rfl rfl ?_
    refine J.getfield dX6_duel_23 jFX6_96 rfl rfl ?_
    refine J.iconst (1) dX6_duel_26 (by decide) ?_
    refine J.isub dX6_duel_27 ?_
    refine J.cs (as := [.int _, .int _, .int _]) (is := []) okX6_within jcX6_59 (mX6_within _ _ _) dX6_duel_28 rfl rfl rfl rfl rfl rfl (fun r9 B9 hq => ?_)
    obtain ⟨rfl, rfl⟩ := hq
    refine ⟨rfl, ?_⟩
    show J _ _ _ _ _ (.int _ :: _) (wC rs v q x n u c l tn) _ _
    refine J.if_eq (tgt := 39) dX6_duel_31 (by decide) (fun c31 => ?_) (fun c31 => ?_)
    · refine J.ldc2 (v := -1) dX6_duel_39 (jt 527 rfl rfl) ?_
      exact J.lret dX6_duel_42 rfl (Nat.le_refl _) (Nat.le_refl _) ⟨rfl, rfl⟩
    · refine J.iload_n dX6_duel_34 rfl rfl ?_
      refine J.iload_n dX6_duel_35 rfl rfl ?_
      refine J.icmp_ne (tgt := 43) dX6_duel_36 (by decide) (fun c36 => ?_) (fun c36 => ?_)
      · refine J.iload_n dX6_duel_43 rfl rfl ?_
        refine J.cs (as := [.int _]) (is := []) okX6_foreseen jcX6_143 (mX6_foreseen _) dX6_duel_44 rfl rfl rfl rfl rfl rfl (fun r9 B9 hq => ?_)
        obtain ⟨rfl, rfl⟩ := hq
        refine ⟨rfl, ?_⟩
        show J _ _ _ _ _ (.int _ :: _) (wC rs v q x n u c l tn) _ _
        refine J.if_eq (tgt := 60) dX6_duel_47 (by decide) (fun c47 => ?_) (fun c47 => ?_)
        · refine J.ldc2 (v := -1) dX6_duel_60 (jt 527 rfl rfl) ?_
          exact J.lret dX6_duel_63 rfl (Nat.le_refl _) (Nat.le_refl _) ⟨rfl, rfl⟩
        · refine J.iload dX6_duel_50 rfl ?_
          refine J.iconst (0) dX6_duel_52 (by decide) ?_
          refine J.iconst (4) dX6_duel_53 (by decide) ?_
          refine J.cs (as := [.int _, .int _, .int _]) (is := []) okX6_within jcX6_59 (mX6_within _ _ _) dX6_duel_54 rfl rfl rfl rfl rfl rfl (fun r9 B9 hq => ?_)
          obtain ⟨rfl, rfl⟩ := hq
          refine ⟨rfl, ?_⟩
          show J _ _ _ _ _ (.int _ :: _) (wC rs v q x n u c l tn) _ _
          refine J.if_ne (tgt := 64) dX6_duel_57 (by decide) (fun c57 => absurd c57 (fun h => h ((jB_0 _).mpr (fun hC => (fun h => h.elim (fun h => h (Decidable.not_not.mp (fun h9 => c47 ((jB_0 _).mpr h9)))) (fun h => h hC)) hb)))) (fun c57 => ?_)
          refine J.ldc2 (v := -1) dX6_duel_60 (jt 527 rfl rfl) ?_
          exact J.lret dX6_duel_63 rfl (Nat.le_refl _) (Nat.le_refl _) ⟨rfl, rfl⟩
      · refine J.ldc2 (v := -1) dX6_duel_39 (jt 527 rfl rfl) ?_
        exact J.lret dX6_duel_42 rfl (Nat.le_refl _) (Nat.le_refl _) ⟨rfl, rfl⟩
