/-! ===== LAWS, what was SEEN, a seed ===== -/
def mro (r : rT) (z : Nat) : Nat → Nat
  | 0 => 0
  | l + 1 => mro r z l + if bit z l = 1 ∧ lwH r z (l + 1) ≤ 5 then (10 ^ (r 6 0 * lwH r z (l + 1)) - mho (oqR r) (r 6 0) (lwH r z (l + 1)) 0) * 10 ^ (r 6 0 * (5 - lwH r z (l + 1))) * r 5 l else 0
theorem hbR_m {r : rT} (h : rOK r) {t : Nat} (ht : t ≤ 5) : hbR r t = (10 ^ (3 - r 6 0)) ^ 5 * ((10 ^ (r 6 0 * t) - mho (oqR r) (r 6 0) t 0) * 10 ^ (r 6 0 * (5 - t))) := by
  have e : hbR r t = hdR r t * 1000 ^ (5 - t) := rfl
  rw [e, hdR_m h t, ← p10_c h.1 (5 - t), show (10 ^ (3 - r 6 0)) ^ 5 = (10 ^ (3 - r 6 0)) ^ t * (10 ^ (3 - r 6 0)) ^ (5 - t) by rw [← Nat.pow_add, show t + (5 - t) = 5 by omega]]
  simp only [Nat.mul_assoc, Nat.mul_comm, Nat.mul_left_comm]
theorem lwS_m {r : rT} (h : rOK r) (z : Nat) : ∀ l, lwS r (hbR r) z l = (10 ^ (3 - r 6 0)) ^ 5 * mro r z l
  | 0 => by simp [lwS, mro]
  | l + 1 => by
    rw [lwS, mro, lwS_m h z l, Nat.mul_add]
    congr 1
    by_cases hc : bit z l = 1 ∧ lwH r z (l + 1) ≤ 5
    · rw [if_pos hc, if_pos hc, hbR_m h hc.2, Nat.mul_comm (r 5 l), Nat.mul_assoc]
    · rw [if_neg hc, if_neg hc, Nat.mul_zero]
theorem mro_le {r : rT} (h : rOK r) (z : Nat) : mro r z (r 6 2) ≤ 27000000000000000 := by
  have h1 := lwR_le h z
  rw [lwS_m h] at h1
  exact Nat.le_trans (Nat.le_mul_of_pos_left _ (c_pos (r 6 0) 5)) h1
theorem readsE {r : rT} (h : rOK r) (z : Nat) (wh : Int32) : lowT ((mro r z (r 6 2) : Nat) : Int) (10 ^ (r 6 0 * 5)) wh = lowT ((lwS r (hbR r) z (r 6 2) : Nat) : Int) (1000 ^ 5) wh := by
  rw [lwS_m h, ← p10_c h.1 5, lowT_n (c_pos (r 6 0) 5)]
def mlw (r : rT) : Nat → Int × Nat
  | 0 => (-1, 0)
  | i + 1 => if (mlw r i).1 < (mro r i (r 6 2) : Nat) then ((mro r i (r 6 2) : Nat), i) else mlw r i
theorem mro_0 (r : rT) : ∀ l, mro r 0 l = 0
  | 0 => rfl
  | l + 1 => by rw [mro, mro_0 r l, if_neg (fun h => absurd h.1 (by rw [bit, Nat.zero_div]; decide))]
theorem lw_m {r : rT} (h : rOK r) : ∀ k, ((lw r k).1 : Int) = (((10 ^ (3 - r 6 0)) ^ 5 : Nat) : Int) * (mlw r (k + 1)).1 ∧ (lw r k).2 = (mlw r (k + 1)).2
  | 0 => by
    have e : mlw r 1 = (0, 0) := by
      rw [mlw, mlw, mro_0, if_pos (by decide)]
      rfl
    rw [e]
    exact ⟨(Int.mul_zero _).symm, rfl⟩
  | k + 1 => by
    obtain ⟨h1, h2⟩ := lw_m h k
    rw [lw, mlw.eq_2 r (k + 1), lwS_m h]
    by_cases hc : (mlw r (k + 1)).1 < (mro r (k + 1) (r 6 2) : Nat)
    · have : (lw r k).1 < (10 ^ (3 - r 6 0)) ^ 5 * mro r (k + 1) (r 6 2) := by
        have := (Int.mul_lt_mul_left (cZ_pos (r 6 0) 5)).mpr hc
        rw [← h1, ← Int.natCast_mul] at this
        omega
      rw [if_pos hc, if_pos this]
      exact ⟨Int.natCast_mul _ _, rfl⟩
    · have : ¬ (lw r k).1 < (10 ^ (3 - r 6 0)) ^ 5 * mro r (k + 1) (r 6 2) := fun h9 => hc ((Int.mul_lt_mul_left (cZ_pos (r 6 0) 5)).mp (by rw [← h1, ← Int.natCast_mul]; omega))
      rw [if_neg hc, if_neg this]
      exact ⟨h1, h2⟩
theorem mlw_le {r : rT} (h : rOK r) : ∀ i, (mlw r i).1.natAbs ≤ 1000000000000000000
  | 0 => by show (-1 : Int).natAbs ≤ _; decide
  | i + 1 => by
    rw [mlw]
    split
    · have := mro_le h i
      show ((mro r i (r 6 2) : Nat) : Int).natAbs ≤ _
      omega
    · exact mlw_le h i
theorem lawsE {r : rT} (h : rOK r) (wh : Int32) : lawsA r wh = if wh = 0 then (nI (mlw r (2 ^ r 6 2)).2).toInt64 else lowT (mlw r (2 ^ r 6 2)).1 (10 ^ (r 6 0 * 5)) (wh - 1) := by
  have hp := Nat.two_pow_pos (r 6 2)
  obtain ⟨h1, h2⟩ := lw_m h (2 ^ r 6 2 - 1)
  rw [show 2 ^ r 6 2 - 1 + 1 = 2 ^ r 6 2 by omega] at h1 h2
  rw [lawsA, h1, h2, ← p10_c h.1 5, lowT_s (c_pos (r 6 0) 5)]
theorem dX7_readOf_0 : decode cX7_readOf 0 = .ok (.lconst 0, 1) := by decide +kernel
theorem dX7_readOf_1 : decode cX7_readOf 1 = .ok (.lstore_n 2, 1) := by decide +kernel
theorem dX7_readOf_2 : decode cX7_readOf 2 = .ok (.iconst 0, 1) := by decide +kernel
theorem dX7_readOf_3 : decode cX7_readOf 3 = .ok (.istore 4, 2) := by decide +kernel
theorem dX7_readOf_5 : decode cX7_readOf 5 = .ok (.iconst 0, 1) := by decide +kernel
theorem dX7_readOf_6 : decode cX7_readOf 6 = .ok (.istore 5, 2) := by decide +kernel
theorem dX7_readOf_8 : decode cX7_readOf 8 = .ok (.iload 5, 2) := by decide +kernel
theorem dX7_readOf_10 : decode cX7_readOf 10 = .ok (.aload_n 0, 1) := by decide +kernel
theorem dX7_readOf_11 : decode cX7_readOf 11 = .ok (.getfield 165, 3) := by decide +kernel
theorem dX7_readOf_14 : decode cX7_readOf 14 = .ok (.if_icmp .ge 88, 3) := by decide +kernel
theorem dX7_readOf_17 : decode cX7_readOf 17 = .ok (.iload 4, 2) := by decide +kernel
theorem dX7_readOf_19 : decode cX7_readOf 19 = .ok (.iload_n 1, 1) := by decide +kernel
theorem dX7_readOf_20 : decode cX7_readOf 20 = .ok (.iload 5, 2) := by decide +kernel
theorem dX7_readOf_22 : decode cX7_readOf 22 = .ok (.ishr, 1) := by decide +kernel
theorem dX7_readOf_23 : decode cX7_readOf 23 = .ok (.iconst 1, 1) := by decide +kernel
theorem dX7_readOf_24 : decode cX7_readOf 24 = .ok (.iand, 1) := by decide +kernel
theorem dX7_readOf_25 : decode cX7_readOf 25 = .ok (.iconst 1, 1) := by decide +kernel
theorem dX7_readOf_26 : decode cX7_readOf 26 = .ok (.if_icmp .ne 15, 3) := by decide +kernel
theorem dX7_readOf_29 : decode cX7_readOf 29 = .ok (.aload_n 0, 1) := by decide +kernel
theorem dX7_readOf_30 : decode cX7_readOf 30 = .ok (.getfield 13, 3) := by decide +kernel
theorem dX7_readOf_33 : decode cX7_readOf 33 = .ok (.iconst 2, 1) := by decide +kernel
theorem dX7_readOf_34 : decode cX7_readOf 34 = .ok (.iload 5, 2) := by decide +kernel
theorem dX7_readOf_36 : decode cX7_readOf 36 = .ok (.imul, 1) := by decide +kernel
theorem dX7_readOf_37 : decode cX7_readOf 37 = .ok (.iaload, 1) := by decide +kernel
theorem dX7_readOf_38 : decode cX7_readOf 38 = .ok (.goto 4, 3) := by decide +kernel
theorem dX7_readOf_41 : decode cX7_readOf 41 = .ok (.iconst 0, 1) := by decide +kernel
theorem dX7_readOf_42 : decode cX7_readOf 42 = .ok (.iadd, 1) := by decide +kernel
theorem dX7_readOf_43 : decode cX7_readOf 43 = .ok (.istore 4, 2) := by decide +kernel
theorem dX7_readOf_45 : decode cX7_readOf 45 = .ok (.iload_n 1, 1) := by decide +kernel
theorem dX7_readOf_46 : decode cX7_readOf 46 = .ok (.iload 5, 2) := by decide +kernel
theorem dX7_readOf_48 : decode cX7_readOf 48 = .ok (.ishr, 1) := by decide +kernel
theorem dX7_readOf_49 : decode cX7_readOf 49 = .ok (.iconst 1, 1) := by decide +kernel
theorem dX7_readOf_50 : decode cX7_readOf 50 = .ok (.iand, 1) := by decide +kernel
theorem dX7_readOf_51 : decode cX7_readOf 51 = .ok (.iconst 1, 1) := by decide +kernel
theorem dX7_readOf_52 : decode cX7_readOf 52 = .ok (.if_icmp .ne 44, 3) := by decide +kernel
theorem dX7_readOf_55 : decode cX7_readOf 55 = .ok (.iload 4, 2) := by decide +kernel
theorem dX7_readOf_57 : decode cX7_readOf 57 = .ok (.iconst 5, 1) := by decide +kernel
theorem dX7_readOf_58 : decode cX7_readOf 58 = .ok (.if_icmp .gt 38, 3) := by decide +kernel
theorem dX7_readOf_61 : decode cX7_readOf 61 = .ok (.lload_n 2, 1) := by decide +kernel
theorem dX7_readOf_62 : decode cX7_readOf 62 = .ok (.aload_n 0, 1) := by decide +kernel
theorem dX7_readOf_63 : decode cX7_readOf 63 = .ok (.iload 4, 2) := by decide +kernel
theorem dX7_readOf_65 : decode cX7_readOf 65 = .ok (.invokevirtual 241, 3) := by decide +kernel
theorem dX7_readOf_68 : decode cX7_readOf 68 = .ok (.aload_n 0, 1) := by decide +kernel
theorem dX7_readOf_69 : decode cX7_readOf 69 = .ok (.getfield 180, 3) := by decide +kernel
theorem dX7_readOf_72 : decode cX7_readOf 72 = .ok (.iconst 5, 1) := by decide +kernel
theorem dX7_readOf_73 : decode cX7_readOf 73 = .ok (.iload 4, 2) := by decide +kernel
theorem dX7_readOf_75 : decode cX7_readOf 75 = .ok (.isub, 1) := by decide +kernel
theorem dX7_readOf_76 : decode cX7_readOf 76 = .ok (.imul, 1) := by decide +kernel
theorem dX7_readOf_77 : decode cX7_readOf 77 = .ok (.invokestatic 232, 3) := by decide +kernel
theorem dX7_readOf_80 : decode cX7_readOf 80 = .ok (.lmul, 1) := by decide +kernel
theorem dX7_readOf_81 : decode cX7_readOf 81 = .ok (.aload_n 0, 1) := by decide +kernel
theorem dX7_readOf_82 : decode cX7_readOf 82 = .ok (.getfield 13, 3) := by decide +kernel
theorem dX7_readOf_85 : decode cX7_readOf 85 = .ok (.iconst 2, 1) := by decide +kernel
theorem dX7_readOf_86 : decode cX7_readOf 86 = .ok (.iload 5, 2) := by decide +kernel
theorem dX7_readOf_88 : decode cX7_readOf 88 = .ok (.imul, 1) := by decide +kernel
theorem dX7_readOf_89 : decode cX7_readOf 89 = .ok (.iconst 1, 1) := by decide +kernel
theorem dX7_readOf_90 : decode cX7_readOf 90 = .ok (.iadd, 1) := by decide +kernel
theorem dX7_readOf_91 : decode cX7_readOf 91 = .ok (.iaload, 1) := by decide +kernel
theorem dX7_readOf_92 : decode cX7_readOf 92 = .ok (.i2l, 1) := by decide +kernel
theorem dX7_readOf_93 : decode cX7_readOf 93 = .ok (.lmul, 1) := by decide +kernel
theorem dX7_readOf_94 : decode cX7_readOf 94 = .ok (.ladd, 1) := by decide +kernel
theorem dX7_readOf_95 : decode cX7_readOf 95 = .ok (.lstore_n 2, 1) := by decide +kernel
theorem dX7_readOf_96 : decode cX7_readOf 96 = .ok (.iinc 5 1, 3) := by decide +kernel
theorem dX7_readOf_99 : decode cX7_readOf 99 = .ok (.goto (-91), 3) := by decide +kernel
theorem dX7_readOf_102 : decode cX7_readOf 102 = .ok (.lload_n 2, 1) := by decide +kernel
theorem dX7_readOf_103 : decode cX7_readOf 103 = .ok (.lreturn, 1) := by decide +kernel
theorem dX7_reads_0 : decode cX7_reads 0 = .ok (.iload_n 1, 1) := by decide +kernel
theorem dX7_reads_1 : decode cX7_reads 1 = .ok (.i2l, 1) := by decide +kernel
theorem dX7_reads_2 : decode cX7_reads 2 = .ok (.lconst 0, 1) := by decide +kernel
theorem dX7_reads_3 : decode cX7_reads 3 = .ok (.iconst 1, 1) := by decide +kernel
theorem dX7_reads_4 : decode cX7_reads 4 = .ok (.aload_n 0, 1) := by decide +kernel
theorem dX7_reads_5 : decode cX7_reads 5 = .ok (.getfield 165, 3) := by decide +kernel
theorem dX7_reads_8 : decode cX7_reads 8 = .ok (.ishl, 1) := by decide +kernel
theorem dX7_reads_9 : decode cX7_reads 9 = .ok (.iconst 1, 1) := by decide +kernel
theorem dX7_reads_10 : decode cX7_reads 10 = .ok (.isub, 1) := by decide +kernel
theorem dX7_reads_11 : decode cX7_reads 11 = .ok (.i2l, 1) := by decide +kernel
theorem dX7_reads_12 : decode cX7_reads 12 = .ok (.invokestatic 74, 3) := by decide +kernel
theorem dX7_reads_15 : decode cX7_reads 15 = .ok (.ifCond .eq 13, 3) := by decide +kernel
theorem dX7_reads_18 : decode cX7_reads 18 = .ok (.iload_n 2, 1) := by decide +kernel
theorem dX7_reads_19 : decode cX7_reads 19 = .ok (.i2l, 1) := by decide +kernel
theorem dX7_reads_20 : decode cX7_reads 20 = .ok (.lconst 0, 1) := by decide +kernel
theorem dX7_reads_21 : decode cX7_reads 21 = .ok (.lconst 1, 1) := by decide +kernel
theorem dX7_reads_22 : decode cX7_reads 22 = .ok (.invokestatic 74, 3) := by decide +kernel
theorem dX7_reads_25 : decode cX7_reads 25 = .ok (.ifCond .ne 7, 3) := by decide +kernel
theorem dX7_reads_28 : decode cX7_reads 28 = .ok (.ldc2_w 239, 3) := by decide +kernel
theorem dX7_reads_31 : decode cX7_reads 31 = .ok (.lreturn, 1) := by decide +kernel
theorem dX7_reads_32 : decode cX7_reads 32 = .ok (.aload_n 0, 1) := by decide +kernel
theorem dX7_reads_33 : decode cX7_reads 33 = .ok (.invokevirtual 196, 3) := by decide +kernel
theorem dX7_reads_36 : decode cX7_reads 36 = .ok (.aload_n 0, 1) := by decide +kernel
theorem dX7_reads_37 : decode cX7_reads 37 = .ok (.iload_n 1, 1) := by decide +kernel
theorem dX7_reads_38 : decode cX7_reads 38 = .ok (.invokevirtual 270, 3) := by decide +kernel
theorem dX7_reads_41 : decode cX7_reads 41 = .ok (.aload_n 0, 1) := by decide +kernel
theorem dX7_reads_42 : decode cX7_reads 42 = .ok (.getfield 180, 3) := by decide +kernel
theorem dX7_reads_45 : decode cX7_reads 45 = .ok (.iconst 5, 1) := by decide +kernel
theorem dX7_reads_46 : decode cX7_reads 46 = .ok (.imul, 1) := by decide +kernel
theorem dX7_reads_47 : decode cX7_reads 47 = .ok (.invokestatic 232, 3) := by decide +kernel
theorem dX7_reads_50 : decode cX7_reads 50 = .ok (.iload_n 2, 1) := by decide +kernel
theorem dX7_reads_51 : decode cX7_reads 51 = .ok (.invokestatic 244, 3) := by decide +kernel
theorem dX7_reads_54 : decode cX7_reads 54 = .ok (.lreturn, 1) := by decide +kernel
theorem dX7_laws_0 : decode cX7_laws 0 = .ok (.iload_n 1, 1) := by decide +kernel
theorem dX7_laws_1 : decode cX7_laws 1 = .ok (.i2l, 1) := by decide +kernel
theorem dX7_laws_2 : decode cX7_laws 2 = .ok (.lconst 0, 1) := by decide +kernel
theorem dX7_laws_3 : decode cX7_laws 3 = .ok (.ldc2_w 136, 3) := by decide +kernel
theorem dX7_laws_6 : decode cX7_laws 6 = .ok (.invokestatic 74, 3) := by decide +kernel
theorem dX7_laws_9 : decode cX7_laws 9 = .ok (.ifCond .ne 7, 3) := by decide +kernel
theorem dX7_laws_12 : decode cX7_laws 12 = .ok (.ldc2_w 239, 3) := by decide +kernel
theorem dX7_laws_15 : decode cX7_laws 15 = .ok (.lreturn, 1) := by decide +kernel
theorem dX7_laws_16 : decode cX7_laws 16 = .ok (.aload_n 0, 1) := by decide +kernel
theorem dX7_laws_17 : decode cX7_laws 17 = .ok (.invokevirtual 196, 3) := by decide +kernel
theorem dX7_laws_20 : decode cX7_laws 20 = .ok (.ldc2_w 239, 3) := by decide +kernel
theorem dX7_laws_23 : decode cX7_laws 23 = .ok (.lstore_n 2, 1) := by decide +kernel
theorem dX7_laws_24 : decode cX7_laws 24 = .ok (.iconst 0, 1) := by decide +kernel
theorem dX7_laws_25 : decode cX7_laws 25 = .ok (.istore 4, 2) := by decide +kernel
theorem dX7_laws_27 : decode cX7_laws 27 = .ok (.iconst 0, 1) := by decide +kernel
theorem dX7_laws_28 : decode cX7_laws 28 = .ok (.istore 5, 2) := by decide +kernel
theorem dX7_laws_30 : decode cX7_laws 30 = .ok (.iload 5, 2) := by decide +kernel
theorem dX7_laws_32 : decode cX7_laws 32 = .ok (.iconst 1, 1) := by decide +kernel
theorem dX7_laws_33 : decode cX7_laws 33 = .ok (.aload_n 0, 1) := by decide +kernel
theorem dX7_laws_34 : decode cX7_laws 34 = .ok (.getfield 165, 3) := by decide +kernel
theorem dX7_laws_37 : decode cX7_laws 37 = .ok (.ishl, 1) := by decide +kernel
theorem dX7_laws_38 : decode cX7_laws 38 = .ok (.if_icmp .ge 47, 3) := by decide +kernel
theorem dX7_laws_41 : decode cX7_laws 41 = .ok (.aload_n 0, 1) := by decide +kernel
theorem dX7_laws_42 : decode cX7_laws 42 = .ok (.iload 5, 2) := by decide +kernel
theorem dX7_laws_44 : decode cX7_laws 44 = .ok (.invokevirtual 270, 3) := by decide +kernel
theorem dX7_laws_47 : decode cX7_laws 47 = .ok (.lstore 6, 2) := by decide +kernel
theorem dX7_laws_49 : decode cX7_laws 49 = .ok (.lload 6, 2) := by decide +kernel
theorem dX7_laws_51 : decode cX7_laws 51 = .ok (.lload_n 2, 1) := by decide +kernel
theorem dX7_laws_52 : decode cX7_laws 52 = .ok (.lcmp, 1) := by decide +kernel
theorem dX7_laws_53 : decode cX7_laws 53 = .ok (.ifCond .le 8, 3) := by decide +kernel
theorem dX7_laws_56 : decode cX7_laws 56 = .ok (.iload 5, 2) := by decide +kernel
theorem dX7_laws_58 : decode cX7_laws 58 = .ok (.goto 5, 3) := by decide +kernel
theorem dX7_laws_61 : decode cX7_laws 61 = .ok (.iload 4, 2) := by decide +kernel
theorem dX7_laws_63 : decode cX7_laws 63 = .ok (.istore 4, 2) := by decide +kernel
theorem dX7_laws_65 : decode cX7_laws 65 = .ok (.lload 6, 2) := by decide +kernel
theorem dX7_laws_67 : decode cX7_laws 67 = .ok (.lload_n 2, 1) := by decide +kernel
theorem dX7_laws_68 : decode cX7_laws 68 = .ok (.lcmp, 1) := by decide +kernel
theorem dX7_laws_69 : decode cX7_laws 69 = .ok (.ifCond .le 8, 3) := by decide +kernel
theorem dX7_laws_72 : decode cX7_laws 72 = .ok (.lload 6, 2) := by decide +kernel
theorem dX7_laws_74 : decode cX7_laws 74 = .ok (.goto 4, 3) := by decide +kernel
theorem dX7_laws_77 : decode cX7_laws 77 = .ok (.lload_n 2, 1) := by decide +kernel
theorem dX7_laws_78 : decode cX7_laws 78 = .ok (.lstore_n 2, 1) := by decide +kernel
theorem dX7_laws_79 : decode cX7_laws 79 = .ok (.iinc 5 1, 3) := by decide +kernel
theorem dX7_laws_82 : decode cX7_laws 82 = .ok (.goto (-52), 3) := by decide +kernel
theorem dX7_laws_85 : decode cX7_laws 85 = .ok (.iload_n 1, 1) := by decide +kernel
theorem dX7_laws_86 : decode cX7_laws 86 = .ok (.ifCond .ne 9, 3) := by decide +kernel
theorem dX7_laws_89 : decode cX7_laws 89 = .ok (.iload 4, 2) := by decide +kernel
theorem dX7_laws_91 : decode cX7_laws 91 = .ok (.i2l, 1) := by decide +kernel
theorem dX7_laws_92 : decode cX7_laws 92 = .ok (.goto 19, 3) := by decide +kernel
theorem dX7_laws_95 : decode cX7_laws 95 = .ok (.lload_n 2, 1) := by decide +kernel
theorem dX7_laws_96 : decode cX7_laws 96 = .ok (.aload_n 0, 1) := by decide +kernel
theorem dX7_laws_97 : decode cX7_laws 97 = .ok (.getfield 180, 3) := by decide +kernel
theorem dX7_laws_100 : decode cX7_laws 100 = .ok (.iconst 5, 1) := by decide +kernel
theorem dX7_laws_101 : decode cX7_laws 101 = .ok (.imul, 1) := by decide +kernel
theorem dX7_laws_102 : decode cX7_laws 102 = .ok (.invokestatic 232, 3) := by decide +kernel
theorem dX7_laws_105 : decode cX7_laws 105 = .ok (.iload_n 1, 1) := by decide +kernel
theorem dX7_laws_106 : decode cX7_laws 106 = .ok (.iconst 1, 1) := by decide +kernel
theorem dX7_laws_107 : decode cX7_laws 107 = .ok (.isub, 1) := by decide +kernel
theorem dX7_laws_108 : decode cX7_laws 108 = .ok (.invokestatic 244, 3) := by decide +kernel
theorem dX7_laws_111 : decode cX7_laws 111 = .ok (.lreturn, 1) := by decide +kernel
theorem dX7_sifts_0 : decode cX7_sifts 0 = .ok (.iconst 0, 1) := by decide +kernel
theorem dX7_sifts_1 : decode cX7_sifts 1 = .ok (.istore_n 2, 1) := by decide +kernel
theorem dX7_sifts_2 : decode cX7_sifts 2 = .ok (.iload_n 2, 1) := by decide +kernel
theorem dX7_sifts_3 : decode cX7_sifts 3 = .ok (.iconst 1, 1) := by decide +kernel
theorem dX7_sifts_4 : decode cX7_sifts 4 = .ok (.aload_n 0, 1) := by decide +kernel
theorem dX7_sifts_5 : decode cX7_sifts 5 = .ok (.getfield 180, 3) := by decide +kernel
theorem dX7_sifts_8 : decode cX7_sifts 8 = .ok (.ishl, 1) := by decide +kernel
theorem dX7_sifts_9 : decode cX7_sifts 9 = .ok (.if_icmp .ge 70, 3) := by decide +kernel
theorem dX7_sifts_12 : decode cX7_sifts 12 = .ok (.iconst 0, 1) := by decide +kernel
theorem dX7_sifts_13 : decode cX7_sifts 13 = .ok (.istore_n 3, 1) := by decide +kernel
theorem dX7_sifts_14 : decode cX7_sifts 14 = .ok (.iload_n 3, 1) := by decide +kernel
theorem dX7_sifts_15 : decode cX7_sifts 15 = .ok (.aload_n 0, 1) := by decide +kernel
theorem dX7_sifts_16 : decode cX7_sifts 16 = .ok (.getfield 168, 3) := by decide +kernel
theorem dX7_sifts_19 : decode cX7_sifts 19 = .ok (.if_icmp .ge 54, 3) := by decide +kernel
theorem dX7_sifts_22 : decode cX7_sifts 22 = .ok (.aload_n 0, 1) := by decide +kernel
theorem dX7_sifts_23 : decode cX7_sifts 23 = .ok (.getfield 37, 3) := by decide +kernel
theorem dX7_sifts_26 : decode cX7_sifts 26 = .ok (.iload_n 2, 1) := by decide +kernel
theorem dX7_sifts_27 : decode cX7_sifts 27 = .ok (.aload_n 0, 1) := by decide +kernel
theorem dX7_sifts_28 : decode cX7_sifts 28 = .ok (.getfield 56, 3) := by decide +kernel
theorem dX7_sifts_31 : decode cX7_sifts 31 = .ok (.iconst 2, 1) := by decide +kernel
theorem dX7_sifts_32 : decode cX7_sifts 32 = .ok (.iload_n 3, 1) := by decide +kernel
theorem dX7_sifts_33 : decode cX7_sifts 33 = .ok (.imul, 1) := by decide +kernel
theorem dX7_sifts_34 : decode cX7_sifts 34 = .ok (.iaload, 1) := by decide +kernel
theorem dX7_sifts_35 : decode cX7_sifts 35 = .ok (.iload_n 1, 1) := by decide +kernel
theorem dX7_sifts_36 : decode cX7_sifts 36 = .ok (.if_icmp .ne 24, 3) := by decide +kernel
theorem dX7_sifts_39 : decode cX7_sifts 39 = .ok (.iload_n 2, 1) := by decide +kernel
theorem dX7_sifts_40 : decode cX7_sifts 40 = .ok (.invokestatic 189, 3) := by decide +kernel
theorem dX7_sifts_43 : decode cX7_sifts 43 = .ok (.aload_n 0, 1) := by decide +kernel
theorem dX7_sifts_44 : decode cX7_sifts 44 = .ok (.getfield 56, 3) := by decide +kernel
theorem dX7_sifts_47 : decode cX7_sifts 47 = .ok (.iconst 2, 1) := by decide +kernel
theorem dX7_sifts_48 : decode cX7_sifts 48 = .ok (.iload_n 3, 1) := by decide +kernel
theorem dX7_sifts_49 : decode cX7_sifts 49 = .ok (.imul, 1) := by decide +kernel
theorem dX7_sifts_50 : decode cX7_sifts 50 = .ok (.iconst 1, 1) := by decide +kernel
theorem dX7_sifts_51 : decode cX7_sifts 51 = .ok (.iadd, 1) := by decide +kernel
theorem dX7_sifts_52 : decode cX7_sifts 52 = .ok (.iaload, 1) := by decide +kernel
theorem dX7_sifts_53 : decode cX7_sifts 53 = .ok (.if_icmp .eq 7, 3) := by decide +kernel
theorem dX7_sifts_56 : decode cX7_sifts 56 = .ok (.lconst 0, 1) := by decide +kernel
theorem dX7_sifts_57 : decode cX7_sifts 57 = .ok (.goto 9, 3) := by decide +kernel
theorem dX7_sifts_60 : decode cX7_sifts 60 = .ok (.aload_n 0, 1) := by decide +kernel
theorem dX7_sifts_61 : decode cX7_sifts 61 = .ok (.getfield 37, 3) := by decide +kernel
theorem dX7_sifts_64 : decode cX7_sifts 64 = .ok (.iload_n 2, 1) := by decide +kernel
theorem dX7_sifts_65 : decode cX7_sifts 65 = .ok (.laload, 1) := by decide +kernel
theorem dX7_sifts_66 : decode cX7_sifts 66 = .ok (.lastore, 1) := by decide +kernel
theorem dX7_sifts_67 : decode cX7_sifts 67 = .ok (.iinc 3 1, 3) := by decide +kernel
theorem dX7_sifts_70 : decode cX7_sifts 70 = .ok (.goto (-56), 3) := by decide +kernel
theorem dX7_sifts_73 : decode cX7_sifts 73 = .ok (.iinc 2 1, 3) := by decide +kernel
theorem dX7_sifts_76 : decode cX7_sifts 76 = .ok (.goto (-74), 3) := by decide +kernel
theorem dX7_sifts_79 : decode cX7_sifts 79 = .ok (.return_, 1) := by decide +kernel
theorem dX7_likeliness_0 : decode cX7_likeliness 0 = .ok (.aload_n 0, 1) := by decide +kernel
theorem dX7_likeliness_1 : decode cX7_likeliness 1 = .ok (.iload_n 1, 1) := by decide +kernel
theorem dX7_likeliness_2 : decode cX7_likeliness 2 = .ok (.iload_n 2, 1) := by decide +kernel
theorem dX7_likeliness_3 : decode cX7_likeliness 3 = .ok (.invokevirtual 256, 3) := by decide +kernel
theorem dX7_likeliness_6 : decode cX7_likeliness 6 = .ok (.aload_n 0, 1) := by decide +kernel
theorem dX7_likeliness_7 : decode cX7_likeliness 7 = .ok (.invokevirtual 223, 3) := by decide +kernel
theorem dX7_likeliness_10 : decode cX7_likeliness 10 = .ok (.aload_n 0, 1) := by decide +kernel
theorem dX7_likeliness_11 : decode cX7_likeliness 11 = .ok (.iconst 0, 1) := by decide +kernel
theorem dX7_likeliness_12 : decode cX7_likeliness 12 = .ok (.invokevirtual 273, 3) := by decide +kernel
theorem dX7_likeliness_15 : decode cX7_likeliness 15 = .ok (.iconst 0, 1) := by decide +kernel
theorem dX7_likeliness_16 : decode cX7_likeliness 16 = .ok (.istore_n 3, 1) := by decide +kernel
theorem dX7_likeliness_17 : decode cX7_likeliness 17 = .ok (.iload_n 3, 1) := by decide +kernel
theorem dX7_likeliness_18 : decode cX7_likeliness 18 = .ok (.iconst 5, 1) := by decide +kernel
theorem dX7_likeliness_19 : decode cX7_likeliness 19 = .ok (.if_icmp .ge 21, 3) := by decide +kernel
theorem dX7_likeliness_22 : decode cX7_likeliness 22 = .ok (.aload_n 0, 1) := by decide +kernel
theorem dX7_likeliness_23 : decode cX7_likeliness 23 = .ok (.iload_n 3, 1) := by decide +kernel
theorem dX7_likeliness_24 : decode cX7_likeliness 24 = .ok (.invokevirtual 226, 3) := by decide +kernel
theorem dX7_likeliness_27 : decode cX7_likeliness 27 = .ok (.aload_n 0, 1) := by decide +kernel
theorem dX7_likeliness_28 : decode cX7_likeliness 28 = .ok (.iload_n 3, 1) := by decide +kernel
theorem dX7_likeliness_29 : decode cX7_likeliness 29 = .ok (.iconst 1, 1) := by decide +kernel
theorem dX7_likeliness_30 : decode cX7_likeliness 30 = .ok (.iadd, 1) := by decide +kernel
theorem dX7_likeliness_31 : decode cX7_likeliness 31 = .ok (.invokevirtual 273, 3) := by decide +kernel
theorem dX7_likeliness_34 : decode cX7_likeliness 34 = .ok (.iinc 3 1, 3) := by decide +kernel
theorem dX7_likeliness_37 : decode cX7_likeliness 37 = .ok (.goto (-20), 3) := by decide +kernel
theorem dX7_likeliness_40 : decode cX7_likeliness 40 = .ok (.lconst 0, 1) := by decide +kernel
theorem dX7_likeliness_41 : decode cX7_likeliness 41 = .ok (.lstore_n 3, 1) := by decide +kernel
theorem dX7_likeliness_42 : decode cX7_likeliness 42 = .ok (.iconst 0, 1) := by decide +kernel
theorem dX7_likeliness_43 : decode cX7_likeliness 43 = .ok (.istore 5, 2) := by decide +kernel
theorem dX7_likeliness_45 : decode cX7_likeliness 45 = .ok (.iload 5, 2) := by decide +kernel
theorem dX7_likeliness_47 : decode cX7_likeliness 47 = .ok (.iconst 1, 1) := by decide +kernel
theorem dX7_likeliness_48 : decode cX7_likeliness 48 = .ok (.iload_n 2, 1) := by decide +kernel
theorem dX7_likeliness_49 : decode cX7_likeliness 49 = .ok (.ishl, 1) := by decide +kernel
theorem dX7_likeliness_50 : decode cX7_likeliness 50 = .ok (.if_icmp .ge 19, 3) := by decide +kernel
theorem dX7_likeliness_53 : decode cX7_likeliness 53 = .ok (.lload_n 3, 1) := by decide +kernel
theorem dX7_likeliness_54 : decode cX7_likeliness 54 = .ok (.aload_n 0, 1) := by decide +kernel
theorem dX7_likeliness_55 : decode cX7_likeliness 55 = .ok (.getfield 37, 3) := by decide +kernel
theorem dX7_likeliness_58 : decode cX7_likeliness 58 = .ok (.iload 5, 2) := by decide +kernel
theorem dX7_likeliness_60 : decode cX7_likeliness 60 = .ok (.laload, 1) := by decide +kernel
theorem dX7_likeliness_61 : decode cX7_likeliness 61 = .ok (.ladd, 1) := by decide +kernel
theorem dX7_likeliness_62 : decode cX7_likeliness 62 = .ok (.lstore_n 3, 1) := by decide +kernel
theorem dX7_likeliness_63 : decode cX7_likeliness 63 = .ok (.iinc 5 1, 3) := by decide +kernel
theorem dX7_likeliness_66 : decode cX7_likeliness 66 = .ok (.goto (-21), 3) := by decide +kernel
theorem dX7_likeliness_69 : decode cX7_likeliness 69 = .ok (.lload_n 3, 1) := by decide +kernel
theorem dX7_likeliness_70 : decode cX7_likeliness 70 = .ok (.lreturn, 1) := by decide +kernel
theorem dX7_likely_0 : decode cX7_likely 0 = .ok (.iload_n 1, 1) := by decide +kernel
theorem dX7_likely_1 : decode cX7_likely 1 = .ok (.i2l, 1) := by decide +kernel
theorem dX7_likely_2 : decode cX7_likely 2 = .ok (.lconst 0, 1) := by decide +kernel
theorem dX7_likely_3 : decode cX7_likely 3 = .ok (.ldc2_w 145, 3) := by decide +kernel
theorem dX7_likely_6 : decode cX7_likely 6 = .ok (.invokestatic 74, 3) := by decide +kernel
theorem dX7_likely_9 : decode cX7_likely 9 = .ok (.ifCond .eq 25, 3) := by decide +kernel
theorem dX7_likely_12 : decode cX7_likely 12 = .ok (.iload_n 2, 1) := by decide +kernel
theorem dX7_likely_13 : decode cX7_likely 13 = .ok (.i2l, 1) := by decide +kernel
theorem dX7_likely_14 : decode cX7_likely 14 = .ok (.lconst 1, 1) := by decide +kernel
theorem dX7_likely_15 : decode cX7_likely 15 = .ok (.ldc2_w 143, 3) := by decide +kernel
theorem dX7_likely_18 : decode cX7_likely 18 = .ok (.invokestatic 74, 3) := by decide +kernel
theorem dX7_likely_21 : decode cX7_likely 21 = .ok (.ifCond .eq 13, 3) := by decide +kernel
theorem dX7_likely_24 : decode cX7_likely 24 = .ok (.iload_n 3, 1) := by decide +kernel
theorem dX7_likely_25 : decode cX7_likely 25 = .ok (.i2l, 1) := by decide +kernel
theorem dX7_likely_26 : decode cX7_likely 26 = .ok (.lconst 0, 1) := by decide +kernel
theorem dX7_likely_27 : decode cX7_likely 27 = .ok (.lconst 1, 1) := by decide +kernel
theorem dX7_likely_28 : decode cX7_likely 28 = .ok (.invokestatic 74, 3) := by decide +kernel
theorem dX7_likely_31 : decode cX7_likely 31 = .ok (.ifCond .ne 7, 3) := by decide +kernel
theorem dX7_likely_34 : decode cX7_likely 34 = .ok (.ldc2_w 239, 3) := by decide +kernel
theorem dX7_likely_37 : decode cX7_likely 37 = .ok (.lreturn, 1) := by decide +kernel
theorem dX7_likely_38 : decode cX7_likely 38 = .ok (.aload_n 0, 1) := by decide +kernel
theorem dX7_likely_39 : decode cX7_likely 39 = .ok (.iload_n 1, 1) := by decide +kernel
theorem dX7_likely_40 : decode cX7_likely 40 = .ok (.iload_n 2, 1) := by decide +kernel
theorem dX7_likely_41 : decode cX7_likely 41 = .ok (.invokevirtual 276, 3) := by decide +kernel
theorem dX7_likely_44 : decode cX7_likely 44 = .ok (.iload_n 2, 1) := by decide +kernel
theorem dX7_likely_45 : decode cX7_likely 45 = .ok (.iconst 5, 1) := by decide +kernel
theorem dX7_likely_46 : decode cX7_likely 46 = .ok (.imul, 1) := by decide +kernel
theorem dX7_likely_47 : decode cX7_likely 47 = .ok (.invokestatic 232, 3) := by decide +kernel
theorem dX7_likely_50 : decode cX7_likely 50 = .ok (.iload_n 3, 1) := by decide +kernel
theorem dX7_likely_51 : decode cX7_likely 51 = .ok (.invokestatic 244, 3) := by decide +kernel
theorem dX7_likely_54 : decode cX7_likely 54 = .ok (.lreturn, 1) := by decide +kernel
theorem dX7_guess_0 : decode cX7_guess 0 = .ok (.iload_n 1, 1) := by decide +kernel
theorem dX7_guess_1 : decode cX7_guess 1 = .ok (.i2l, 1) := by decide +kernel
theorem dX7_guess_2 : decode cX7_guess 2 = .ok (.lconst 0, 1) := by decide +kernel
theorem dX7_guess_3 : decode cX7_guess 3 = .ok (.ldc2_w 136, 3) := by decide +kernel
theorem dX7_guess_6 : decode cX7_guess 6 = .ok (.invokestatic 74, 3) := by decide +kernel
theorem dX7_guess_9 : decode cX7_guess 9 = .ok (.ifCond .ne 7, 3) := by decide +kernel
theorem dX7_guess_12 : decode cX7_guess 12 = .ok (.ldc2_w 239, 3) := by decide +kernel
theorem dX7_guess_15 : decode cX7_guess 15 = .ok (.lreturn, 1) := by decide +kernel
theorem dX7_guess_16 : decode cX7_guess 16 = .ok (.lconst 0, 1) := by decide +kernel
theorem dX7_guess_17 : decode cX7_guess 17 = .ok (.lstore_n 2, 1) := by decide +kernel
theorem dX7_guess_18 : decode cX7_guess 18 = .ok (.bipush (-4), 2) := by decide +kernel
theorem dX7_guess_20 : decode cX7_guess 20 = .ok (.istore 4, 2) := by decide +kernel
theorem dX7_guess_22 : decode cX7_guess 22 = .ok (.iconst 0, 1) := by decide +kernel
theorem dX7_guess_23 : decode cX7_guess 23 = .ok (.istore 5, 2) := by decide +kernel
theorem dX7_guess_25 : decode cX7_guess 25 = .ok (.iload 5, 2) := by decide +kernel
theorem dX7_guess_27 : decode cX7_guess 27 = .ok (.bipush 15, 2) := by decide +kernel
theorem dX7_guess_29 : decode cX7_guess 29 = .ok (.if_icmp .ge 77, 3) := by decide +kernel
theorem dX7_guess_32 : decode cX7_guess 32 = .ok (.iload 5, 2) := by decide +kernel
theorem dX7_guess_34 : decode cX7_guess 34 = .ok (.iconst 3, 1) := by decide +kernel
theorem dX7_guess_35 : decode cX7_guess 35 = .ok (.irem, 1) := by decide +kernel
theorem dX7_guess_36 : decode cX7_guess 36 = .ok (.iconst 1, 1) := by decide +kernel
theorem dX7_guess_37 : decode cX7_guess 37 = .ok (.iadd, 1) := by decide +kernel
theorem dX7_guess_38 : decode cX7_guess 38 = .ok (.istore 6, 2) := by decide +kernel
theorem dX7_guess_40 : decode cX7_guess 40 = .ok (.aload_n 0, 1) := by decide +kernel
theorem dX7_guess_41 : decode cX7_guess 41 = .ok (.iload 5, 2) := by decide +kernel
theorem dX7_guess_43 : decode cX7_guess 43 = .ok (.iconst 3, 1) := by decide +kernel
theorem dX7_guess_44 : decode cX7_guess 44 = .ok (.idiv, 1) := by decide +kernel
theorem dX7_guess_45 : decode cX7_guess 45 = .ok (.iload 6, 2) := by decide +kernel
theorem dX7_guess_47 : decode cX7_guess 47 = .ok (.invokevirtual 276, 3) := by decide +kernel
theorem dX7_guess_50 : decode cX7_guess 50 = .ok (.iconst 3, 1) := by decide +kernel
theorem dX7_guess_51 : decode cX7_guess 51 = .ok (.iload 6, 2) := by decide +kernel
theorem dX7_guess_53 : decode cX7_guess 53 = .ok (.isub, 1) := by decide +kernel
theorem dX7_guess_54 : decode cX7_guess 54 = .ok (.iconst 5, 1) := by decide +kernel
theorem dX7_guess_55 : decode cX7_guess 55 = .ok (.imul, 1) := by decide +kernel
theorem dX7_guess_56 : decode cX7_guess 56 = .ok (.invokestatic 232, 3) := by decide +kernel
theorem dX7_guess_59 : decode cX7_guess 59 = .ok (.lmul, 1) := by decide +kernel
theorem dX7_guess_60 : decode cX7_guess 60 = .ok (.lstore 7, 2) := by decide +kernel
theorem dX7_guess_62 : decode cX7_guess 62 = .ok (.lload 7, 2) := by decide +kernel
theorem dX7_guess_64 : decode cX7_guess 64 = .ok (.lload_n 2, 1) := by decide +kernel
theorem dX7_guess_65 : decode cX7_guess 65 = .ok (.lcmp, 1) := by decide +kernel
theorem dX7_guess_66 : decode cX7_guess 66 = .ok (.ifCond .le 16, 3) := by decide +kernel
theorem dX7_guess_69 : decode cX7_guess 69 = .ok (.bipush 10, 2) := by decide +kernel
theorem dX7_guess_71 : decode cX7_guess 71 = .ok (.iload 5, 2) := by decide +kernel
theorem dX7_guess_73 : decode cX7_guess 73 = .ok (.iconst 3, 1) := by decide +kernel
theorem dX7_guess_74 : decode cX7_guess 74 = .ok (.idiv, 1) := by decide +kernel
theorem dX7_guess_75 : decode cX7_guess 75 = .ok (.imul, 1) := by decide +kernel
theorem dX7_guess_76 : decode cX7_guess 76 = .ok (.iload 6, 2) := by decide +kernel
theorem dX7_guess_78 : decode cX7_guess 78 = .ok (.iadd, 1) := by decide +kernel
theorem dX7_guess_79 : decode cX7_guess 79 = .ok (.goto 5, 3) := by decide +kernel
theorem dX7_guess_82 : decode cX7_guess 82 = .ok (.iload 4, 2) := by decide +kernel
theorem dX7_guess_84 : decode cX7_guess 84 = .ok (.istore 4, 2) := by decide +kernel
theorem dX7_guess_86 : decode cX7_guess 86 = .ok (.lload 7, 2) := by decide +kernel
theorem dX7_guess_88 : decode cX7_guess 88 = .ok (.lload_n 2, 1) := by decide +kernel
theorem dX7_guess_89 : decode cX7_guess 89 = .ok (.lcmp, 1) := by decide +kernel
theorem dX7_guess_90 : decode cX7_guess 90 = .ok (.ifCond .le 8, 3) := by decide +kernel
theorem dX7_guess_93 : decode cX7_guess 93 = .ok (.lload 7, 2) := by decide +kernel
theorem dX7_guess_95 : decode cX7_guess 95 = .ok (.goto 4, 3) := by decide +kernel
theorem dX7_guess_98 : decode cX7_guess 98 = .ok (.lload_n 2, 1) := by decide +kernel
theorem dX7_guess_99 : decode cX7_guess 99 = .ok (.lstore_n 2, 1) := by decide +kernel
theorem dX7_guess_100 : decode cX7_guess 100 = .ok (.iinc 5 1, 3) := by decide +kernel
theorem dX7_guess_103 : decode cX7_guess 103 = .ok (.goto (-78), 3) := by decide +kernel
theorem dX7_guess_106 : decode cX7_guess 106 = .ok (.iload 4, 2) := by decide +kernel
theorem dX7_guess_108 : decode cX7_guess 108 = .ok (.bipush (-4), 2) := by decide +kernel
theorem dX7_guess_110 : decode cX7_guess 110 = .ok (.if_icmp .eq 7, 3) := by decide +kernel
theorem dX7_guess_113 : decode cX7_guess 113 = .ok (.iload_n 1, 1) := by decide +kernel
theorem dX7_guess_114 : decode cX7_guess 114 = .ok (.ifCond .ne 9, 3) := by decide +kernel
theorem dX7_guess_117 : decode cX7_guess 117 = .ok (.iload 4, 2) := by decide +kernel
theorem dX7_guess_119 : decode cX7_guess 119 = .ok (.i2l, 1) := by decide +kernel
theorem dX7_guess_120 : decode cX7_guess 120 = .ok (.goto 15, 3) := by decide +kernel
theorem dX7_guess_123 : decode cX7_guess 123 = .ok (.lload_n 2, 1) := by decide +kernel
theorem dX7_guess_124 : decode cX7_guess 124 = .ok (.bipush 15, 2) := by decide +kernel
theorem dX7_guess_126 : decode cX7_guess 126 = .ok (.invokestatic 232, 3) := by decide +kernel
theorem dX7_guess_129 : decode cX7_guess 129 = .ok (.iload_n 1, 1) := by decide +kernel
theorem dX7_guess_130 : decode cX7_guess 130 = .ok (.iconst 1, 1) := by decide +kernel
theorem dX7_guess_131 : decode cX7_guess 131 = .ok (.isub, 1) := by decide +kernel
theorem dX7_guess_132 : decode cX7_guess 132 = .ok (.invokestatic 244, 3) := by decide +kernel
theorem dX7_guess_135 : decode cX7_guess 135 = .ok (.lreturn, 1) := by decide +kernel
theorem dX7_drift_0 : decode cX7_drift 0 = .ok (.iload_n 2, 1) := by decide +kernel
theorem dX7_drift_1 : decode cX7_drift 1 = .ok (.i2l, 1) := by decide +kernel
theorem dX7_drift_2 : decode cX7_drift 2 = .ok (.lconst 1, 1) := by decide +kernel
theorem dX7_drift_3 : decode cX7_drift 3 = .ok (.ldc2_w 279, 3) := by decide +kernel
theorem dX7_drift_6 : decode cX7_drift 6 = .ok (.invokestatic 74, 3) := by decide +kernel
theorem dX7_drift_9 : decode cX7_drift 9 = .ok (.ifCond .eq 13, 3) := by decide +kernel
theorem dX7_drift_12 : decode cX7_drift 12 = .ok (.iload_n 3, 1) := by decide +kernel
theorem dX7_drift_13 : decode cX7_drift 13 = .ok (.i2l, 1) := by decide +kernel
theorem dX7_drift_14 : decode cX7_drift 14 = .ok (.lconst 0, 1) := by decide +kernel
theorem dX7_drift_15 : decode cX7_drift 15 = .ok (.lconst 1, 1) := by decide +kernel
theorem dX7_drift_16 : decode cX7_drift 16 = .ok (.invokestatic 74, 3) := by decide +kernel
theorem dX7_drift_19 : decode cX7_drift 19 = .ok (.ifCond .ne 5, 3) := by decide +kernel
theorem dX7_drift_22 : decode cX7_drift 22 = .ok (.iconst (-1), 1) := by decide +kernel
theorem dX7_drift_23 : decode cX7_drift 23 = .ok (.ireturn, 1) := by decide +kernel
theorem dX7_drift_24 : decode cX7_drift 24 = .ok (.aload_n 0, 1) := by decide +kernel
theorem dX7_drift_25 : decode cX7_drift 25 = .ok (.invokevirtual 196, 3) := by decide +kernel
theorem dX7_drift_28 : decode cX7_drift 28 = .ok (.iload_n 1, 1) := by decide +kernel
theorem dX7_drift_29 : decode cX7_drift 29 = .ok (.istore 4, 2) := by decide +kernel
theorem dX7_drift_31 : decode cX7_drift 31 = .ok (.iconst 0, 1) := by decide +kernel
theorem dX7_drift_32 : decode cX7_drift 32 = .ok (.istore 5, 2) := by decide +kernel
theorem dX7_drift_34 : decode cX7_drift 34 = .ok (.aload_n 0, 1) := by decide +kernel
theorem dX7_drift_35 : decode cX7_drift 35 = .ok (.getfield 183, 3) := by decide +kernel
theorem dX7_drift_38 : decode cX7_drift 38 = .ok (.istore 6, 2) := by decide +kernel
theorem dX7_drift_40 : decode cX7_drift 40 = .ok (.iconst 0, 1) := by decide +kernel
theorem dX7_drift_41 : decode cX7_drift 41 = .ok (.istore 7, 2) := by decide +kernel
theorem dX7_drift_43 : decode cX7_drift 43 = .ok (.iload 7, 2) := by decide +kernel
theorem dX7_drift_45 : decode cX7_drift 45 = .ok (.iload_n 2, 1) := by decide +kernel
theorem dX7_drift_46 : decode cX7_drift 46 = .ok (.if_icmp .ge 113, 3) := by decide +kernel
theorem dX7_drift_49 : decode cX7_drift 49 = .ok (.iload 6, 2) := by decide +kernel
theorem dX7_drift_51 : decode cX7_drift 51 = .ok (.istore 8, 2) := by decide +kernel
theorem dX7_drift_53 : decode cX7_drift 53 = .ok (.iconst 0, 1) := by decide +kernel
theorem dX7_drift_54 : decode cX7_drift 54 = .ok (.istore 9, 2) := by decide +kernel
theorem dX7_drift_56 : decode cX7_drift 56 = .ok (.iload 9, 2) := by decide +kernel
theorem dX7_drift_58 : decode cX7_drift 58 = .ok (.aload_n 0, 1) := by decide +kernel
theorem dX7_drift_59 : decode cX7_drift 59 = .ok (.getfield 180, 3) := by decide +kernel
theorem dX7_drift_62 : decode cX7_drift 62 = .ok (.if_icmp .ge 72, 3) := by decide +kernel
theorem dX7_drift_65 : decode cX7_drift 65 = .ok (.iload 6, 2) := by decide +kernel
theorem dX7_drift_67 : decode cX7_drift 67 = .ok (.iload 9, 2) := by decide +kernel
theorem dX7_drift_69 : decode cX7_drift 69 = .ok (.ishr, 1) := by decide +kernel
theorem dX7_drift_70 : decode cX7_drift 70 = .ok (.iconst 1, 1) := by decide +kernel
theorem dX7_drift_71 : decode cX7_drift 71 = .ok (.iand, 1) := by decide +kernel
theorem dX7_drift_72 : decode cX7_drift 72 = .ok (.iconst 1, 1) := by decide +kernel
theorem dX7_drift_73 : decode cX7_drift 73 = .ok (.if_icmp .ne 55, 3) := by decide +kernel
theorem dX7_drift_76 : decode cX7_drift 76 = .ok (.iload 4, 2) := by decide +kernel
theorem dX7_drift_78 : decode cX7_drift 78 = .ok (.ldc_w 281, 3) := by decide +kernel
theorem dX7_drift_81 : decode cX7_drift 81 = .ok (.imul, 1) := by decide +kernel
theorem dX7_drift_82 : decode cX7_drift 82 = .ok (.sipush 12345, 3) := by decide +kernel
theorem dX7_drift_85 : decode cX7_drift 85 = .ok (.iadd, 1) := by decide +kernel
theorem dX7_drift_86 : decode cX7_drift 86 = .ok (.istore 4, 2) := by decide +kernel
theorem dX7_drift_88 : decode cX7_drift 88 = .ok (.iload 8, 2) := by decide +kernel
theorem dX7_drift_90 : decode cX7_drift 90 = .ok (.iload 4, 2) := by decide +kernel
theorem dX7_drift_92 : decode cX7_drift 92 = .ok (.bipush 16, 2) := by decide +kernel
theorem dX7_drift_94 : decode cX7_drift 94 = .ok (.ishr, 1) := by decide +kernel
theorem dX7_drift_95 : decode cX7_drift 95 = .ok (.sipush 32767, 3) := by decide +kernel
theorem dX7_drift_98 : decode cX7_drift 98 = .ok (.iand, 1) := by decide +kernel
theorem dX7_drift_99 : decode cX7_drift 99 = .ok (.bipush 10, 2) := by decide +kernel
theorem dX7_drift_101 : decode cX7_drift 101 = .ok (.irem, 1) := by decide +kernel
theorem dX7_drift_102 : decode cX7_drift 102 = .ok (.aload_n 0, 1) := by decide +kernel
theorem dX7_drift_103 : decode cX7_drift 103 = .ok (.iload 9, 2) := by decide +kernel
theorem dX7_drift_105 : decode cX7_drift 105 = .ok (.iload 7, 2) := by decide +kernel
theorem dX7_drift_107 : decode cX7_drift 107 = .ok (.iload 6, 2) := by decide +kernel
theorem dX7_drift_109 : decode cX7_drift 109 = .ok (.invokevirtual 199, 3) := by decide +kernel
theorem dX7_drift_112 : decode cX7_drift 112 = .ok (.if_icmp .ge 12, 3) := by decide +kernel
theorem dX7_drift_115 : decode cX7_drift 115 = .ok (.iconst 1, 1) := by decide +kernel
theorem dX7_drift_116 : decode cX7_drift 116 = .ok (.iload 9, 2) := by decide +kernel
theorem dX7_drift_118 : decode cX7_drift 118 = .ok (.ishl, 1) := by decide +kernel
theorem dX7_drift_119 : decode cX7_drift 119 = .ok (.iconst (-1), 1) := by decide +kernel
theorem dX7_drift_120 : decode cX7_drift 120 = .ok (.ixor, 1) := by decide +kernel
theorem dX7_drift_121 : decode cX7_drift 121 = .ok (.goto 4, 3) := by decide +kernel
theorem dX7_drift_124 : decode cX7_drift 124 = .ok (.iconst (-1), 1) := by decide +kernel
theorem dX7_drift_125 : decode cX7_drift 125 = .ok (.iand, 1) := by decide +kernel
theorem dX7_drift_126 : decode cX7_drift 126 = .ok (.istore 8, 2) := by decide +kernel
theorem dX7_drift_128 : decode cX7_drift 128 = .ok (.iinc 9 1, 3) := by decide +kernel
theorem dX7_drift_131 : decode cX7_drift 131 = .ok (.goto (-75), 3) := by decide +kernel
theorem dX7_drift_134 : decode cX7_drift 134 = .ok (.iload 8, 2) := by decide +kernel
theorem dX7_drift_136 : decode cX7_drift 136 = .ok (.istore 6, 2) := by decide +kernel
theorem dX7_drift_138 : decode cX7_drift 138 = .ok (.iload 5, 2) := by decide +kernel
theorem dX7_drift_140 : decode cX7_drift 140 = .ok (.iload 6, 2) := by decide +kernel
theorem dX7_drift_142 : decode cX7_drift 142 = .ok (.ifCond .eq 7, 3) := by decide +kernel
theorem dX7_drift_145 : decode cX7_drift 145 = .ok (.iconst 1, 1) := by decide +kernel
theorem dX7_drift_146 : decode cX7_drift 146 = .ok (.goto 4, 3) := by decide +kernel
theorem dX7_drift_149 : decode cX7_drift 149 = .ok (.iconst 0, 1) := by decide +kernel
theorem dX7_drift_150 : decode cX7_drift 150 = .ok (.iadd, 1) := by decide +kernel
theorem dX7_drift_151 : decode cX7_drift 151 = .ok (.istore 5, 2) := by decide +kernel
theorem dX7_drift_153 : decode cX7_drift 153 = .ok (.iinc 7 1, 3) := by decide +kernel
theorem dX7_drift_156 : decode cX7_drift 156 = .ok (.goto (-113), 3) := by decide +kernel
theorem dX7_drift_159 : decode cX7_drift 159 = .ok (.iload_n 3, 1) := by decide +kernel
theorem dX7_drift_160 : decode cX7_drift 160 = .ok (.ifCond .ne 8, 3) := by decide +kernel
theorem dX7_drift_163 : decode cX7_drift 163 = .ok (.iload 5, 2) := by decide +kernel
theorem dX7_drift_165 : decode cX7_drift 165 = .ok (.goto 5, 3) := by decide +kernel
theorem dX7_drift_168 : decode cX7_drift 168 = .ok (.iload 6, 2) := by decide +kernel
theorem dX7_drift_170 : decode cX7_drift 170 = .ok (.ireturn, 1) := by decide +kernel
set_option maxRecDepth 100000 in
set_option maxHeartbeats 4000000 in
theorem mX7_readOf_l (s : Nat → Int32) (la : Nat → Int32) (r : rT) (v : vT) (c : Nat → Nat → Int32) (l : Nat → Int32) (tn : Int32) (p : Nat → Int32) (pa : Nat → Nat → Int32) (q : rT) (b : Int32) (z : Nat) (hz : z < 8) (hE : qE q (oqR r) (r 6 0)) (hLw : mL la r) (hr : rOK r) : ∀ (k9 i : Nat), i + k9 = r 6 2 → ∀ (x : Nat → Nat) (h : Nat → Nat → Int64), J KX7_readOf 21 (fun o B => o = some (.long (lN (mro r z (r 6 2)))) ∧ ∃ x9 h9, B = (wM s la r v c l tn p pa (r 6 0) q b x9 h9)) 8 [some (.ref 0), some (.int (nI z)), some (.long (lN (mro r z i))), none, some (.int (nI (lwH r z i))), some (.int (nI i))] [] (wM s la r v c l tn p pa (r 6 0) q b x h) 0 0 := by
  intro k9
  induction k9 with
  | zero =>
    intro i hi
    obtain hiN : i = r 6 2 := by omega
    intro x h
    subst hiN
    refine J.iload dX7_readOf_8 rfl ?_
    refine J.aload_n dX7_readOf_10 rfl rfl ?_
    refine J.mg4 dX7_readOf_11 rfl ?_
    refine J.icmp_ge (tgt := 102) dX7_readOf_14 (by decide) (fun c14 => ?_) (fun c14 => absurd c14 (fun h => h (Int32.le_refl _)))
    refine J.lload_n dX7_readOf_102 rfl rfl ?_
    exact J.lret dX7_readOf_103 rfl (Nat.le_refl _) (Nat.le_refl _) ⟨rfl, x, h, rfl⟩
  | succ k9 ih =>
    intro i hi
    have hiN : i < r 6 2 := by omega
    intro x h
    have hl15' := lwH_le hr.2.2.2.2.2.2.2.2.2.2.2.2.1 z (i + 1)
    have hi3 := hr.2.2.1
    by_cases hb : bit z i = 1
    · by_cases h5 : (lwH r z (i + 1)) ≤ 5
      · skip
        refine J.iload dX7_readOf_8 rfl ?_
        refine J.aload_n dX7_readOf_10 rfl rfl ?_
        refine J.mg4 dX7_readOf_11 rfl ?_
        refine J.icmp_ge (tgt := 102) dX7_readOf_14 (by decide) (fun c14 => absurd c14 (nI_ge (by omega) (by have := hr.2.2.1; omega))) (fun c14 => ?_)
        refine J.iload dX7_readOf_17 rfl ?_
        refine J.iload_n dX7_readOf_19 rfl rfl ?_
        refine J.iload dX7_readOf_20 rfl ?_
        refine J.ishr dX7_readOf_22 ?_
        refine J.iconst (1) dX7_readOf_23 (by decide) ?_
        refine J.iand dX7_readOf_24 ?_
        refine J.iconst (1) dX7_readOf_25 (by decide) ?_
        rw [bit_eval z hz i (by have := hr.2.2.1; omega)]
        refine J.icmp_ne (tgt := 41) dX7_readOf_26 (by decide) (fun c26 => absurd c26 (fun h9 => h9 (by rw [hb] <;> rfl))) (fun c26 => ?_)
        refine J.aload_n dX7_readOf_29 rfl rfl ?_
        refine J.mg3 dX7_readOf_30 rfl ?_
        refine J.iconst (2) dX7_readOf_33 (by decide) ?_
        refine J.iload dX7_readOf_34 rfl ?_
        refine J.imul dX7_readOf_36 ?_
        refine J.ml2 (2 * i) dX7_readOf_37 (ix0 2 i) (by have := hr.2.2.1; omega) ?_
        rw [(hLw i hiN).1]
        refine J.goto (tgt := 42) dX7_readOf_38 (by decide) ?_
        refine J.iadd dX7_readOf_42 ?_
        have eH : (lwH r z (i + 1)) = lwH r z i + r 4 i := congrArg (fun y => lwH r z i + y) (if_pos hb)
        have hl15 := lwH_le hr.2.2.2.2.2.2.2.2.2.2.2.2.1 z (i + 1)
        rw [nI_add, ← eH]
        refine J.istore dX7_readOf_43 (by decide) rfl ?_
        try dsimp only [List.set]
        refine J.iload_n dX7_readOf_45 rfl rfl ?_
        refine J.iload dX7_readOf_46 rfl ?_
        refine J.ishr dX7_readOf_48 ?_
        refine J.iconst (1) dX7_readOf_49 (by decide) ?_
        refine J.iand dX7_readOf_50 ?_
        refine J.iconst (1) dX7_readOf_51 (by decide) ?_
        rw [bit_eval z hz i (by have := hr.2.2.1; omega)]
        refine J.icmp_ne (tgt := 96) dX7_readOf_52 (by decide) (fun c52 => absurd c52 (fun h9 => h9 (by rw [hb] <;> rfl))) (fun c52 => ?_)
        refine J.iload dX7_readOf_55 rfl ?_
        refine J.iconst (5) dX7_readOf_57 (by decide) ?_
        refine J.icmp_gt (tgt := 96) dX7_readOf_58 (by decide) (fun c58 => absurd c58 (fun h9 => absurd ((nI_lti (a := 5) (by decide) (by omega)).mp h9) (by omega))) (fun c58 => ?_)
        refine J.lload_n dX7_readOf_61 rfl rfl ?_
        refine J.aload_n dX7_readOf_62 rfl rfl ?_
        refine J.iload dX7_readOf_63 rfl ?_
        refine J.cvM (as := [.int _]) s la r v c l tn p pa (r 6 0) q b x h okX7_holds jcX7_241 (mX7_holds s la r v c l tn p pa (r 6 0) q b x h (oqR r) hE (mlay_ok hr) (lwH r z (i + 1)) h5) dX7_readOf_65 rfl rfl rfl rfl (fun r9 B9 hq9 => ?_)
        obtain ⟨rfl, h9, rfl⟩ := hq9
        refine ⟨_, _, _, _, _, _, _, _, _, _, _, _, _, _, rfl, ?_⟩
        show J _ _ _ _ _ (.long _ :: _) (wM s la r v c l tn p pa (r 6 0) q b (mho (oqR r) (r 6 0) (lwH r z (i + 1))) h9) _ _
        refine J.aload_n dX7_readOf_68 rfl rfl ?_
        refine J.mg25 dX7_readOf_69 rfl ?_
        refine J.iconst (5) dX7_readOf_72 (by decide) ?_
        refine J.iload dX7_readOf_73 rfl ?_
        refine J.isub dX7_readOf_75 ?_
        refine J.imul dX7_readOf_76 ?_
        rw [show (5 : Int32) = nI 5 from rfl, pk_sub h5, ix0 (r 6 0) (5 - (lwH r z (i + 1)))]
        refine J.cs (as := [.int _]) (is := []) okX7_tens jcX7_232 (mX7_tens ((r 6 0) * (5 - (lwH r z (i + 1)))) (by have := Nat.mul_le_mul hr.1 (show 5 - (lwH r z (i + 1)) ≤ 5 by omega); omega)) dX7_readOf_77 rfl rfl rfl rfl rfl rfl (fun r9 B9 hq => ?_)
        obtain ⟨rfl, rfl⟩ := hq
        refine ⟨rfl, ?_⟩
        show J _ _ _ _ _ (.long _ :: _) (wM s la r v c l tn p pa (r 6 0) q b (mho (oqR r) (r 6 0) (lwH r z (i + 1))) h9) _ _
        refine J.lmul dX7_readOf_80 ?_
        refine J.aload_n dX7_readOf_81 rfl rfl ?_
        refine J.mg3 dX7_readOf_82 rfl ?_
        refine J.iconst (2) dX7_readOf_85 (by decide) ?_
        refine J.iload dX7_readOf_86 rfl ?_
        refine J.imul dX7_readOf_88 ?_
        refine J.iconst (1) dX7_readOf_89 (by decide) ?_
        refine J.iadd dX7_readOf_90 ?_
        refine J.ml2 (2 * i + 1) dX7_readOf_91 (ix 2 i 1) (by have := hr.2.2.1; omega) ?_
        rw [(hLw i hiN).2]
        refine J.i2l dX7_readOf_92 ?_
        refine J.lmul dX7_readOf_93 ?_
        refine J.ladd dX7_readOf_94 ?_
        rw [nI_l (by have := hr.2.2.2.2.2.2.2.2.2.2.2.2.2 i; omega), lN_mul, lN_mul, lN_add]
        refine J.lstore_n dX7_readOf_95 rfl (by decide) rfl ?_
        try dsimp only [List.set]
        refine J.iinc (1) dX7_readOf_96 (by decide) rfl (by decide) rfl ?_
        try dsimp only [List.set]
        refine J.goto (tgt := 8) dX7_readOf_99 (by decide) ?_
        exact J.at (ih (i + 1) (by omega) _ _) (by rw [(show mro r z (i + 1) = mro r z i + _ from congrArg (fun y => mro r z i + y) (if_pos ⟨hb, h5⟩)), ← nI_1 i] <;> rfl) rfl rfl
      · skip
        refine J.iload dX7_readOf_8 rfl ?_
        refine J.aload_n dX7_readOf_10 rfl rfl ?_
        refine J.mg4 dX7_readOf_11 rfl ?_
        refine J.icmp_ge (tgt := 102) dX7_readOf_14 (by decide) (fun c14 => absurd c14 (nI_ge (by omega) (by have := hr.2.2.1; omega))) (fun c14 => ?_)
        refine J.iload dX7_readOf_17 rfl ?_
        refine J.iload_n dX7_readOf_19 rfl rfl ?_
        refine J.iload dX7_readOf_20 rfl ?_
        refine J.ishr dX7_readOf_22 ?_
        refine J.iconst (1) dX7_readOf_23 (by decide) ?_
        refine J.iand dX7_readOf_24 ?_
        refine J.iconst (1) dX7_readOf_25 (by decide) ?_
        rw [bit_eval z hz i (by have := hr.2.2.1; omega)]
        refine J.icmp_ne (tgt := 41) dX7_readOf_26 (by decide) (fun c26 => absurd c26 (fun h9 => h9 (by rw [hb] <;> rfl))) (fun c26 => ?_)
        refine J.aload_n dX7_readOf_29 rfl rfl ?_
        refine J.mg3 dX7_readOf_30 rfl ?_
        refine J.iconst (2) dX7_readOf_33 (by decide) ?_
        refine J.iload dX7_readOf_34 rfl ?_
        refine J.imul dX7_readOf_36 ?_
        refine J.ml2 (2 * i) dX7_readOf_37 (ix0 2 i) (by have := hr.2.2.1; omega) ?_
        rw [(hLw i hiN).1]
        refine J.goto (tgt := 42) dX7_readOf_38 (by decide) ?_
        refine J.iadd dX7_readOf_42 ?_
        have eH : (lwH r z (i + 1)) = lwH r z i + r 4 i := congrArg (fun y => lwH r z i + y) (if_pos hb)
        have hl15 := lwH_le hr.2.2.2.2.2.2.2.2.2.2.2.2.1 z (i + 1)
        rw [nI_add, ← eH]
        refine J.istore dX7_readOf_43 (by decide) rfl ?_
        try dsimp only [List.set]
        refine J.iload_n dX7_readOf_45 rfl rfl ?_
        refine J.iload dX7_readOf_46 rfl ?_
        refine J.ishr dX7_readOf_48 ?_
        refine J.iconst (1) dX7_readOf_49 (by decide) ?_
        refine J.iand dX7_readOf_50 ?_
        refine J.iconst (1) dX7_readOf_51 (by decide) ?_
        rw [bit_eval z hz i (by have := hr.2.2.1; omega)]
        refine J.icmp_ne (tgt := 96) dX7_readOf_52 (by decide) (fun c52 => absurd c52 (fun h9 => h9 (by rw [hb] <;> rfl))) (fun c52 => ?_)
        refine J.iload dX7_readOf_55 rfl ?_
        refine J.iconst (5) dX7_readOf_57 (by decide) ?_
        refine J.icmp_gt (tgt := 96) dX7_readOf_58 (by decide) (fun c58 => ?_) (fun c58 => absurd c58 (fun h9 => h9 ((nI_lti (a := 5) (by decide) (by omega)).mpr (by omega))))
        refine J.iinc (1) dX7_readOf_96 (by decide) rfl (by decide) rfl ?_
        try dsimp only [List.set]
        refine J.goto (tgt := 8) dX7_readOf_99 (by decide) ?_
        exact J.at (ih (i + 1) (by omega) _ _) (by rw [(show mro r z (i + 1) = mro r z i + 0 from congrArg (fun y => mro r z i + y) (if_neg (fun h9 => h5 h9.2))), ← nI_1 i] <;> rfl) rfl rfl
    · skip
      refine J.iload dX7_readOf_8 rfl ?_
      refine J.aload_n dX7_readOf_10 rfl rfl ?_
      refine J.mg4 dX7_readOf_11 rfl ?_
      refine J.icmp_ge (tgt := 102) dX7_readOf_14 (by decide) (fun c14 => absurd c14 (nI_ge (by omega) (by have := hr.2.2.1; omega))) (fun c14 => ?_)
      refine J.iload dX7_readOf_17 rfl ?_
      refine J.iload_n dX7_readOf_19 rfl rfl ?_
      refine J.iload dX7_readOf_20 rfl ?_
      refine J.ishr dX7_readOf_22 ?_
      refine J.iconst (1) dX7_readOf_23 (by decide) ?_
      refine J.iand dX7_readOf_24 ?_
      refine J.iconst (1) dX7_readOf_25 (by decide) ?_
      rw [bit_eval z hz i (by have := hr.2.2.1; omega)]
      refine J.icmp_ne (tgt := 41) dX7_readOf_26 (by decide) (fun c26 => ?_) (fun c26 => absurd c26 (fun h9 => hb ((nI_eqi (b := 1) (by have := bit_le z i; omega) (by decide)).mp h9)))
      refine J.iconst (0) dX7_readOf_41 (by decide) ?_
      refine J.iadd dX7_readOf_42 ?_
      have eH : (lwH r z (i + 1)) = lwH r z i + 0 := congrArg (fun y => lwH r z i + y) (if_neg hb)
      have hl15 := lwH_le hr.2.2.2.2.2.2.2.2.2.2.2.2.1 z (i + 1)
      rw [show nI (lwH r z i) + 0 = nI (lwH r z (i + 1)) from by rw [eH]; exact nI_add _ 0]
      refine J.istore dX7_readOf_43 (by decide) rfl ?_
      try dsimp only [List.set]
      refine J.iload_n dX7_readOf_45 rfl rfl ?_
      refine J.iload dX7_readOf_46 rfl ?_
      refine J.ishr dX7_readOf_48 ?_
      refine J.iconst (1) dX7_readOf_49 (by decide) ?_
      refine J.iand dX7_readOf_50 ?_
      refine J.iconst (1) dX7_readOf_51 (by decide) ?_
      rw [bit_eval z hz i (by have := hr.2.2.1; omega)]
      refine J.icmp_ne (tgt := 96) dX7_readOf_52 (by decide) (fun c52 => ?_) (fun c52 => absurd c52 (fun h9 => hb ((nI_eqi (b := 1) (by have := bit_le z i; omega) (by decide)).mp h9)))
      refine J.iinc (1) dX7_readOf_96 (by decide) rfl (by decide) rfl ?_
      try dsimp only [List.set]
      refine J.goto (tgt := 8) dX7_readOf_99 (by decide) ?_
      exact J.at (ih (i + 1) (by omega) _ _) (by rw [(show mro r z (i + 1) = mro r z i + 0 from congrArg (fun y => mro r z i + y) (if_neg (fun h9 => hb h9.1))), ← nI_1 i] <;> rfl) rfl rfl
set_option maxRecDepth 100000 in
set_option maxHeartbeats 4000000 in
theorem mX7_readOf (s : Nat → Int32) (la : Nat → Int32) (r : rT) (v : vT) (c : Nat → Nat → Int32) (l : Nat → Int32) (tn : Int32) (p : Nat → Int32) (pa : Nat → Nat → Int32) (q : rT) (b : Int32) (x : Nat → Nat) (h : Nat → Nat → Int64) (z : Nat) (hz : z < 8) (hE : qE q (oqR r) (r 6 0)) (hLw : mL la r) (hr : rOK r) : J KX7_readOf 21 (fun o B => o = some (.long (lN (mro r z (r 6 2)))) ∧ ∃ x9 h9, B = (wM s la r v c l tn p pa (r 6 0) q b x9 h9)) 0 [some (.ref 0), some (.int (nI z)), none, none, none, none] [] (wM s la r v c l tn p pa (r 6 0) q b x h) 0 0 := by
  refine J.lconst 0 dX7_readOf_0 (by decide) ?_
  refine J.lstore_n dX7_readOf_1 rfl (by decide) rfl ?_
  try dsimp only [List.set]
  refine J.iconst (0) dX7_readOf_2 (by decide) ?_
  refine J.istore dX7_readOf_3 (by decide) rfl ?_
  try dsimp only [List.set]
  refine J.iconst (0) dX7_readOf_5 (by decide) ?_
  refine J.istore dX7_readOf_6 (by decide) rfl ?_
  try dsimp only [List.set]
  exact J.at (mX7_readOf_l s la r v c l tn p pa q b z hz hE hLw hr (r 6 2) 0 (by omega) x h) rfl rfl rfl
set_option maxRecDepth 100000 in
set_option maxHeartbeats 4000000 in
theorem mX7_reads (s : Nat → Int32) (la : Nat → Int32) (r : rT) (v : vT) (c : Nat → Nat → Int32) (l : Nat → Int32) (tn : Int32) (p : Nat → Int32) (pa : Nat → Nat → Int32) (m : Nat) (q : rT) (b : Int32) (x : Nat → Nat) (h : Nat → Nat → Int64) (z : Nat) (hz : z < 2 ^ r 6 2) (wh : Int32) (hw : 0 ≤ wh ∧ wh ≤ 1) (hS : mS s r) (hr : rOK r) (hLw : mL la r) : J KX7_reads 21 (fun o B => o = some (.long (lowT ((lwS r (hbR r) z (r 6 2) : Nat) : Int) (1000 ^ 5) wh)) ∧ ∃ m9 q9 b9 x9 h9, B = (wM s la r v c l tn p pa m9 q9 b9 x9 h9)) 0 [some (.ref 0), some (.int (nI z)), some (.int wh)] [] (wM s la r v c l tn p pa m q b x h) 0 0 := by
  refine J.iload_n dX7_reads_0 rfl rfl ?_
  refine J.i2l dX7_reads_1 ?_
  refine J.lconst 0 dX7_reads_2 (by decide) ?_
  refine J.iconst (1) dX7_reads_3 (by decide) ?_
  refine J.aload_n dX7_reads_4 rfl rfl ?_
  refine J.mg4 dX7_reads_5 rfl ?_
  refine J.ishl dX7_reads_8 ?_
  refine J.iconst (1) dX7_reads_9 (by decide) ?_
  refine J.isub dX7_reads_10 ?_
  refine J.i2l dX7_reads_11 ?_
  rw [full_eval _ (show r 6 2 < 4 by have := hr.2.2.1; omega)]
  refine J.cs (as := [.long _, .long _, .long _]) (is := []) okX7_in jcX7_74 (mX7_inI (nI z) 0 (nI (2 ^ r 6 2 - 1)) (by decide) rfl) dX7_reads_12 rfl rfl rfl rfl rfl rfl (fun r9 B9 hq => ?_)
  obtain ⟨rfl, rfl⟩ := hq
  refine ⟨rfl, ?_⟩
  show J _ _ _ _ _ (.int _ :: _) (wM s la r v c l tn p pa m q b x h) _ _
  refine J.if_eq (tgt := 28) dX7_reads_15 (by decide) (fun c15 => absurd c15 (fun h => (jB_0 _).mp h (show (0 : Int32) ≤ nI z ∧ nI z ≤ nI (2 ^ r 6 2 - 1) from jw (a := 0) (by have := p2_le _ hr.2.2.1; omega) (Nat.zero_le _) (by omega)))) (fun c15 => ?_)
  refine J.iload_n dX7_reads_18 rfl rfl ?_
  refine J.i2l dX7_reads_19 ?_
  refine J.lconst 0 dX7_reads_20 (by decide) ?_
  refine J.lconst 1 dX7_reads_21 (by decide) ?_
  refine J.cs (as := [.long _, .long _, .long _]) (is := []) okX7_in jcX7_74 (mX7_inI wh 0 1 (by decide) (by decide)) dX7_reads_22 rfl rfl rfl rfl rfl rfl (fun r9 B9 hq => ?_)
  obtain ⟨rfl, rfl⟩ := hq
  refine ⟨rfl, ?_⟩
  show J _ _ _ _ _ (.int _ :: _) (wM s la r v c l tn p pa m q b x h) _ _
  refine J.if_ne (tgt := 32) dX7_reads_25 (by decide) (fun c25 => ?_) (fun c25 => absurd c25 (fun h => (jB_0 _).mp h hw))
  refine J.aload_n dX7_reads_32 rfl rfl ?_
  refine J.cvM (as := []) s la r v c l tn p pa m q b x h okX7_lays jcX7_196 (mX7_lays s la r v c l tn p pa m q b x h hS hr) dX7_reads_33 rfl rfl rfl rfl (fun r9 B9 hq9 => ?_)
  obtain ⟨rfl, rfl⟩ := hq9
  refine ⟨_, _, _, _, _, _, _, _, _, _, _, _, _, _, rfl, ?_⟩
  show J _ _ _ _ _ [] (wM s la r v c l tn p pa (r 6 0) (mlay q r (r 6 0)) b x h) _ _
  refine J.aload_n dX7_reads_36 rfl rfl ?_
  refine J.iload_n dX7_reads_37 rfl rfl ?_
  refine J.cvM (as := [.int _]) s la r v c l tn p pa (r 6 0) (mlay q r (r 6 0)) b x h okX7_readOf jcX7_270 (mX7_readOf s la r v c l tn p pa (mlay q r (r 6 0)) b x h z (by have := p2_le _ hr.2.2.1; omega) (mlay_q q) hLw hr) dX7_reads_38 rfl rfl rfl rfl (fun r9 B9 hq9 => ?_)
  obtain ⟨rfl, x9, h9, rfl⟩ := hq9
  refine ⟨_, _, _, _, _, _, _, _, _, _, _, _, _, _, rfl, ?_⟩
  show J _ _ _ _ _ (.long _ :: _) (wM s la r v c l tn p pa (r 6 0) (mlay q r (r 6 0)) b x9 h9) _ _
  refine J.aload_n dX7_reads_41 rfl rfl ?_
  refine J.mg25 dX7_reads_42 rfl ?_
  refine J.iconst (5) dX7_reads_45 (by decide) ?_
  refine J.imul dX7_reads_46 ?_
  rw [show (5 : Int32) = nI 5 from rfl, ix0 (r 6 0) 5]
  refine J.cs (as := [.int _]) (is := []) okX7_tens jcX7_232 (mX7_tens ((r 6 0) * 5) (by have := hr.1; omega)) dX7_reads_47 rfl rfl rfl rfl rfl rfl (fun r9 B9 hq => ?_)
  obtain ⟨rfl, rfl⟩ := hq
  refine ⟨rfl, ?_⟩
  show J _ _ _ _ _ (.long _ :: _) (wM s la r v c l tn p pa (r 6 0) (mlay q r (r 6 0)) b x9 h9) _ _
  refine J.iload_n dX7_reads_50 rfl rfl ?_
  refine J.cs (as := [.long _, .long _, .int _]) (is := []) okX7_lowest jcX7_244 (mX7_lowestN (mro r z (r 6 2)) (10 ^ ((r 6 0) * 5)) wh (by have := mro_le hr z; omega) (by have := ten_10 hr.1 (Nat.le_refl 5); omega) (by have := ten_10 hr.1 (Nat.le_refl 5); omega)) dX7_reads_51 rfl rfl rfl rfl rfl rfl (fun r9 B9 hq => ?_)
  obtain ⟨rfl, rfl⟩ := hq
  refine ⟨rfl, ?_⟩
  show J _ _ _ _ _ (.long _ :: _) (wM s la r v c l tn p pa (r 6 0) (mlay q r (r 6 0)) b x9 h9) _ _
  exact J.lret dX7_reads_54 rfl (Nat.le_refl _) (Nat.le_refl _) ⟨congrArg (fun z => some (Value.long z)) (readsE hr z wh), _, _, _, _, _, rfl⟩
set_option maxRecDepth 100000 in
set_option maxHeartbeats 4000000 in
theorem mX7_reads_bad (s : Nat → Int32) (la : Nat → Int32) (r : rT) (v : vT) (c : Nat → Nat → Int32) (l : Nat → Int32) (tn : Int32) (p : Nat → Int32) (pa : Nat → Nat → Int32) (m : Nat) (q : rT) (b : Int32) (x : Nat → Nat) (h : Nat → Nat → Int64) (z wh : Int32) (hr : rOK r) (hb : ¬ (0 ≤ z ∧ z ≤ nI (2 ^ r 6 2 - 1)) ∨ ¬ (0 ≤ wh ∧ wh ≤ 1)) : J KX7_reads 21 (fun o B => o = some (.long (-1)) ∧ B = (wM s la r v c l tn p pa m q b x h)) 0 [some (.ref 0), some (.int z), some (.int wh)] [] (wM s la r v c l tn p pa m q b x h) 0 0 := by
  refine J.iload_n dX7_reads_0 rfl rfl ?_
  refine J.i2l dX7_reads_1 ?_
  refine J.lconst 0 dX7_reads_2 (by decide) ?_
  refine J.iconst (1) dX7_reads_3 (by decide) ?_
  refine J.aload_n dX7_reads_4 rfl rfl ?_
  refine J.mg4 dX7_reads_5 rfl ?_
  refine J.ishl dX7_reads_8 ?_
  refine J.iconst (1) dX7_reads_9 (by decide) ?_
  refine J.isub dX7_reads_10 ?_
  refine J.i2l dX7_reads_11 ?_
  rw [full_eval _ (show r 6 2 < 4 by have := hr.2.2.1; omega)]
  refine J.cs (as := [.long _, .long _, .long _]) (is := []) okX7_in jcX7_74 (mX7_inI z 0 (nI (2 ^ r 6 2 - 1)) (by decide) rfl) dX7_reads_12 rfl rfl rfl rfl rfl rfl (fun r9 B9 hq => ?_)
  obtain ⟨rfl, rfl⟩ := hq
  refine ⟨rfl, ?_⟩
  show J _ _ _ _ _ (.int _ :: _) (wM s la r v c l tn p pa m q b x h) _ _
  refine J.if_eq (tgt := 28) dX7_reads_15 (by decide) (fun c15 => ?_) (fun c15 => ?_)
  · refine J.ldc2 (v := -1) dX7_reads_28 (jt 1049 rfl rfl) ?_
    exact J.lret dX7_reads_31 rfl (Nat.le_refl _) (Nat.le_refl _) ⟨rfl, rfl⟩
  · refine J.iload_n dX7_reads_18 rfl rfl ?_
    refine J.i2l dX7_reads_19 ?_
    refine J.lconst 0 dX7_reads_20 (by decide) ?_
    refine J.lconst 1 dX7_reads_21 (by decide) ?_
    refine J.cs (as := [.long _, .long _, .long _]) (is := []) okX7_in jcX7_74 (mX7_inI wh 0 1 (by decide) (by decide)) dX7_reads_22 rfl rfl rfl rfl rfl rfl (fun r9 B9 hq => ?_)
    obtain ⟨rfl, rfl⟩ := hq
    refine ⟨rfl, ?_⟩
    show J _ _ _ _ _ (.int _ :: _) (wM s la r v c l tn p pa m q b x h) _ _
    refine J.if_ne (tgt := 32) dX7_reads_25 (by decide) (fun c25 => absurd c25 (fun h => h ((jB_0 _).mpr (fun hC => (fun h => h.elim (fun h => h (Decidable.not_not.mp (fun h9 => c15 ((jB_0 _).mpr h9)))) (fun h => h hC)) hb)))) (fun c25 => ?_)
    refine J.ldc2 (v := -1) dX7_reads_28 (jt 1049 rfl rfl) ?_
    exact J.lret dX7_reads_31 rfl (Nat.le_refl _) (Nat.le_refl _) ⟨rfl, rfl⟩
set_option maxRecDepth 100000 in
set_option maxHeartbeats 4000000 in
theorem mX7_laws_l (s : Nat → Int32) (la : Nat → Int32) (r : rT) (v : vT) (c : Nat → Nat → Int32) (l : Nat → Int32) (tn : Int32) (p : Nat → Int32) (pa : Nat → Nat → Int32) (q : rT) (b : Int32) (wh : Int32) (hw : 0 ≤ wh ∧ wh ≤ 2) (hS : mS s r) (hr : rOK r) (hLw : mL la r) : ∀ (k9 i : Nat), i + k9 = 2 ^ r 6 2 → ∀ (z6 z7 : Option Value) (x : Nat → Nat) (h : Nat → Nat → Int64), J KX7_laws 21 (fun o B => o = some (.long (lawsA r wh)) ∧ ∃ m9 q9 b9 x9 h9, B = (wM s la r v c l tn p pa m9 q9 b9 x9 h9)) 30 [some (.ref 0), some (.int wh), some (.long (lI (mlw r i).1)), none, some (.int (nI (mlw r i).2)), some (.int (nI i)), z6, z7] [] (wM s la r v c l tn p pa (r 6 0) (mlay q r (r 6 0)) b x h) 0 0 := by
  intro k9
  induction k9 with
  | zero =>
    intro i hi
    obtain hiN : i = 2 ^ r 6 2 := by omega
    intro z6 z7 x h
    subst hiN
    refine J.iload dX7_laws_30 rfl ?_
    refine J.iconst (1) dX7_laws_32 (by decide) ?_
    refine J.aload_n dX7_laws_33 rfl rfl ?_
    refine J.mg4 dX7_laws_34 rfl ?_
    refine J.ishl dX7_laws_37 ?_
    rw [shl_eval (r 6 2) (by have := hr.2.2.1; omega)]
    refine J.icmp_ge (tgt := 85) dX7_laws_38 (by decide) (fun c38 => ?_) (fun c38 => absurd c38 (fun h => h (Int32.le_refl _)))
    refine J.iload_n dX7_laws_85 rfl rfl ?_
    refine J.if_ne (tgt := 95) dX7_laws_86 (by decide) (fun c86 => ?_) (fun c86 => ?_)
    · refine J.lload_n dX7_laws_95 rfl rfl ?_
      refine J.aload_n dX7_laws_96 rfl rfl ?_
      refine J.mg25 dX7_laws_97 rfl ?_
      refine J.iconst (5) dX7_laws_100 (by decide) ?_
      refine J.imul dX7_laws_101 ?_
      rw [show (5 : Int32) = nI 5 from rfl, ix0 (r 6 0) 5]
      refine J.cs (as := [.int _]) (is := []) okX7_tens jcX7_232 (mX7_tens ((r 6 0) * 5) (by have := hr.1; omega)) dX7_laws_102 rfl rfl rfl rfl rfl rfl (fun r9 B9 hq => ?_)
      obtain ⟨rfl, rfl⟩ := hq
      refine ⟨rfl, ?_⟩
      show J _ _ _ _ _ (.long _ :: _) (wM s la r v c l tn p pa (r 6 0) (mlay q r (r 6 0)) b x h) _ _
      refine J.iload_n dX7_laws_105 rfl rfl ?_
      refine J.iconst (1) dX7_laws_106 (by decide) ?_
      refine J.isub dX7_laws_107 ?_
      refine J.cs (as := [.long _, .long _, .int _]) (is := []) okX7_lowest jcX7_244 (mX7_lowest (mlw r (2 ^ r 6 2)).1 (10 ^ ((r 6 0) * 5)) (wh - 1) (by have := mlw_le hr (2 ^ r 6 2); omega) (by have := mlw_le hr (2 ^ r 6 2); omega) (by have := ten_10 hr.1 (Nat.le_refl 5); omega) (by have := ten_10 hr.1 (Nat.le_refl 5); omega)) dX7_laws_108 rfl rfl rfl rfl rfl rfl (fun r9 B9 hq => ?_)
      obtain ⟨rfl, rfl⟩ := hq
      refine ⟨rfl, ?_⟩
      show J _ _ _ _ _ (.long _ :: _) (wM s la r v c l tn p pa (r 6 0) (mlay q r (r 6 0)) b x h) _ _
      first | exact J.lret dX7_laws_111 rfl (Nat.le_refl _) (Nat.le_refl _) ⟨congrArg (fun z => some (Value.long z)) (by rw [lawsE hr wh, if_pos c86]), _, _, _, _, _, rfl⟩ | exact J.lret dX7_laws_111 rfl (Nat.le_refl _) (Nat.le_refl _) ⟨congrArg (fun z => some (Value.long z)) (by rw [lawsE hr wh, if_neg c86]), _, _, _, _, _, rfl⟩
    · refine J.iload dX7_laws_89 rfl ?_
      refine J.i2l dX7_laws_91 ?_
      refine J.goto (tgt := 111) dX7_laws_92 (by decide) ?_
      first | exact J.lret dX7_laws_111 rfl (Nat.le_refl _) (Nat.le_refl _) ⟨congrArg (fun z => some (Value.long z)) (by rw [lawsE hr wh, if_pos c86]), _, _, _, _, _, rfl⟩ | exact J.lret dX7_laws_111 rfl (Nat.le_refl _) (Nat.le_refl _) ⟨congrArg (fun z => some (Value.long z)) (by rw [lawsE hr wh, if_neg c86]), _, _, _, _, _, rfl⟩
  | succ k9 ih =>
    intro i hi
    have hiN : i < 2 ^ r 6 2 := by omega
    intro z6 z7 x h
    by_cases hc : (mlw r i).1 < (mro r i (r 6 2) : Nat)
    · skip
      refine J.iload dX7_laws_30 rfl ?_
      refine J.iconst (1) dX7_laws_32 (by decide) ?_
      refine J.aload_n dX7_laws_33 rfl rfl ?_
      refine J.mg4 dX7_laws_34 rfl ?_
      refine J.ishl dX7_laws_37 ?_
      rw [shl_eval (r 6 2) (by have := hr.2.2.1; omega)]
      refine J.icmp_ge (tgt := 85) dX7_laws_38 (by decide) (fun c38 => absurd c38 (nI_ge (by omega) (by have := p2_le _ hr.2.2.1; omega))) (fun c38 => ?_)
      refine J.aload_n dX7_laws_41 rfl rfl ?_
      refine J.iload dX7_laws_42 rfl ?_
      refine J.cvM (as := [.int _]) s la r v c l tn p pa (r 6 0) (mlay q r (r 6 0)) b x h okX7_readOf jcX7_270 (mX7_readOf s la r v c l tn p pa (mlay q r (r 6 0)) b x h i (by have := p2_le _ hr.2.2.1; omega) (mlay_q q) hLw hr) dX7_laws_44 rfl rfl rfl rfl (fun r9 B9 hq9 => ?_)
      obtain ⟨rfl, x9, h9, rfl⟩ := hq9
      refine ⟨_, _, _, _, _, _, _, _, _, _, _, _, _, _, rfl, ?_⟩
      show J _ _ _ _ _ (.long _ :: _) (wM s la r v c l tn p pa (r 6 0) (mlay q r (r 6 0)) b x9 h9) _ _
      rw [lNZ]
      refine J.lstore dX7_laws_47 (by decide) rfl ?_
      try dsimp only [List.set]
      refine J.lload dX7_laws_49 rfl ?_
      refine J.lload_n dX7_laws_51 rfl rfl ?_
      refine J.lcmp dX7_laws_52 ?_
      refine J.if_le (tgt := 61) dX7_laws_53 (by decide) (fun c53 => absurd c53 (fun h9 => cmpN h9 ((lI_lt (mlw_le hr i) (show ((mro r i (r 6 2) : Nat) : Int).natAbs ≤ _ by have := mro_le hr i; omega)).mpr hc))) (fun c53 => ?_)
      refine J.iload dX7_laws_56 rfl ?_
      refine J.goto (tgt := 63) dX7_laws_58 (by decide) ?_
      refine J.istore dX7_laws_63 (by decide) rfl ?_
      try dsimp only [List.set]
      refine J.lload dX7_laws_65 rfl ?_
      refine J.lload_n dX7_laws_67 rfl rfl ?_
      refine J.lcmp dX7_laws_68 ?_
      refine J.if_le (tgt := 77) dX7_laws_69 (by decide) (fun c69 => absurd c69 (fun h9 => cmpN h9 ((lI_lt (mlw_le hr i) (show ((mro r i (r 6 2) : Nat) : Int).natAbs ≤ _ by have := mro_le hr i; omega)).mpr hc))) (fun c69 => ?_)
      refine J.lload dX7_laws_72 rfl ?_
      refine J.goto (tgt := 78) dX7_laws_74 (by decide) ?_
      refine J.lstore_n dX7_laws_78 rfl (by decide) rfl ?_
      try dsimp only [List.set]
      refine J.iinc (1) dX7_laws_79 (by decide) rfl (by decide) rfl ?_
      try dsimp only [List.set]
      refine J.goto (tgt := 30) dX7_laws_82 (by decide) ?_
      exact J.at (ih (i + 1) (by omega) _ _ _ _) (by rw [(show mlw r (i + 1) = (((mro r i (r 6 2) : Nat) : Int), i) from if_pos hc), ← nI_1 i] <;> rfl) rfl rfl
    · skip
      refine J.iload dX7_laws_30 rfl ?_
      refine J.iconst (1) dX7_laws_32 (by decide) ?_
      refine J.aload_n dX7_laws_33 rfl rfl ?_
      refine J.mg4 dX7_laws_34 rfl ?_
      refine J.ishl dX7_laws_37 ?_
      rw [shl_eval (r 6 2) (by have := hr.2.2.1; omega)]
      refine J.icmp_ge (tgt := 85) dX7_laws_38 (by decide) (fun c38 => absurd c38 (nI_ge (by omega) (by have := p2_le _ hr.2.2.1; omega))) (fun c38 => ?_)
      refine J.aload_n dX7_laws_41 rfl rfl ?_
      refine J.iload dX7_laws_42 rfl ?_
      refine J.cvM (as := [.int _]) s la r v c l tn p pa (r 6 0) (mlay q r (r 6 0)) b x h okX7_readOf jcX7_270 (mX7_readOf s la r v c l tn p pa (mlay q r (r 6 0)) b x h i (by have := p2_le _ hr.2.2.1; omega) (mlay_q q) hLw hr) dX7_laws_44 rfl rfl rfl rfl (fun r9 B9 hq9 => ?_)
      obtain ⟨rfl, x9, h9, rfl⟩ := hq9
      refine ⟨_, _, _, _, _, _, _, _, _, _, _, _, _, _, rfl, ?_⟩
      show J _ _ _ _ _ (.long _ :: _) (wM s la r v c l tn p pa (r 6 0) (mlay q r (r 6 0)) b x9 h9) _ _
      rw [lNZ]
      refine J.lstore dX7_laws_47 (by decide) rfl ?_
      try dsimp only [List.set]
      refine J.lload dX7_laws_49 rfl ?_
      refine J.lload_n dX7_laws_51 rfl rfl ?_
      refine J.lcmp dX7_laws_52 ?_
      refine J.if_le (tgt := 61) dX7_laws_53 (by decide) (fun c53 => ?_) (fun c53 => absurd c53 (fun h9 => hc ((lI_lt (mlw_le hr i) (show ((mro r i (r 6 2) : Nat) : Int).natAbs ≤ _ by have := mro_le hr i; omega)).mp (cmpP h9))))
      refine J.iload dX7_laws_61 rfl ?_
      refine J.istore dX7_laws_63 (by decide) rfl ?_
      try dsimp only [List.set]
      refine J.lload dX7_laws_65 rfl ?_
      refine J.lload_n dX7_laws_67 rfl rfl ?_
      refine J.lcmp dX7_laws_68 ?_
      refine J.if_le (tgt := 77) dX7_laws_69 (by decide) (fun c69 => ?_) (fun c69 => absurd c69 (fun h9 => hc ((lI_lt (mlw_le hr i) (show ((mro r i (r 6 2) : Nat) : Int).natAbs ≤ _ by have := mro_le hr i; omega)).mp (cmpP h9))))
      refine J.lload_n dX7_laws_77 rfl rfl ?_
      refine J.lstore_n dX7_laws_78 rfl (by decide) rfl ?_
      try dsimp only [List.set]
      refine J.iinc (1) dX7_laws_79 (by decide) rfl (by decide) rfl ?_
      try dsimp only [List.set]
      refine J.goto (tgt := 30) dX7_laws_82 (by decide) ?_
      exact J.at (ih (i + 1) (by omega) _ _ _ _) (by rw [(show mlw r (i + 1) = mlw r i from if_neg hc), ← nI_1 i] <;> rfl) rfl rfl
set_option maxRecDepth 100000 in
set_option maxHeartbeats 4000000 in
theorem mX7_laws (s : Nat → Int32) (la : Nat → Int32) (r : rT) (v : vT) (c : Nat → Nat → Int32) (l : Nat → Int32) (tn : Int32) (p : Nat → Int32) (pa : Nat → Nat → Int32) (m : Nat) (q : rT) (b : Int32) (x : Nat → Nat) (h : Nat → Nat → Int64) (wh : Int32) (hw : 0 ≤ wh ∧ wh ≤ 2) (hS : mS s r) (hr : rOK r) (hLw : mL la r) : J KX7_laws 21 (fun o B => o = some (.long (lawsA r wh)) ∧ ∃ m9 q9 b9 x9 h9, B = (wM s la r v c l tn p pa m9 q9 b9 x9 h9)) 0 [some (.ref 0), some (.int wh), none, none, none, none, none, none] [] (wM s la r v c l tn p pa m q b x h) 0 0 := by
  refine J.iload_n dX7_laws_0 rfl rfl ?_
  refine J.i2l dX7_laws_1 ?_
  refine J.lconst 0 dX7_laws_2 (by decide) ?_
  refine J.ldc2 (v := 2) dX7_laws_3 (jt 956 rfl rfl) ?_
  refine J.cs (as := [.long _, .long _, .long _]) (is := []) okX7_in jcX7_74 (mX7_inI wh 0 2 (by decide) (by decide)) dX7_laws_6 rfl rfl rfl rfl rfl rfl (fun r9 B9 hq => ?_)
  obtain ⟨rfl, rfl⟩ := hq
  refine ⟨rfl, ?_⟩
  show J _ _ _ _ _ (.int _ :: _) (wM s la r v c l tn p pa m q b x h) _ _
  refine J.if_ne (tgt := 16) dX7_laws_9 (by decide) (fun c9 => ?_) (fun c9 => absurd c9 (fun h => (jB_0 _).mp h hw))
  refine J.aload_n dX7_laws_16 rfl rfl ?_
  refine J.cvM (as := []) s la r v c l tn p pa m q b x h okX7_lays jcX7_196 (mX7_lays s la r v c l tn p pa m q b x h hS hr) dX7_laws_17 rfl rfl rfl rfl (fun r9 B9 hq9 => ?_)
  obtain ⟨rfl, rfl⟩ := hq9
  refine ⟨_, _, _, _, _, _, _, _, _, _, _, _, _, _, rfl, ?_⟩
  show J _ _ _ _ _ [] (wM s la r v c l tn p pa (r 6 0) (mlay q r (r 6 0)) b x h) _ _
  refine J.ldc2 (v := -1) dX7_laws_20 (jt 1049 rfl rfl) ?_
  refine J.lstore_n dX7_laws_23 rfl (by decide) rfl ?_
  try dsimp only [List.set]
  refine J.iconst (0) dX7_laws_24 (by decide) ?_
  refine J.istore dX7_laws_25 (by decide) rfl ?_
  try dsimp only [List.set]
  refine J.iconst (0) dX7_laws_27 (by decide) ?_
  refine J.istore dX7_laws_28 (by decide) rfl ?_
  try dsimp only [List.set]
  exact J.at (mX7_laws_l s la r v c l tn p pa q b wh hw hS hr hLw (2 ^ r 6 2) 0 (by omega) none none x h) rfl rfl rfl
set_option maxRecDepth 100000 in
set_option maxHeartbeats 4000000 in
theorem mX7_laws_bad (s : Nat → Int32) (la : Nat → Int32) (r : rT) (v : vT) (c : Nat → Nat → Int32) (l : Nat → Int32) (tn : Int32) (p : Nat → Int32) (pa : Nat → Nat → Int32) (m : Nat) (q : rT) (b : Int32) (x : Nat → Nat) (h : Nat → Nat → Int64) (wh : Int32) (hb : ¬ (0 ≤ wh ∧ wh ≤ 2)) : J KX7_laws 21 (fun o B => o = some (.long (-1)) ∧ B = (wM s la r v c l tn p pa m q b x h)) 0 [some (.ref 0), some (.int wh), none, none, none, none, none, none] [] (wM s la r v c l tn p pa m q b x h) 0 0 := by
  refine J.iload_n dX7_laws_0 rfl rfl ?_
  refine J.i2l dX7_laws_1 ?_
  refine J.lconst 0 dX7_laws_2 (by decide) ?_
  refine J.ldc2 (v := 2) dX7_laws_3 (jt 956 rfl rfl) ?_
  refine J.cs (as := [.long _, .long _, .long _]) (is := []) okX7_in jcX7_74 (mX7_inI wh 0 2 (by decide) (by decide)) dX7_laws_6 rfl rfl rfl rfl rfl rfl (fun r9 B9 hq => ?_)
  obtain ⟨rfl, rfl⟩ := hq
  refine ⟨rfl, ?_⟩
  show J _ _ _ _ _ (.int _ :: _) (wM s la r v c l tn p pa m q b x h) _ _
  refine J.if_ne (tgt := 16) dX7_laws_9 (by decide) (fun c9 => absurd c9 (fun h => h ((jB_0 _).mpr hb))) (fun c9 => ?_)
  refine J.ldc2 (v := -1) dX7_laws_12 (jt 1049 rfl rfl) ?_
  exact J.lret dX7_laws_15 rfl (Nat.le_refl _) (Nat.le_refl _) ⟨rfl, rfl⟩
theorem sn_a (v : vT) (j : Nat) : (if 2 * j % 2 = 0 then v 2 (2 * j / 2) else v 3 (2 * j / 2)) = v 2 j := by
  rw [if_pos (by omega), show 2 * j / 2 = j by omega]
theorem sn_b (v : vT) (j : Nat) : (if (2 * j + 1) % 2 = 0 then v 2 ((2 * j + 1) / 2) else v 3 ((2 * j + 1) / 2)) = v 3 j := by
  rw [if_neg (by omega), show (2 * j + 1) / 2 = j by omega]
def sfm (v : vT) (m t : Nat) (x : Nat → Nat) : Nat → Nat := fun s => if s < 2 ^ m then sf (v 2) (v 3) t x (v 4 1) s else x s
theorem sf_s (a b : Nat → Nat) (t : Nat) (x : Nat → Nat) (j s : Nat) : sf a b t x (j + 1) s = if a j = t ∧ ¬ pc3 s = b j then 0 else sf a b t x j s := by
  rw [sf]
  by_cases h1 : a j = t
  · rw [if_pos h1, only]
    by_cases h2 : pc3 s = b j
    · rw [if_pos h2, if_neg (fun h => h.2 h2)]
    · rw [if_neg h2, if_pos ⟨h1, h2⟩]
  · rw [if_neg h1, if_neg (fun h => h1 h.1)]
theorem sf_at (a b : Nat → Nat) (t : Nat) {x y : Nat → Nat} {s : Nat} (h : x s = y s) : ∀ j, sf a b t x j s = sf a b t y j s
  | 0 => h
  | j + 1 => by rw [sf_s, sf_s, sf_at a b t h j]
set_option maxRecDepth 100000 in
set_option maxHeartbeats 4000000 in
theorem mX7_sifts_i (s : Nat → Int32) (la : Nat → Int32) (r : rT) (v : vT) (c : Nat → Nat → Int32) (l : Nat → Int32) (tn : Int32) (p : Nat → Int32) (pa : Nat → Nat → Int32) (m : Nat) (q : rT) (b : Int32) (x : Nat → Nat) (h : Nat → Nat → Int64) (t : Nat) (hm3 : m ≤ 3) (hv : vOK v) (ht : t ≤ 5) (u : Nat) (hu : u < 2 ^ m) (hk9 : J KX7_sifts 21 (fun o B => o = none ∧ B = (wM s la r v c l tn p pa m q b (sfm v m t x) h)) 2 [some (.ref 0), some (.int (nI t)), some (.int (nI (u + 1))), some (.int (nI (v 4 1)))] [] (wM s la r v c l tn p pa m q b (fun j => if j < u + 1 then sf (v 2) (v 3) t x (v 4 1) j else x j) h) 0 0) : ∀ (k9 i : Nat), i + k9 = v 4 1 → J KX7_sifts 21 (fun o B => o = none ∧ B = (wM s la r v c l tn p pa m q b (sfm v m t x) h)) 14 [some (.ref 0), some (.int (nI t)), some (.int (nI u)), some (.int (nI i))] [] (wM s la r v c l tn p pa m q b (fun j => if j = u then sf (v 2) (v 3) t x i u else if j < u then sf (v 2) (v 3) t x (v 4 1) j else x j) h) 0 0 := by
  intro k9
  induction k9 with
  | zero =>
    intro i hi
    obtain hiN : i = v 4 1 := by omega
    subst hiN
    refine J.iload_n dX7_sifts_14 rfl rfl ?_
    refine J.aload_n dX7_sifts_15 rfl rfl ?_
    refine J.mg36 dX7_sifts_16 rfl ?_
    refine J.icmp_ge (tgt := 73) dX7_sifts_19 (by decide) (fun c19 => ?_) (fun c19 => absurd c19 (fun h => h (Int32.le_refl _)))
    refine J.iinc (1) dX7_sifts_73 (by decide) rfl (by decide) rfl ?_
    try dsimp only [List.set]
    refine J.goto (tgt := 2) dX7_sifts_76 (by decide) ?_
    refine J.at hk9 (by rw [← nI_1 u] <;> rfl) rfl (congrArg (fun x9 => (wM s la r v c l tn p pa m q b x9 h)) (funext fun j => ?_))
    exact jlt_e (sf (v 2) (v 3) t x (v 4 1)) x u j
  | succ k9 ih =>
    intro i hi
    have hiN : i < v 4 1 := by omega
    by_cases h1 : v 2 i = t
    · by_cases h2 : pc3 u = v 3 i
      · skip
        refine J.iload_n dX7_sifts_14 rfl rfl ?_
        refine J.aload_n dX7_sifts_15 rfl rfl ?_
        refine J.mg36 dX7_sifts_16 rfl ?_
        refine J.icmp_ge (tgt := 73) dX7_sifts_19 (by decide) (fun c19 => absurd c19 (nI_ge (by omega) (by have := hv.2.2; omega))) (fun c19 => ?_)
        refine J.aload_n dX7_sifts_22 rfl rfl ?_
        refine J.mg28 dX7_sifts_23 rfl ?_
        refine J.iload_n dX7_sifts_26 rfl rfl ?_
        refine J.aload_n dX7_sifts_27 rfl rfl ?_
        refine J.mg35 dX7_sifts_28 rfl ?_
        refine J.iconst (2) dX7_sifts_31 (by decide) ?_
        refine J.iload_n dX7_sifts_32 rfl rfl ?_
        refine J.imul dX7_sifts_33 ?_
        refine J.ml16 (2 * i) dX7_sifts_34 (ix0 2 i) (by have := hv.2.2; omega) ?_
        rw [sn_a v i]
        refine J.iload_n dX7_sifts_35 rfl rfl ?_
        refine J.icmp_ne (tgt := 60) dX7_sifts_36 (by decide) (fun c36 => absurd c36 (fun h9 => h9 (by rw [h1] <;> rfl))) (fun c36 => ?_)
        refine J.iload_n dX7_sifts_39 rfl rfl ?_
        refine J.cs (as := [.int _]) (is := []) okX7_bitsOf jcX7_189 (mX7_bitsOf u (by have := p2_8 hm3; omega)) dX7_sifts_40 rfl rfl rfl rfl rfl rfl (fun r9 B9 hq => ?_)
        obtain ⟨rfl, rfl⟩ := hq
        refine ⟨rfl, ?_⟩
        show J _ _ _ _ _ (.int _ :: _) (wM s la r v c l tn p pa m q b (fun j => if j = u then sf (v 2) (v 3) t x i u else if j < u then sf (v 2) (v 3) t x (v 4 1) j else x j) h) _ _
        refine J.aload_n dX7_sifts_43 rfl rfl ?_
        refine J.mg35 dX7_sifts_44 rfl ?_
        refine J.iconst (2) dX7_sifts_47 (by decide) ?_
        refine J.iload_n dX7_sifts_48 rfl rfl ?_
        refine J.imul dX7_sifts_49 ?_
        refine J.iconst (1) dX7_sifts_50 (by decide) ?_
        refine J.iadd dX7_sifts_51 ?_
        refine J.ml16 (2 * i + 1) dX7_sifts_52 (ix 2 i 1) (by have := hv.2.2; omega) ?_
        rw [sn_b v i]
        refine J.icmp_eq (tgt := 60) dX7_sifts_53 (by decide) (fun c53 => ?_) (fun c53 => absurd c53 (fun h9 => h9 (by rw [h2] <;> rfl)))
        refine J.aload_n dX7_sifts_60 rfl rfl ?_
        refine J.mg28 dX7_sifts_61 rfl ?_
        refine J.iload_n dX7_sifts_64 rfl rfl ?_
        refine J.ml10 (u) dX7_sifts_65 rfl (by have := p2_8 hm3; omega) ?_
        rw [if_pos rfl]
        refine J.ms10 (u) dX7_sifts_66 rfl (by have := p2_8 hm3; omega) ?_
        try dsimp only [List.set]
        refine J.iinc (1) dX7_sifts_67 (by decide) rfl (by decide) rfl ?_
        try dsimp only [List.set]
        refine J.goto (tgt := 14) dX7_sifts_70 (by decide) ?_
        refine J.at (ih (i + 1) (by omega)) (by rw [← nI_1 i] <;> rfl) rfl (congrArg (fun x9 => (wM s la r v c l tn p pa m q b x9 h)) (funext fun j => ?_))
        by_cases e : j = u
        · rw [if_pos e, if_pos e, sf_s]
          exact if_neg (fun h9 => h9.2 h2)
        · rw [if_neg e, if_neg e, if_neg e]
      · skip
        refine J.iload_n dX7_sifts_14 rfl rfl ?_
        refine J.aload_n dX7_sifts_15 rfl rfl ?_
        refine J.mg36 dX7_sifts_16 rfl ?_
        refine J.icmp_ge (tgt := 73) dX7_sifts_19 (by decide) (fun c19 => absurd c19 (nI_ge (by omega) (by have := hv.2.2; omega))) (fun c19 => ?_)
        refine J.aload_n dX7_sifts_22 rfl rfl ?_
        refine J.mg28 dX7_sifts_23 rfl ?_
        refine J.iload_n dX7_sifts_26 rfl rfl ?_
        refine J.aload_n dX7_sifts_27 rfl rfl ?_
        refine J.mg35 dX7_sifts_28 rfl ?_
        refine J.iconst (2) dX7_sifts_31 (by decide) ?_
        refine J.iload_n dX7_sifts_32 rfl rfl ?_
        refine J.imul dX7_sifts_33 ?_
        refine J.ml16 (2 * i) dX7_sifts_34 (ix0 2 i) (by have := hv.2.2; omega) ?_
        rw [sn_a v i]
        refine J.iload_n dX7_sifts_35 rfl rfl ?_
        refine J.icmp_ne (tgt := 60) dX7_sifts_36 (by decide) (fun c36 => absurd c36 (fun h9 => h9 (by rw [h1] <;> rfl))) (fun c36 => ?_)
        refine J.iload_n dX7_sifts_39 rfl rfl ?_
        refine J.cs (as := [.int _]) (is := []) okX7_bitsOf jcX7_189 (mX7_bitsOf u (by have := p2_8 hm3; omega)) dX7_sifts_40 rfl rfl rfl rfl rfl rfl (fun r9 B9 hq => ?_)
        obtain ⟨rfl, rfl⟩ := hq
        refine ⟨rfl, ?_⟩
        show J _ _ _ _ _ (.int _ :: _) (wM s la r v c l tn p pa m q b (fun j => if j = u then sf (v 2) (v 3) t x i u else if j < u then sf (v 2) (v 3) t x (v 4 1) j else x j) h) _ _
        refine J.aload_n dX7_sifts_43 rfl rfl ?_
        refine J.mg35 dX7_sifts_44 rfl ?_
        refine J.iconst (2) dX7_sifts_47 (by decide) ?_
        refine J.iload_n dX7_sifts_48 rfl rfl ?_
        refine J.imul dX7_sifts_49 ?_
        refine J.iconst (1) dX7_sifts_50 (by decide) ?_
        refine J.iadd dX7_sifts_51 ?_
        refine J.ml16 (2 * i + 1) dX7_sifts_52 (ix 2 i 1) (by have := hv.2.2; omega) ?_
        rw [sn_b v i]
        refine J.icmp_eq (tgt := 60) dX7_sifts_53 (by decide) (fun c53 => absurd c53 (fun h9 => h2 ((nI_eqi (by have := pc3_le u; omega) (by have := hv.2.1 i; omega)).mp h9))) (fun c53 => ?_)
        refine J.lconst 0 dX7_sifts_56 (by decide) ?_
        refine J.goto (tgt := 66) dX7_sifts_57 (by decide) ?_
        rw [show (0 : Int64) = lN 0 from rfl]
        refine J.ms10 (u) dX7_sifts_66 rfl (by have := p2_8 hm3; omega) ?_
        try dsimp only [List.set]
        refine J.iinc (1) dX7_sifts_67 (by decide) rfl (by decide) rfl ?_
        try dsimp only [List.set]
        refine J.goto (tgt := 14) dX7_sifts_70 (by decide) ?_
        refine J.at (ih (i + 1) (by omega)) (by rw [← nI_1 i] <;> rfl) rfl (congrArg (fun x9 => (wM s la r v c l tn p pa m q b x9 h)) (funext fun j => ?_))
        by_cases e : j = u
        · rw [if_pos e, if_pos e, sf_s]
          exact if_pos ⟨h1, h2⟩
        · rw [if_neg e, if_neg e, if_neg e]
    · skip
      refine J.iload_n dX7_sifts_14 rfl rfl ?_
      refine J.aload_n dX7_sifts_15 rfl rfl ?_
      refine J.mg36 dX7_sifts_16 rfl ?_
      refine J.icmp_ge (tgt := 73) dX7_sifts_19 (by decide) (fun c19 => absurd c19 (nI_ge (by omega) (by have := hv.2.2; omega))) (fun c19 => ?_)
      refine J.aload_n dX7_sifts_22 rfl rfl ?_
      refine J.mg28 dX7_sifts_23 rfl ?_
      refine J.iload_n dX7_sifts_26 rfl rfl ?_
      refine J.aload_n dX7_sifts_27 rfl rfl ?_
      refine J.mg35 dX7_sifts_28 rfl ?_
      refine J.iconst (2) dX7_sifts_31 (by decide) ?_
      refine J.iload_n dX7_sifts_32 rfl rfl ?_
      refine J.imul dX7_sifts_33 ?_
      refine J.ml16 (2 * i) dX7_sifts_34 (ix0 2 i) (by have := hv.2.2; omega) ?_
      rw [sn_a v i]
      refine J.iload_n dX7_sifts_35 rfl rfl ?_
      refine J.icmp_ne (tgt := 60) dX7_sifts_36 (by decide) (fun c36 => ?_) (fun c36 => absurd c36 (fun h9 => h1 ((nI_eqi (by have := hv.1 i; omega) (by omega)).mp h9)))
      refine J.aload_n dX7_sifts_60 rfl rfl ?_
      refine J.mg28 dX7_sifts_61 rfl ?_
      refine J.iload_n dX7_sifts_64 rfl rfl ?_
      refine J.ml10 (u) dX7_sifts_65 rfl (by have := p2_8 hm3; omega) ?_
      rw [if_pos rfl]
      refine J.ms10 (u) dX7_sifts_66 rfl (by have := p2_8 hm3; omega) ?_
      try dsimp only [List.set]
      refine J.iinc (1) dX7_sifts_67 (by decide) rfl (by decide) rfl ?_
      try dsimp only [List.set]
      refine J.goto (tgt := 14) dX7_sifts_70 (by decide) ?_
      refine J.at (ih (i + 1) (by omega)) (by rw [← nI_1 i] <;> rfl) rfl (congrArg (fun x9 => (wM s la r v c l tn p pa m q b x9 h)) (funext fun j => ?_))
      by_cases e : j = u
      · rw [if_pos e, if_pos e, sf_s]
        exact if_neg (fun h9 => h1 h9.1)
      · rw [if_neg e, if_neg e, if_neg e]
set_option maxRecDepth 100000 in
set_option maxHeartbeats 4000000 in
theorem mX7_sifts_l (s : Nat → Int32) (la : Nat → Int32) (r : rT) (v : vT) (c : Nat → Nat → Int32) (l : Nat → Int32) (tn : Int32) (p : Nat → Int32) (pa : Nat → Nat → Int32) (m : Nat) (q : rT) (b : Int32) (x : Nat → Nat) (h : Nat → Nat → Int64) (t : Nat) (hm3 : m ≤ 3) (hv : vOK v) (ht : t ≤ 5) : ∀ (k9 i : Nat), i + k9 = 2 ^ m → ∀ (z3 : Option Value), J KX7_sifts 21 (fun o B => o = none ∧ B = (wM s la r v c l tn p pa m q b (sfm v m t x) h)) 2 [some (.ref 0), some (.int (nI t)), some (.int (nI i)), z3] [] (wM s la r v c l tn p pa m q b (fun j => if j < i then sf (v 2) (v 3) t x (v 4 1) j else x j) h) 0 0 := by
  intro k9
  induction k9 with
  | zero =>
    intro i hi
    obtain hiN : i = 2 ^ m := by omega
    intro z3
    subst hiN
    refine J.iload_n dX7_sifts_2 rfl rfl ?_
    refine J.iconst (1) dX7_sifts_3 (by decide) ?_
    refine J.aload_n dX7_sifts_4 rfl rfl ?_
    refine J.mg25 dX7_sifts_5 rfl ?_
    refine J.ishl dX7_sifts_8 ?_
    rw [shl_eval m (by omega)]
    refine J.icmp_ge (tgt := 79) dX7_sifts_9 (by decide) (fun c9 => ?_) (fun c9 => absurd c9 (fun h => h (Int32.le_refl _)))
    exact J.vret dX7_sifts_79 rfl (Nat.le_refl _) (Nat.le_refl _) ⟨rfl, rfl⟩
  | succ k9 ih =>
    intro i hi
    have hiN : i < 2 ^ m := by omega
    intro z3
    refine J.iload_n dX7_sifts_2 rfl rfl ?_
    refine J.iconst (1) dX7_sifts_3 (by decide) ?_
    refine J.aload_n dX7_sifts_4 rfl rfl ?_
    refine J.mg25 dX7_sifts_5 rfl ?_
    refine J.ishl dX7_sifts_8 ?_
    rw [shl_eval m (by omega)]
    refine J.icmp_ge (tgt := 79) dX7_sifts_9 (by decide) (fun c9 => absurd c9 (nI_ge (by omega) (by have := p2_8 hm3; omega))) (fun c9 => ?_)
    refine J.iconst (0) dX7_sifts_12 (by decide) ?_
    refine J.istore_n dX7_sifts_13 rfl (by decide) rfl ?_
    try dsimp only [List.set]
    refine J.at (mX7_sifts_i s la r v c l tn p pa m q b x h t hm3 hv ht i hiN (ih (i + 1) (by omega) _) (v 4 1) 0 (by omega)) rfl rfl (congrArg (fun x9 => (wM s la r v c l tn p pa m q b x9 h)) (funext fun j => ?_))
    by_cases e : j = i
    · subst e; rw [if_pos rfl, if_neg (Nat.lt_irrefl _)]; rfl
    · rw [if_neg e]
set_option maxRecDepth 100000 in
set_option maxHeartbeats 4000000 in
theorem mX7_sifts (s : Nat → Int32) (la : Nat → Int32) (r : rT) (v : vT) (c : Nat → Nat → Int32) (l : Nat → Int32) (tn : Int32) (p : Nat → Int32) (pa : Nat → Nat → Int32) (m : Nat) (q : rT) (b : Int32) (x : Nat → Nat) (h : Nat → Nat → Int64) (t : Nat) (hm3 : m ≤ 3) (hv : vOK v) (ht : t ≤ 5) : J KX7_sifts 21 (fun o B => o = none ∧ B = (wM s la r v c l tn p pa m q b (sfm v m t x) h)) 0 [some (.ref 0), some (.int (nI t)), none, none] [] (wM s la r v c l tn p pa m q b x h) 0 0 := by
  refine J.iconst (0) dX7_sifts_0 (by decide) ?_
  refine J.istore_n dX7_sifts_1 rfl (by decide) rfl ?_
  try dsimp only [List.set]
  exact J.at (mX7_sifts_l s la r v c l tn p pa m q b x h t hm3 hv ht (2 ^ m) 0 (by omega) none) rfl rfl (by rw [jlt_0])
def mli (qc : rT) (v : vT) (m : Nat) : Nat → Nat → Nat
  | 0 => sfm v m 0 (one (qc 6 0))
  | t + 1 => sfm v m (t + 1) (mh qc m t (mli qc v m t))
theorem sc.sift {c m : Nat} {X x : Nat → Nat} (h : sc c m X x) (v : vT) (t : Nat) : sc c m (sf (v 2) (v 3) t X (v 4 1)) (sfm v m t x) := by
  intro s hs
  have key : ∀ j, sf (v 2) (v 3) t X j s = if s < 2 ^ m then c * sf (v 2) (v 3) t x j s else 0 := by
    intro j
    induction j with
    | zero => exact h s hs
    | succ j ih =>
      rw [sf_s, sf_s, ih]
      by_cases h1 : v 2 j = t ∧ ¬ pc3 s = v 3 j
      · rw [if_pos h1, if_pos h1]
        simp
      · rw [if_neg h1, if_neg h1]
  rw [key, sfm]
  split <;> rfl
theorem lk_sc {qc : rT} {m : Nat} (hM : mOK qc m) (v : vT) : ∀ t, sc ((10 ^ (3 - m)) ^ t) m (sf (v 2) (v 3) t (lk qc (v 2) (v 3) (v 4 1) (qc 6 0) t) (v 4 1)) (mli qc v m t)
  | 0 => by
    have := (sc.one1 hM.2.1).sift v 0
    rw [Nat.pow_zero]
    exact this
  | t + 1 => by
    have := ((lk_sc hM v t).step hM.2.2 qc t).sift v (t + 1)
    rw [← Nat.pow_succ] at this
    exact this
theorem sf_no (a b : Nat → Nat) (t : Nat) (x : Nat → Nat) : ∀ j, (∀ i, i < j → a i ≠ t) → sf a b t x j = x
  | 0, _ => rfl
  | j + 1, h => by rw [sf, if_neg (h j (Nat.lt_succ_self j)), sf_no a b t x j (fun i hi => h i (Nat.lt_succ_of_lt hi))]
theorem mxs_ge (a : Nat → Nat) : ∀ {n i : Nat}, i < n → a i ≤ mxs a n
  | 0, i, h => absurd h (Nat.not_lt_zero i)
  | n + 1, i, h => by
    rw [mxs]
    by_cases e : i = n
    · subst e; omega
    · have := mxs_ge a (show i < n by omega)
      omega
theorem lk_on (qc : rT) (a b : Nat → Nat) (M w : Nat) : ∀ d, sm (sf a b (mxs a M + d) (lk qc a b M w (mxs a M + d)) M) 8 = 1000 ^ d * lkA qc a b M w
  | 0 => by rw [Nat.pow_zero, Nat.one_mul]; rfl
  | d + 1 => by
    have ih := lk_on qc a b M w d
    rw [sf_no a b (mxs a M + (d + 1)) _ M (fun i hi => by have := mxs_ge a hi; omega), ← Nat.add_assoc, lk, acc_sum _ _ _ 8 (Nat.le_refl _), ih, Nat.pow_succ]
    simp only [Nat.mul_assoc, Nat.mul_comm, Nat.mul_left_comm]
theorem mli_e {v : vT} (hv : vOK v) {r : rT} (h : rOK r) {kd m : Nat} (hd : kd ≤ 4) (hm : m ≤ 3) : (10 ^ (3 - m)) ^ 5 * sm (mli (nqq kd m (r 6 4)) v m 5) (2 ^ m) = 1000 ^ (5 - mxs (v 2) (v 4 1)) * lkR v r kd m := by
  have hM : mOK (nqq kd m (r 6 4)) m := mnew_ok hd hm h.2.2.2.2.2.1
  have h1 := (lk_sc hM v 5).all hm
  have h2 := lk_on (nqq kd m (r 6 4)) (v 2) (v 3) (v 4 1) (2 ^ m - 1) (5 - mxs (v 2) (v 4 1))
  rw [show mxs (v 2) (v 4 1) + (5 - mxs (v 2) (v 4 1)) = 5 by have := mxs_le hv.1 (v 4 1); omega] at h2
  exact h1.symm.trans h2
theorem mli_le {v : vT} (hv : vOK v) {r : rT} (h : rOK r) {kd m : Nat} (hd : kd ≤ 4) (hm : m ≤ 3) : (10 ^ (3 - m)) ^ 5 * sm (mli (nqq kd m (r 6 4)) v m 5) (2 ^ m) ≤ 1000000000000000 := by
  rw [mli_e hv h hd hm]
  have h1 := (lkR_le hv r kd hm).1
  have h2 := Nat.mul_le_mul_left (1000 ^ (5 - mxs (v 2) (v 4 1))) h1
  rw [← Nat.pow_add, show 5 - mxs (v 2) (v 4 1) + mxs (v 2) (v 4 1) = 5 by have := mxs_le hv.1 (v 4 1); omega] at h2
  exact h2
theorem mli_le1 {v : vT} (hv : vOK v) {r : rT} (h : rOK r) {kd m : Nat} (hd : kd ≤ 4) (hm : m ≤ 3) : sm (mli (nqq kd m (r 6 4)) v m 5) (2 ^ m) ≤ 1000000000000000 := Nat.le_trans (Nat.le_mul_of_pos_left _ (c_pos m 5)) (mli_le hv h hd hm)
theorem likelyE {v : vT} (hv : vOK v) {r : rT} (h : rOK r) {kd m : Nat} (hd : kd ≤ 4) (hm : m ≤ 3) (wh : Int32) : lowT ((sm (mli (nqq kd m (r 6 4)) v m 5) (2 ^ m) : Nat) : Int) (10 ^ (m * 5)) wh = lowT ((lkR v r kd m : Nat) : Int) (1000 ^ (mxs (v 2) (v 4 1))) wh := by
  rw [← lowT_n (c_pos m 5), mli_e hv h hd hm, p10_c hm 5, ← lowT_n (c := 1000 ^ (5 - mxs (v 2) (v 4 1))) (Nat.pow_pos (by decide)) (lkR v r kd m), ← Nat.pow_add, show 5 - mxs (v 2) (v 4 1) + mxs (v 2) (v 4 1) = 5 by have := mxs_le hv.1 (v 4 1); omega]
set_option maxRecDepth 100000 in
set_option maxHeartbeats 4000000 in
theorem mX7_likeliness_s (s : Nat → Int32) (la : Nat → Int32) (r : rT) (v : vT) (c : Nat → Nat → Int32) (l : Nat → Int32) (tn : Int32) (p : Nat → Int32) (pa : Nat → Nat → Int32) (m : Nat) (q : rT) (b : Int32) (x : Nat → Nat) (h : Nat → Nat → Int64) (kd k : Nat) (hd : kd ≤ 4) (hk : k ≤ 3) (hv : vOK v) (hS : mS s r) (hr : rOK r) : ∀ (k9 i : Nat), i + k9 = 2 ^ k → J KX7_likeliness 21 (fun o B => o = some (.long (lN (sm (mli (nqq kd k (r 6 4)) v k 5) (2 ^ k)))) ∧ ∃ q9 x9 h9, B = (wM s la r v c l tn p pa k q9 b x9 h9)) 45 [some (.ref 0), some (.int (nI kd)), some (.int (nI k)), some (.long (lN (sm (mli (nqq kd k (r 6 4)) v k 5) i))), none, some (.int (nI i))] [] (wM s la r v c l tn p pa k (mnew q kd k (r 6 4) k) b (mli (nqq kd k (r 6 4)) v k 5) h) 0 0 := by
  intro k9
  induction k9 with
  | zero =>
    intro i hi
    obtain hiN : i = 2 ^ k := by omega
    subst hiN
    refine J.iload dX7_likeliness_45 rfl ?_
    refine J.iconst (1) dX7_likeliness_47 (by decide) ?_
    refine J.iload_n dX7_likeliness_48 rfl rfl ?_
    refine J.ishl dX7_likeliness_49 ?_
    rw [shl_eval k (by omega)]
    refine J.icmp_ge (tgt := 69) dX7_likeliness_50 (by decide) (fun c50 => ?_) (fun c50 => absurd c50 (fun h => h (Int32.le_refl _)))
    refine J.lload_n dX7_likeliness_69 rfl rfl ?_
    exact J.lret dX7_likeliness_70 rfl (Nat.le_refl _) (Nat.le_refl _) ⟨rfl, _, _, _, rfl⟩
  | succ k9 ih =>
    intro i hi
    have hiN : i < 2 ^ k := by omega
    refine J.iload dX7_likeliness_45 rfl ?_
    refine J.iconst (1) dX7_likeliness_47 (by decide) ?_
    refine J.iload_n dX7_likeliness_48 rfl rfl ?_
    refine J.ishl dX7_likeliness_49 ?_
    rw [shl_eval k (by omega)]
    refine J.icmp_ge (tgt := 69) dX7_likeliness_50 (by decide) (fun c50 => absurd c50 (nI_ge (by omega) (by have := p2_8 hk; omega))) (fun c50 => ?_)
    refine J.lload_n dX7_likeliness_53 rfl rfl ?_
    refine J.aload_n dX7_likeliness_54 rfl rfl ?_
    refine J.mg28 dX7_likeliness_55 rfl ?_
    refine J.iload dX7_likeliness_58 rfl ?_
    refine J.ml10 (i) dX7_likeliness_60 rfl (by have := p2_8 hk; omega) ?_
    refine J.ladd dX7_likeliness_61 ?_
    rw [lN_add]
    refine J.lstore_n dX7_likeliness_62 rfl (by decide) rfl ?_
    try dsimp only [List.set]
    refine J.iinc (1) dX7_likeliness_63 (by decide) rfl (by decide) rfl ?_
    try dsimp only [List.set]
    refine J.goto (tgt := 45) dX7_likeliness_66 (by decide) ?_
    exact J.at (ih (i + 1) (by omega)) (by rw [← nI_1 i] <;> rfl) rfl rfl
set_option maxRecDepth 100000 in
set_option maxHeartbeats 4000000 in
theorem mX7_likeliness_t (s : Nat → Int32) (la : Nat → Int32) (r : rT) (v : vT) (c : Nat → Nat → Int32) (l : Nat → Int32) (tn : Int32) (p : Nat → Int32) (pa : Nat → Nat → Int32) (m : Nat) (q : rT) (b : Int32) (x : Nat → Nat) (kd k : Nat) (hd : kd ≤ 4) (hk : k ≤ 3) (hv : vOK v) (hS : mS s r) (hr : rOK r) : ∀ (k9 i : Nat), i + k9 = 5 → ∀ (h : Nat → Nat → Int64), J KX7_likeliness 21 (fun o B => o = some (.long (lN (sm (mli (nqq kd k (r 6 4)) v k 5) (2 ^ k)))) ∧ ∃ q9 x9 h9, B = (wM s la r v c l tn p pa k q9 b x9 h9)) 17 [some (.ref 0), some (.int (nI kd)), some (.int (nI k)), some (.int (nI i)), none, none] [] (wM s la r v c l tn p pa k (mnew q kd k (r 6 4) k) b (mli (nqq kd k (r 6 4)) v k i) h) 0 0 := by
  intro k9
  induction k9 with
  | zero =>
    intro i hi
    obtain hiN : i = 5 := by omega
    intro h
    subst hiN
    refine J.iload_n dX7_likeliness_17 rfl rfl ?_
    refine J.iconst (5) dX7_likeliness_18 (by decide) ?_
    refine J.icmp_ge (tgt := 40) dX7_likeliness_19 (by decide) (fun c19 => ?_) (fun c19 => absurd c19 (fun h => h (by decide)))
    refine J.lconst 0 dX7_likeliness_40 (by decide) ?_
    refine J.lstore_n dX7_likeliness_41 rfl (by decide) rfl ?_
    try dsimp only [List.set]
    refine J.iconst (0) dX7_likeliness_42 (by decide) ?_
    refine J.istore dX7_likeliness_43 (by decide) rfl ?_
    try dsimp only [List.set]
    exact J.at (mX7_likeliness_s s la r v c l tn p pa m q b x h kd k hd hk hv hS hr (2 ^ k) 0 (by omega)) rfl rfl rfl
  | succ k9 ih =>
    intro i hi
    have hiN : i < 5 := by omega
    intro h
    refine J.iload_n dX7_likeliness_17 rfl rfl ?_
    refine J.iconst (5) dX7_likeliness_18 (by decide) ?_
    refine J.icmp_ge (tgt := 40) dX7_likeliness_19 (by decide) (fun c19 => absurd c19 (nI_ge (b := 5) (by omega) (by omega))) (fun c19 => ?_)
    refine J.aload_n dX7_likeliness_22 rfl rfl ?_
    refine J.iload_n dX7_likeliness_23 rfl rfl ?_
    refine J.cvM (as := [.int _]) s la r v c l tn p pa k (mnew q kd k (r 6 4) k) b (mli (nqq kd k (r 6 4)) v k i) h okX7_hourOn jcX7_226 (mX7_hourOn s la r v c l tn p pa k (mnew q kd k (r 6 4) k) b (mli (nqq kd k (r 6 4)) v k i) h (nqq kd k (r 6 4)) (mnew_q q kd k (r 6 4)) (mnew_ok hd hk hr.2.2.2.2.2.1) i (by omega)) dX7_likeliness_24 rfl rfl rfl rfl (fun r9 B9 hq9 => ?_)
    obtain ⟨rfl, h9, rfl⟩ := hq9
    refine ⟨_, _, _, _, _, _, _, _, _, _, _, _, _, _, rfl, ?_⟩
    show J _ _ _ _ _ [] (wM s la r v c l tn p pa k (mnew q kd k (r 6 4) k) b (mh (nqq kd k (r 6 4)) k i (mli (nqq kd k (r 6 4)) v k i)) h9) _ _
    refine J.aload_n dX7_likeliness_27 rfl rfl ?_
    refine J.iload_n dX7_likeliness_28 rfl rfl ?_
    refine J.iconst (1) dX7_likeliness_29 (by decide) ?_
    refine J.iadd dX7_likeliness_30 ?_
    rw [nI_1 i]
    refine J.cvM (as := [.int _]) s la r v c l tn p pa k (mnew q kd k (r 6 4) k) b (mh (nqq kd k (r 6 4)) k i (mli (nqq kd k (r 6 4)) v k i)) h9 okX7_sifts jcX7_273 (mX7_sifts s la r v c l tn p pa k (mnew q kd k (r 6 4) k) b (mh (nqq kd k (r 6 4)) k i (mli (nqq kd k (r 6 4)) v k i)) h9 (i + 1) hk hv (by omega)) dX7_likeliness_31 rfl rfl rfl rfl (fun r9 B9 hq9 => ?_)
    obtain ⟨rfl, rfl⟩ := hq9
    refine ⟨_, _, _, _, _, _, _, _, _, _, _, _, _, _, rfl, ?_⟩
    show J _ _ _ _ _ [] (wM s la r v c l tn p pa k (mnew q kd k (r 6 4) k) b (mli (nqq kd k (r 6 4)) v k (i + 1)) h9) _ _
    refine J.iinc (1) dX7_likeliness_34 (by decide) rfl (by decide) rfl ?_
    try dsimp only [List.set]
    refine J.goto (tgt := 17) dX7_likeliness_37 (by decide) ?_
    exact J.at (ih (i + 1) (by omega) h9) (by rw [← nI_1 i] <;> rfl) rfl rfl
set_option maxRecDepth 100000 in
set_option maxHeartbeats 4000000 in
theorem mX7_likeliness (s : Nat → Int32) (la : Nat → Int32) (r : rT) (v : vT) (c : Nat → Nat → Int32) (l : Nat → Int32) (tn : Int32) (p : Nat → Int32) (pa : Nat → Nat → Int32) (m : Nat) (q : rT) (b : Int32) (x : Nat → Nat) (h : Nat → Nat → Int64) (kd k : Nat) (hd : kd ≤ 4) (hk : k ≤ 3) (hv : vOK v) (hS : mS s r) (hr : rOK r) : J KX7_likeliness 21 (fun o B => o = some (.long (lN (sm (mli (nqq kd k (r 6 4)) v k 5) (2 ^ k)))) ∧ ∃ q9 x9 h9, B = (wM s la r v c l tn p pa k q9 b x9 h9)) 0 [some (.ref 0), some (.int (nI kd)), some (.int (nI k)), none, none, none] [] (wM s la r v c l tn p pa m q b x h) 0 0 := by
  refine J.aload_n dX7_likeliness_0 rfl rfl ?_
  refine J.iload_n dX7_likeliness_1 rfl rfl ?_
  refine J.iload_n dX7_likeliness_2 rfl rfl ?_
  refine J.cvM (as := [.int _, .int _]) s la r v c l tn p pa m q b x h okX7_laysNew jcX7_256 (mX7_laysNew s la r v c l tn p pa m q b x h kd k hk hS) dX7_likeliness_3 rfl rfl rfl rfl (fun r9 B9 hq9 => ?_)
  obtain ⟨rfl, rfl⟩ := hq9
  refine ⟨_, _, _, _, _, _, _, _, _, _, _, _, _, _, rfl, ?_⟩
  show J _ _ _ _ _ [] (wM s la r v c l tn p pa k (mnew q kd k (r 6 4) k) b x h) _ _
  refine J.aload_n dX7_likeliness_6 rfl rfl ?_
  refine J.cvM (as := []) s la r v c l tn p pa k (mnew q kd k (r 6 4) k) b x h okX7_begins jcX7_223 (mX7_begins s la r v c l tn p pa k (mnew q kd k (r 6 4) k) b x h (by rw [(mnew_E q kd k (r 6 4) k).2.1]; exact m2_lt k (by omega))) dX7_likeliness_7 rfl rfl rfl rfl (fun r9 B9 hq9 => ?_)
  obtain ⟨rfl, rfl⟩ := hq9
  refine ⟨_, _, _, _, _, _, _, _, _, _, _, _, _, _, rfl, ?_⟩
  show J _ _ _ _ _ [] (wM s la r v c l tn p pa k (mnew q kd k (r 6 4) k) b (one ((mnew q kd k (r 6 4) k) 6 0)) h) _ _
  refine J.aload_n dX7_likeliness_10 rfl rfl ?_
  refine J.iconst (0) dX7_likeliness_11 (by decide) ?_
  refine J.cvM (as := [.int _]) s la r v c l tn p pa k (mnew q kd k (r 6 4) k) b (one ((mnew q kd k (r 6 4) k) 6 0)) h okX7_sifts jcX7_273 (mX7_sifts s la r v c l tn p pa k (mnew q kd k (r 6 4) k) b (one ((mnew q kd k (r 6 4) k) 6 0)) h 0 hk hv (by decide)) dX7_likeliness_12 rfl rfl rfl rfl (fun r9 B9 hq9 => ?_)
  obtain ⟨rfl, rfl⟩ := hq9
  refine ⟨_, _, _, _, _, _, _, _, _, _, _, _, _, _, rfl, ?_⟩
  show J _ _ _ _ _ [] (wM s la r v c l tn p pa k (mnew q kd k (r 6 4) k) b (sfm v k 0 (one ((mnew q kd k (r 6 4) k) 6 0))) h) _ _
  rw [(mnew_E q kd k (r 6 4) k).2.1]
  refine J.iconst (0) dX7_likeliness_15 (by decide) ?_
  refine J.istore_n dX7_likeliness_16 rfl (by decide) rfl ?_
  try dsimp only [List.set]
  exact J.at (mX7_likeliness_t s la r v c l tn p pa m q b x kd k hd hk hv hS hr 5 0 (by omega) h) rfl rfl rfl
set_option maxRecDepth 100000 in
set_option maxHeartbeats 4000000 in
theorem mX7_likely (s : Nat → Int32) (la : Nat → Int32) (r : rT) (v : vT) (c : Nat → Nat → Int32) (l : Nat → Int32) (tn : Int32) (p : Nat → Int32) (pa : Nat → Nat → Int32) (m : Nat) (q : rT) (b : Int32) (x : Nat → Nat) (h : Nat → Nat → Int64) (kd k : Nat) (hd : kd ≤ 4) (hk1 : 1 ≤ k) (hk : k ≤ 3) (wh : Int32) (hw : 0 ≤ wh ∧ wh ≤ 1) (hv : vOK v) (hS : mS s r) (hr : rOK r) : J KX7_likely 21 (fun o B => o = some (.long (lowT ((lkR v r kd k : Nat) : Int) (1000 ^ (mxs (v 2) (v 4 1))) wh)) ∧ ∃ m9 q9 b9 x9 h9, B = (wM s la r v c l tn p pa m9 q9 b9 x9 h9)) 0 [some (.ref 0), some (.int (nI kd)), some (.int (nI k)), some (.int wh)] [] (wM s la r v c l tn p pa m q b x h) 0 0 := by
  refine J.iload_n dX7_likely_0 rfl rfl ?_
  refine J.i2l dX7_likely_1 ?_
  refine J.lconst 0 dX7_likely_2 (by decide) ?_
  refine J.ldc2 (v := 4) dX7_likely_3 (jt 947 rfl rfl) ?_
  refine J.cs (as := [.long _, .long _, .long _]) (is := []) okX7_in jcX7_74 (mX7_inI (nI kd) 0 4 (by decide) (by decide)) dX7_likely_6 rfl rfl rfl rfl rfl rfl (fun r9 B9 hq => ?_)
  obtain ⟨rfl, rfl⟩ := hq
  refine ⟨rfl, ?_⟩
  show J _ _ _ _ _ (.int _ :: _) (wM s la r v c l tn p pa m q b x h) _ _
  refine J.if_eq (tgt := 34) dX7_likely_9 (by decide) (fun c9 => absurd c9 (fun h => (jB_0 _).mp h (jw (a := 0) (c := 4) (by decide) (Nat.zero_le _) hd))) (fun c9 => ?_)
  refine J.iload_n dX7_likely_12 rfl rfl ?_
  refine J.i2l dX7_likely_13 ?_
  refine J.lconst 1 dX7_likely_14 (by decide) ?_
  refine J.ldc2 (v := 3) dX7_likely_15 (jt 946 rfl rfl) ?_
  refine J.cs (as := [.long _, .long _, .long _]) (is := []) okX7_in jcX7_74 (mX7_inI (nI k) 1 3 (by decide) (by decide)) dX7_likely_18 rfl rfl rfl rfl rfl rfl (fun r9 B9 hq => ?_)
  obtain ⟨rfl, rfl⟩ := hq
  refine ⟨rfl, ?_⟩
  show J _ _ _ _ _ (.int _ :: _) (wM s la r v c l tn p pa m q b x h) _ _
  refine J.if_eq (tgt := 34) dX7_likely_21 (by decide) (fun c21 => absurd c21 (fun h => (jB_0 _).mp h (jw (a := 1) (c := 3) (by decide) hk1 hk))) (fun c21 => ?_)
  refine J.iload_n dX7_likely_24 rfl rfl ?_
  refine J.i2l dX7_likely_25 ?_
  refine J.lconst 0 dX7_likely_26 (by decide) ?_
  refine J.lconst 1 dX7_likely_27 (by decide) ?_
  refine J.cs (as := [.long _, .long _, .long _]) (is := []) okX7_in jcX7_74 (mX7_inI wh 0 1 (by decide) (by decide)) dX7_likely_28 rfl rfl rfl rfl rfl rfl (fun r9 B9 hq => ?_)
  obtain ⟨rfl, rfl⟩ := hq
  refine ⟨rfl, ?_⟩
  show J _ _ _ _ _ (.int _ :: _) (wM s la r v c l tn p pa m q b x h) _ _
  refine J.if_ne (tgt := 38) dX7_likely_31 (by decide) (fun c31 => ?_) (fun c31 => absurd c31 (fun h => (jB_0 _).mp h hw))
  refine J.aload_n dX7_likely_38 rfl rfl ?_
  refine J.iload_n dX7_likely_39 rfl rfl ?_
  refine J.iload_n dX7_likely_40 rfl rfl ?_
  refine J.cvM (as := [.int _, .int _]) s la r v c l tn p pa m q b x h okX7_likeliness jcX7_276 (mX7_likeliness s la r v c l tn p pa m q b x h kd k hd hk hv hS hr) dX7_likely_41 rfl rfl rfl rfl (fun r9 B9 hq9 => ?_)
  obtain ⟨rfl, q9, x9, h9, rfl⟩ := hq9
  refine ⟨_, _, _, _, _, _, _, _, _, _, _, _, _, _, rfl, ?_⟩
  show J _ _ _ _ _ (.long _ :: _) (wM s la r v c l tn p pa k q9 b x9 h9) _ _
  refine J.iload_n dX7_likely_44 rfl rfl ?_
  refine J.iconst (5) dX7_likely_45 (by decide) ?_
  refine J.imul dX7_likely_46 ?_
  rw [show (5 : Int32) = nI 5 from rfl, ix0 k 5]
  refine J.cs (as := [.int _]) (is := []) okX7_tens jcX7_232 (mX7_tens (k * 5) (by omega)) dX7_likely_47 rfl rfl rfl rfl rfl rfl (fun r9 B9 hq => ?_)
  obtain ⟨rfl, rfl⟩ := hq
  refine ⟨rfl, ?_⟩
  show J _ _ _ _ _ (.long _ :: _) (wM s la r v c l tn p pa k q9 b x9 h9) _ _
  refine J.iload_n dX7_likely_50 rfl rfl ?_
  refine J.cs (as := [.long _, .long _, .int _]) (is := []) okX7_lowest jcX7_244 (mX7_lowestN (sm (mli (nqq kd k (r 6 4)) v k 5) (2 ^ k)) (10 ^ (k * 5)) wh (by have := mli_le1 hv hr hd hk; omega) (by have := ten_10 hk (Nat.le_refl 5); omega) (by have := ten_10 hk (Nat.le_refl 5); omega)) dX7_likely_51 rfl rfl rfl rfl rfl rfl (fun r9 B9 hq => ?_)
  obtain ⟨rfl, rfl⟩ := hq
  refine ⟨rfl, ?_⟩
  show J _ _ _ _ _ (.long _ :: _) (wM s la r v c l tn p pa k q9 b x9 h9) _ _
  exact J.lret dX7_likely_54 rfl (Nat.le_refl _) (Nat.le_refl _) ⟨congrArg (fun z => some (Value.long z)) (likelyE hv hr hd hk wh), _, _, _, _, _, rfl⟩
set_option maxRecDepth 100000 in
set_option maxHeartbeats 4000000 in
theorem mX7_likely_bad (s : Nat → Int32) (la : Nat → Int32) (r : rT) (v : vT) (c : Nat → Nat → Int32) (l : Nat → Int32) (tn : Int32) (p : Nat → Int32) (pa : Nat → Nat → Int32) (m : Nat) (q : rT) (b : Int32) (x : Nat → Nat) (h : Nat → Nat → Int64) (kd k wh : Int32) (hb : ¬ (0 ≤ kd ∧ kd ≤ 4) ∨ ¬ (1 ≤ k ∧ k ≤ 3) ∨ ¬ (0 ≤ wh ∧ wh ≤ 1)) : J KX7_likely 21 (fun o B => o = some (.long (-1)) ∧ B = (wM s la r v c l tn p pa m q b x h)) 0 [some (.ref 0), some (.int kd), some (.int k), some (.int wh)] [] (wM s la r v c l tn p pa m q b x h) 0 0 := by
  refine J.iload_n dX7_likely_0 rfl rfl ?_
  refine J.i2l dX7_likely_1 ?_
  refine J.lconst 0 dX7_likely_2 (by decide) ?_
  refine J.ldc2 (v := 4) dX7_likely_3 (jt 947 rfl rfl) ?_
  refine J.cs (as := [.long _, .long _, .long _]) (is := []) okX7_in jcX7_74 (mX7_inI kd 0 4 (by decide) (by decide)) dX7_likely_6 rfl rfl rfl rfl rfl rfl (fun r9 B9 hq => ?_)
  obtain ⟨rfl, rfl⟩ := hq
  refine ⟨rfl, ?_⟩
  show J _ _ _ _ _ (.int _ :: _) (wM s la r v c l tn p pa m q b x h) _ _
  refine J.if_eq (tgt := 34) dX7_likely_9 (by decide) (fun c9 => ?_) (fun c9 => ?_)
  · refine J.ldc2 (v := -1) dX7_likely_34 (jt 1049 rfl rfl) ?_
    exact J.lret dX7_likely_37 rfl (Nat.le_refl _) (Nat.le_refl _) ⟨rfl, rfl⟩
  · refine J.iload_n dX7_likely_12 rfl rfl ?_
    refine J.i2l dX7_likely_13 ?_
    refine J.lconst 1 dX7_likely_14 (by decide) ?_
    refine J.ldc2 (v := 3) dX7_likely_15 (jt 946 rfl rfl) ?_
    refine J.cs (as := [.long _, .long _, .long _]) (is := []) okX7_in jcX7_74 (mX7_inI k 1 3 (by decide) (by decide)) dX7_likely_18 rfl rfl rfl rfl rfl rfl (fun r9 B9 hq => ?_)
    obtain ⟨rfl, rfl⟩ := hq
    refine ⟨rfl, ?_⟩
    show J _ _ _ _ _ (.int _ :: _) (wM s la r v c l tn p pa m q b x h) _ _
    refine J.if_eq (tgt := 34) dX7_likely_21 (by decide) (fun c21 => ?_) (fun c21 => ?_)
    · refine J.ldc2 (v := -1) dX7_likely_34 (jt 1049 rfl rfl) ?_
      exact J.lret dX7_likely_37 rfl (Nat.le_refl _) (Nat.le_refl _) ⟨rfl, rfl⟩
    · refine J.iload_n dX7_likely_24 rfl rfl ?_
      refine J.i2l dX7_likely_25 ?_
      refine J.lconst 0 dX7_likely_26 (by decide) ?_
      refine J.lconst 1 dX7_likely_27 (by decide) ?_
      refine J.cs (as := [.long _, .long _, .long _]) (is := []) okX7_in jcX7_74 (mX7_inI wh 0 1 (by decide) (by decide)) dX7_likely_28 rfl rfl rfl rfl rfl rfl (fun r9 B9 hq => ?_)
      obtain ⟨rfl, rfl⟩ := hq
      refine ⟨rfl, ?_⟩
      show J _ _ _ _ _ (.int _ :: _) (wM s la r v c l tn p pa m q b x h) _ _
      refine J.if_ne (tgt := 38) dX7_likely_31 (by decide) (fun c31 => absurd c31 (fun h => h ((jB_0 _).mpr (fun hC => (fun h => h.elim (fun h => h (Decidable.not_not.mp (fun h9 => c9 ((jB_0 _).mpr h9)))) (fun h => h.elim (fun h => h (Decidable.not_not.mp (fun h9 => c21 ((jB_0 _).mpr h9)))) (fun h => h hC))) hb)))) (fun c31 => ?_)
      refine J.ldc2 (v := -1) dX7_likely_34 (jt 1049 rfl rfl) ?_
      exact J.lret dX7_likely_37 rfl (Nat.le_refl _) (Nat.le_refl _) ⟨rfl, rfl⟩
theorem gu_m (v : vT) (r : rT) (L : Nat) (hL : 0 < L) : ∀ c, ∀ x y : Nat, x = L * (gu v r c).1 → y = L * lkR v r (c / 3) (c % 3 + 1) → (x < y ↔ (gu v r c).1 < lkR v r (c / 3) (c % 3 + 1)) := by
  intro c x y hx hy
  rw [hx, hy]
  exact Nat.mul_lt_mul_left hL
theorem d3 {c : Nat} (h : c < 1000) : nI c / 3 = nI (c / 3) ∧ nI c - nI c / 3 * 3 = nI (c % 3) := ⟨pk_div (d := 3) (by omega) (by decide) (by decide), pk_rem (d := 3) (by omega) (by decide) (by decide)⟩
theorem guessE {v : vT} (hv : vOK v) (r : rT) (wh : Int32) : guessA v r wh = if (gu v r 15).2 = -4 ∨ wh = 0 then (gu v r 15).2.toInt64 else lowT ((1000 ^ (5 - mxs (v 2) (v 4 1)) * (gu v r 15).1 : Nat) : Int) (10 ^ 15) (wh - 1) := by
  rw [guessA, show (10 : Nat) ^ 15 = 1000 ^ (5 - mxs (v 2) (v 4 1)) * 1000 ^ mxs (v 2) (v 4 1) from by rw [← Nat.pow_add, show 5 - mxs (v 2) (v 4 1) + mxs (v 2) (v 4 1) = 5 by have := mxs_le hv.1 (v 4 1); omega], lowT_n (Nat.pow_pos (by decide))]
  by_cases h1 : (gu v r 15).2 = -4 ∨ wh = 0
  · rw [if_pos h1, if_pos h1.symm]
  · rw [if_neg h1, if_neg (fun h9 => h1 h9.symm)]
theorem gu_b {v : vT} (hv : vOK v) (r : rT) (c : Nat) : 1000 ^ (5 - mxs (v 2) (v 4 1)) * (gu v r c).1 ≤ 1000000000000000 := by
  have h1 := Nat.mul_le_mul_left (1000 ^ (5 - mxs (v 2) (v 4 1))) (gu_le hv r c)
  rw [← Nat.pow_add, show 5 - mxs (v 2) (v 4 1) + mxs (v 2) (v 4 1) = 5 by have := mxs_le hv.1 (v 4 1); omega] at h1
  exact h1
theorem lk_b {v : vT} (hv : vOK v) (r : rT) (kd : Nat) {m : Nat} (hm : m ≤ 3) : 1000 ^ (5 - mxs (v 2) (v 4 1)) * lkR v r kd m ≤ 1000000000000000 := by
  have h1 := Nat.mul_le_mul_left (1000 ^ (5 - mxs (v 2) (v 4 1))) (lkR_le hv r kd hm).1
  rw [← Nat.pow_add, show 5 - mxs (v 2) (v 4 1) + mxs (v 2) (v 4 1) = 5 by have := mxs_le hv.1 (v 4 1); omega] at h1
  exact h1
set_option maxRecDepth 100000 in
set_option maxHeartbeats 4000000 in
theorem mX7_guess_l (s : Nat → Int32) (la : Nat → Int32) (r : rT) (v : vT) (c : Nat → Nat → Int32) (l : Nat → Int32) (tn : Int32) (p : Nat → Int32) (pa : Nat → Nat → Int32) (b : Int32) (wh : Int32) (hw : 0 ≤ wh ∧ wh ≤ 2) (hv : vOK v) (hS : mS s r) (hr : rOK r) : ∀ (k9 i : Nat), i + k9 = 15 → ∀ (z6 z7 z8 : Option Value) (m : Nat) (q : rT) (x : Nat → Nat) (h : Nat → Nat → Int64), J KX7_guess 21 (fun o B => o = some (.long (guessA v r wh)) ∧ ∃ m9 q9 b9 x9 h9, B = (wM s la r v c l tn p pa m9 q9 b9 x9 h9)) 25 [some (.ref 0), some (.int wh), some (.long (lN (1000 ^ (5 - mxs (v 2) (v 4 1)) * (gu v r i).1))), none, some (.int (gu v r i).2), some (.int (nI i)), z6, z7, z8] [] (wM s la r v c l tn p pa m q b x h) 0 0 := by
  intro k9
  induction k9 with
  | zero =>
    intro i hi
    obtain hiN : i = 15 := by omega
    intro z6 z7 z8 m q x h
    subst hiN
    refine J.iload dX7_guess_25 rfl ?_
    refine J.bipush (15) dX7_guess_27 (by decide) ?_
    refine J.icmp_ge (tgt := 106) dX7_guess_29 (by decide) (fun c29 => ?_) (fun c29 => absurd c29 (fun h => h (by decide)))
    refine J.iload dX7_guess_106 rfl ?_
    refine J.bipush (-4) dX7_guess_108 (by decide) ?_
    refine J.icmp_eq (tgt := 117) dX7_guess_110 (by decide) (fun c110 => ?_) (fun c110 => ?_)
    · refine J.iload dX7_guess_117 rfl ?_
      refine J.i2l dX7_guess_119 ?_
      refine J.goto (tgt := 135) dX7_guess_120 (by decide) ?_
      first
      | exact J.lret dX7_guess_135 rfl (Nat.le_refl _) (Nat.le_refl _) ⟨congrArg (fun z => some (Value.long z)) (by rw [guessE hv r wh, if_pos (Or.inl c110)] <;> rfl), _, _, _, _, _, rfl⟩
      | exact J.lret dX7_guess_135 rfl (Nat.le_refl _) (Nat.le_refl _) ⟨congrArg (fun z => some (Value.long z)) (by rw [guessE hv r wh, if_pos (Or.inr c114)] <;> rfl), _, _, _, _, _, rfl⟩
      | exact J.lret dX7_guess_135 rfl (Nat.le_refl _) (Nat.le_refl _) ⟨congrArg (fun z => some (Value.long z)) (by rw [guessE hv r wh, if_neg (fun h9 => h9.elim c110 c114)] <;> rfl), _, _, _, _, _, rfl⟩
    · refine J.iload_n dX7_guess_113 rfl rfl ?_
      refine J.if_ne (tgt := 123) dX7_guess_114 (by decide) (fun c114 => ?_) (fun c114 => ?_)
      · refine J.lload_n dX7_guess_123 rfl rfl ?_
        refine J.bipush (15) dX7_guess_124 (by decide) ?_
        refine J.cs (as := [.int _]) (is := []) okX7_tens jcX7_232 (mX7_tens 15 (by decide)) dX7_guess_126 rfl rfl rfl rfl rfl rfl (fun r9 B9 hq => ?_)
        obtain ⟨rfl, rfl⟩ := hq
        refine ⟨rfl, ?_⟩
        show J _ _ _ _ _ (.long _ :: _) (wM s la r v c l tn p pa m q b x h) _ _
        refine J.iload_n dX7_guess_129 rfl rfl ?_
        refine J.iconst (1) dX7_guess_130 (by decide) ?_
        refine J.isub dX7_guess_131 ?_
        refine J.cs (as := [.long _, .long _, .int _]) (is := []) okX7_lowest jcX7_244 (mX7_lowestN (1000 ^ (5 - mxs (v 2) (v 4 1)) * (gu v r 15).1) (10 ^ 15) (wh - 1) (by have := gu_b hv r 15; omega) (by decide) (by decide)) dX7_guess_132 rfl rfl rfl rfl rfl rfl (fun r9 B9 hq => ?_)
        obtain ⟨rfl, rfl⟩ := hq
        refine ⟨rfl, ?_⟩
        show J _ _ _ _ _ (.long _ :: _) (wM s la r v c l tn p pa m q b x h) _ _
        first
        | exact J.lret dX7_guess_135 rfl (Nat.le_refl _) (Nat.le_refl _) ⟨congrArg (fun z => some (Value.long z)) (by rw [guessE hv r wh, if_pos (Or.inl c110)] <;> rfl), _, _, _, _, _, rfl⟩
        | exact J.lret dX7_guess_135 rfl (Nat.le_refl _) (Nat.le_refl _) ⟨congrArg (fun z => some (Value.long z)) (by rw [guessE hv r wh, if_pos (Or.inr c114)] <;> rfl), _, _, _, _, _, rfl⟩
        | exact J.lret dX7_guess_135 rfl (Nat.le_refl _) (Nat.le_refl _) ⟨congrArg (fun z => some (Value.long z)) (by rw [guessE hv r wh, if_neg (fun h9 => h9.elim c110 c114)] <;> rfl), _, _, _, _, _, rfl⟩
      · refine J.iload dX7_guess_117 rfl ?_
        refine J.i2l dX7_guess_119 ?_
        refine J.goto (tgt := 135) dX7_guess_120 (by decide) ?_
        first
        | exact J.lret dX7_guess_135 rfl (Nat.le_refl _) (Nat.le_refl _) ⟨congrArg (fun z => some (Value.long z)) (by rw [guessE hv r wh, if_pos (Or.inl c110)] <;> rfl), _, _, _, _, _, rfl⟩
        | exact J.lret dX7_guess_135 rfl (Nat.le_refl _) (Nat.le_refl _) ⟨congrArg (fun z => some (Value.long z)) (by rw [guessE hv r wh, if_pos (Or.inr c114)] <;> rfl), _, _, _, _, _, rfl⟩
        | exact J.lret dX7_guess_135 rfl (Nat.le_refl _) (Nat.le_refl _) ⟨congrArg (fun z => some (Value.long z)) (by rw [guessE hv r wh, if_neg (fun h9 => h9.elim c110 c114)] <;> rfl), _, _, _, _, _, rfl⟩
  | succ k9 ih =>
    intro i hi
    have hiN : i < 15 := by omega
    intro z6 z7 z8 m q x h
    by_cases hc : (gu v r i).1 < lkR v r (i / 3) (i % 3 + 1)
    · skip
      refine J.iload dX7_guess_25 rfl ?_
      refine J.bipush (15) dX7_guess_27 (by decide) ?_
      refine J.icmp_ge (tgt := 106) dX7_guess_29 (by decide) (fun c29 => absurd c29 (nI_ge (b := 15) (by omega) (by omega))) (fun c29 => ?_)
      refine J.iload dX7_guess_32 rfl ?_
      refine J.iconst (3) dX7_guess_34 (by decide) ?_
      refine J.irem dX7_guess_35 (by decide) ?_
      rw [(d3 (by omega)).2]
      refine J.iconst (1) dX7_guess_36 (by decide) ?_
      refine J.iadd dX7_guess_37 ?_
      rw [nI_1]
      refine J.istore dX7_guess_38 (by decide) rfl ?_
      try dsimp only [List.set]
      refine J.aload_n dX7_guess_40 rfl rfl ?_
      refine J.iload dX7_guess_41 rfl ?_
      refine J.iconst (3) dX7_guess_43 (by decide) ?_
      refine J.idiv dX7_guess_44 (by decide) ?_
      rw [(d3 (by omega)).1]
      refine J.iload dX7_guess_45 rfl ?_
      refine J.cvM (as := [.int _, .int _]) s la r v c l tn p pa m q b x h okX7_likeliness jcX7_276 (mX7_likeliness s la r v c l tn p pa m q b x h (i / 3) (i % 3 + 1) (by omega) (show i % 3 + 1 ≤ 3 by omega) hv hS hr) dX7_guess_47 rfl rfl rfl rfl (fun r9 B9 hq9 => ?_)
      obtain ⟨rfl, q9, x9, h9, rfl⟩ := hq9
      refine ⟨_, _, _, _, _, _, _, _, _, _, _, _, _, _, rfl, ?_⟩
      show J _ _ _ _ _ (.long _ :: _) (wM s la r v c l tn p pa (i % 3 + 1) q9 b x9 h9) _ _
      refine J.iconst (3) dX7_guess_50 (by decide) ?_
      refine J.iload dX7_guess_51 rfl ?_
      refine J.isub dX7_guess_53 ?_
      refine J.iconst (5) dX7_guess_54 (by decide) ?_
      refine J.imul dX7_guess_55 ?_
      rw [show (3 : Int32) = nI 3 from rfl, pk_sub (show i % 3 + 1 ≤ 3 by omega), show (5 : Int32) = nI 5 from rfl, pk_mul]
      refine J.cs (as := [.int _]) (is := []) okX7_tens jcX7_232 (mX7_tens ((3 - (i % 3 + 1)) * 5) (by omega)) dX7_guess_56 rfl rfl rfl rfl rfl rfl (fun r9 B9 hq => ?_)
      obtain ⟨rfl, rfl⟩ := hq
      refine ⟨rfl, ?_⟩
      show J _ _ _ _ _ (.long _ :: _) (wM s la r v c l tn p pa (i % 3 + 1) q9 b x9 h9) _ _
      refine J.lmul dX7_guess_59 ?_
      rw [lN_mul, show sm (mli (nqq (i / 3) (i % 3 + 1) (r 6 4)) v (i % 3 + 1) 5) (2 ^ (i % 3 + 1)) * 10 ^ ((3 - (i % 3 + 1)) * 5) = 1000 ^ (5 - mxs (v 2) (v 4 1)) * lkR v r (i / 3) (i % 3 + 1) from by rw [← mli_e hv hr (by omega) (show i % 3 + 1 ≤ 3 by omega), Nat.mul_comm, Nat.pow_mul]]
      refine J.lstore dX7_guess_60 (by decide) rfl ?_
      try dsimp only [List.set]
      refine J.lload dX7_guess_62 rfl ?_
      refine J.lload_n dX7_guess_64 rfl rfl ?_
      refine J.lcmp dX7_guess_65 ?_
      refine J.if_le (tgt := 82) dX7_guess_66 (by decide) (fun c66 => absurd c66 (fun h9 => cmpN h9 ((lN_lt63 (by have := gu_b hv r i; omega) (by have := lk_b hv r (i / 3) (show i % 3 + 1 ≤ 3 by omega); omega)).mpr ((gu_m v r (1000 ^ (5 - mxs (v 2) (v 4 1))) (Nat.pow_pos (by decide)) i _ _ rfl rfl).mpr hc)))) (fun c66 => ?_)
      refine J.bipush (10) dX7_guess_69 (by decide) ?_
      refine J.iload dX7_guess_71 rfl ?_
      refine J.iconst (3) dX7_guess_73 (by decide) ?_
      refine J.idiv dX7_guess_74 (by decide) ?_
      rw [(d3 (by omega)).1]
      refine J.imul dX7_guess_75 ?_
      refine J.iload dX7_guess_76 rfl ?_
      refine J.iadd dX7_guess_78 ?_
      refine J.goto (tgt := 84) dX7_guess_79 (by decide) ?_
      rw [show (10 : Int32) = nI 10 from rfl, pk_mul, nI_add]
      refine J.istore dX7_guess_84 (by decide) rfl ?_
      try dsimp only [List.set]
      refine J.lload dX7_guess_86 rfl ?_
      refine J.lload_n dX7_guess_88 rfl rfl ?_
      refine J.lcmp dX7_guess_89 ?_
      refine J.if_le (tgt := 98) dX7_guess_90 (by decide) (fun c90 => absurd c90 (fun h9 => cmpN h9 ((lN_lt63 (by have := gu_b hv r i; omega) (by have := lk_b hv r (i / 3) (show i % 3 + 1 ≤ 3 by omega); omega)).mpr ((gu_m v r (1000 ^ (5 - mxs (v 2) (v 4 1))) (Nat.pow_pos (by decide)) i _ _ rfl rfl).mpr hc)))) (fun c90 => ?_)
      refine J.lload dX7_guess_93 rfl ?_
      refine J.goto (tgt := 99) dX7_guess_95 (by decide) ?_
      refine J.lstore_n dX7_guess_99 rfl (by decide) rfl ?_
      try dsimp only [List.set]
      refine J.iinc (1) dX7_guess_100 (by decide) rfl (by decide) rfl ?_
      try dsimp only [List.set]
      refine J.goto (tgt := 25) dX7_guess_103 (by decide) ?_
      exact J.at (ih (i + 1) (by omega) _ _ _ _ _ _ _) (by rw [(show gu v r (i + 1) = (lkR v r (i / 3) (i % 3 + 1), nI (10 * (i / 3) + (i % 3 + 1))) from if_pos hc), ← nI_1 i] <;> rfl) rfl rfl
    · skip
      refine J.iload dX7_guess_25 rfl ?_
      refine J.bipush (15) dX7_guess_27 (by decide) ?_
      refine J.icmp_ge (tgt := 106) dX7_guess_29 (by decide) (fun c29 => absurd c29 (nI_ge (b := 15) (by omega) (by omega))) (fun c29 => ?_)
      refine J.iload dX7_guess_32 rfl ?_
      refine J.iconst (3) dX7_guess_34 (by decide) ?_
      refine J.irem dX7_guess_35 (by decide) ?_
      rw [(d3 (by omega)).2]
      refine J.iconst (1) dX7_guess_36 (by decide) ?_
      refine J.iadd dX7_guess_37 ?_
      rw [nI_1]
      refine J.istore dX7_guess_38 (by decide) rfl ?_
      try dsimp only [List.set]
      refine J.aload_n dX7_guess_40 rfl rfl ?_
      refine J.iload dX7_guess_41 rfl ?_
      refine J.iconst (3) dX7_guess_43 (by decide) ?_
      refine J.idiv dX7_guess_44 (by decide) ?_
      rw [(d3 (by omega)).1]
      refine J.iload dX7_guess_45 rfl ?_
      refine J.cvM (as := [.int _, .int _]) s la r v c l tn p pa m q b x h okX7_likeliness jcX7_276 (mX7_likeliness s la r v c l tn p pa m q b x h (i / 3) (i % 3 + 1) (by omega) (show i % 3 + 1 ≤ 3 by omega) hv hS hr) dX7_guess_47 rfl rfl rfl rfl (fun r9 B9 hq9 => ?_)
      obtain ⟨rfl, q9, x9, h9, rfl⟩ := hq9
      refine ⟨_, _, _, _, _, _, _, _, _, _, _, _, _, _, rfl, ?_⟩
      show J _ _ _ _ _ (.long _ :: _) (wM s la r v c l tn p pa (i % 3 + 1) q9 b x9 h9) _ _
      refine J.iconst (3) dX7_guess_50 (by decide) ?_
      refine J.iload dX7_guess_51 rfl ?_
      refine J.isub dX7_guess_53 ?_
      refine J.iconst (5) dX7_guess_54 (by decide) ?_
      refine J.imul dX7_guess_55 ?_
      rw [show (3 : Int32) = nI 3 from rfl, pk_sub (show i % 3 + 1 ≤ 3 by omega), show (5 : Int32) = nI 5 from rfl, pk_mul]
      refine J.cs (as := [.int _]) (is := []) okX7_tens jcX7_232 (mX7_tens ((3 - (i % 3 + 1)) * 5) (by omega)) dX7_guess_56 rfl rfl rfl rfl rfl rfl (fun r9 B9 hq => ?_)
      obtain ⟨rfl, rfl⟩ := hq
      refine ⟨rfl, ?_⟩
      show J _ _ _ _ _ (.long _ :: _) (wM s la r v c l tn p pa (i % 3 + 1) q9 b x9 h9) _ _
      refine J.lmul dX7_guess_59 ?_
      rw [lN_mul, show sm (mli (nqq (i / 3) (i % 3 + 1) (r 6 4)) v (i % 3 + 1) 5) (2 ^ (i % 3 + 1)) * 10 ^ ((3 - (i % 3 + 1)) * 5) = 1000 ^ (5 - mxs (v 2) (v 4 1)) * lkR v r (i / 3) (i % 3 + 1) from by rw [← mli_e hv hr (by omega) (show i % 3 + 1 ≤ 3 by omega), Nat.mul_comm, Nat.pow_mul]]
      refine J.lstore dX7_guess_60 (by decide) rfl ?_
      try dsimp only [List.set]
      refine J.lload dX7_guess_62 rfl ?_
      refine J.lload_n dX7_guess_64 rfl rfl ?_
      refine J.lcmp dX7_guess_65 ?_
      refine J.if_le (tgt := 82) dX7_guess_66 (by decide) (fun c66 => ?_) (fun c66 => absurd c66 (fun h9 => hc ((gu_m v r (1000 ^ (5 - mxs (v 2) (v 4 1))) (Nat.pow_pos (by decide)) i _ _ rfl rfl).mp ((lN_lt63 (by have := gu_b hv r i; omega) (by have := lk_b hv r (i / 3) (show i % 3 + 1 ≤ 3 by omega); omega)).mp (cmpP h9)))))
      refine J.iload dX7_guess_82 rfl ?_
      refine J.istore dX7_guess_84 (by decide) rfl ?_
      try dsimp only [List.set]
      refine J.lload dX7_guess_86 rfl ?_
      refine J.lload_n dX7_guess_88 rfl rfl ?_
      refine J.lcmp dX7_guess_89 ?_
      refine J.if_le (tgt := 98) dX7_guess_90 (by decide) (fun c90 => ?_) (fun c90 => absurd c90 (fun h9 => hc ((gu_m v r (1000 ^ (5 - mxs (v 2) (v 4 1))) (Nat.pow_pos (by decide)) i _ _ rfl rfl).mp ((lN_lt63 (by have := gu_b hv r i; omega) (by have := lk_b hv r (i / 3) (show i % 3 + 1 ≤ 3 by omega); omega)).mp (cmpP h9)))))
      refine J.lload_n dX7_guess_98 rfl rfl ?_
      refine J.lstore_n dX7_guess_99 rfl (by decide) rfl ?_
      try dsimp only [List.set]
      refine J.iinc (1) dX7_guess_100 (by decide) rfl (by decide) rfl ?_
      try dsimp only [List.set]
      refine J.goto (tgt := 25) dX7_guess_103 (by decide) ?_
      exact J.at (ih (i + 1) (by omega) _ _ _ _ _ _ _) (by rw [(show gu v r (i + 1) = gu v r i from if_neg hc), ← nI_1 i] <;> rfl) rfl rfl
set_option maxRecDepth 100000 in
set_option maxHeartbeats 4000000 in
theorem mX7_guess (s : Nat → Int32) (la : Nat → Int32) (r : rT) (v : vT) (c : Nat → Nat → Int32) (l : Nat → Int32) (tn : Int32) (p : Nat → Int32) (pa : Nat → Nat → Int32) (m : Nat) (q : rT) (b : Int32) (x : Nat → Nat) (h : Nat → Nat → Int64) (wh : Int32) (hw : 0 ≤ wh ∧ wh ≤ 2) (hv : vOK v) (hS : mS s r) (hr : rOK r) : J KX7_guess 21 (fun o B => o = some (.long (guessA v r wh)) ∧ ∃ m9 q9 b9 x9 h9, B = (wM s la r v c l tn p pa m9 q9 b9 x9 h9)) 0 [some (.ref 0), some (.int wh), none, none, none, none, none, none, none] [] (wM s la r v c l tn p pa m q b x h) 0 0 := by
  refine J.iload_n dX7_guess_0 rfl rfl ?_
  refine J.i2l dX7_guess_1 ?_
  refine J.lconst 0 dX7_guess_2 (by decide) ?_
  refine J.ldc2 (v := 2) dX7_guess_3 (jt 956 rfl rfl) ?_
  refine J.cs (as := [.long _, .long _, .long _]) (is := []) okX7_in jcX7_74 (mX7_inI wh 0 2 (by decide) (by decide)) dX7_guess_6 rfl rfl rfl rfl rfl rfl (fun r9 B9 hq => ?_)
  obtain ⟨rfl, rfl⟩ := hq
  refine ⟨rfl, ?_⟩
  show J _ _ _ _ _ (.int _ :: _) (wM s la r v c l tn p pa m q b x h) _ _
  refine J.if_ne (tgt := 16) dX7_guess_9 (by decide) (fun c9 => ?_) (fun c9 => absurd c9 (fun h => (jB_0 _).mp h hw))
  refine J.lconst 0 dX7_guess_16 (by decide) ?_
  refine J.lstore_n dX7_guess_17 rfl (by decide) rfl ?_
  try dsimp only [List.set]
  refine J.bipush (-4) dX7_guess_18 (by decide) ?_
  refine J.istore dX7_guess_20 (by decide) rfl ?_
  try dsimp only [List.set]
  refine J.iconst (0) dX7_guess_22 (by decide) ?_
  refine J.istore dX7_guess_23 (by decide) rfl ?_
  try dsimp only [List.set]
  exact J.at (mX7_guess_l s la r v c l tn p pa b wh hw hv hS hr 15 0 (by omega) none none none m q x h) rfl rfl rfl
set_option maxRecDepth 100000 in
set_option maxHeartbeats 4000000 in
theorem mX7_guess_bad (s : Nat → Int32) (la : Nat → Int32) (r : rT) (v : vT) (c : Nat → Nat → Int32) (l : Nat → Int32) (tn : Int32) (p : Nat → Int32) (pa : Nat → Nat → Int32) (m : Nat) (q : rT) (b : Int32) (x : Nat → Nat) (h : Nat → Nat → Int64) (wh : Int32) (hb : ¬ (0 ≤ wh ∧ wh ≤ 2)) : J KX7_guess 21 (fun o B => o = some (.long (-1)) ∧ B = (wM s la r v c l tn p pa m q b x h)) 0 [some (.ref 0), some (.int wh), none, none, none, none, none, none, none] [] (wM s la r v c l tn p pa m q b x h) 0 0 := by
  refine J.iload_n dX7_guess_0 rfl rfl ?_
  refine J.i2l dX7_guess_1 ?_
  refine J.lconst 0 dX7_guess_2 (by decide) ?_
  refine J.ldc2 (v := 2) dX7_guess_3 (jt 956 rfl rfl) ?_
  refine J.cs (as := [.long _, .long _, .long _]) (is := []) okX7_in jcX7_74 (mX7_inI wh 0 2 (by decide) (by decide)) dX7_guess_6 rfl rfl rfl rfl rfl rfl (fun r9 B9 hq => ?_)
  obtain ⟨rfl, rfl⟩ := hq
  refine ⟨rfl, ?_⟩
  show J _ _ _ _ _ (.int _ :: _) (wM s la r v c l tn p pa m q b x h) _ _
  refine J.if_ne (tgt := 16) dX7_guess_9 (by decide) (fun c9 => absurd c9 (fun h => h ((jB_0 _).mpr hb))) (fun c9 => ?_)
  refine J.ldc2 (v := -1) dX7_guess_12 (jt 1049 rfl rfl) ?_
  exact J.lret dX7_guess_15 rfl (Nat.le_refl _) (Nat.le_refl _) ⟨rfl, rfl⟩
theorem rnd_s (x : Int32) : (x >>> ((16 : Int32) &&& 31)) &&& 32767 = nI (x.toBitVec.toNat / 65536 % 32768) := by
  rw [pk_and _ 15 (by decide)]
  have h1 := pk_shr x ((16 : Int32) &&& 31) 16 (by decide)
  have h2 : (x >>> ((16 : Int32) &&& 31)).toBitVec.toInt = x.toBitVec.toInt >>> 16 := h1
  rw [BitVec.toInt_eq_toNat_cond, BitVec.toInt_eq_toNat_cond, Int.shiftRight_eq_div_pow] at h2
  have h3 := (x >>> ((16 : Int32) &&& 31)).toBitVec.isLt
  have h4 := x.toBitVec.isLt
  congr 1
  split at h2 <;> split at h2 <;> omega
theorem an_ev : ∀ k, k < 8 → ∀ b, b < 8 → ∀ i, i < 3 → nI (k &&& (7 - b)) &&& (1 <<< (nI i &&& 31) ^^^ -1) = nI (k &&& (7 - (b ||| 2 ^ i))) := by decide +kernel
theorem and_m1 (x : Int32) : x &&& -1 = x := by
  apply Int32.toBitVec_inj.mp
  show x.toBitVec &&& (-1 : Int32).toBitVec = x.toBitVec
  exact BitVec.and_allOnes
set_option maxRecDepth 100000 in
set_option maxHeartbeats 4000000 in
theorem mX7_drift_i (s : Nat → Int32) (la : Nat → Int32) (r : rT) (v : vT) (c : Nat → Nat → Int32) (l : Nat → Int32) (tn : Int32) (p : Nat → Int32) (pa : Nat → Nat → Int32) (m : Nat) (q : rT) (b : Int32) (x : Nat → Nat) (h : Nat → Nat → Int64) (z0 : Int32) (N : Nat) (hN : N ≤ 60) (wh : Int32) (hS : mS s r) (hr : rOK r) (t : Nat) (ht : t < N) (hk9 : J KX7_drift 21 (fun o B => o = some (.int (driftA r z0 N wh)) ∧ ∃ m9 q9 b9 x9 h9, B = (wM s la r v c l tn p pa m9 q9 b9 x9 h9)) 134 [some (.ref 0), some (.int z0), some (.int (nI N)), some (.int wh), some (.int (dB (oqR r) t (dO (oqR r) (r 6 0) z0 t).1 (dO (oqR r) (r 6 0) z0 t).2.1 (r 6 0)).1), some (.int (nI (dO (oqR r) (r 6 0) z0 t).2.2)), some (.int (nI (dO (oqR r) (r 6 0) z0 t).1)), some (.int (nI t)), some (.int (nI ((dO (oqR r) (r 6 0) z0 t).1 &&& (7 - (dB (oqR r) t (dO (oqR r) (r 6 0) z0 t).1 (dO (oqR r) (r 6 0) z0 t).2.1 (r 6 0)).2)))), some (.int (nI (r 6 0)))] [] (wM s la r v c l tn p pa (r 6 0) (mlay q r (r 6 0)) b x h) 0 0) : ∀ (k9 i : Nat), i + k9 = r 6 0 → J KX7_drift 21 (fun o B => o = some (.int (driftA r z0 N wh)) ∧ ∃ m9 q9 b9 x9 h9, B = (wM s la r v c l tn p pa m9 q9 b9 x9 h9)) 56 [some (.ref 0), some (.int z0), some (.int (nI N)), some (.int wh), some (.int (dB (oqR r) t (dO (oqR r) (r 6 0) z0 t).1 (dO (oqR r) (r 6 0) z0 t).2.1 i).1), some (.int (nI (dO (oqR r) (r 6 0) z0 t).2.2)), some (.int (nI (dO (oqR r) (r 6 0) z0 t).1)), some (.int (nI t)), some (.int (nI ((dO (oqR r) (r 6 0) z0 t).1 &&& (7 - (dB (oqR r) t (dO (oqR r) (r 6 0) z0 t).1 (dO (oqR r) (r 6 0) z0 t).2.1 i).2)))), some (.int (nI i))] [] (wM s la r v c l tn p pa (r 6 0) (mlay q r (r 6 0)) b x h) 0 0 := by
  intro k9
  induction k9 with
  | zero =>
    intro i hi
    obtain hiN : i = r 6 0 := by omega
    subst hiN
    refine J.iload dX7_drift_56 rfl ?_
    refine J.aload_n dX7_drift_58 rfl rfl ?_
    refine J.mg25 dX7_drift_59 rfl ?_
    refine J.icmp_ge (tgt := 134) dX7_drift_62 (by decide) (fun c62 => ?_) (fun c62 => absurd c62 (fun h => h (Int32.le_refl _)))
    exact hk9
  | succ k9 ih =>
    intro i hi
    have hiN : i < r 6 0 := by omega
    by_cases hb : bit (dO (oqR r) (r 6 0) z0 t).1 i = 1
    · skip
      refine J.iload dX7_drift_56 rfl ?_
      refine J.aload_n dX7_drift_58 rfl rfl ?_
      refine J.mg25 dX7_drift_59 rfl ?_
      refine J.icmp_ge (tgt := 134) dX7_drift_62 (by decide) (fun c62 => absurd c62 (nI_ge (by omega) (by have := hr.1; omega))) (fun c62 => ?_)
      refine J.iload dX7_drift_65 rfl ?_
      refine J.iload dX7_drift_67 rfl ?_
      refine J.ishr dX7_drift_69 ?_
      refine J.iconst (1) dX7_drift_70 (by decide) ?_
      refine J.iand dX7_drift_71 ?_
      refine J.iconst (1) dX7_drift_72 (by decide) ?_
      rw [bit_eval (dO (oqR r) (r 6 0) z0 t).1 (show (dO (oqR r) (r 6 0) z0 t).1 < 8 from Nat.lt_of_le_of_lt (dO_le _ _ _ _).1 hr.w) i (by have := hr.1; omega)]
      refine J.icmp_ne (tgt := 128) dX7_drift_73 (by decide) (fun c73 => absurd c73 (fun h9 => h9 (by rw [hb] <;> rfl))) (fun c73 => ?_)
      refine J.iload dX7_drift_76 rfl ?_
      refine J.ldcw (v := 1103515245) dX7_drift_78 (jt 1175 rfl rfl) ?_
      refine J.imul dX7_drift_81 ?_
      refine J.sipush (12345) dX7_drift_82 (by decide) ?_
      refine J.iadd dX7_drift_85 ?_
      refine J.istore dX7_drift_86 (by decide) rfl ?_
      try dsimp only [List.set]
      refine J.iload dX7_drift_88 rfl ?_
      refine J.iload dX7_drift_90 rfl ?_
      refine J.bipush (16) dX7_drift_92 (by decide) ?_
      refine J.ishr dX7_drift_94 ?_
      refine J.sipush (32767) dX7_drift_95 (by decide) ?_
      refine J.iand dX7_drift_98 ?_
      refine J.bipush (10) dX7_drift_99 (by decide) ?_
      rw [rnd_s]
      refine J.irem dX7_drift_101 (by decide) ?_
      rw [rnd_10 (Nat.mod_lt _ (by decide))]
      refine J.aload_n dX7_drift_102 rfl rfl ?_
      refine J.iload dX7_drift_103 rfl ?_
      refine J.iload dX7_drift_105 rfl ?_
      refine J.iload dX7_drift_107 rfl ?_
      refine J.cvM (as := [.int _, .int _, .int _]) s la r v c l tn p pa (r 6 0) (mlay q r (r 6 0)) b x h okX7_breaksOf jcX7_199 (mX7_breaksOf s la r v c l tn p pa (r 6 0) (mlay q r (r 6 0)) b x h (oqR r) i t (dO (oqR r) (r 6 0) z0 t).1 (mlay_q q) (mlay_ok hr) hiN (by omega) (show (dO (oqR r) (r 6 0) z0 t).1 < 8 from Nat.lt_of_le_of_lt (dO_le _ _ _ _).1 hr.w) (bit_pos hb)) dX7_drift_109 rfl rfl rfl rfl (fun r9 B9 hq9 => ?_)
      obtain ⟨rfl, rfl⟩ := hq9
      refine ⟨_, _, _, _, _, _, _, _, _, _, _, _, _, _, rfl, ?_⟩
      show J _ _ _ _ _ (.int _ :: _) (wM s la r v c l tn p pa (r 6 0) (mlay q r (r 6 0)) b x h) _ _
      refine J.icmp_ge (tgt := 124) dX7_drift_112 (by decide) (fun c112 => ?_) (fun c112 => ?_)
      · refine J.iconst (-1) dX7_drift_124 (by decide) ?_
        refine J.iand dX7_drift_125 ?_
        refine J.istore dX7_drift_126 (by decide) rfl ?_
        try dsimp only [List.set]
        refine J.iinc (1) dX7_drift_128 (by decide) rfl (by decide) rfl ?_
        try dsimp only [List.set]
        refine J.goto (tgt := 56) dX7_drift_131 (by decide) ?_
        first
        | (have e9 : (dB (oqR r) t (dO (oqR r) (r 6 0) z0 t).1 (dO (oqR r) (r 6 0) z0 t).2.1 (i + 1)) = (dnx (dB (oqR r) t (dO (oqR r) (r 6 0) z0 t).1 (dO (oqR r) (r 6 0) z0 t).2.1 i).1, (dB (oqR r) t (dO (oqR r) (r 6 0) z0 t).1 (dO (oqR r) (r 6 0) z0 t).2.1 i).2 ||| 0) := (if_pos hb).trans (by rw [if_neg (show ¬ rnd (dnx (dB (oqR r) t (dO (oqR r) (r 6 0) z0 t).1 (dO (oqR r) (r 6 0) z0 t).2.1 i).1) < ten (oqR r) (dO (oqR r) (r 6 0) z0 t).1 t i from fun h9 => absurd ((nI_lei (by have := ten_le (oqR r) (dO (oqR r) (r 6 0) z0 t).1 t i; omega) (Nat.lt_of_lt_of_le (Nat.mod_lt _ (show 0 < 10 by decide)) (by decide))).mp c112) (Nat.not_le.mpr h9))])
           exact J.at (ih (i + 1) (by omega)) (by rw [e9, Nat.or_zero, ← nI_1 i, and_m1] <;> rfl) rfl rfl)
        | (have e9 : (dB (oqR r) t (dO (oqR r) (r 6 0) z0 t).1 (dO (oqR r) (r 6 0) z0 t).2.1 (i + 1)) = (dnx (dB (oqR r) t (dO (oqR r) (r 6 0) z0 t).1 (dO (oqR r) (r 6 0) z0 t).2.1 i).1, (dB (oqR r) t (dO (oqR r) (r 6 0) z0 t).1 (dO (oqR r) (r 6 0) z0 t).2.1 i).2 ||| 2 ^ i) := (if_pos hb).trans (by rw [if_pos (show rnd (dnx (dB (oqR r) t (dO (oqR r) (r 6 0) z0 t).1 (dO (oqR r) (r 6 0) z0 t).2.1 i).1) < ten (oqR r) (dO (oqR r) (r 6 0) z0 t).1 t i from Nat.not_le.mp (fun h9 => c112 ((nI_lei (by have := ten_le (oqR r) (dO (oqR r) (r 6 0) z0 t).1 t i; omega) (Nat.lt_of_lt_of_le (Nat.mod_lt _ (show 0 < 10 by decide)) (by decide))).mpr h9)))])
           exact J.at (ih (i + 1) (by omega)) (by rw [e9, ← nI_1 i, an_ev _ (show (dO (oqR r) (r 6 0) z0 t).1 < 8 from Nat.lt_of_le_of_lt (dO_le _ _ _ _).1 hr.w) _ (dB_8 _ _ _ _ (by have := hr.1; omega)) i (by have := hr.1; omega)] <;> rfl) rfl rfl)
      · refine J.iconst (1) dX7_drift_115 (by decide) ?_
        refine J.iload dX7_drift_116 rfl ?_
        refine J.ishl dX7_drift_118 ?_
        refine J.iconst (-1) dX7_drift_119 (by decide) ?_
        refine J.ixor dX7_drift_120 ?_
        refine J.goto (tgt := 125) dX7_drift_121 (by decide) ?_
        refine J.iand dX7_drift_125 ?_
        refine J.istore dX7_drift_126 (by decide) rfl ?_
        try dsimp only [List.set]
        refine J.iinc (1) dX7_drift_128 (by decide) rfl (by decide) rfl ?_
        try dsimp only [List.set]
        refine J.goto (tgt := 56) dX7_drift_131 (by decide) ?_
        first
        | (have e9 : (dB (oqR r) t (dO (oqR r) (r 6 0) z0 t).1 (dO (oqR r) (r 6 0) z0 t).2.1 (i + 1)) = (dnx (dB (oqR r) t (dO (oqR r) (r 6 0) z0 t).1 (dO (oqR r) (r 6 0) z0 t).2.1 i).1, (dB (oqR r) t (dO (oqR r) (r 6 0) z0 t).1 (dO (oqR r) (r 6 0) z0 t).2.1 i).2 ||| 0) := (if_pos hb).trans (by rw [if_neg (show ¬ rnd (dnx (dB (oqR r) t (dO (oqR r) (r 6 0) z0 t).1 (dO (oqR r) (r 6 0) z0 t).2.1 i).1) < ten (oqR r) (dO (oqR r) (r 6 0) z0 t).1 t i from fun h9 => absurd ((nI_lei (by have := ten_le (oqR r) (dO (oqR r) (r 6 0) z0 t).1 t i; omega) (Nat.lt_of_lt_of_le (Nat.mod_lt _ (show 0 < 10 by decide)) (by decide))).mp c112) (Nat.not_le.mpr h9))])
           exact J.at (ih (i + 1) (by omega)) (by rw [e9, Nat.or_zero, ← nI_1 i, and_m1] <;> rfl) rfl rfl)
        | (have e9 : (dB (oqR r) t (dO (oqR r) (r 6 0) z0 t).1 (dO (oqR r) (r 6 0) z0 t).2.1 (i + 1)) = (dnx (dB (oqR r) t (dO (oqR r) (r 6 0) z0 t).1 (dO (oqR r) (r 6 0) z0 t).2.1 i).1, (dB (oqR r) t (dO (oqR r) (r 6 0) z0 t).1 (dO (oqR r) (r 6 0) z0 t).2.1 i).2 ||| 2 ^ i) := (if_pos hb).trans (by rw [if_pos (show rnd (dnx (dB (oqR r) t (dO (oqR r) (r 6 0) z0 t).1 (dO (oqR r) (r 6 0) z0 t).2.1 i).1) < ten (oqR r) (dO (oqR r) (r 6 0) z0 t).1 t i from Nat.not_le.mp (fun h9 => c112 ((nI_lei (by have := ten_le (oqR r) (dO (oqR r) (r 6 0) z0 t).1 t i; omega) (Nat.lt_of_lt_of_le (Nat.mod_lt _ (show 0 < 10 by decide)) (by decide))).mpr h9)))])
           exact J.at (ih (i + 1) (by omega)) (by rw [e9, ← nI_1 i, an_ev _ (show (dO (oqR r) (r 6 0) z0 t).1 < 8 from Nat.lt_of_le_of_lt (dO_le _ _ _ _).1 hr.w) _ (dB_8 _ _ _ _ (by have := hr.1; omega)) i (by have := hr.1; omega)] <;> rfl) rfl rfl)
    · skip
      refine J.iload dX7_drift_56 rfl ?_
      refine J.aload_n dX7_drift_58 rfl rfl ?_
      refine J.mg25 dX7_drift_59 rfl ?_
      refine J.icmp_ge (tgt := 134) dX7_drift_62 (by decide) (fun c62 => absurd c62 (nI_ge (by omega) (by have := hr.1; omega))) (fun c62 => ?_)
      refine J.iload dX7_drift_65 rfl ?_
      refine J.iload dX7_drift_67 rfl ?_
      refine J.ishr dX7_drift_69 ?_
      refine J.iconst (1) dX7_drift_70 (by decide) ?_
      refine J.iand dX7_drift_71 ?_
      refine J.iconst (1) dX7_drift_72 (by decide) ?_
      rw [bit_eval (dO (oqR r) (r 6 0) z0 t).1 (show (dO (oqR r) (r 6 0) z0 t).1 < 8 from Nat.lt_of_le_of_lt (dO_le _ _ _ _).1 hr.w) i (by have := hr.1; omega)]
      refine J.icmp_ne (tgt := 128) dX7_drift_73 (by decide) (fun c73 => ?_) (fun c73 => absurd c73 (fun h9 => hb ((nI_eqi (b := 1) (by have := bit_le (dO (oqR r) (r 6 0) z0 t).1 i; omega) (by decide)).mp h9)))
      refine J.iinc (1) dX7_drift_128 (by decide) rfl (by decide) rfl ?_
      try dsimp only [List.set]
      refine J.goto (tgt := 56) dX7_drift_131 (by decide) ?_
      have e9 : (dB (oqR r) t (dO (oqR r) (r 6 0) z0 t).1 (dO (oqR r) (r 6 0) z0 t).2.1 (i + 1)) = (dB (oqR r) t (dO (oqR r) (r 6 0) z0 t).1 (dO (oqR r) (r 6 0) z0 t).2.1 i) := if_neg hb
      exact J.at (ih (i + 1) (by omega)) (by rw [e9, ← nI_1 i]) rfl rfl
theorem and7N {k : Nat} (h : k < 8) : k &&& 7 = k := by
  have : ∀ k, k < 8 → k &&& 7 = k := by decide
  exact this k h
set_option maxRecDepth 100000 in
set_option maxHeartbeats 4000000 in
theorem mX7_drift_o (s : Nat → Int32) (la : Nat → Int32) (r : rT) (v : vT) (c : Nat → Nat → Int32) (l : Nat → Int32) (tn : Int32) (p : Nat → Int32) (pa : Nat → Nat → Int32) (m : Nat) (q : rT) (b : Int32) (x : Nat → Nat) (h : Nat → Nat → Int64) (z0 : Int32) (N : Nat) (hN : N ≤ 60) (wh : Int32) (hS : mS s r) (hr : rOK r) : ∀ (k9 i : Nat), i + k9 = N → ∀ (z8 z9 : Option Value), J KX7_drift 21 (fun o B => o = some (.int (driftA r z0 N wh)) ∧ ∃ m9 q9 b9 x9 h9, B = (wM s la r v c l tn p pa m9 q9 b9 x9 h9)) 43 [some (.ref 0), some (.int z0), some (.int (nI N)), some (.int wh), some (.int (dO (oqR r) (r 6 0) z0 i).2.1), some (.int (nI (dO (oqR r) (r 6 0) z0 i).2.2)), some (.int (nI (dO (oqR r) (r 6 0) z0 i).1)), some (.int (nI i)), z8, z9] [] (wM s la r v c l tn p pa (r 6 0) (mlay q r (r 6 0)) b x h) 0 0 := by
  intro k9
  induction k9 with
  | zero =>
    intro i hi
    obtain hiN : i = N := by omega
    intro z8 z9
    subst hiN
    refine J.iload dX7_drift_43 rfl ?_
    refine J.iload_n dX7_drift_45 rfl rfl ?_
    refine J.icmp_ge (tgt := 159) dX7_drift_46 (by decide) (fun c46 => ?_) (fun c46 => absurd c46 (fun h => h (Int32.le_refl _)))
    refine J.iload_n dX7_drift_159 rfl rfl ?_
    refine J.if_ne (tgt := 168) dX7_drift_160 (by decide) (fun c160 => ?_) (fun c160 => ?_)
    · refine J.iload dX7_drift_168 rfl ?_
      first | exact J.iret dX7_drift_170 rfl rfl (Nat.le_refl _) (Nat.le_refl _) ⟨congrArg (fun z => some (Value.int z)) (if_neg c160).symm, _, _, _, _, _, rfl⟩ | exact J.iret dX7_drift_170 rfl rfl (Nat.le_refl _) (Nat.le_refl _) ⟨congrArg (fun z => some (Value.int z)) (if_pos c160).symm, _, _, _, _, _, rfl⟩
    · refine J.iload dX7_drift_163 rfl ?_
      refine J.goto (tgt := 170) dX7_drift_165 (by decide) ?_
      first | exact J.iret dX7_drift_170 rfl rfl (Nat.le_refl _) (Nat.le_refl _) ⟨congrArg (fun z => some (Value.int z)) (if_neg c160).symm, _, _, _, _, _, rfl⟩ | exact J.iret dX7_drift_170 rfl rfl (Nat.le_refl _) (Nat.le_refl _) ⟨congrArg (fun z => some (Value.int z)) (if_pos c160).symm, _, _, _, _, _, rfl⟩
  | succ k9 ih =>
    intro i hi
    have hiN : i < N := by omega
    intro z8 z9
    refine J.iload dX7_drift_43 rfl ?_
    refine J.iload_n dX7_drift_45 rfl rfl ?_
    refine J.icmp_ge (tgt := 159) dX7_drift_46 (by decide) (fun c46 => absurd c46 (nI_ge (by omega) (by omega))) (fun c46 => ?_)
    refine J.iload dX7_drift_49 rfl ?_
    refine J.istore dX7_drift_51 (by decide) rfl ?_
    try dsimp only [List.set]
    refine J.iconst (0) dX7_drift_53 (by decide) ?_
    refine J.istore dX7_drift_54 (by decide) rfl ?_
    try dsimp only [List.set]
    refine J.at (mX7_drift_i s la r v c l tn p pa m q b x h z0 N hN wh hS hr i hiN ?_ (r 6 0) 0 (by omega)) (by rw [show (dO (oqR r) (r 6 0) z0 i).1 &&& (7 - (dB (oqR r) i (dO (oqR r) (r 6 0) z0 i).1 (dO (oqR r) (r 6 0) z0 i).2.1 0).2) = (dO (oqR r) (r 6 0) z0 i).1 from and7N (show (dO (oqR r) (r 6 0) z0 i).1 < 8 from Nat.lt_of_le_of_lt (dO_le _ _ _ _).1 hr.w)] <;> rfl) rfl rfl
    refine J.iload dX7_drift_134 rfl ?_
    refine J.istore dX7_drift_136 (by decide) rfl ?_
    try dsimp only [List.set]
    refine J.iload dX7_drift_138 rfl ?_
    refine J.iload dX7_drift_140 rfl ?_
    refine J.if_eq (tgt := 149) dX7_drift_142 (by decide) (fun c142 => ?_) (fun c142 => ?_)
    · refine J.iconst (0) dX7_drift_149 (by decide) ?_
      refine J.iadd dX7_drift_150 ?_
      refine J.istore dX7_drift_151 (by decide) rfl ?_
      try dsimp only [List.set]
      refine J.iinc (1) dX7_drift_153 (by decide) rfl (by decide) rfl ?_
      try dsimp only [List.set]
      refine J.goto (tgt := 43) dX7_drift_156 (by decide) ?_
      first
      | (have e9 : (dO (oqR r) (r 6 0) z0 (i + 1)).2.2 = (dO (oqR r) (r 6 0) z0 i).2.2 + 0 := congrArg (fun z => (dO (oqR r) (r 6 0) z0 i).2.2 + z) (if_pos ((nI_eqi (b := 0) (Nat.lt_of_le_of_lt Nat.and_le_left (by have := (show (dO (oqR r) (r 6 0) z0 i).1 < 8 from Nat.lt_of_le_of_lt (dO_le _ _ _ _).1 hr.w); omega)) (by decide)).mp c142))
         exact J.at (ih (i + 1) (by omega) _ _) (by rw [e9, Nat.add_zero, ← nI_1 i, Int32.add_zero] <;> rfl) rfl rfl)
      | (have e9 : (dO (oqR r) (r 6 0) z0 (i + 1)).2.2 = (dO (oqR r) (r 6 0) z0 i).2.2 + 1 := congrArg (fun z => (dO (oqR r) (r 6 0) z0 i).2.2 + z) (if_neg (fun h9 => c142 (congrArg nI h9)))
         exact J.at (ih (i + 1) (by omega) _ _) (by rw [e9, ← nI_1 i, ← nI_1] <;> rfl) rfl rfl)
    · refine J.iconst (1) dX7_drift_145 (by decide) ?_
      refine J.goto (tgt := 150) dX7_drift_146 (by decide) ?_
      refine J.iadd dX7_drift_150 ?_
      refine J.istore dX7_drift_151 (by decide) rfl ?_
      try dsimp only [List.set]
      refine J.iinc (1) dX7_drift_153 (by decide) rfl (by decide) rfl ?_
      try dsimp only [List.set]
      refine J.goto (tgt := 43) dX7_drift_156 (by decide) ?_
      first
      | (have e9 : (dO (oqR r) (r 6 0) z0 (i + 1)).2.2 = (dO (oqR r) (r 6 0) z0 i).2.2 + 0 := congrArg (fun z => (dO (oqR r) (r 6 0) z0 i).2.2 + z) (if_pos ((nI_eqi (b := 0) (Nat.lt_of_le_of_lt Nat.and_le_left (by have := (show (dO (oqR r) (r 6 0) z0 i).1 < 8 from Nat.lt_of_le_of_lt (dO_le _ _ _ _).1 hr.w); omega)) (by decide)).mp c142))
         exact J.at (ih (i + 1) (by omega) _ _) (by rw [e9, Nat.add_zero, ← nI_1 i, Int32.add_zero] <;> rfl) rfl rfl)
      | (have e9 : (dO (oqR r) (r 6 0) z0 (i + 1)).2.2 = (dO (oqR r) (r 6 0) z0 i).2.2 + 1 := congrArg (fun z => (dO (oqR r) (r 6 0) z0 i).2.2 + z) (if_neg (fun h9 => c142 (congrArg nI h9)))
         exact J.at (ih (i + 1) (by omega) _ _) (by rw [e9, ← nI_1 i, ← nI_1] <;> rfl) rfl rfl)
set_option maxRecDepth 100000 in
set_option maxHeartbeats 4000000 in
theorem mX7_drift (s : Nat → Int32) (la : Nat → Int32) (r : rT) (v : vT) (c : Nat → Nat → Int32) (l : Nat → Int32) (tn : Int32) (p : Nat → Int32) (pa : Nat → Nat → Int32) (m : Nat) (q : rT) (b : Int32) (x : Nat → Nat) (h : Nat → Nat → Int64) (z0 : Int32) (N : Nat) (h1 : 1 ≤ N) (hN : N ≤ 60) (wh : Int32) (hw : 0 ≤ wh ∧ wh ≤ 1) (hS : mS s r) (hr : rOK r) : J KX7_drift 21 (fun o B => o = some (.int (driftA r z0 N wh)) ∧ ∃ m9 q9 b9 x9 h9, B = (wM s la r v c l tn p pa m9 q9 b9 x9 h9)) 0 [some (.ref 0), some (.int z0), some (.int (nI N)), some (.int wh), none, none, none, none, none, none] [] (wM s la r v c l tn p pa m q b x h) 0 0 := by
  refine J.iload_n dX7_drift_0 rfl rfl ?_
  refine J.i2l dX7_drift_1 ?_
  refine J.lconst 1 dX7_drift_2 (by decide) ?_
  refine J.ldc2 (v := 60) dX7_drift_3 (jt 1174 rfl rfl) ?_
  refine J.cs (as := [.long _, .long _, .long _]) (is := []) okX7_in jcX7_74 (mX7_inI (nI N) 1 60 (by decide) (by decide)) dX7_drift_6 rfl rfl rfl rfl rfl rfl (fun r9 B9 hq => ?_)
  obtain ⟨rfl, rfl⟩ := hq
  refine ⟨rfl, ?_⟩
  show J _ _ _ _ _ (.int _ :: _) (wM s la r v c l tn p pa m q b x h) _ _
  refine J.if_eq (tgt := 22) dX7_drift_9 (by decide) (fun c9 => absurd c9 (fun h => (jB_0 _).mp h (jw (a := 1) (c := 60) (by decide) h1 hN))) (fun c9 => ?_)
  refine J.iload_n dX7_drift_12 rfl rfl ?_
  refine J.i2l dX7_drift_13 ?_
  refine J.lconst 0 dX7_drift_14 (by decide) ?_
  refine J.lconst 1 dX7_drift_15 (by decide) ?_
  refine J.cs (as := [.long _, .long _, .long _]) (is := []) okX7_in jcX7_74 (mX7_inI wh 0 1 (by decide) (by decide)) dX7_drift_16 rfl rfl rfl rfl rfl rfl (fun r9 B9 hq => ?_)
  obtain ⟨rfl, rfl⟩ := hq
  refine ⟨rfl, ?_⟩
  show J _ _ _ _ _ (.int _ :: _) (wM s la r v c l tn p pa m q b x h) _ _
  refine J.if_ne (tgt := 24) dX7_drift_19 (by decide) (fun c19 => ?_) (fun c19 => absurd c19 (fun h => (jB_0 _).mp h hw))
  refine J.aload_n dX7_drift_24 rfl rfl ?_
  refine J.cvM (as := []) s la r v c l tn p pa m q b x h okX7_lays jcX7_196 (mX7_lays s la r v c l tn p pa m q b x h hS hr) dX7_drift_25 rfl rfl rfl rfl (fun r9 B9 hq9 => ?_)
  obtain ⟨rfl, rfl⟩ := hq9
  refine ⟨_, _, _, _, _, _, _, _, _, _, _, _, _, _, rfl, ?_⟩
  show J _ _ _ _ _ [] (wM s la r v c l tn p pa (r 6 0) (mlay q r (r 6 0)) b x h) _ _
  refine J.iload_n dX7_drift_28 rfl rfl ?_
  refine J.istore dX7_drift_29 (by decide) rfl ?_
  try dsimp only [List.set]
  refine J.iconst (0) dX7_drift_31 (by decide) ?_
  refine J.istore dX7_drift_32 (by decide) rfl ?_
  try dsimp only [List.set]
  refine J.aload_n dX7_drift_34 rfl rfl ?_
  refine J.mg26 dX7_drift_35 rfl ?_
  rw [(mlay_E q r 0 (r 6 0)).2.1]
  refine J.istore dX7_drift_38 (by decide) rfl ?_
  try dsimp only [List.set]
  refine J.iconst (0) dX7_drift_40 (by decide) ?_
  refine J.istore dX7_drift_41 (by decide) rfl ?_
  try dsimp only [List.set]
  exact J.at (mX7_drift_o s la r v c l tn p pa m q b x h z0 N hN wh hS hr N 0 (by omega) none none) rfl rfl rfl
set_option maxRecDepth 100000 in
set_option maxHeartbeats 4000000 in
theorem mX7_drift_bad (s : Nat → Int32) (la : Nat → Int32) (r : rT) (v : vT) (c : Nat → Nat → Int32) (l : Nat → Int32) (tn : Int32) (p : Nat → Int32) (pa : Nat → Nat → Int32) (m : Nat) (q : rT) (b : Int32) (x : Nat → Nat) (h : Nat → Nat → Int64) (z0 n0 wh : Int32) (hb : ¬ (1 ≤ n0 ∧ n0 ≤ 60) ∨ ¬ (0 ≤ wh ∧ wh ≤ 1)) : J KX7_drift 21 (fun o B => o = some (.int (-1)) ∧ B = (wM s la r v c l tn p pa m q b x h)) 0 [some (.ref 0), some (.int z0), some (.int n0), some (.int wh), none, none, none, none, none, none] [] (wM s la r v c l tn p pa m q b x h) 0 0 := by
  refine J.iload_n dX7_drift_0 rfl rfl ?_
  refine J.i2l dX7_drift_1 ?_
  refine J.lconst 1 dX7_drift_2 (by decide) ?_
  refine J.ldc2 (v := 60) dX7_drift_3 (jt 1174 rfl rfl) ?_
  refine J.cs (as := [.long _, .long _, .long _]) (is := []) okX7_in jcX7_74 (mX7_inI n0 1 60 (by decide) (by decide)) dX7_drift_6 rfl rfl rfl rfl rfl rfl (fun r9 B9 hq => ?_)
  obtain ⟨rfl, rfl⟩ := hq
  refine ⟨rfl, ?_⟩
  show J _ _ _ _ _ (.int _ :: _) (wM s la r v c l tn p pa m q b x h) _ _
  refine J.if_eq (tgt := 22) dX7_drift_9 (by decide) (fun c9 => ?_) (fun c9 => ?_)
  · refine J.iconst (-1) dX7_drift_22 (by decide) ?_
    exact J.iret dX7_drift_23 rfl rfl (Nat.le_refl _) (Nat.le_refl _) ⟨rfl, rfl⟩
  · refine J.iload_n dX7_drift_12 rfl rfl ?_
    refine J.i2l dX7_drift_13 ?_
    refine J.lconst 0 dX7_drift_14 (by decide) ?_
    refine J.lconst 1 dX7_drift_15 (by decide) ?_
    refine J.cs (as := [.long _, .long _, .long _]) (is := []) okX7_in jcX7_74 (mX7_inI wh 0 1 (by decide) (by decide)) dX7_drift_16 rfl rfl rfl rfl rfl rfl (fun r9 B9 hq => ?_)
    obtain ⟨rfl, rfl⟩ := hq
    refine ⟨rfl, ?_⟩
    show J _ _ _ _ _ (.int _ :: _) (wM s la r v c l tn p pa m q b x h) _ _
    refine J.if_ne (tgt := 24) dX7_drift_19 (by decide) (fun c19 => absurd c19 (fun h => h ((jB_0 _).mpr (fun hC => (fun h => h.elim (fun h => h (Decidable.not_not.mp (fun h9 => c9 ((jB_0 _).mpr h9)))) (fun h => h hC)) hb)))) (fun c19 => ?_)
    refine J.iconst (-1) dX7_drift_22 (by decide) ?_
    exact J.iret dX7_drift_23 rfl rfl (Nat.le_refl _) (Nat.le_refl _) ⟨rfl, rfl⟩
