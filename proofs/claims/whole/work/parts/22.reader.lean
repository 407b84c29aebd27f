theorem dX1_spells_0 : decode cX1_spells 0 = .ok (.aload_n 0, 1) := by decide +kernel
theorem dX1_spells_1 : decode cX1_spells 1 = .ok (.getfield 49, 3) := by decide +kernel
theorem dX1_spells_4 : decode cX1_spells 4 = .ok (.iconst 1, 1) := by decide +kernel
theorem dX1_spells_5 : decode cX1_spells 5 = .ok (.if_icmp .ne 19, 3) := by decide +kernel
theorem dX1_spells_8 : decode cX1_spells 8 = .ok (.aload_n 0, 1) := by decide +kernel
theorem dX1_spells_9 : decode cX1_spells 9 = .ok (.getfield 32, 3) := by decide +kernel
theorem dX1_spells_12 : decode cX1_spells 12 = .ok (.aload_n 0, 1) := by decide +kernel
theorem dX1_spells_13 : decode cX1_spells 13 = .ok (.getfield 107, 3) := by decide +kernel
theorem dX1_spells_16 : decode cX1_spells 16 = .ok (.isub, 1) := by decide +kernel
theorem dX1_spells_17 : decode cX1_spells 17 = .ok (.aload_n 1, 1) := by decide +kernel
theorem dX1_spells_18 : decode cX1_spells 18 = .ok (.invokevirtual 157, 3) := by decide +kernel
theorem dX1_spells_21 : decode cX1_spells 21 = .ok (.if_icmp .eq 5, 3) := by decide +kernel
theorem dX1_spells_24 : decode cX1_spells 24 = .ok (.iconst 0, 1) := by decide +kernel
theorem dX1_spells_25 : decode cX1_spells 25 = .ok (.ireturn, 1) := by decide +kernel
theorem dX1_spells_26 : decode cX1_spells 26 = .ok (.iconst 0, 1) := by decide +kernel
theorem dX1_spells_27 : decode cX1_spells 27 = .ok (.istore_n 2, 1) := by decide +kernel
theorem dX1_spells_28 : decode cX1_spells 28 = .ok (.iload_n 2, 1) := by decide +kernel
theorem dX1_spells_29 : decode cX1_spells 29 = .ok (.aload_n 1, 1) := by decide +kernel
theorem dX1_spells_30 : decode cX1_spells 30 = .ok (.invokevirtual 157, 3) := by decide +kernel
theorem dX1_spells_33 : decode cX1_spells 33 = .ok (.if_icmp .ge 32, 3) := by decide +kernel
theorem dX1_spells_36 : decode cX1_spells 36 = .ok (.aload_n 0, 1) := by decide +kernel
theorem dX1_spells_37 : decode cX1_spells 37 = .ok (.getfield 12, 3) := by decide +kernel
theorem dX1_spells_40 : decode cX1_spells 40 = .ok (.aload_n 0, 1) := by decide +kernel
theorem dX1_spells_41 : decode cX1_spells 41 = .ok (.getfield 107, 3) := by decide +kernel
theorem dX1_spells_44 : decode cX1_spells 44 = .ok (.iload_n 2, 1) := by decide +kernel
theorem dX1_spells_45 : decode cX1_spells 45 = .ok (.iadd, 1) := by decide +kernel
theorem dX1_spells_46 : decode cX1_spells 46 = .ok (.invokevirtual 139, 3) := by decide +kernel
theorem dX1_spells_49 : decode cX1_spells 49 = .ok (.aload_n 1, 1) := by decide +kernel
theorem dX1_spells_50 : decode cX1_spells 50 = .ok (.iload_n 2, 1) := by decide +kernel
theorem dX1_spells_51 : decode cX1_spells 51 = .ok (.invokevirtual 161, 3) := by decide +kernel
theorem dX1_spells_54 : decode cX1_spells 54 = .ok (.if_icmp .eq 5, 3) := by decide +kernel
theorem dX1_spells_57 : decode cX1_spells 57 = .ok (.iconst 0, 1) := by decide +kernel
theorem dX1_spells_58 : decode cX1_spells 58 = .ok (.ireturn, 1) := by decide +kernel
theorem dX1_spells_59 : decode cX1_spells 59 = .ok (.iinc 2 1, 3) := by decide +kernel
theorem dX1_spells_62 : decode cX1_spells 62 = .ok (.goto (-34), 3) := by decide +kernel
theorem dX1_spells_65 : decode cX1_spells 65 = .ok (.iconst 1, 1) := by decide +kernel
theorem dX1_spells_66 : decode cX1_spells 66 = .ok (.ireturn, 1) := by decide +kernel
theorem dX1_spelledKind_0 : decode cX1_spelledKind 0 = .ok (.aload_n 0, 1) := by decide +kernel
theorem dX1_spelledKind_1 : decode cX1_spelledKind 1 = .ok (.ldc 147, 2) := by decide +kernel
theorem dX1_spelledKind_3 : decode cX1_spelledKind 3 = .ok (.invokevirtual 73, 3) := by decide +kernel
theorem dX1_spelledKind_6 : decode cX1_spelledKind 6 = .ok (.ifCond .eq 5, 3) := by decide +kernel
theorem dX1_spelledKind_9 : decode cX1_spelledKind 9 = .ok (.iconst 0, 1) := by decide +kernel
theorem dX1_spelledKind_10 : decode cX1_spelledKind 10 = .ok (.ireturn, 1) := by decide +kernel
theorem dX1_spelledKind_11 : decode cX1_spelledKind 11 = .ok (.aload_n 0, 1) := by decide +kernel
theorem dX1_spelledKind_12 : decode cX1_spelledKind 12 = .ok (.ldc 149, 2) := by decide +kernel
theorem dX1_spelledKind_14 : decode cX1_spelledKind 14 = .ok (.invokevirtual 73, 3) := by decide +kernel
theorem dX1_spelledKind_17 : decode cX1_spelledKind 17 = .ok (.ifCond .eq 5, 3) := by decide +kernel
theorem dX1_spelledKind_20 : decode cX1_spelledKind 20 = .ok (.iconst 1, 1) := by decide +kernel
theorem dX1_spelledKind_21 : decode cX1_spelledKind 21 = .ok (.ireturn, 1) := by decide +kernel
theorem dX1_spelledKind_22 : decode cX1_spelledKind 22 = .ok (.aload_n 0, 1) := by decide +kernel
theorem dX1_spelledKind_23 : decode cX1_spelledKind 23 = .ok (.ldc 151, 2) := by decide +kernel
theorem dX1_spelledKind_25 : decode cX1_spelledKind 25 = .ok (.invokevirtual 73, 3) := by decide +kernel
theorem dX1_spelledKind_28 : decode cX1_spelledKind 28 = .ok (.ifCond .eq 5, 3) := by decide +kernel
theorem dX1_spelledKind_31 : decode cX1_spelledKind 31 = .ok (.iconst 2, 1) := by decide +kernel
theorem dX1_spelledKind_32 : decode cX1_spelledKind 32 = .ok (.ireturn, 1) := by decide +kernel
theorem dX1_spelledKind_33 : decode cX1_spelledKind 33 = .ok (.aload_n 0, 1) := by decide +kernel
theorem dX1_spelledKind_34 : decode cX1_spelledKind 34 = .ok (.ldc 153, 2) := by decide +kernel
theorem dX1_spelledKind_36 : decode cX1_spelledKind 36 = .ok (.invokevirtual 73, 3) := by decide +kernel
theorem dX1_spelledKind_39 : decode cX1_spelledKind 39 = .ok (.ifCond .eq 5, 3) := by decide +kernel
theorem dX1_spelledKind_42 : decode cX1_spelledKind 42 = .ok (.iconst 3, 1) := by decide +kernel
theorem dX1_spelledKind_43 : decode cX1_spelledKind 43 = .ok (.ireturn, 1) := by decide +kernel
theorem dX1_spelledKind_44 : decode cX1_spelledKind 44 = .ok (.aload_n 0, 1) := by decide +kernel
theorem dX1_spelledKind_45 : decode cX1_spelledKind 45 = .ok (.ldc 155, 2) := by decide +kernel
theorem dX1_spelledKind_47 : decode cX1_spelledKind 47 = .ok (.invokevirtual 73, 3) := by decide +kernel
theorem dX1_spelledKind_50 : decode cX1_spelledKind 50 = .ok (.ifCond .eq 7, 3) := by decide +kernel
theorem dX1_spelledKind_53 : decode cX1_spelledKind 53 = .ok (.iconst 4, 1) := by decide +kernel
theorem dX1_spelledKind_54 : decode cX1_spelledKind 54 = .ok (.goto 4, 3) := by decide +kernel
theorem dX1_spelledKind_57 : decode cX1_spelledKind 57 = .ok (.iconst (-1), 1) := by decide +kernel
theorem dX1_spelledKind_58 : decode cX1_spelledKind 58 = .ok (.ireturn, 1) := by decide +kernel
theorem dX1_readNumber_0 : decode cX1_readNumber 0 = .ok (.aload_n 0, 1) := by decide +kernel
theorem dX1_readNumber_1 : decode cX1_readNumber 1 = .ok (.invokevirtual 45, 3) := by decide +kernel
theorem dX1_readNumber_4 : decode cX1_readNumber 4 = .ok (.ifCond .ne 5, 3) := by decide +kernel
theorem dX1_readNumber_7 : decode cX1_readNumber 7 = .ok (.iconst 0, 1) := by decide +kernel
theorem dX1_readNumber_8 : decode cX1_readNumber 8 = .ok (.ireturn, 1) := by decide +kernel
theorem dX1_readNumber_9 : decode cX1_readNumber 9 = .ok (.aload_n 0, 1) := by decide +kernel
theorem dX1_readNumber_10 : decode cX1_readNumber 10 = .ok (.getfield 49, 3) := by decide +kernel
theorem dX1_readNumber_13 : decode cX1_readNumber 13 = .ok (.iconst 2, 1) := by decide +kernel
theorem dX1_readNumber_14 : decode cX1_readNumber 14 = .ok (.if_icmp .eq 13, 3) := by decide +kernel
theorem dX1_readNumber_17 : decode cX1_readNumber 17 = .ok (.aload_n 0, 1) := by decide +kernel
theorem dX1_readNumber_18 : decode cX1_readNumber 18 = .ok (.iconst 2, 1) := by decide +kernel
theorem dX1_readNumber_19 : decode cX1_readNumber 19 = .ok (.aload_n 0, 1) := by decide +kernel
theorem dX1_readNumber_20 : decode cX1_readNumber 20 = .ok (.getfield 107, 3) := by decide +kernel
theorem dX1_readNumber_23 : decode cX1_readNumber 23 = .ok (.invokevirtual 61, 3) := by decide +kernel
theorem dX1_readNumber_26 : decode cX1_readNumber 26 = .ok (.ireturn, 1) := by decide +kernel
theorem dX1_readNumber_27 : decode cX1_readNumber 27 = .ok (.aload_n 0, 1) := by decide +kernel
theorem dX1_readNumber_28 : decode cX1_readNumber 28 = .ok (.iconst 0, 1) := by decide +kernel
theorem dX1_readNumber_29 : decode cX1_readNumber 29 = .ok (.putfield 117, 3) := by decide +kernel
theorem dX1_readNumber_32 : decode cX1_readNumber 32 = .ok (.aload_n 0, 1) := by decide +kernel
theorem dX1_readNumber_33 : decode cX1_readNumber 33 = .ok (.getfield 107, 3) := by decide +kernel
theorem dX1_readNumber_36 : decode cX1_readNumber 36 = .ok (.istore_n 3, 1) := by decide +kernel
theorem dX1_readNumber_37 : decode cX1_readNumber 37 = .ok (.iload_n 3, 1) := by decide +kernel
theorem dX1_readNumber_38 : decode cX1_readNumber 38 = .ok (.aload_n 0, 1) := by decide +kernel
theorem dX1_readNumber_39 : decode cX1_readNumber 39 = .ok (.getfield 32, 3) := by decide +kernel
theorem dX1_readNumber_42 : decode cX1_readNumber 42 = .ok (.if_icmp .ge 32, 3) := by decide +kernel
theorem dX1_readNumber_45 : decode cX1_readNumber 45 = .ok (.aload_n 0, 1) := by decide +kernel
theorem dX1_readNumber_46 : decode cX1_readNumber 46 = .ok (.bipush 10, 2) := by decide +kernel
theorem dX1_readNumber_48 : decode cX1_readNumber 48 = .ok (.aload_n 0, 1) := by decide +kernel
theorem dX1_readNumber_49 : decode cX1_readNumber 49 = .ok (.getfield 117, 3) := by decide +kernel
theorem dX1_readNumber_52 : decode cX1_readNumber 52 = .ok (.imul, 1) := by decide +kernel
theorem dX1_readNumber_53 : decode cX1_readNumber 53 = .ok (.aload_n 0, 1) := by decide +kernel
theorem dX1_readNumber_54 : decode cX1_readNumber 54 = .ok (.getfield 12, 3) := by decide +kernel
theorem dX1_readNumber_57 : decode cX1_readNumber 57 = .ok (.iload_n 3, 1) := by decide +kernel
theorem dX1_readNumber_58 : decode cX1_readNumber 58 = .ok (.invokevirtual 139, 3) := by decide +kernel
theorem dX1_readNumber_61 : decode cX1_readNumber 61 = .ok (.iadd, 1) := by decide +kernel
theorem dX1_readNumber_62 : decode cX1_readNumber 62 = .ok (.bipush 48, 2) := by decide +kernel
theorem dX1_readNumber_64 : decode cX1_readNumber 64 = .ok (.isub, 1) := by decide +kernel
theorem dX1_readNumber_65 : decode cX1_readNumber 65 = .ok (.putfield 117, 3) := by decide +kernel
theorem dX1_readNumber_68 : decode cX1_readNumber 68 = .ok (.iinc 3 1, 3) := by decide +kernel
theorem dX1_readNumber_71 : decode cX1_readNumber 71 = .ok (.goto (-34), 3) := by decide +kernel
theorem dX1_readNumber_74 : decode cX1_readNumber 74 = .ok (.aload_n 0, 1) := by decide +kernel
theorem dX1_readNumber_75 : decode cX1_readNumber 75 = .ok (.getfield 117, 3) := by decide +kernel
theorem dX1_readNumber_78 : decode cX1_readNumber 78 = .ok (.iload_n 1, 1) := by decide +kernel
theorem dX1_readNumber_79 : decode cX1_readNumber 79 = .ok (.iload_n 2, 1) := by decide +kernel
theorem dX1_readNumber_80 : decode cX1_readNumber 80 = .ok (.invokestatic 143, 3) := by decide +kernel
theorem dX1_readNumber_83 : decode cX1_readNumber 83 = .ok (.ifCond .ne 15, 3) := by decide +kernel
theorem dX1_readNumber_86 : decode cX1_readNumber 86 = .ok (.aload_n 0, 1) := by decide +kernel
theorem dX1_readNumber_87 : decode cX1_readNumber 87 = .ok (.iconst 3, 1) := by decide +kernel
theorem dX1_readNumber_88 : decode cX1_readNumber 88 = .ok (.aload_n 0, 1) := by decide +kernel
theorem dX1_readNumber_89 : decode cX1_readNumber 89 = .ok (.getfield 107, 3) := by decide +kernel
theorem dX1_readNumber_92 : decode cX1_readNumber 92 = .ok (.invokevirtual 61, 3) := by decide +kernel
theorem dX1_readNumber_95 : decode cX1_readNumber 95 = .ok (.ifCond .eq 7, 3) := by decide +kernel
theorem dX1_readNumber_98 : decode cX1_readNumber 98 = .ok (.iconst 1, 1) := by decide +kernel
theorem dX1_readNumber_99 : decode cX1_readNumber 99 = .ok (.goto 4, 3) := by decide +kernel
theorem dX1_readNumber_102 : decode cX1_readNumber 102 = .ok (.iconst 0, 1) := by decide +kernel
theorem dX1_readNumber_103 : decode cX1_readNumber 103 = .ok (.ireturn, 1) := by decide +kernel
theorem dX1_readStop_0 : decode cX1_readStop 0 = .ok (.aload_n 0, 1) := by decide +kernel
theorem dX1_readStop_1 : decode cX1_readStop 1 = .ok (.invokevirtual 45, 3) := by decide +kernel
theorem dX1_readStop_4 : decode cX1_readStop 4 = .ok (.ifCond .eq 27, 3) := by decide +kernel
theorem dX1_readStop_7 : decode cX1_readStop 7 = .ok (.aload_n 0, 1) := by decide +kernel
theorem dX1_readStop_8 : decode cX1_readStop 8 = .ok (.getfield 49, 3) := by decide +kernel
theorem dX1_readStop_11 : decode cX1_readStop 11 = .ok (.iconst 3, 1) := by decide +kernel
theorem dX1_readStop_12 : decode cX1_readStop 12 = .ok (.if_icmp .eq 15, 3) := by decide +kernel
theorem dX1_readStop_15 : decode cX1_readStop 15 = .ok (.aload_n 0, 1) := by decide +kernel
theorem dX1_readStop_16 : decode cX1_readStop 16 = .ok (.iconst 2, 1) := by decide +kernel
theorem dX1_readStop_17 : decode cX1_readStop 17 = .ok (.aload_n 0, 1) := by decide +kernel
theorem dX1_readStop_18 : decode cX1_readStop 18 = .ok (.getfield 107, 3) := by decide +kernel
theorem dX1_readStop_21 : decode cX1_readStop 21 = .ok (.invokevirtual 61, 3) := by decide +kernel
theorem dX1_readStop_24 : decode cX1_readStop 24 = .ok (.ifCond .eq 7, 3) := by decide +kernel
theorem dX1_readStop_27 : decode cX1_readStop 27 = .ok (.iconst 1, 1) := by decide +kernel
theorem dX1_readStop_28 : decode cX1_readStop 28 = .ok (.goto 4, 3) := by decide +kernel
theorem dX1_readStop_31 : decode cX1_readStop 31 = .ok (.iconst 0, 1) := by decide +kernel
theorem dX1_readStop_32 : decode cX1_readStop 32 = .ok (.ireturn, 1) := by decide +kernel
def ntoB (b : Nat → Nat) (len p : Nat) : Bool := (nts b len p != 4) && !((nts b len p == 2) && decide (2 < ntt b len p - ntf b len p))
theorem ntoB_iff (b : Nat → Nat) (len p : Nat) : ntoB b len p = true ↔ nto b len p := by
  simp [ntoB, nto]
  intro _
  by_cases h : nts b len p = 2 <;> simp [h]
def yN (b : Nat → Nat) (len : Nat) (y : Nat → Nat) : Nat → Nat := ynt b len y (ntoB b len (y 2) = true)
def yF (y : Nat → Nat) (f p : Nat) : Nat → Nat := yset (yset y 7 f) 8 p
theorem mX1_next (b : Nat → Nat) (len : Nat) (d : rT) (hb : ∀ j, b j < 128) (hl : len ≤ 160) (y : Nat → Nat) (hy : y 2 ≤ len) : J KX1_nextToken 10 (fun o B => o = some (.int (jB (ntoB b len (y 2) = true))) ∧ B = wX b len d (yN b len y)) 0 [some (.ref 0), none] [] (wX b len d y) 0 0 := mX1_nextToken b len d hb hl y hy _ _ (ntoB_iff b len (y 2))
theorem ntf_le {b : Nat → Nat} {len p : Nat} (h : p ≤ len) : p ≤ ntf b len p ∧ ntf b len p ≤ len := by
  have := skp_le b (len - p) p
  unfold ntf
  omega
theorem srt_0 {b : Nat → Nat} {len p : Nat} (h : len ≤ p) : srt b len p = 0 := by
  rw [srt, bya, if_neg (by omega)]
  rfl
theorem ntt_le {b : Nat → Nat} {len p : Nat} (h : p ≤ len) : ntf b len p ≤ ntt b len p ∧ ntt b len p ≤ len := by
  have h1 := ntf_le (b := b) h
  have h2 := run_le b len (nts b len p) (len - ntf b len p) (ntf b len p)
  unfold ntt
  split
  · next h3 =>
    by_cases h4 : ntf b len p < len
    · omega
    · exact absurd (srt_0 (b := b) (show len ≤ ntf b len p by omega)) (by unfold nts at h3; rw [h3]; decide)
  · split <;> omega
theorem run_all (b : Nat → Nat) (len st : Nat) : ∀ k p i, p ≤ i → i < run b len st k p → srt b len i = st
  | 0, p, i, h1, h2 => absurd h2 (by simp only [run]; omega)
  | k + 1, p, i, h1, h2 => by
    simp only [run] at h2
    split at h2
    · next h3 =>
      by_cases h4 : i = p
      · rw [h4]; exact h3
      · exact run_all b len st k (p + 1) i (by omega) h2
    · omega
/-- the number that the digits from f on tell -/
def vl (b : Nat → Nat) (f : Nat) : Nat → Nat
  | 0 => 0
  | k + 1 => 10 * vl b f k + b (f + k) - 48
theorem dig {b : Nat → Nat} {len p : Nat} (hb : b p < 128) (h : srt b len p = 2) : 48 ≤ b p ∧ b p ≤ 57 := by
  by_cases hp : p < len
  · rw [srt, bya, if_pos hp] at h
    unfold sof at h
    rw [if_neg (nI_pos (by omega))] at h
    split at h
    · exact absurd h (by decide)
    · split at h
      · next h3 => exact ⟨(nI_lei (a := 48) (by decide) (by omega)).mp h3.1, (nI_lei (b := 57) (by omega) (by decide)).mp h3.2⟩
      · split at h <;> exact absurd h (by decide)
  · rw [srt_0 (by omega)] at h
    exact absurd h (by decide)
theorem vl_le {b : Nat → Nat} {f : Nat} (h : ∀ i, 48 ≤ b i → b i ≤ 57 → True) : ∀ k, (∀ i, i < k → 48 ≤ b (f + i) ∧ b (f + i) ≤ 57) → vl b f k < 10 ^ k
  | 0, _ => by simp only [vl]; decide
  | k + 1, h2 => by
    have h3 := vl_le h k (fun i hi => h2 i (by omega))
    have h4 := h2 k (by omega)
    simp only [vl, Nat.pow_succ]
    omega
abbrev spl (b y : Nat → Nat) (j : Nat) : Prop := y 0 = 1 ∧ y 2 - y 1 = jlen.getD j 0 ∧ ∀ i, i < jlen.getD j 0 → nI (b (y 1 + i)) = (jbyt.getD j []).getD i 0
set_option maxRecDepth 100000 in
set_option maxHeartbeats 4000000 in
theorem mX1_spells_l (b : Nat → Nat) (len : Nat) (d : rT) (hb : ∀ j, b j < 128) (hl : len ≤ 160) (y : Nat → Nat) (j : Nat) (hj : j < 11) (hy : y 1 ≤ y 2 ∧ y 2 ≤ len) (h0 : y 0 < 100) (h1 : y 0 = 1) (h2 : y 2 - y 1 = jlen.getD j 0) : ∀ (k9 i : Nat), i + k9 = jlen.getD j 0 → (∀ i9, i9 < i → nI (b (y 1 + i9)) = (jbyt.getD j []).getD i9 0) → J KX1_spells 10 (fun o B => o = some (.int (jB (spl b y j))) ∧ B = wX b len d y) 28 [some (.ref 0), some (.ref (1000 + j)), some (.int (nI i))] [] (wX b len d y) 0 0 := by
  intro k9
  induction k9 with
  | zero =>
    intro i hi
    obtain hiN : i = jlen.getD j 0 := by omega
    intro hst
    rw [hiN] at hst ⊢
    refine J.iload_n dX1_spells_28 rfl rfl ?_
    refine J.aload_n dX1_spells_29 rfl rfl ?_
    refine J.cvS (as := []) okJ0_length_8abf5 jsX1_157 (mJ0_length j hj) dX1_spells_30 hj rfl rfl rfl rfl (fun r9 B9 hq => ?_)
    obtain ⟨rfl, rfl⟩ := hq
    refine ⟨rfl, ?_⟩
    show J _ _ _ _ _ _ (wX b len d y) _ _
    refine J.icmp_ge (tgt := 65) dX1_spells_33 (by decide) (fun c33 => ?_) (fun c33 => absurd c33 (fun h => h (Int32.le_refl _)))
    refine J.iconst (1) dX1_spells_65 (by decide) ?_
    exact J.iret dX1_spells_66 rfl (by decide) (Nat.le_refl _) (Nat.le_refl _) ⟨congrArg (fun x => some (Value.int x)) (jB_t _ (⟨h1, h2, hst⟩)).symm, rfl⟩
  | succ k9 ih =>
    intro i hi
    have hiN : i < jlen.getD j 0 := by omega
    intro hst
    refine J.iload_n dX1_spells_28 rfl rfl ?_
    refine J.aload_n dX1_spells_29 rfl rfl ?_
    refine J.cvS (as := []) okJ0_length_8abf5 jsX1_157 (mJ0_length j hj) dX1_spells_30 hj rfl rfl rfl rfl (fun r9 B9 hq => ?_)
    obtain ⟨rfl, rfl⟩ := hq
    refine ⟨rfl, ?_⟩
    show J _ _ _ _ _ _ (wX b len d y) _ _
    refine J.icmp_ge (tgt := 65) dX1_spells_33 (by decide) (fun c33 => absurd c33 (nI_ge hiN (by have := slen_lt j hj; omega))) (fun c33 => ?_)
    refine J.aload_n dX1_spells_36 rfl rfl ?_
    refine J.getfield dX1_spells_37 jFX1_12 rfl rfl ?_
    refine J.aload_n dX1_spells_40 rfl rfl ?_
    refine J.getfield dX1_spells_41 jFX1_107 rfl rfl ?_
    refine J.iload_n dX1_spells_44 rfl rfl ?_
    refine J.iadd dX1_spells_45 ?_
    rw [nI_add]
    refine J.cv (as := [.int _]) (is := [1, 2]) (o := 0) okX5_byteAt jcX1_139 (mX5_byteAt b len (y 1 + i) hl (by omega)) dX1_spells_46 rfl rfl rfl rfl rfl rfl rfl (fun r9 B9 hq => ?_)
    obtain ⟨rfl, rfl⟩ := hq
    refine ⟨rfl, ?_⟩
    show J _ _ _ _ _ _ (wX b len d y) _ _
    refine J.aload_n dX1_spells_49 rfl rfl ?_
    refine J.iload_n dX1_spells_50 rfl rfl ?_
    refine J.cvS (as := [.int _]) okJ0_charAt_5068e jsX1_161 (mJ0_charAt j i hj hiN) dX1_spells_51 hj rfl rfl rfl rfl (fun r9 B9 hq => ?_)
    obtain ⟨rfl, rfl⟩ := hq
    refine ⟨rfl, ?_⟩
    show J _ _ _ _ _ _ (wX b len d y) _ _
    refine J.icmp_eq (tgt := 59) dX1_spells_54 (by decide) (fun c54 => ?_) (fun c54 => ?_)
    · refine J.iinc (1) dX1_spells_59 (by decide) rfl (by decide) rfl ?_
      try dsimp only [List.set, wX]
      refine J.goto (tgt := 28) dX1_spells_62 (by decide) ?_
      refine J.at (ih (i + 1) (by omega) (fun i9 h9 => ?_)) (by rw [← nI_1]) rfl rfl
      by_cases e9 : i9 = i
      · subst e9
        rw [show bya b len (y 1 + i9) = nI (b (y 1 + i9)) from if_pos (by have := h2; omega)] at c54
        exact c54
      · exact hst i9 (by omega)
    · refine J.iconst (0) dX1_spells_57 (by decide) ?_
      exact J.iret dX1_spells_58 rfl (by decide) (Nat.le_refl _) (Nat.le_refl _) ⟨congrArg (fun x => some (Value.int x)) (jB_f _ (fun h => c54 (by rw [show bya b len (y 1 + i) = nI (b (y 1 + i)) from if_pos (by have := h2; omega)]; exact h.2.2 i hiN))).symm, rfl⟩
set_option maxRecDepth 100000 in
set_option maxHeartbeats 4000000 in
theorem mX1_spells (b : Nat → Nat) (len : Nat) (d : rT) (hb : ∀ j, b j < 128) (hl : len ≤ 160) (y : Nat → Nat) (j : Nat) (hj : j < 11) (hy : y 1 ≤ y 2 ∧ y 2 ≤ len) (h0 : y 0 < 100) : J KX1_spells 10 (fun o B => o = some (.int (jB (spl b y j))) ∧ B = wX b len d y) 0 [some (.ref 0), some (.ref (1000 + j)), none] [] (wX b len d y) 0 0 := by
  refine J.aload_n dX1_spells_0 rfl rfl ?_
  refine J.getfield dX1_spells_1 jFX1_49 rfl rfl ?_
  refine J.iconst (1) dX1_spells_4 (by decide) ?_
  refine J.icmp_ne (tgt := 24) dX1_spells_5 (by decide) (fun c5 => ?_) (fun c5 => ?_)
  · refine J.iconst (0) dX1_spells_24 (by decide) ?_
    first | exact J.iret dX1_spells_25 rfl (by decide) (Nat.le_refl _) (Nat.le_refl _) ⟨congrArg (fun x => some (Value.int x)) (jB_f _ (fun h => c5 (congrArg nI h.1))).symm, rfl⟩ | exact J.iret dX1_spells_25 rfl (by decide) (Nat.le_refl _) (Nat.le_refl _) ⟨congrArg (fun x => some (Value.int x)) (jB_f _ (fun h => c21 (congrArg nI h.2.1))).symm, rfl⟩
  · refine J.aload_n dX1_spells_8 rfl rfl ?_
    refine J.getfield dX1_spells_9 jFX1_32 rfl rfl ?_
    refine J.aload_n dX1_spells_12 rfl rfl ?_
    refine J.getfield dX1_spells_13 jFX1_107 rfl rfl ?_
    refine J.isub dX1_spells_16 ?_
    refine J.aload_n dX1_spells_17 rfl rfl ?_
    refine J.cvS (as := []) okJ0_length_8abf5 jsX1_157 (mJ0_length j hj) dX1_spells_18 hj rfl rfl rfl rfl (fun r9 B9 hq => ?_)
    obtain ⟨rfl, rfl⟩ := hq
    refine ⟨rfl, ?_⟩
    show J _ _ _ _ _ _ (wX b len d y) _ _
    rw [pk_sub hy.1]
    refine J.icmp_eq (tgt := 26) dX1_spells_21 (by decide) (fun c21 => ?_) (fun c21 => ?_)
    · refine J.iconst (0) dX1_spells_26 (by decide) ?_
      refine J.istore_n dX1_spells_27 rfl (by decide) rfl ?_
      try dsimp only [List.set, wX]
      exact mX1_spells_l b len d hb hl y j hj hy h0 ((nI_eqi (b := 1) (by omega) (by decide)).mp c5) ((nI_eqi (by omega) (by have := slen_lt j hj; omega)).mp c21) (jlen.getD j 0) 0 (by omega) (fun i9 h9 => absurd h9 (Nat.not_lt_zero _))
    · refine J.iconst (0) dX1_spells_24 (by decide) ?_
      first | exact J.iret dX1_spells_25 rfl (by decide) (Nat.le_refl _) (Nat.le_refl _) ⟨congrArg (fun x => some (Value.int x)) (jB_f _ (fun h => c5 (congrArg nI h.1))).symm, rfl⟩ | exact J.iret dX1_spells_25 rfl (by decide) (Nat.le_refl _) (Nat.le_refl _) ⟨congrArg (fun x => some (Value.int x)) (jB_f _ (fun h => c21 (congrArg nI h.2.1))).symm, rfl⟩
/-- readNumber, readStop: whether they go on, and what they leave -/
def rdN (b : Nat → Nat) (len lo up : Nat) (y : Nat → Nat) : Bool × (Nat → Nat) :=
  if ntoB b len (y 2) = true then
    (if yN b len y 0 = 2 then
      (if lo ≤ vl b (yN b len y 1) (yN b len y 2 - yN b len y 1) ∧ vl b (yN b len y 1) (yN b len y 2 - yN b len y 1) ≤ up then (true, yset (yN b len y) 3 (vl b (yN b len y 1) (yN b len y 2 - yN b len y 1)))
       else (false, yF (yset (yN b len y) 3 (vl b (yN b len y 1) (yN b len y 2 - yN b len y 1))) 3 (yN b len y 1)))
     else (false, yF (yN b len y) 2 (yN b len y 1)))
  else (false, yN b len y)
def rdS (b : Nat → Nat) (len : Nat) (y : Nat → Nat) : Bool × (Nat → Nat) :=
  if ntoB b len (y 2) = true then (if yN b len y 0 = 3 then (true, yN b len y) else (false, yF (yN b len y) 2 (yN b len y 1))) else (false, yN b len y)
theorem yN_2 {b : Nat → Nat} {len : Nat} {y : Nat → Nat} (h : y 2 ≤ len) : yN b len y 1 ≤ yN b len y 2 ∧ yN b len y 2 ≤ len := ntt_le h
theorem yN_0 (b : Nat → Nat) (len : Nat) (y : Nat → Nat) : yN b len y 0 ≤ 4 := sof_le _
theorem yN_d {b : Nat → Nat} {len : Nat} {y : Nat → Nat} (h : y 2 ≤ len) (hb : ∀ j, b j < 128) (h1 : ntoB b len (y 2) = true) (h2 : yN b len y 0 = 2) : yN b len y 2 - yN b len y 1 ≤ 2 ∧ ∀ i, i < yN b len y 2 - yN b len y 1 → 48 ≤ b (yN b len y 1 + i) ∧ b (yN b len y 1 + i) ≤ 57 := by
  have h3 : nts b len (y 2) = 2 := h2
  have h4 := (ntoB_iff b len (y 2)).mp h1
  refine ⟨Nat.not_lt.mp (fun h9 => h4.2 ⟨h3, h9⟩), fun i up => ?_⟩
  refine dig (hb _) (?_ : srt b len _ = 2)
  have h5 : ntt b len (y 2) = run b len (nts b len (y 2)) (len - ntf b len (y 2)) (ntf b len (y 2)) := (if_neg (by rw [h3]; decide)).trans (if_pos (Or.inr h3))
  have h6 : i < ntt b len (y 2) - ntf b len (y 2) := up
  rw [← h3]
  exact run_all b len _ (len - ntf b len (y 2)) (ntf b len (y 2)) _ (Nat.le_add_right _ _) (by rw [← h5]; show ntf b len (y 2) + i < _; omega)
set_option maxRecDepth 100000 in
set_option maxHeartbeats 4000000 in
theorem mX1_readNumber_l (b : Nat → Nat) (len : Nat) (d : rT) (hb : ∀ j, b j < 128) (hl : len ≤ 160) (y : Nat → Nat) (hy : y 2 ≤ len) (lo up : Nat) (hlo : lo < 1000) (hhi : up < 1000) (n4 : ntoB b len (y 2) = true) (n2 : yN b len y 0 = 2) (hdg : ∀ i, i < yN b len y 2 - yN b len y 1 → 48 ≤ b (yN b len y 1 + i) ∧ b (yN b len y 1 + i) ≤ 57) (hy1 : yN b len y 1 ≤ yN b len y 2 ∧ yN b len y 2 ≤ len) (hw9 : ¬ jB (nI lo ≤ nI (vl b (yN b len y 1) (yN b len y 2 - yN b len y 1)) ∧ nI (vl b (yN b len y 1) (yN b len y 2 - yN b len y 1)) ≤ nI up) = 0 → lo ≤ (vl b (yN b len y 1) (yN b len y 2 - yN b len y 1)) ∧ (vl b (yN b len y 1) (yN b len y 2 - yN b len y 1)) ≤ up) (hw8 : jB (nI lo ≤ nI (vl b (yN b len y 1) (yN b len y 2 - yN b len y 1)) ∧ nI (vl b (yN b len y 1) (yN b len y 2 - yN b len y 1)) ≤ nI up) = 0 → ¬ (lo ≤ (vl b (yN b len y 1) (yN b len y 2 - yN b len y 1)) ∧ (vl b (yN b len y 1) (yN b len y 2 - yN b len y 1)) ≤ up)) : ∀ (k9 i : Nat), i + k9 = (yN b len y 2 - yN b len y 1) → J KX1_readNumber 10 (fun o B => o = some (.int (jB ((rdN b len lo up y).1 = true))) ∧ B = wX b len d (rdN b len lo up y).2) 37 [some (.ref 0), some (.int (nI lo)), some (.int (nI up)), some (.int (nI (yN b len y 1 + i)))] [] (wX b len d (yset (yN b len y) 3 (vl b (yN b len y 1) i))) 0 0 := by
  intro k9
  induction k9 with
  | zero =>
    intro i hi
    obtain hiN : i = (yN b len y 2 - yN b len y 1) := by omega
    subst hiN
    refine J.iload_n dX1_readNumber_37 rfl rfl ?_
    refine J.aload_n dX1_readNumber_38 rfl rfl ?_
    refine J.getfield dX1_readNumber_39 jFX1_32 rfl rfl ?_
    refine J.icmp_ge (tgt := 74) dX1_readNumber_42 (by decide) (fun c42 => ?_) (fun c42 => absurd c42 (fun h => h (show nI (yN b len y 2) ≤ nI (yN b len y 1 + (yN b len y 2 - yN b len y 1)) from (nI_lei (by omega) (by omega)).mpr (by omega))))
    refine J.aload_n dX1_readNumber_74 rfl rfl ?_
    refine J.getfield dX1_readNumber_75 jFX1_117 rfl rfl ?_
    refine J.iload_n dX1_readNumber_78 rfl rfl ?_
    refine J.iload_n dX1_readNumber_79 rfl rfl ?_
    refine J.cs (as := [.int _, .int _, .int _]) (is := []) okX6_within jcX1_143 (mX6_within _ _ _) dX1_readNumber_80 rfl rfl rfl rfl rfl rfl (fun r9 B9 hq => ?_)
    obtain ⟨rfl, rfl⟩ := hq
    refine ⟨rfl, ?_⟩
    show J _ _ _ _ _ (.int _ :: _) (wX b len d (yset (yN b len y) 3 (vl b (yN b len y 1) (yN b len y 2 - yN b len y 1)))) _ _
    refine J.if_ne (tgt := 98) dX1_readNumber_83 (by decide) (fun c83 => ?_) (fun c83 => ?_)
    · refine J.iconst (1) dX1_readNumber_98 (by decide) ?_
      refine J.goto (tgt := 103) dX1_readNumber_99 (by decide) ?_
      first | (have e9 : rdN b len lo up y = (true, yset (yN b len y) 3 (vl b (yN b len y 1) (yN b len y 2 - yN b len y 1))) := (if_pos n4).trans ((if_pos n2).trans (if_pos (hw9 c83))); exact J.iret dX1_readNumber_103 rfl (by decide) (Nat.le_refl _) (Nat.le_refl _) ⟨by rw [e9] <;> rfl, by rw [e9] <;> rfl⟩) | (have e9 : rdN b len lo up y = (false, yF (yset (yN b len y) 3 (vl b (yN b len y 1) (yN b len y 2 - yN b len y 1))) 3 (yN b len y 1)) := (if_pos n4).trans ((if_pos n2).trans (if_neg (hw8 c83))); exact J.iret dX1_readNumber_103 rfl (by decide) (Nat.le_refl _) (Nat.le_refl _) ⟨by rw [e9] <;> rfl, by rw [e9] <;> rfl⟩)
    · refine J.aload_n dX1_readNumber_86 rfl rfl ?_
      refine J.iconst (3) dX1_readNumber_87 (by decide) ?_
      refine J.aload_n dX1_readNumber_88 rfl rfl ?_
      refine J.getfield dX1_readNumber_89 jFX1_107 rfl rfl ?_
      refine J.cv (as := [.int (nI 3), .int _]) (is := [0, 1, 2, 3, 4, 5, 6, 7, 8, 9]) (o := 0) okX1_fail jcX1_61 (mX1_fail b len d (yset (yN b len y) 3 (vl b (yN b len y 1) (yN b len y 2 - yN b len y 1))) 3 (yN b len y 1)) dX1_readNumber_92 rfl rfl rfl rfl rfl rfl rfl (fun r9 B9 hq => ?_)
      obtain ⟨rfl, rfl⟩ := hq
      refine ⟨rfl, ?_⟩
      show J _ _ _ _ _ (.int 0 :: _) (wX b len d (yF (yset (yN b len y) 3 (vl b (yN b len y 1) (yN b len y 2 - yN b len y 1))) 3 (yN b len y 1))) _ _
      refine J.if_eq (tgt := 102) dX1_readNumber_95 (by decide) (fun c95 => ?_) (fun c95 => absurd c95 (fun h => h rfl))
      refine J.iconst (0) dX1_readNumber_102 (by decide) ?_
      first | (have e9 : rdN b len lo up y = (true, yset (yN b len y) 3 (vl b (yN b len y 1) (yN b len y 2 - yN b len y 1))) := (if_pos n4).trans ((if_pos n2).trans (if_pos (hw9 c83))); exact J.iret dX1_readNumber_103 rfl (by decide) (Nat.le_refl _) (Nat.le_refl _) ⟨by rw [e9] <;> rfl, by rw [e9] <;> rfl⟩) | (have e9 : rdN b len lo up y = (false, yF (yset (yN b len y) 3 (vl b (yN b len y 1) (yN b len y 2 - yN b len y 1))) 3 (yN b len y 1)) := (if_pos n4).trans ((if_pos n2).trans (if_neg (hw8 c83))); exact J.iret dX1_readNumber_103 rfl (by decide) (Nat.le_refl _) (Nat.le_refl _) ⟨by rw [e9] <;> rfl, by rw [e9] <;> rfl⟩)
  | succ k9 ih =>
    intro i hi
    have hiN : i < (yN b len y 2 - yN b len y 1) := by omega
    refine J.iload_n dX1_readNumber_37 rfl rfl ?_
    refine J.aload_n dX1_readNumber_38 rfl rfl ?_
    refine J.getfield dX1_readNumber_39 jFX1_32 rfl rfl ?_
    refine J.icmp_ge (tgt := 74) dX1_readNumber_42 (by decide) (fun c42 => absurd c42 (nI_ge (show yN b len y 1 + i < yN b len y 2 by omega) (show yN b len y 2 < 2147483648 by omega))) (fun c42 => ?_)
    refine J.aload_n dX1_readNumber_45 rfl rfl ?_
    refine J.bipush (10) dX1_readNumber_46 (by decide) ?_
    refine J.aload_n dX1_readNumber_48 rfl rfl ?_
    refine J.getfield dX1_readNumber_49 jFX1_117 rfl rfl ?_
    refine J.imul dX1_readNumber_52 ?_
    refine J.aload_n dX1_readNumber_53 rfl rfl ?_
    refine J.getfield dX1_readNumber_54 jFX1_12 rfl rfl ?_
    refine J.iload_n dX1_readNumber_57 rfl rfl ?_
    refine J.cv (as := [.int _]) (is := [1, 2]) (o := 0) okX5_byteAt jcX1_139 (mX5_byteAt b len (yN b len y 1 + i) hl (by omega)) dX1_readNumber_58 rfl rfl rfl rfl rfl rfl rfl (fun r9 B9 hq => ?_)
    obtain ⟨rfl, rfl⟩ := hq
    refine ⟨rfl, ?_⟩
    show J _ _ _ _ _ _ (wX b len d (yset (yN b len y) 3 (vl b (yN b len y 1) i))) _ _
    refine J.iadd dX1_readNumber_61 ?_
    refine J.bipush (48) dX1_readNumber_62 (by decide) ?_
    refine J.isub dX1_readNumber_64 ?_
    rw [(show bya b len (yN b len y 1 + i) = nI (b (yN b len y 1 + i)) from if_pos (by omega)), show (10 : Int32) = nI 10 from rfl, show (48 : Int32) = nI 48 from rfl, show nI 10 * nI ((yset (yN b len y) 3 (vl b (yN b len y 1) i)) 3) + nI (b (yN b len y 1 + i)) - nI 48 = nI (vl b (yN b len y 1) (i + 1)) from by (rw [pk_mul, nI_add, pk_sub (by have := (hdg i hiN).1; omega)]; rfl)]
    refine J.putfield dX1_readNumber_65 jFX1_117 jP1_5 rfl rfl rfl (Nat.le_of_ble_eq_true rfl) ?_
    try dsimp only [List.set, wX]
    refine J.iinc (1) dX1_readNumber_68 (by decide) rfl (by decide) rfl ?_
    try dsimp only [List.set, wX]
    refine J.goto (tgt := 37) dX1_readNumber_71 (by decide) ?_
    exact J.at (ih (i + 1) (by omega)) (by rw [← Nat.add_assoc, ← nI_1]) rfl rfl
set_option maxRecDepth 100000 in
set_option maxHeartbeats 4000000 in
theorem mX1_readNumber (b : Nat → Nat) (len : Nat) (d : rT) (hb : ∀ j, b j < 128) (hl : len ≤ 160) (y : Nat → Nat) (hy : y 2 ≤ len) (lo up : Nat) (hlo : lo < 1000) (hhi : up < 1000) : J KX1_readNumber 10 (fun o B => o = some (.int (jB ((rdN b len lo up y).1 = true))) ∧ B = wX b len d (rdN b len lo up y).2) 0 [some (.ref 0), some (.int (nI lo)), some (.int (nI up)), none] [] (wX b len d y) 0 0 := by
  refine J.aload_n dX1_readNumber_0 rfl rfl ?_
  refine J.cv (as := []) (is := [0, 1, 2, 3, 4, 5, 6, 7, 8, 9]) (o := 0) okX1_nextToken jcX1_45 (mX1_next b len d hb hl y hy) dX1_readNumber_1 rfl rfl rfl rfl rfl rfl rfl (fun r9 B9 hq => ?_)
  obtain ⟨rfl, rfl⟩ := hq
  refine ⟨rfl, ?_⟩
  show J _ _ _ _ _ (.int _ :: _) (wX b len d (yN b len y)) _ _
  refine J.if_ne (tgt := 9) dX1_readNumber_4 (by decide) (fun c4 => ?_) (fun c4 => ?_)
  · refine J.aload_n dX1_readNumber_9 rfl rfl ?_
    refine J.getfield dX1_readNumber_10 jFX1_49 rfl rfl ?_
    refine J.iconst (2) dX1_readNumber_13 (by decide) ?_
    refine J.icmp_eq (tgt := 27) dX1_readNumber_14 (by decide) (fun c14 => ?_) (fun c14 => ?_)
    · refine J.aload_n dX1_readNumber_27 rfl rfl ?_
      refine J.iconst (0) dX1_readNumber_28 (by decide) ?_
      refine J.putfield dX1_readNumber_29 jFX1_117 jP1_5 rfl rfl rfl (Nat.le_of_ble_eq_true rfl) ?_
      try dsimp only [List.set, wX]
      refine J.aload_n dX1_readNumber_32 rfl rfl ?_
      refine J.getfield dX1_readNumber_33 jFX1_107 rfl rfl ?_
      refine J.istore_n dX1_readNumber_36 rfl (by decide) rfl ?_
      try dsimp only [List.set, wX]
      have n4 : ntoB b len (y 2) = true := Decidable.not_not.mp (fun h => c4 ((jB_0 _).mpr h))
      have n2 := (show yN b len y 0 = 2 from (nI_eqi (b := 2) (by have := yN_0 b len y; omega) (by decide)).mp c14)
      have hd9 := yN_d hy hb n4 n2
      have hy1 := yN_2 (b := b) hy
      have hv9 : (vl b (yN b len y 1) (yN b len y 2 - yN b len y 1)) < 100 := Nat.lt_of_lt_of_le (vl_le (fun _ _ _ => trivial) _ hd9.2) (Nat.pow_le_pow_right (by decide) hd9.1)
      have hw : (nI lo ≤ nI (vl b (yN b len y 1) (yN b len y 2 - yN b len y 1)) ∧ nI (vl b (yN b len y 1) (yN b len y 2 - yN b len y 1)) ≤ nI up) ↔ (lo ≤ (vl b (yN b len y 1) (yN b len y 2 - yN b len y 1)) ∧ (vl b (yN b len y 1) (yN b len y 2 - yN b len y 1)) ≤ up) := and_congr (nI_lei (by omega) (by omega)) (nI_lei (by omega) (by omega))
      exact J.at (mX1_readNumber_l b len d hb hl y hy lo up hlo hhi n4 n2 hd9.2 hy1 (fun h => hw.mp (Decidable.not_not.mp (fun h9 => h ((jB_0 _).mpr h9)))) (fun h h9 => (jB_0 _).mp h (hw.mpr h9)) (yN b len y 2 - yN b len y 1) 0 (by omega)) rfl rfl rfl
    · refine J.aload_n dX1_readNumber_17 rfl rfl ?_
      refine J.iconst (2) dX1_readNumber_18 (by decide) ?_
      refine J.aload_n dX1_readNumber_19 rfl rfl ?_
      refine J.getfield dX1_readNumber_20 jFX1_107 rfl rfl ?_
      refine J.cv (as := [.int (nI 2), .int _]) (is := [0, 1, 2, 3, 4, 5, 6, 7, 8, 9]) (o := 0) okX1_fail jcX1_61 (mX1_fail b len d (yN b len y) 2 (yN b len y 1)) dX1_readNumber_23 rfl rfl rfl rfl rfl rfl rfl (fun r9 B9 hq => ?_)
      obtain ⟨rfl, rfl⟩ := hq
      refine ⟨rfl, ?_⟩
      show J _ _ _ _ _ (.int 0 :: _) (wX b len d (yF (yN b len y) 2 (yN b len y 1))) _ _
      have n4 : ntoB b len (y 2) = true := Decidable.not_not.mp (fun h => c4 ((jB_0 _).mpr h))
      have e9 : rdN b len lo up y = (false, yF (yN b len y) 2 (yN b len y 1)) := (if_pos n4).trans (if_neg (fun h => c14 (congrArg nI h)))
      exact J.iret dX1_readNumber_26 rfl (by decide) (Nat.le_refl _) (Nat.le_refl _) ⟨by rw [e9] <;> rfl, by rw [e9] <;> rfl⟩
  · refine J.iconst (0) dX1_readNumber_7 (by decide) ?_
    have n4 : ¬ ntoB b len (y 2) = true := (jB_0 _).mp c4
    have e9 : rdN b len lo up y = (false, yN b len y) := if_neg n4
    exact J.iret dX1_readNumber_8 rfl (by decide) (Nat.le_refl _) (Nat.le_refl _) ⟨by rw [e9] <;> rfl, by rw [e9] <;> rfl⟩
