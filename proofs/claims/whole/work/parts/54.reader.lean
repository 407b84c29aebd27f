/-! ===== the reference's reader: NAMES, NUMBERS ===== -/
theorem jb_inj : ∀ i, i < 11 → ∀ j, j < 11 → jlen.getD i 0 = jlen.getD j 0 → (∀ t, t < 7 → t < jlen.getD i 0 → (jbyt.getD i []).getD t 0 = (jbyt.getD j []).getD t 0) → i = j := by decide +kernel
theorem sg_lt : ∀ n, n < 11 → sg n < 11 := by decide
theorem sg_inj : ∀ n, n < 11 → ∀ k, k < 11 → sg n = sg k → n = k := by decide
theorem spl_inj {b y : Nat → Nat} {n k : Nat} (hn : n < 11) (hk : k < 11) (h1 : spl b y (sg n)) (h2 : spl b y (sg k)) : n = k := by
  refine sg_inj n hn k hk (jb_inj _ (sg_lt n hn) _ (sg_lt k hk) (h1.2.1.symm.trans h2.2.1) (fun t _ ht => ?_))
  rw [← h1.2.2 t ht, ← h2.2.2 t (by rw [← h2.2.1, h1.2.1]; exact ht)]
theorem nmF_at {b y : Nat → Nat} {n : Nat} (hn : n < 11) (h : spl b y (sg n)) : ∀ f m, m + f = 11 → m ≤ n → nmF b y f m = nI n
  | 0, m, h1, h2 => by omega
  | f + 1, m, h1, h2 => by
    rw [nmF]
    by_cases e : m = n
    · rw [e, if_pos h]
    · rw [if_neg (fun h9 => e (spl_inj (by omega) hn h9 h)), nmF_at hn h f (m + 1) (by omega) (by omega)]
theorem nmF_or (b y : Nat → Nat) : ∀ f m, m + f = 11 → nmF b y f m = -4 ∨ ∃ n, n < 11 ∧ spl b y (sg n) ∧ nmF b y f m = nI n
  | 0, m, _ => Or.inl rfl
  | f + 1, m, h => by
    rw [nmF]
    by_cases e : spl b y (sg m)
    · rw [if_pos e]; exact Or.inr ⟨m, by omega, e, rfl⟩
    · rw [if_neg e]; exact nmF_or b y f (m + 1) (by omega)
theorem nm_none {b y : Nat → Nat} (h : ∀ n, n < 6 → ¬ spl b y (sg n)) : ¬ (0 ≤ nmF b y 11 0 ∧ nmF b y 11 0 ≤ 5) := by
  intro h9
  rcases nmF_or b y 11 0 rfl with e | ⟨n, h1, h2, e⟩
  · rw [e] at h9; exact absurd h9.1 (by decide)
  · rw [e] at h9
    have := (nI_lei (b := 5) (by omega) (by decide)).mp h9.2
    exact h n (by omega) h2
theorem kd_lt {b y : Nat → Nat} (h : ¬ kd b y = 5) : spl b y (sg (6 + kd b y)) ∧ kd b y < 5 := by
  unfold kd at h ⊢
  by_cases h1 : spl b y 1
  · rw [if_pos h1]; exact ⟨h1, by decide⟩
  · rw [if_neg h1] at h ⊢
    by_cases h2 : spl b y 2
    · rw [if_pos h2]; exact ⟨h2, by decide⟩
    · rw [if_neg h2] at h ⊢
      by_cases h3 : spl b y 3
      · rw [if_pos h3]; exact ⟨h3, by decide⟩
      · rw [if_neg h3] at h ⊢
        by_cases h4 : spl b y 4
        · rw [if_pos h4]; exact ⟨h4, by decide⟩
        · rw [if_neg h4] at h ⊢
          by_cases h5 : spl b y 5
          · rw [if_pos h5]; exact ⟨h5, by decide⟩
          · rw [if_neg h5] at h; exact absurd rfl h
theorem kd_no {b y : Nat → Nat} (h : kd b y = 5) : ∀ n, 6 ≤ n → n < 11 → ¬ spl b y (sg n) := by
  intro n h1 h2 h3
  have hs : spl b y 1 ∨ spl b y 2 ∨ spl b y 3 ∨ spl b y 4 ∨ spl b y 5 := by
    have : n = 6 ∨ n = 7 ∨ n = 8 ∨ n = 9 ∨ n = 10 := by omega
    rcases this with rfl | rfl | rfl | rfl | rfl
    · exact Or.inl h3
    · exact Or.inr (Or.inl h3)
    · exact Or.inr (Or.inr (Or.inl h3))
    · exact Or.inr (Or.inr (Or.inr (Or.inl h3)))
    · exact Or.inr (Or.inr (Or.inr (Or.inr h3)))
  unfold kd at h
  by_cases a1 : spl b y 1
  · rw [if_pos a1] at h; exact absurd h (by decide)
  · rw [if_neg a1] at h
    by_cases a2 : spl b y 2
    · rw [if_pos a2] at h; exact absurd h (by decide)
    · rw [if_neg a2] at h
      by_cases a3 : spl b y 3
      · rw [if_pos a3] at h; exact absurd h (by decide)
      · rw [if_neg a3] at h
        by_cases a4 : spl b y 4
        · rw [if_pos a4] at h; exact absurd h (by decide)
        · rw [if_neg a4] at h
          by_cases a5 : spl b y 5
          · rw [if_pos a5] at h; exact absurd h (by decide)
          · exact hs.elim a1 (fun h => h.elim a2 (fun h => h.elim a3 (fun h => h.elim a4 a5)))
theorem nm_kd {b y : Nat → Nat} : (kd b y = 5 → nmF b y 11 0 - 6 < 0) ∧ (¬ kd b y = 5 → nmF b y 11 0 - 6 = nI (kd b y)) := by
  refine ⟨fun h => ?_, fun h => ?_⟩
  · rcases nmF_or b y 11 0 rfl with e | ⟨n, h1, h2, e⟩
    · rw [e]; decide
    · rw [e]
      have : n < 6 := by
        apply Decidable.not_not.mp
        intro h9
        exact kd_no h n (by omega) h1 h2
      exact pk_sneg (b := 6) (by decide) this
  · have := kd_lt h
    rw [nmF_at (show 6 + kd b y < 11 by omega) this.1 11 0 rfl (Nat.zero_le _)]
    rw [show (6 : Int32) = nI 6 from rfl, pk_sub (by omega), show 6 + kd b y - 6 = kd b y by omega]
/-- a FAULT has been found -/
def rF (p : Nat → Int32) (F P : Nat) : Prop := p 5 = nI F ∧ p 6 = nI P ∧ 0 < F ∧ F < 100
theorem rA.ok {v : vT} {p : Nat → Int32} {P : Nat} (h : rA v p P) (h1 : ntoB (v 1) (v 4 0) P = true) : p 5 = 0 ∧ tkp v p (nts (v 1) (v 4 0) P) (ntf (v 1) (v 4 0) P) (ntt (v 1) (v 4 0) P) := h.1 h1
theorem rA.no {v : vT} {p : Nat → Int32} {P : Nat} (h : rA v p P) (h1 : ¬ ntoB (v 1) (v 4 0) P = true) : rF p 1 (ntf (v 1) (v 4 0) P) := ⟨(h.2 h1).1, (h.2 h1).2, by decide, by decide⟩
theorem rA.up {v : vT} {p p' : Nat → Int32} {P : Nat} (h : rA v p P) (e : ∀ i, 5 ≤ i → p' i = p i) : rA v p' P := by
  unfold rA tkp at h ⊢
  rw [e 5 (by decide), e 6 (by decide), e 7 (by decide), e 8 (by decide), e 9 (by decide), e 10 (by decide)]
  exact h
theorem rF.up {p p' : Nat → Int32} {F P : Nat} (h : rF p F P) (e : ∀ i, 5 ≤ i → p' i = p i) : rF p' F P := by
  unfold rF at h ⊢
  rw [e 5 (by decide), e 6 (by decide)]
  exact h
theorem pset_hi {p : Nat → Int32} {k : Nat} {z : Int32} (hk : k < 5) : ∀ i, 5 ≤ i → pset p k z i = p i := fun i hi => if_neg (by omega)
theorem dX7_readMore_0 : decode cX7_readMore 0 = .ok (.iload_n 1, 1) := by decide +kernel
theorem dX7_readMore_1 : decode cX7_readMore 1 = .ok (.ifCond .ne 76, 3) := by decide +kernel
theorem dX7_readMore_4 : decode cX7_readMore 4 = .ok (.aload_n 0, 1) := by decide +kernel
theorem dX7_readMore_5 : decode cX7_readMore 5 = .ok (.invokevirtual 119, 3) := by decide +kernel
theorem dX7_readMore_8 : decode cX7_readMore 8 = .ok (.bipush 6, 2) := by decide +kernel
theorem dX7_readMore_10 : decode cX7_readMore 10 = .ok (.isub, 1) := by decide +kernel
theorem dX7_readMore_11 : decode cX7_readMore 11 = .ok (.istore_n 2, 1) := by decide +kernel
theorem dX7_readMore_12 : decode cX7_readMore 12 = .ok (.aload_n 0, 1) := by decide +kernel
theorem dX7_readMore_13 : decode cX7_readMore 13 = .ok (.getfield 82, 3) := by decide +kernel
theorem dX7_readMore_16 : decode cX7_readMore 16 = .ok (.ifCond .ne 12, 3) := by decide +kernel
theorem dX7_readMore_19 : decode cX7_readMore 19 = .ok (.iload_n 2, 1) := by decide +kernel
theorem dX7_readMore_20 : decode cX7_readMore 20 = .ok (.ifCond .ge 8, 3) := by decide +kernel
theorem dX7_readMore_23 : decode cX7_readMore 23 = .ok (.aload_n 0, 1) := by decide +kernel
theorem dX7_readMore_24 : decode cX7_readMore 24 = .ok (.iconst 2, 1) := by decide +kernel
theorem dX7_readMore_25 : decode cX7_readMore 25 = .ok (.invokevirtual 112, 3) := by decide +kernel
theorem dX7_readMore_28 : decode cX7_readMore 28 = .ok (.aload_n 0, 1) := by decide +kernel
theorem dX7_readMore_29 : decode cX7_readMore 29 = .ok (.getfield 16, 3) := by decide +kernel
theorem dX7_readMore_32 : decode cX7_readMore 32 = .ok (.iconst 3, 1) := by decide +kernel
theorem dX7_readMore_33 : decode cX7_readMore 33 = .ok (.aload_n 0, 1) := by decide +kernel
theorem dX7_readMore_34 : decode cX7_readMore 34 = .ok (.getfield 123, 3) := by decide +kernel
theorem dX7_readMore_37 : decode cX7_readMore 37 = .ok (.imul, 1) := by decide +kernel
theorem dX7_readMore_38 : decode cX7_readMore 38 = .ok (.iload_n 2, 1) := by decide +kernel
theorem dX7_readMore_39 : decode cX7_readMore 39 = .ok (.iastore, 1) := by decide +kernel
theorem dX7_readMore_40 : decode cX7_readMore 40 = .ok (.aload_n 0, 1) := by decide +kernel
theorem dX7_readMore_41 : decode cX7_readMore 41 = .ok (.invokevirtual 116, 3) := by decide +kernel
theorem dX7_readMore_44 : decode cX7_readMore 44 = .ok (.aload_n 0, 1) := by decide +kernel
theorem dX7_readMore_45 : decode cX7_readMore 45 = .ok (.getfield 16, 3) := by decide +kernel
theorem dX7_readMore_48 : decode cX7_readMore 48 = .ok (.iconst 3, 1) := by decide +kernel
theorem dX7_readMore_49 : decode cX7_readMore 49 = .ok (.aload_n 0, 1) := by decide +kernel
theorem dX7_readMore_50 : decode cX7_readMore 50 = .ok (.getfield 123, 3) := by decide +kernel
theorem dX7_readMore_53 : decode cX7_readMore 53 = .ok (.imul, 1) := by decide +kernel
theorem dX7_readMore_54 : decode cX7_readMore 54 = .ok (.iconst 1, 1) := by decide +kernel
theorem dX7_readMore_55 : decode cX7_readMore 55 = .ok (.iadd, 1) := by decide +kernel
theorem dX7_readMore_56 : decode cX7_readMore 56 = .ok (.aload_n 0, 1) := by decide +kernel
theorem dX7_readMore_57 : decode cX7_readMore 57 = .ok (.iconst 0, 1) := by decide +kernel
theorem dX7_readMore_58 : decode cX7_readMore 58 = .ok (.bipush 9, 2) := by decide +kernel
theorem dX7_readMore_60 : decode cX7_readMore 60 = .ok (.invokevirtual 126, 3) := by decide +kernel
theorem dX7_readMore_63 : decode cX7_readMore 63 = .ok (.iastore, 1) := by decide +kernel
theorem dX7_readMore_64 : decode cX7_readMore 64 = .ok (.aload_n 0, 1) := by decide +kernel
theorem dX7_readMore_65 : decode cX7_readMore 65 = .ok (.dup, 1) := by decide +kernel
theorem dX7_readMore_66 : decode cX7_readMore 66 = .ok (.getfield 123, 3) := by decide +kernel
theorem dX7_readMore_69 : decode cX7_readMore 69 = .ok (.iconst 1, 1) := by decide +kernel
theorem dX7_readMore_70 : decode cX7_readMore 70 = .ok (.iadd, 1) := by decide +kernel
theorem dX7_readMore_71 : decode cX7_readMore 71 = .ok (.putfield 123, 3) := by decide +kernel
theorem dX7_readMore_74 : decode cX7_readMore 74 = .ok (.goto 249, 3) := by decide +kernel
theorem dX7_readMore_77 : decode cX7_readMore 77 = .ok (.iload_n 1, 1) := by decide +kernel
theorem dX7_readMore_78 : decode cX7_readMore 78 = .ok (.iconst 1, 1) := by decide +kernel
theorem dX7_readMore_79 : decode cX7_readMore 79 = .ok (.if_icmp .ne 60, 3) := by decide +kernel
theorem dX7_readMore_82 : decode cX7_readMore 82 = .ok (.aload_n 0, 1) := by decide +kernel
theorem dX7_readMore_83 : decode cX7_readMore 83 = .ok (.getfield 16, 3) := by decide +kernel
theorem dX7_readMore_86 : decode cX7_readMore 86 = .ok (.bipush 10, 2) := by decide +kernel
theorem dX7_readMore_88 : decode cX7_readMore 88 = .ok (.iconst 2, 1) := by decide +kernel
theorem dX7_readMore_89 : decode cX7_readMore 89 = .ok (.aload_n 0, 1) := by decide +kernel
theorem dX7_readMore_90 : decode cX7_readMore 90 = .ok (.getfield 130, 3) := by decide +kernel
theorem dX7_readMore_93 : decode cX7_readMore 93 = .ok (.imul, 1) := by decide +kernel
theorem dX7_readMore_94 : decode cX7_readMore 94 = .ok (.iadd, 1) := by decide +kernel
theorem dX7_readMore_95 : decode cX7_readMore 95 = .ok (.aload_n 0, 1) := by decide +kernel
theorem dX7_readMore_96 : decode cX7_readMore 96 = .ok (.iconst 0, 1) := by decide +kernel
theorem dX7_readMore_97 : decode cX7_readMore 97 = .ok (.bipush 9, 2) := by decide +kernel
theorem dX7_readMore_99 : decode cX7_readMore 99 = .ok (.invokevirtual 126, 3) := by decide +kernel
theorem dX7_readMore_102 : decode cX7_readMore 102 = .ok (.iastore, 1) := by decide +kernel
theorem dX7_readMore_103 : decode cX7_readMore 103 = .ok (.aload_n 0, 1) := by decide +kernel
theorem dX7_readMore_104 : decode cX7_readMore 104 = .ok (.getfield 16, 3) := by decide +kernel
theorem dX7_readMore_107 : decode cX7_readMore 107 = .ok (.bipush 10, 2) := by decide +kernel
theorem dX7_readMore_109 : decode cX7_readMore 109 = .ok (.iconst 2, 1) := by decide +kernel
theorem dX7_readMore_110 : decode cX7_readMore 110 = .ok (.aload_n 0, 1) := by decide +kernel
theorem dX7_readMore_111 : decode cX7_readMore 111 = .ok (.getfield 130, 3) := by decide +kernel
theorem dX7_readMore_114 : decode cX7_readMore 114 = .ok (.imul, 1) := by decide +kernel
theorem dX7_readMore_115 : decode cX7_readMore 115 = .ok (.iadd, 1) := by decide +kernel
theorem dX7_readMore_116 : decode cX7_readMore 116 = .ok (.iconst 1, 1) := by decide +kernel
theorem dX7_readMore_117 : decode cX7_readMore 117 = .ok (.iadd, 1) := by decide +kernel
theorem dX7_readMore_118 : decode cX7_readMore 118 = .ok (.aload_n 0, 1) := by decide +kernel
theorem dX7_readMore_119 : decode cX7_readMore 119 = .ok (.iconst 0, 1) := by decide +kernel
theorem dX7_readMore_120 : decode cX7_readMore 120 = .ok (.bipush 99, 2) := by decide +kernel
theorem dX7_readMore_122 : decode cX7_readMore 122 = .ok (.invokevirtual 126, 3) := by decide +kernel
theorem dX7_readMore_125 : decode cX7_readMore 125 = .ok (.iastore, 1) := by decide +kernel
theorem dX7_readMore_126 : decode cX7_readMore 126 = .ok (.aload_n 0, 1) := by decide +kernel
theorem dX7_readMore_127 : decode cX7_readMore 127 = .ok (.dup, 1) := by decide +kernel
theorem dX7_readMore_128 : decode cX7_readMore 128 = .ok (.getfield 130, 3) := by decide +kernel
theorem dX7_readMore_131 : decode cX7_readMore 131 = .ok (.iconst 1, 1) := by decide +kernel
theorem dX7_readMore_132 : decode cX7_readMore 132 = .ok (.iadd, 1) := by decide +kernel
theorem dX7_readMore_133 : decode cX7_readMore 133 = .ok (.putfield 130, 3) := by decide +kernel
theorem dX7_readMore_136 : decode cX7_readMore 136 = .ok (.goto 187, 3) := by decide +kernel
theorem dX7_readMore_139 : decode cX7_readMore 139 = .ok (.iload_n 1, 1) := by decide +kernel
theorem dX7_readMore_140 : decode cX7_readMore 140 = .ok (.iconst 2, 1) := by decide +kernel
theorem dX7_readMore_141 : decode cX7_readMore 141 = .ok (.if_icmp .ne 53, 3) := by decide +kernel
theorem dX7_readMore_144 : decode cX7_readMore 144 = .ok (.aload_n 0, 1) := by decide +kernel
theorem dX7_readMore_145 : decode cX7_readMore 145 = .ok (.getfield 19, 3) := by decide +kernel
theorem dX7_readMore_148 : decode cX7_readMore 148 = .ok (.iconst 2, 1) := by decide +kernel
theorem dX7_readMore_149 : decode cX7_readMore 149 = .ok (.aload_n 0, 1) := by decide +kernel
theorem dX7_readMore_150 : decode cX7_readMore 150 = .ok (.getfield 133, 3) := by decide +kernel
theorem dX7_readMore_153 : decode cX7_readMore 153 = .ok (.imul, 1) := by decide +kernel
theorem dX7_readMore_154 : decode cX7_readMore 154 = .ok (.aload_n 0, 1) := by decide +kernel
theorem dX7_readMore_155 : decode cX7_readMore 155 = .ok (.iconst 1, 1) := by decide +kernel
theorem dX7_readMore_156 : decode cX7_readMore 156 = .ok (.iconst 5, 1) := by decide +kernel
theorem dX7_readMore_157 : decode cX7_readMore 157 = .ok (.invokevirtual 126, 3) := by decide +kernel
theorem dX7_readMore_160 : decode cX7_readMore 160 = .ok (.iastore, 1) := by decide +kernel
theorem dX7_readMore_161 : decode cX7_readMore 161 = .ok (.aload_n 0, 1) := by decide +kernel
theorem dX7_readMore_162 : decode cX7_readMore 162 = .ok (.getfield 19, 3) := by decide +kernel
theorem dX7_readMore_165 : decode cX7_readMore 165 = .ok (.iconst 2, 1) := by decide +kernel
theorem dX7_readMore_166 : decode cX7_readMore 166 = .ok (.aload_n 0, 1) := by decide +kernel
theorem dX7_readMore_167 : decode cX7_readMore 167 = .ok (.getfield 133, 3) := by decide +kernel
theorem dX7_readMore_170 : decode cX7_readMore 170 = .ok (.imul, 1) := by decide +kernel
theorem dX7_readMore_171 : decode cX7_readMore 171 = .ok (.iconst 1, 1) := by decide +kernel
theorem dX7_readMore_172 : decode cX7_readMore 172 = .ok (.iadd, 1) := by decide +kernel
theorem dX7_readMore_173 : decode cX7_readMore 173 = .ok (.aload_n 0, 1) := by decide +kernel
theorem dX7_readMore_174 : decode cX7_readMore 174 = .ok (.iconst 0, 1) := by decide +kernel
theorem dX7_readMore_175 : decode cX7_readMore 175 = .ok (.bipush 9, 2) := by decide +kernel
theorem dX7_readMore_177 : decode cX7_readMore 177 = .ok (.invokevirtual 126, 3) := by decide +kernel
theorem dX7_readMore_180 : decode cX7_readMore 180 = .ok (.iastore, 1) := by decide +kernel
theorem dX7_readMore_181 : decode cX7_readMore 181 = .ok (.aload_n 0, 1) := by decide +kernel
theorem dX7_readMore_182 : decode cX7_readMore 182 = .ok (.dup, 1) := by decide +kernel
theorem dX7_readMore_183 : decode cX7_readMore 183 = .ok (.getfield 133, 3) := by decide +kernel
theorem dX7_readMore_186 : decode cX7_readMore 186 = .ok (.iconst 1, 1) := by decide +kernel
theorem dX7_readMore_187 : decode cX7_readMore 187 = .ok (.iadd, 1) := by decide +kernel
theorem dX7_readMore_188 : decode cX7_readMore 188 = .ok (.putfield 133, 3) := by decide +kernel
theorem dX7_readMore_191 : decode cX7_readMore 191 = .ok (.goto 132, 3) := by decide +kernel
theorem dX7_readMore_194 : decode cX7_readMore 194 = .ok (.iload_n 1, 1) := by decide +kernel
theorem dX7_readMore_195 : decode cX7_readMore 195 = .ok (.iconst 3, 1) := by decide +kernel
theorem dX7_readMore_196 : decode cX7_readMore 196 = .ok (.if_icmp .ne 22, 3) := by decide +kernel
theorem dX7_readMore_199 : decode cX7_readMore 199 = .ok (.aload_n 0, 1) := by decide +kernel
theorem dX7_readMore_200 : decode cX7_readMore 200 = .ok (.getfield 16, 3) := by decide +kernel
theorem dX7_readMore_203 : decode cX7_readMore 203 = .ok (.bipush 9, 2) := by decide +kernel
theorem dX7_readMore_205 : decode cX7_readMore 205 = .ok (.aload_n 0, 1) := by decide +kernel
theorem dX7_readMore_206 : decode cX7_readMore 206 = .ok (.iconst 1, 1) := by decide +kernel
theorem dX7_readMore_207 : decode cX7_readMore 207 = .ok (.bipush 9, 2) := by decide +kernel
theorem dX7_readMore_209 : decode cX7_readMore 209 = .ok (.invokevirtual 126, 3) := by decide +kernel
theorem dX7_readMore_212 : decode cX7_readMore 212 = .ok (.iconst 3, 1) := by decide +kernel
theorem dX7_readMore_213 : decode cX7_readMore 213 = .ok (.isub, 1) := by decide +kernel
theorem dX7_readMore_214 : decode cX7_readMore 214 = .ok (.iastore, 1) := by decide +kernel
theorem dX7_readMore_215 : decode cX7_readMore 215 = .ok (.goto 108, 3) := by decide +kernel
theorem dX7_readMore_218 : decode cX7_readMore 218 = .ok (.iload_n 1, 1) := by decide +kernel
theorem dX7_readMore_219 : decode cX7_readMore 219 = .ok (.iconst 4, 1) := by decide +kernel
theorem dX7_readMore_220 : decode cX7_readMore 220 = .ok (.if_icmp .ne 23, 3) := by decide +kernel
theorem dX7_readMore_223 : decode cX7_readMore 223 = .ok (.aload_n 0, 1) := by decide +kernel
theorem dX7_readMore_224 : decode cX7_readMore 224 = .ok (.getfield 16, 3) := by decide +kernel
theorem dX7_readMore_227 : decode cX7_readMore 227 = .ok (.bipush 18, 2) := by decide +kernel
theorem dX7_readMore_229 : decode cX7_readMore 229 = .ok (.aload_n 0, 1) := by decide +kernel
theorem dX7_readMore_230 : decode cX7_readMore 230 = .ok (.iconst 0, 1) := by decide +kernel
theorem dX7_readMore_231 : decode cX7_readMore 231 = .ok (.bipush 99, 2) := by decide +kernel
theorem dX7_readMore_233 : decode cX7_readMore 233 = .ok (.invokevirtual 126, 3) := by decide +kernel
theorem dX7_readMore_236 : decode cX7_readMore 236 = .ok (.bipush 9, 2) := by decide +kernel
theorem dX7_readMore_238 : decode cX7_readMore 238 = .ok (.isub, 1) := by decide +kernel
theorem dX7_readMore_239 : decode cX7_readMore 239 = .ok (.iastore, 1) := by decide +kernel
theorem dX7_readMore_240 : decode cX7_readMore 240 = .ok (.goto 83, 3) := by decide +kernel
theorem dX7_readMore_243 : decode cX7_readMore 243 = .ok (.aload_n 0, 1) := by decide +kernel
theorem dX7_readMore_244 : decode cX7_readMore 244 = .ok (.getfield 82, 3) := by decide +kernel
theorem dX7_readMore_247 : decode cX7_readMore 247 = .ok (.ifCond .ne 46, 3) := by decide +kernel
theorem dX7_readMore_250 : decode cX7_readMore 250 = .ok (.aload_n 0, 1) := by decide +kernel
theorem dX7_readMore_251 : decode cX7_readMore 251 = .ok (.getfield 91, 3) := by decide +kernel
theorem dX7_readMore_254 : decode cX7_readMore 254 = .ok (.iconst 2, 1) := by decide +kernel
theorem dX7_readMore_255 : decode cX7_readMore 255 = .ok (.if_icmp .ne 38, 3) := by decide +kernel
theorem dX7_readMore_258 : decode cX7_readMore 258 = .ok (.aload_n 0, 1) := by decide +kernel
theorem dX7_readMore_259 : decode cX7_readMore 259 = .ok (.getfield 101, 3) := by decide +kernel
theorem dX7_readMore_262 : decode cX7_readMore 262 = .ok (.i2l, 1) := by decide +kernel
theorem dX7_readMore_263 : decode cX7_readMore 263 = .ok (.lconst 0, 1) := by decide +kernel
theorem dX7_readMore_264 : decode cX7_readMore 264 = .ok (.ldc2_w 136, 3) := by decide +kernel
theorem dX7_readMore_267 : decode cX7_readMore 267 = .ok (.invokestatic 74, 3) := by decide +kernel
theorem dX7_readMore_270 : decode cX7_readMore 270 = .ok (.ifCond .eq 23, 3) := by decide +kernel
theorem dX7_readMore_273 : decode cX7_readMore 273 = .ok (.aload_n 0, 1) := by decide +kernel
theorem dX7_readMore_274 : decode cX7_readMore 274 = .ok (.getfield 138, 3) := by decide +kernel
theorem dX7_readMore_277 : decode cX7_readMore 277 = .ok (.aload_n 0, 1) := by decide +kernel
theorem dX7_readMore_278 : decode cX7_readMore 278 = .ok (.getfield 101, 3) := by decide +kernel
theorem dX7_readMore_281 : decode cX7_readMore 281 = .ok (.ishr, 1) := by decide +kernel
theorem dX7_readMore_282 : decode cX7_readMore 282 = .ok (.iconst 1, 1) := by decide +kernel
theorem dX7_readMore_283 : decode cX7_readMore 283 = .ok (.iand, 1) := by decide +kernel
theorem dX7_readMore_284 : decode cX7_readMore 284 = .ok (.iconst 1, 1) := by decide +kernel
theorem dX7_readMore_285 : decode cX7_readMore 285 = .ok (.if_icmp .ne 8, 3) := by decide +kernel
theorem dX7_readMore_288 : decode cX7_readMore 288 = .ok (.aload_n 0, 1) := by decide +kernel
theorem dX7_readMore_289 : decode cX7_readMore 289 = .ok (.iconst 4, 1) := by decide +kernel
theorem dX7_readMore_290 : decode cX7_readMore 290 = .ok (.invokevirtual 112, 3) := by decide +kernel
theorem dX7_readMore_293 : decode cX7_readMore 293 = .ok (.aload_n 0, 1) := by decide +kernel
theorem dX7_readMore_294 : decode cX7_readMore 294 = .ok (.iconst 0, 1) := by decide +kernel
theorem dX7_readMore_295 : decode cX7_readMore 295 = .ok (.iconst 2, 1) := by decide +kernel
theorem dX7_readMore_296 : decode cX7_readMore 296 = .ok (.invokevirtual 126, 3) := by decide +kernel
theorem dX7_readMore_299 : decode cX7_readMore 299 = .ok (.istore_n 2, 1) := by decide +kernel
theorem dX7_readMore_300 : decode cX7_readMore 300 = .ok (.aload_n 0, 1) := by decide +kernel
theorem dX7_readMore_301 : decode cX7_readMore 301 = .ok (.dup, 1) := by decide +kernel
theorem dX7_readMore_302 : decode cX7_readMore 302 = .ok (.getfield 138, 3) := by decide +kernel
theorem dX7_readMore_305 : decode cX7_readMore 305 = .ok (.iconst 1, 1) := by decide +kernel
theorem dX7_readMore_306 : decode cX7_readMore 306 = .ok (.iload_n 2, 1) := by decide +kernel
theorem dX7_readMore_307 : decode cX7_readMore 307 = .ok (.ishl, 1) := by decide +kernel
theorem dX7_readMore_308 : decode cX7_readMore 308 = .ok (.ior, 1) := by decide +kernel
theorem dX7_readMore_309 : decode cX7_readMore 309 = .ok (.putfield 138, 3) := by decide +kernel
theorem dX7_readMore_312 : decode cX7_readMore 312 = .ok (.aload_n 0, 1) := by decide +kernel
theorem dX7_readMore_313 : decode cX7_readMore 313 = .ok (.getfield 16, 3) := by decide +kernel
theorem dX7_readMore_316 : decode cX7_readMore 316 = .ok (.iconst 3, 1) := by decide +kernel
theorem dX7_readMore_317 : decode cX7_readMore 317 = .ok (.iload_n 2, 1) := by decide +kernel
theorem dX7_readMore_318 : decode cX7_readMore 318 = .ok (.imul, 1) := by decide +kernel
theorem dX7_readMore_319 : decode cX7_readMore 319 = .ok (.iconst 2, 1) := by decide +kernel
theorem dX7_readMore_320 : decode cX7_readMore 320 = .ok (.iadd, 1) := by decide +kernel
theorem dX7_readMore_321 : decode cX7_readMore 321 = .ok (.iconst 1, 1) := by decide +kernel
theorem dX7_readMore_322 : decode cX7_readMore 322 = .ok (.iastore, 1) := by decide +kernel
theorem dX7_readMore_323 : decode cX7_readMore 323 = .ok (.return_, 1) := by decide +kernel
theorem dX7_readLine_0 : decode cX7_readLine 0 = .ok (.aload_n 0, 1) := by decide +kernel
theorem dX7_readLine_1 : decode cX7_readLine 1 = .ok (.invokevirtual 119, 3) := by decide +kernel
theorem dX7_readLine_4 : decode cX7_readLine 4 = .ok (.istore_n 1, 1) := by decide +kernel
theorem dX7_readLine_5 : decode cX7_readLine 5 = .ok (.iload_n 1, 1) := by decide +kernel
theorem dX7_readLine_6 : decode cX7_readLine 6 = .ok (.i2l, 1) := by decide +kernel
theorem dX7_readLine_7 : decode cX7_readLine 7 = .ok (.lconst 0, 1) := by decide +kernel
theorem dX7_readLine_8 : decode cX7_readLine 8 = .ok (.ldc2_w 141, 3) := by decide +kernel
theorem dX7_readLine_11 : decode cX7_readLine 11 = .ok (.invokestatic 74, 3) := by decide +kernel
theorem dX7_readLine_14 : decode cX7_readLine 14 = .ok (.ifCond .ne 9, 3) := by decide +kernel
theorem dX7_readLine_17 : decode cX7_readLine 17 = .ok (.aload_n 0, 1) := by decide +kernel
theorem dX7_readLine_18 : decode cX7_readLine 18 = .ok (.iconst 2, 1) := by decide +kernel
theorem dX7_readLine_19 : decode cX7_readLine 19 = .ok (.invokevirtual 112, 3) := by decide +kernel
theorem dX7_readLine_22 : decode cX7_readLine 22 = .ok (.return_, 1) := by decide +kernel
theorem dX7_readLine_23 : decode cX7_readLine 23 = .ok (.iload_n 1, 1) := by decide +kernel
theorem dX7_readLine_24 : decode cX7_readLine 24 = .ok (.ifCond .ne 11, 3) := by decide +kernel
theorem dX7_readLine_27 : decode cX7_readLine 27 = .ok (.aload_n 0, 1) := by decide +kernel
theorem dX7_readLine_28 : decode cX7_readLine 28 = .ok (.getfield 123, 3) := by decide +kernel
theorem dX7_readLine_31 : decode cX7_readLine 31 = .ok (.iconst 3, 1) := by decide +kernel
theorem dX7_readLine_32 : decode cX7_readLine 32 = .ok (.if_icmp .eq 29, 3) := by decide +kernel
theorem dX7_readLine_35 : decode cX7_readLine 35 = .ok (.iload_n 1, 1) := by decide +kernel
theorem dX7_readLine_36 : decode cX7_readLine 36 = .ok (.iconst 1, 1) := by decide +kernel
theorem dX7_readLine_37 : decode cX7_readLine 37 = .ok (.if_icmp .ne 11, 3) := by decide +kernel
theorem dX7_readLine_40 : decode cX7_readLine 40 = .ok (.aload_n 0, 1) := by decide +kernel
theorem dX7_readLine_41 : decode cX7_readLine 41 = .ok (.getfield 130, 3) := by decide +kernel
theorem dX7_readLine_44 : decode cX7_readLine 44 = .ok (.iconst 4, 1) := by decide +kernel
theorem dX7_readLine_45 : decode cX7_readLine 45 = .ok (.if_icmp .eq 16, 3) := by decide +kernel
theorem dX7_readLine_48 : decode cX7_readLine 48 = .ok (.iload_n 1, 1) := by decide +kernel
theorem dX7_readLine_49 : decode cX7_readLine 49 = .ok (.iconst 2, 1) := by decide +kernel
theorem dX7_readLine_50 : decode cX7_readLine 50 = .ok (.if_icmp .ne 16, 3) := by decide +kernel
theorem dX7_readLine_53 : decode cX7_readLine 53 = .ok (.aload_n 0, 1) := by decide +kernel
theorem dX7_readLine_54 : decode cX7_readLine 54 = .ok (.getfield 133, 3) := by decide +kernel
theorem dX7_readLine_57 : decode cX7_readLine 57 = .ok (.iconst 3, 1) := by decide +kernel
theorem dX7_readLine_58 : decode cX7_readLine 58 = .ok (.if_icmp .ne 8, 3) := by decide +kernel
theorem dX7_readLine_61 : decode cX7_readLine 61 = .ok (.aload_n 0, 1) := by decide +kernel
theorem dX7_readLine_62 : decode cX7_readLine 62 = .ok (.iconst 5, 1) := by decide +kernel
theorem dX7_readLine_63 : decode cX7_readLine 63 = .ok (.invokevirtual 112, 3) := by decide +kernel
theorem dX7_readLine_66 : decode cX7_readLine 66 = .ok (.iload_n 1, 1) := by decide +kernel
theorem dX7_readLine_67 : decode cX7_readLine 67 = .ok (.i2l, 1) := by decide +kernel
theorem dX7_readLine_68 : decode cX7_readLine 68 = .ok (.ldc2_w 143, 3) := by decide +kernel
theorem dX7_readLine_71 : decode cX7_readLine 71 = .ok (.ldc2_w 145, 3) := by decide +kernel
theorem dX7_readLine_74 : decode cX7_readLine 74 = .ok (.invokestatic 74, 3) := by decide +kernel
theorem dX7_readLine_77 : decode cX7_readLine 77 = .ok (.ifCond .eq 20, 3) := by decide +kernel
theorem dX7_readLine_80 : decode cX7_readLine 80 = .ok (.aload_n 0, 1) := by decide +kernel
theorem dX7_readLine_81 : decode cX7_readLine 81 = .ok (.getfield 147, 3) := by decide +kernel
theorem dX7_readLine_84 : decode cX7_readLine 84 = .ok (.iload_n 1, 1) := by decide +kernel
theorem dX7_readLine_85 : decode cX7_readLine 85 = .ok (.ishr, 1) := by decide +kernel
theorem dX7_readLine_86 : decode cX7_readLine 86 = .ok (.iconst 1, 1) := by decide +kernel
theorem dX7_readLine_87 : decode cX7_readLine 87 = .ok (.iand, 1) := by decide +kernel
theorem dX7_readLine_88 : decode cX7_readLine 88 = .ok (.iconst 1, 1) := by decide +kernel
theorem dX7_readLine_89 : decode cX7_readLine 89 = .ok (.if_icmp .ne 8, 3) := by decide +kernel
theorem dX7_readLine_92 : decode cX7_readLine 92 = .ok (.aload_n 0, 1) := by decide +kernel
theorem dX7_readLine_93 : decode cX7_readLine 93 = .ok (.iconst 4, 1) := by decide +kernel
theorem dX7_readLine_94 : decode cX7_readLine 94 = .ok (.invokevirtual 112, 3) := by decide +kernel
theorem dX7_readLine_97 : decode cX7_readLine 97 = .ok (.aload_n 0, 1) := by decide +kernel
theorem dX7_readLine_98 : decode cX7_readLine 98 = .ok (.dup, 1) := by decide +kernel
theorem dX7_readLine_99 : decode cX7_readLine 99 = .ok (.getfield 147, 3) := by decide +kernel
theorem dX7_readLine_102 : decode cX7_readLine 102 = .ok (.iconst 1, 1) := by decide +kernel
theorem dX7_readLine_103 : decode cX7_readLine 103 = .ok (.iload_n 1, 1) := by decide +kernel
theorem dX7_readLine_104 : decode cX7_readLine 104 = .ok (.ishl, 1) := by decide +kernel
theorem dX7_readLine_105 : decode cX7_readLine 105 = .ok (.ior, 1) := by decide +kernel
theorem dX7_readLine_106 : decode cX7_readLine 106 = .ok (.putfield 147, 3) := by decide +kernel
theorem dX7_readLine_109 : decode cX7_readLine 109 = .ok (.aload_n 0, 1) := by decide +kernel
theorem dX7_readLine_110 : decode cX7_readLine 110 = .ok (.invokevirtual 116, 3) := by decide +kernel
theorem dX7_readLine_113 : decode cX7_readLine 113 = .ok (.aload_n 0, 1) := by decide +kernel
theorem dX7_readLine_114 : decode cX7_readLine 114 = .ok (.getfield 82, 3) := by decide +kernel
theorem dX7_readLine_117 : decode cX7_readLine 117 = .ok (.ifCond .le 4, 3) := by decide +kernel
theorem dX7_readLine_120 : decode cX7_readLine 120 = .ok (.return_, 1) := by decide +kernel
theorem dX7_readLine_121 : decode cX7_readLine 121 = .ok (.aload_n 0, 1) := by decide +kernel
theorem dX7_readLine_122 : decode cX7_readLine 122 = .ok (.iload_n 1, 1) := by decide +kernel
theorem dX7_readLine_123 : decode cX7_readLine 123 = .ok (.invokevirtual 150, 3) := by decide +kernel
theorem dX7_readLine_126 : decode cX7_readLine 126 = .ok (.aload_n 0, 1) := by decide +kernel
theorem dX7_readLine_127 : decode cX7_readLine 127 = .ok (.getfield 82, 3) := by decide +kernel
theorem dX7_readLine_130 : decode cX7_readLine 130 = .ok (.ifCond .ne 16, 3) := by decide +kernel
theorem dX7_readLine_133 : decode cX7_readLine 133 = .ok (.aload_n 0, 1) := by decide +kernel
theorem dX7_readLine_134 : decode cX7_readLine 134 = .ok (.getfield 91, 3) := by decide +kernel
theorem dX7_readLine_137 : decode cX7_readLine 137 = .ok (.iconst 3, 1) := by decide +kernel
theorem dX7_readLine_138 : decode cX7_readLine 138 = .ok (.if_icmp .eq 8, 3) := by decide +kernel
theorem dX7_readLine_141 : decode cX7_readLine 141 = .ok (.aload_n 0, 1) := by decide +kernel
theorem dX7_readLine_142 : decode cX7_readLine 142 = .ok (.iconst 2, 1) := by decide +kernel
theorem dX7_readLine_143 : decode cX7_readLine 143 = .ok (.invokevirtual 112, 3) := by decide +kernel
theorem dX7_readLine_146 : decode cX7_readLine 146 = .ok (.aload_n 0, 1) := by decide +kernel
theorem dX7_readLine_147 : decode cX7_readLine 147 = .ok (.invokevirtual 116, 3) := by decide +kernel
theorem dX7_readLine_150 : decode cX7_readLine 150 = .ok (.return_, 1) := by decide +kernel
set_option maxRecDepth 100000 in
set_option maxHeartbeats 4000000 in
theorem mX7_numberx (s : Nat → Int32) (la : Nat → Int32) (r : rT) (v : vT) (c : Nat → Nat → Int32) (l : Nat → Int32) (tn : Int32) (p : Nat → Int32) (pa : Nat → Nat → Int32) (m : Nat) (q : rT) (b : Int32) (x : Nat → Nat) (h : Nat → Nat → Int64) (lo up : Int32) (F P : Nat) (hF : rF p F P) : J KX7_number 21 (fun o B => o = some (.int (lo)) ∧ B = (wM s la r v c l tn p pa m q b x h)) 0 [some (.ref 0), some (.int lo), some (.int up), none] [] (wM s la r v c l tn p pa m q b x h) 0 0 := by
  have h5 : ¬ p 5 = 0 := by rw [hF.1]; exact nI_ne0 hF.2.2.1 (by have := hF.2.2.2; omega)
  refine J.aload_n dX7_number_0 rfl rfl ?_
  refine J.mg15 dX7_number_1 rfl ?_
  refine J.if_ne (tgt := 20) dX7_number_4 (by decide) (fun c4 => ?_) (fun c4 => absurd c4 h5)
  refine J.aload_n dX7_number_20 rfl rfl ?_
  refine J.mg15 dX7_number_21 rfl ?_
  refine J.if_ne (tgt := 47) dX7_number_24 (by decide) (fun c24 => ?_) (fun c24 => absurd c24 h5)
  refine J.aload_n dX7_number_47 rfl rfl ?_
  refine J.mg15 dX7_number_48 rfl ?_
  refine J.if_ne (tgt := 61) dX7_number_51 (by decide) (fun c51 => ?_) (fun c51 => absurd c51 h5)
  refine J.iload_n dX7_number_61 rfl rfl ?_
  refine J.istore_n dX7_number_62 rfl (by decide) rfl ?_
  try dsimp only [List.set]
  refine J.aload_n dX7_number_63 rfl rfl ?_
  refine J.cvM (as := []) s la r v c l tn p pa m q b x h okX7_step jcX7_116 (mX7_stepx s la r v c l tn p pa m q b x h F hF.1 hF.2.2.1 hF.2.2.2) dX7_number_64 rfl rfl rfl rfl (fun r9 B9 hq9 => ?_)
  obtain ⟨rfl, rfl⟩ := hq9
  refine ⟨_, _, _, _, _, _, _, _, _, _, _, _, _, _, rfl, ?_⟩
  show J _ _ _ _ _ [] (wM s la r v c l tn p pa m q b x h) _ _
  refine J.iload_n dX7_number_67 rfl rfl ?_
  exact J.iret dX7_number_68 rfl rfl (Nat.le_refl _) (Nat.le_refl _) ⟨rfl, rfl⟩
theorem sof_le2 {v : vT} {P : Nat} : nts (v 1) (v 4 0) P ≤ 4 := sof_le _
theorem vl_lem (b : Nat → Nat) (hb : ∀ j, b j < 128) (f : Nat) : ∀ k, vl b f k ≤ 128 * 11 ^ k
  | 0 => by simp [vl]
  | k + 1 => by
    have h1 := vl_lem b hb f k
    have h2 := hb (f + k)
    have h3 : 1 ≤ 11 ^ k := Nat.pow_pos (by decide)
    rw [vl, Nat.pow_succ]
    omega
set_option maxRecDepth 100000 in
set_option maxHeartbeats 4000000 in
theorem mX7_number (s : Nat → Int32) (la : Nat → Int32) (r : rT) (v : vT) (c : Nat → Nat → Int32) (l : Nat → Int32) (tn : Int32) (p : Nat → Int32) (pa : Nat → Nat → Int32) (m : Nat) (q : rT) (b : Int32) (x : Nat → Nat) (h : Nat → Nat → Int64) (y : Nat → Nat) (hb : ∀ j, v 1 j < 128) (hl : v 4 0 ≤ 160) (lo up : Nat) (hlo : lo < 1000) (hup : up < 1000) (hy : y 2 ≤ v 4 0) (hA : rA v p (y 2)) : J KX7_number 21 (fun o B => ∃ a p9, o = some (.int a) ∧ B = (wM s la r v c l tn p9 pa m q b x h) ∧ low5 p p9 ∧ ((rdN (v 1) (v 4 0) lo up y).1 = true → a = nI ((rdN (v 1) (v 4 0) lo up y).2 3) ∧ rA v p9 ((rdN (v 1) (v 4 0) lo up y).2 2)) ∧ (¬ (rdN (v 1) (v 4 0) lo up y).1 = true → a = nI lo ∧ rF p9 ((rdN (v 1) (v 4 0) lo up y).2 7) ((rdN (v 1) (v 4 0) lo up y).2 8))) 0 [some (.ref 0), some (.int (nI lo)), some (.int (nI up)), none] [] (wM s la r v c l tn p pa m q b x h) 0 0 := by
  by_cases hto : ntoB (v 1) (v 4 0) (y 2) = true
  · have hok := hA.ok hto
    by_cases hs : yN (v 1) (v 4 0) y 0 = 2
    · have hv9 : (vl (v 1) (yN (v 1) (v 4 0) y 1) (yN (v 1) (v 4 0) y 2 - yN (v 1) (v 4 0) y 1)) < 2147483648 := by
        have h1 := (yN_d hy hb hto hs).1
        have h2 := vl_lem (v 1) hb (yN (v 1) (v 4 0) y 1) (yN (v 1) (v 4 0) y 2 - yN (v 1) (v 4 0) y 1)
        have h3 : 11 ^ (yN (v 1) (v 4 0) y 2 - yN (v 1) (v 4 0) y 1) ≤ 11 ^ 2 := Nat.pow_le_pow_right (by decide) h1
        omega
      by_cases hr9 : lo ≤ (vl (v 1) (yN (v 1) (v 4 0) y 1) (yN (v 1) (v 4 0) y 2 - yN (v 1) (v 4 0) y 1)) ∧ (vl (v 1) (yN (v 1) (v 4 0) y 1) (yN (v 1) (v 4 0) y 2 - yN (v 1) (v 4 0) y 1)) ≤ up
      · skip
        refine J.aload_n dX7_number_0 rfl rfl ?_
        refine J.mg15 dX7_number_1 rfl ?_
        refine J.if_ne (tgt := 20) dX7_number_4 (by decide) (fun c4 => absurd c4 (fun h => h hok.1)) (fun c4 => ?_)
        refine J.aload_n dX7_number_7 rfl rfl ?_
        refine J.mg19 dX7_number_8 rfl ?_
        rw [hok.2.2.2.1]
        refine J.iconst (2) dX7_number_11 (by decide) ?_
        refine J.icmp_eq (tgt := 20) dX7_number_12 (by decide) (fun c12 => ?_) (fun c12 => absurd c12 (fun h => h (congrArg nI hs)))
        refine J.aload_n dX7_number_20 rfl rfl ?_
        refine J.mg15 dX7_number_21 rfl ?_
        refine J.if_ne (tgt := 47) dX7_number_24 (by decide) (fun c24 => absurd c24 (fun h => h hok.1)) (fun c24 => ?_)
        refine J.aload_n dX7_number_27 rfl rfl ?_
        refine J.mg20 dX7_number_28 rfl ?_
        rw [hok.2.2.2.2 hs]
        refine J.i2l dX7_number_31 ?_
        refine J.iload_n dX7_number_32 rfl rfl ?_
        refine J.i2l dX7_number_33 ?_
        refine J.iload_n dX7_number_34 rfl rfl ?_
        refine J.i2l dX7_number_35 ?_
        refine J.cs (as := [.long _, .long _, .long _]) (is := []) okX7_in jcX7_74 (mX7_inI (nI (vl (v 1) (yN (v 1) (v 4 0) y 1) (yN (v 1) (v 4 0) y 2 - yN (v 1) (v 4 0) y 1))) (nI lo) (nI up) rfl rfl) dX7_number_36 rfl rfl rfl rfl rfl rfl (fun r9 B9 hq => ?_)
        obtain ⟨rfl, rfl⟩ := hq
        refine ⟨rfl, ?_⟩
        show J _ _ _ _ _ (.int _ :: _) (wM s la r v c l tn p pa m q b x h) _ _
        refine J.if_ne (tgt := 47) dX7_number_39 (by decide) (fun c39 => ?_) (fun c39 => absurd c39 (fun h => (jB_0 _).mp h ⟨(nI_lei (by omega) hv9).mpr hr9.1, (nI_lei hv9 (by omega)).mpr hr9.2⟩))
        refine J.aload_n dX7_number_47 rfl rfl ?_
        refine J.mg15 dX7_number_48 rfl ?_
        refine J.if_ne (tgt := 61) dX7_number_51 (by decide) (fun c51 => absurd c51 (fun h => h hok.1)) (fun c51 => ?_)
        refine J.aload_n dX7_number_54 rfl rfl ?_
        refine J.mg20 dX7_number_55 rfl ?_
        rw [hok.2.2.2.2 hs]
        refine J.goto (tgt := 62) dX7_number_58 (by decide) ?_
        refine J.istore_n dX7_number_62 rfl (by decide) rfl ?_
        try dsimp only [List.set]
        refine J.aload_n dX7_number_63 rfl rfl ?_
        refine J.cvM (as := []) s la r v c l tn p pa m q b x h okX7_step jcX7_116 (mX7_step s la r v c l tn p pa m q b x h hb hl (ntt (v 1) (v 4 0) (y 2)) (ntt_le hy).2 hok.1 hok.2.1) dX7_number_64 rfl rfl rfl rfl (fun r9 B9 hq9 => ?_)
        obtain ⟨rfl, p9, rfl, hlo9, hA9⟩ := hq9
        refine ⟨_, _, _, _, _, _, _, _, _, _, _, _, _, _, rfl, ?_⟩
        show J _ _ _ _ _ [] (wM s la r v c l tn p9 pa m q b x h) _ _
        refine J.iload_n dX7_number_67 rfl rfl ?_
        have eR : (rdN (v 1) (v 4 0) lo up y) = (true, yset (yN (v 1) (v 4 0) y) 3 (vl (v 1) (yN (v 1) (v 4 0) y 1) (yN (v 1) (v 4 0) y 2 - yN (v 1) (v 4 0) y 1))) := by unfold rdN; rw [if_pos hto, if_pos hs, if_pos hr9]
        refine J.iret dX7_number_68 rfl rfl (Nat.le_refl _) (Nat.le_refl _) ⟨_, p9, rfl, rfl, hlo9, fun _ => ⟨?_, ?_⟩, fun h9 => absurd (by rw [eR]) h9⟩
        · rw [eR] <;> rfl
        · rw [eR]; exact hA9
      · skip
        refine J.aload_n dX7_number_0 rfl rfl ?_
        refine J.mg15 dX7_number_1 rfl ?_
        refine J.if_ne (tgt := 20) dX7_number_4 (by decide) (fun c4 => absurd c4 (fun h => h hok.1)) (fun c4 => ?_)
        refine J.aload_n dX7_number_7 rfl rfl ?_
        refine J.mg19 dX7_number_8 rfl ?_
        rw [hok.2.2.2.1]
        refine J.iconst (2) dX7_number_11 (by decide) ?_
        refine J.icmp_eq (tgt := 20) dX7_number_12 (by decide) (fun c12 => ?_) (fun c12 => absurd c12 (fun h => h (congrArg nI hs)))
        refine J.aload_n dX7_number_20 rfl rfl ?_
        refine J.mg15 dX7_number_21 rfl ?_
        refine J.if_ne (tgt := 47) dX7_number_24 (by decide) (fun c24 => absurd c24 (fun h => h hok.1)) (fun c24 => ?_)
        refine J.aload_n dX7_number_27 rfl rfl ?_
        refine J.mg20 dX7_number_28 rfl ?_
        rw [hok.2.2.2.2 hs]
        refine J.i2l dX7_number_31 ?_
        refine J.iload_n dX7_number_32 rfl rfl ?_
        refine J.i2l dX7_number_33 ?_
        refine J.iload_n dX7_number_34 rfl rfl ?_
        refine J.i2l dX7_number_35 ?_
        refine J.cs (as := [.long _, .long _, .long _]) (is := []) okX7_in jcX7_74 (mX7_inI (nI (vl (v 1) (yN (v 1) (v 4 0) y 1) (yN (v 1) (v 4 0) y 2 - yN (v 1) (v 4 0) y 1))) (nI lo) (nI up) rfl rfl) dX7_number_36 rfl rfl rfl rfl rfl rfl (fun r9 B9 hq => ?_)
        obtain ⟨rfl, rfl⟩ := hq
        refine ⟨rfl, ?_⟩
        show J _ _ _ _ _ (.int _ :: _) (wM s la r v c l tn p pa m q b x h) _ _
        refine J.if_ne (tgt := 47) dX7_number_39 (by decide) (fun c39 => absurd c39 (fun h => h ((jB_0 _).mpr (fun h => hr9 ⟨(nI_lei (by omega) hv9).mp h.1, (nI_lei hv9 (by omega)).mp h.2⟩)))) (fun c39 => ?_)
        refine J.aload_n dX7_number_42 rfl rfl ?_
        refine J.iconst (3) dX7_number_43 (by decide) ?_
        refine J.cvM (as := [.int _]) s la r v c l tn p pa m q b x h okX7_fails jcX7_112 (mX7_fails s la r v c l tn p pa m q b x h 3 hok.1) dX7_number_44 rfl rfl rfl rfl (fun r9 B9 hq9 => ?_)
        obtain ⟨rfl, rfl⟩ := hq9
        refine ⟨_, _, _, _, _, _, _, _, _, _, _, _, _, _, rfl, ?_⟩
        show J _ _ _ _ _ [] (wM s la r v c l tn (pset (pset p 5 (nI 3)) 6 (p 8)) pa m q b x h) _ _
        refine J.aload_n dX7_number_47 rfl rfl ?_
        refine J.mg15 dX7_number_48 rfl ?_
        refine J.if_ne (tgt := 61) dX7_number_51 (by decide) (fun c51 => ?_) (fun c51 => absurd c51 (show ¬ nI 3 = 0 by decide))
        refine J.iload_n dX7_number_61 rfl rfl ?_
        refine J.istore_n dX7_number_62 rfl (by decide) rfl ?_
        try dsimp only [List.set]
        refine J.aload_n dX7_number_63 rfl rfl ?_
        refine J.cvM (as := []) s la r v c l tn (pset (pset p 5 (nI 3)) 6 (p 8)) pa m q b x h okX7_step jcX7_116 (mX7_stepx s la r v c l tn (pset (pset p 5 (nI 3)) 6 (p 8)) pa m q b x h 3 rfl (by decide) (by decide)) dX7_number_64 rfl rfl rfl rfl (fun r9 B9 hq9 => ?_)
        obtain ⟨rfl, rfl⟩ := hq9
        refine ⟨_, _, _, _, _, _, _, _, _, _, _, _, _, _, rfl, ?_⟩
        show J _ _ _ _ _ [] (wM s la r v c l tn (pset (pset p 5 (nI 3)) 6 (p 8)) pa m q b x h) _ _
        refine J.iload_n dX7_number_67 rfl rfl ?_
        have eR : (rdN (v 1) (v 4 0) lo up y) = (false, yF (yset (yN (v 1) (v 4 0) y) 3 (vl (v 1) (yN (v 1) (v 4 0) y 1) (yN (v 1) (v 4 0) y 2 - yN (v 1) (v 4 0) y 1))) 3 (yN (v 1) (v 4 0) y 1)) := by unfold rdN; rw [if_pos hto, if_pos hs, if_neg hr9]
        refine J.iret dX7_number_68 rfl rfl (Nat.le_refl _) (Nat.le_refl _) ⟨_, (pset (pset p 5 (nI 3)) 6 (p 8)), rfl, rfl, (fun i hi => (if_neg (show ¬ i = 6 by omega)).trans (if_neg (show ¬ i = 5 by omega))), fun h9 => absurd h9 (by rw [eR]; exact Bool.false_ne_true), fun _ => ⟨rfl, ?_⟩⟩
        rw [eR]
        exact ⟨rfl, hok.2.2.1, show 0 < 3 by decide, show 3 < 100 by decide⟩
    · skip
      refine J.aload_n dX7_number_0 rfl rfl ?_
      refine J.mg15 dX7_number_1 rfl ?_
      refine J.if_ne (tgt := 20) dX7_number_4 (by decide) (fun c4 => absurd c4 (fun h => h hok.1)) (fun c4 => ?_)
      refine J.aload_n dX7_number_7 rfl rfl ?_
      refine J.mg19 dX7_number_8 rfl ?_
      rw [hok.2.2.2.1]
      refine J.iconst (2) dX7_number_11 (by decide) ?_
      refine J.icmp_eq (tgt := 20) dX7_number_12 (by decide) (fun c12 => absurd c12 (fun h => hs ((nI_eqi (b := 2) (by have := yN_0 (v 1) (v 4 0) y; omega) (by decide)).mp h))) (fun c12 => ?_)
      refine J.aload_n dX7_number_15 rfl rfl ?_
      refine J.iconst (2) dX7_number_16 (by decide) ?_
      refine J.cvM (as := [.int _]) s la r v c l tn p pa m q b x h okX7_fails jcX7_112 (mX7_fails s la r v c l tn p pa m q b x h 2 hok.1) dX7_number_17 rfl rfl rfl rfl (fun r9 B9 hq9 => ?_)
      obtain ⟨rfl, rfl⟩ := hq9
      refine ⟨_, _, _, _, _, _, _, _, _, _, _, _, _, _, rfl, ?_⟩
      show J _ _ _ _ _ [] (wM s la r v c l tn (pset (pset p 5 (nI 2)) 6 (p 8)) pa m q b x h) _ _
      refine J.aload_n dX7_number_20 rfl rfl ?_
      refine J.mg15 dX7_number_21 rfl ?_
      refine J.if_ne (tgt := 47) dX7_number_24 (by decide) (fun c24 => ?_) (fun c24 => absurd c24 (show ¬ nI 2 = 0 by decide))
      refine J.aload_n dX7_number_47 rfl rfl ?_
      refine J.mg15 dX7_number_48 rfl ?_
      refine J.if_ne (tgt := 61) dX7_number_51 (by decide) (fun c51 => ?_) (fun c51 => absurd c51 (show ¬ nI 2 = 0 by decide))
      refine J.iload_n dX7_number_61 rfl rfl ?_
      refine J.istore_n dX7_number_62 rfl (by decide) rfl ?_
      try dsimp only [List.set]
      refine J.aload_n dX7_number_63 rfl rfl ?_
      refine J.cvM (as := []) s la r v c l tn (pset (pset p 5 (nI 2)) 6 (p 8)) pa m q b x h okX7_step jcX7_116 (mX7_stepx s la r v c l tn (pset (pset p 5 (nI 2)) 6 (p 8)) pa m q b x h 2 rfl (by decide) (by decide)) dX7_number_64 rfl rfl rfl rfl (fun r9 B9 hq9 => ?_)
      obtain ⟨rfl, rfl⟩ := hq9
      refine ⟨_, _, _, _, _, _, _, _, _, _, _, _, _, _, rfl, ?_⟩
      show J _ _ _ _ _ [] (wM s la r v c l tn (pset (pset p 5 (nI 2)) 6 (p 8)) pa m q b x h) _ _
      refine J.iload_n dX7_number_67 rfl rfl ?_
      have eR : (rdN (v 1) (v 4 0) lo up y) = (false, yF (yN (v 1) (v 4 0) y) 2 (yN (v 1) (v 4 0) y 1)) := by unfold rdN; rw [if_pos hto, if_neg hs]
      refine J.iret dX7_number_68 rfl rfl (Nat.le_refl _) (Nat.le_refl _) ⟨_, (pset (pset p 5 (nI 2)) 6 (p 8)), rfl, rfl, (fun i hi => (if_neg (show ¬ i = 6 by omega)).trans (if_neg (show ¬ i = 5 by omega))), fun h9 => absurd h9 (by rw [eR]; exact Bool.false_ne_true), fun _ => ⟨rfl, ?_⟩⟩
      rw [eR]
      exact ⟨rfl, hok.2.2.1, show 0 < 2 by decide, show 2 < 100 by decide⟩
  · have h5 : ¬ p 5 = 0 := by rw [(hA.no hto).1]; decide
    refine J.aload_n dX7_number_0 rfl rfl ?_
    refine J.mg15 dX7_number_1 rfl ?_
    refine J.if_ne (tgt := 20) dX7_number_4 (by decide) (fun c4 => ?_) (fun c4 => absurd c4 h5)
    refine J.aload_n dX7_number_20 rfl rfl ?_
    refine J.mg15 dX7_number_21 rfl ?_
    refine J.if_ne (tgt := 47) dX7_number_24 (by decide) (fun c24 => ?_) (fun c24 => absurd c24 h5)
    refine J.aload_n dX7_number_47 rfl rfl ?_
    refine J.mg15 dX7_number_48 rfl ?_
    refine J.if_ne (tgt := 61) dX7_number_51 (by decide) (fun c51 => ?_) (fun c51 => absurd c51 h5)
    refine J.iload_n dX7_number_61 rfl rfl ?_
    refine J.istore_n dX7_number_62 rfl (by decide) rfl ?_
    try dsimp only [List.set]
    refine J.aload_n dX7_number_63 rfl rfl ?_
    refine J.cvM (as := []) s la r v c l tn p pa m q b x h okX7_step jcX7_116 (mX7_stepx s la r v c l tn p pa m q b x h 1 (hA.no hto).1 (by decide) (by decide)) dX7_number_64 rfl rfl rfl rfl (fun r9 B9 hq9 => ?_)
    obtain ⟨rfl, rfl⟩ := hq9
    refine ⟨_, _, _, _, _, _, _, _, _, _, _, _, _, _, rfl, ?_⟩
    show J _ _ _ _ _ [] (wM s la r v c l tn p pa m q b x h) _ _
    refine J.iload_n dX7_number_67 rfl rfl ?_
    have eR : (rdN (v 1) (v 4 0) lo up y) = (false, yN (v 1) (v 4 0) y) := by unfold rdN; rw [if_neg hto]
    refine J.iret dX7_number_68 rfl rfl (Nat.le_refl _) (Nat.le_refl _) ⟨_, p, rfl, rfl, fun _ _ => rfl, fun h9 => absurd h9 (by rw [eR]; exact Bool.false_ne_true), fun _ => ⟨rfl, ?_⟩⟩
    rw [eR]
    show rF p (yN (v 1) (v 4 0) y 7) (yN (v 1) (v 4 0) y 8)
    have e7 : yN (v 1) (v 4 0) y 7 = 1 := if_neg hto
    have e8 : yN (v 1) (v 4 0) y 8 = ntf (v 1) (v 4 0) (y 2) := if_neg hto
    rw [e7, e8]
    exact hA.no hto
