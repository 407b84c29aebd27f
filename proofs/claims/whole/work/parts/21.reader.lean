theorem dX1_sortOf_0 : decode cX1_sortOf 0 = .ok (.iload_n 0, 1) := by decide +kernel
theorem dX1_sortOf_1 : decode cX1_sortOf 1 = .ok (.ifCond .ge 5, 3) := by decide +kernel
theorem dX1_sortOf_4 : decode cX1_sortOf 4 = .ok (.iconst 0, 1) := by decide +kernel
theorem dX1_sortOf_5 : decode cX1_sortOf 5 = .ok (.ireturn, 1) := by decide +kernel
theorem dX1_sortOf_6 : decode cX1_sortOf 6 = .ok (.iload_n 0, 1) := by decide +kernel
theorem dX1_sortOf_7 : decode cX1_sortOf 7 = .ok (.bipush 97, 2) := by decide +kernel
theorem dX1_sortOf_9 : decode cX1_sortOf 9 = .ok (.if_icmp .lt 11, 3) := by decide +kernel
theorem dX1_sortOf_12 : decode cX1_sortOf 12 = .ok (.iload_n 0, 1) := by decide +kernel
theorem dX1_sortOf_13 : decode cX1_sortOf 13 = .ok (.bipush 122, 2) := by decide +kernel
theorem dX1_sortOf_15 : decode cX1_sortOf 15 = .ok (.if_icmp .gt 5, 3) := by decide +kernel
theorem dX1_sortOf_18 : decode cX1_sortOf 18 = .ok (.iconst 1, 1) := by decide +kernel
theorem dX1_sortOf_19 : decode cX1_sortOf 19 = .ok (.ireturn, 1) := by decide +kernel
theorem dX1_sortOf_20 : decode cX1_sortOf 20 = .ok (.iload_n 0, 1) := by decide +kernel
theorem dX1_sortOf_21 : decode cX1_sortOf 21 = .ok (.bipush 48, 2) := by decide +kernel
theorem dX1_sortOf_23 : decode cX1_sortOf 23 = .ok (.if_icmp .lt 11, 3) := by decide +kernel
theorem dX1_sortOf_26 : decode cX1_sortOf 26 = .ok (.iload_n 0, 1) := by decide +kernel
theorem dX1_sortOf_27 : decode cX1_sortOf 27 = .ok (.bipush 57, 2) := by decide +kernel
theorem dX1_sortOf_29 : decode cX1_sortOf 29 = .ok (.if_icmp .gt 5, 3) := by decide +kernel
theorem dX1_sortOf_32 : decode cX1_sortOf 32 = .ok (.iconst 2, 1) := by decide +kernel
theorem dX1_sortOf_33 : decode cX1_sortOf 33 = .ok (.ireturn, 1) := by decide +kernel
theorem dX1_sortOf_34 : decode cX1_sortOf 34 = .ok (.iload_n 0, 1) := by decide +kernel
theorem dX1_sortOf_35 : decode cX1_sortOf 35 = .ok (.bipush 59, 2) := by decide +kernel
theorem dX1_sortOf_37 : decode cX1_sortOf 37 = .ok (.if_icmp .ne 7, 3) := by decide +kernel
theorem dX1_sortOf_40 : decode cX1_sortOf 40 = .ok (.iconst 3, 1) := by decide +kernel
theorem dX1_sortOf_41 : decode cX1_sortOf 41 = .ok (.goto 4, 3) := by decide +kernel
theorem dX1_sortOf_44 : decode cX1_sortOf 44 = .ok (.iconst 4, 1) := by decide +kernel
theorem dX1_sortOf_45 : decode cX1_sortOf 45 = .ok (.ireturn, 1) := by decide +kernel
theorem dX1_fail_0 : decode cX1_fail 0 = .ok (.aload_n 0, 1) := by decide +kernel
theorem dX1_fail_1 : decode cX1_fail 1 = .ok (.iload_n 1, 1) := by decide +kernel
theorem dX1_fail_2 : decode cX1_fail 2 = .ok (.putfield 25, 3) := by decide +kernel
theorem dX1_fail_5 : decode cX1_fail 5 = .ok (.aload_n 0, 1) := by decide +kernel
theorem dX1_fail_6 : decode cX1_fail 6 = .ok (.iload_n 2, 1) := by decide +kernel
theorem dX1_fail_7 : decode cX1_fail 7 = .ok (.putfield 68, 3) := by decide +kernel
theorem dX1_fail_10 : decode cX1_fail 10 = .ok (.iconst 0, 1) := by decide +kernel
theorem dX1_fail_11 : decode cX1_fail 11 = .ok (.ireturn, 1) := by decide +kernel
theorem dX1_nextToken_0 : decode cX1_nextToken 0 = .ok (.aload_n 0, 1) := by decide +kernel
theorem dX1_nextToken_1 : decode cX1_nextToken 1 = .ok (.aload_n 0, 1) := by decide +kernel
theorem dX1_nextToken_2 : decode cX1_nextToken 2 = .ok (.getfield 32, 3) := by decide +kernel
theorem dX1_nextToken_5 : decode cX1_nextToken 5 = .ok (.putfield 107, 3) := by decide +kernel
theorem dX1_nextToken_8 : decode cX1_nextToken 8 = .ok (.aload_n 0, 1) := by decide +kernel
theorem dX1_nextToken_9 : decode cX1_nextToken 9 = .ok (.getfield 107, 3) := by decide +kernel
theorem dX1_nextToken_12 : decode cX1_nextToken 12 = .ok (.aload_n 0, 1) := by decide +kernel
theorem dX1_nextToken_13 : decode cX1_nextToken 13 = .ok (.getfield 12, 3) := by decide +kernel
theorem dX1_nextToken_16 : decode cX1_nextToken 16 = .ok (.getfield 58, 3) := by decide +kernel
theorem dX1_nextToken_19 : decode cX1_nextToken 19 = .ok (.if_icmp .ge 32, 3) := by decide +kernel
theorem dX1_nextToken_22 : decode cX1_nextToken 22 = .ok (.aload_n 0, 1) := by decide +kernel
theorem dX1_nextToken_23 : decode cX1_nextToken 23 = .ok (.getfield 12, 3) := by decide +kernel
theorem dX1_nextToken_26 : decode cX1_nextToken 26 = .ok (.aload_n 0, 1) := by decide +kernel
theorem dX1_nextToken_27 : decode cX1_nextToken 27 = .ok (.getfield 107, 3) := by decide +kernel
theorem dX1_nextToken_30 : decode cX1_nextToken 30 = .ok (.invokevirtual 139, 3) := by decide +kernel
theorem dX1_nextToken_33 : decode cX1_nextToken 33 = .ok (.bipush 32, 2) := by decide +kernel
theorem dX1_nextToken_35 : decode cX1_nextToken 35 = .ok (.if_icmp .ne 16, 3) := by decide +kernel
theorem dX1_nextToken_38 : decode cX1_nextToken 38 = .ok (.aload_n 0, 1) := by decide +kernel
theorem dX1_nextToken_39 : decode cX1_nextToken 39 = .ok (.dup, 1) := by decide +kernel
theorem dX1_nextToken_40 : decode cX1_nextToken 40 = .ok (.getfield 107, 3) := by decide +kernel
theorem dX1_nextToken_43 : decode cX1_nextToken 43 = .ok (.iconst 1, 1) := by decide +kernel
theorem dX1_nextToken_44 : decode cX1_nextToken 44 = .ok (.iadd, 1) := by decide +kernel
theorem dX1_nextToken_45 : decode cX1_nextToken 45 = .ok (.putfield 107, 3) := by decide +kernel
theorem dX1_nextToken_48 : decode cX1_nextToken 48 = .ok (.goto (-40), 3) := by decide +kernel
theorem dX1_nextToken_51 : decode cX1_nextToken 51 = .ok (.aload_n 0, 1) := by decide +kernel
theorem dX1_nextToken_52 : decode cX1_nextToken 52 = .ok (.aload_n 0, 1) := by decide +kernel
theorem dX1_nextToken_53 : decode cX1_nextToken 53 = .ok (.getfield 107, 3) := by decide +kernel
theorem dX1_nextToken_56 : decode cX1_nextToken 56 = .ok (.putfield 32, 3) := by decide +kernel
theorem dX1_nextToken_59 : decode cX1_nextToken 59 = .ok (.aload_n 0, 1) := by decide +kernel
theorem dX1_nextToken_60 : decode cX1_nextToken 60 = .ok (.aload_n 0, 1) := by decide +kernel
theorem dX1_nextToken_61 : decode cX1_nextToken 61 = .ok (.getfield 12, 3) := by decide +kernel
theorem dX1_nextToken_64 : decode cX1_nextToken 64 = .ok (.aload_n 0, 1) := by decide +kernel
theorem dX1_nextToken_65 : decode cX1_nextToken 65 = .ok (.getfield 107, 3) := by decide +kernel
theorem dX1_nextToken_68 : decode cX1_nextToken 68 = .ok (.invokevirtual 139, 3) := by decide +kernel
theorem dX1_nextToken_71 : decode cX1_nextToken 71 = .ok (.invokestatic 165, 3) := by decide +kernel
theorem dX1_nextToken_74 : decode cX1_nextToken 74 = .ok (.putfield 49, 3) := by decide +kernel
theorem dX1_nextToken_77 : decode cX1_nextToken 77 = .ok (.aload_n 0, 1) := by decide +kernel
theorem dX1_nextToken_78 : decode cX1_nextToken 78 = .ok (.getfield 49, 3) := by decide +kernel
theorem dX1_nextToken_81 : decode cX1_nextToken 81 = .ok (.iconst 3, 1) := by decide +kernel
theorem dX1_nextToken_82 : decode cX1_nextToken 82 = .ok (.if_icmp .ne 16, 3) := by decide +kernel
theorem dX1_nextToken_85 : decode cX1_nextToken 85 = .ok (.aload_n 0, 1) := by decide +kernel
theorem dX1_nextToken_86 : decode cX1_nextToken 86 = .ok (.dup, 1) := by decide +kernel
theorem dX1_nextToken_87 : decode cX1_nextToken 87 = .ok (.getfield 32, 3) := by decide +kernel
theorem dX1_nextToken_90 : decode cX1_nextToken 90 = .ok (.iconst 1, 1) := by decide +kernel
theorem dX1_nextToken_91 : decode cX1_nextToken 91 = .ok (.iadd, 1) := by decide +kernel
theorem dX1_nextToken_92 : decode cX1_nextToken 92 = .ok (.putfield 32, 3) := by decide +kernel
theorem dX1_nextToken_95 : decode cX1_nextToken 95 = .ok (.goto 67, 3) := by decide +kernel
theorem dX1_nextToken_98 : decode cX1_nextToken 98 = .ok (.aload_n 0, 1) := by decide +kernel
theorem dX1_nextToken_99 : decode cX1_nextToken 99 = .ok (.getfield 49, 3) := by decide +kernel
theorem dX1_nextToken_102 : decode cX1_nextToken 102 = .ok (.iconst 1, 1) := by decide +kernel
theorem dX1_nextToken_103 : decode cX1_nextToken 103 = .ok (.if_icmp .eq 11, 3) := by decide +kernel
theorem dX1_nextToken_106 : decode cX1_nextToken 106 = .ok (.aload_n 0, 1) := by decide +kernel
theorem dX1_nextToken_107 : decode cX1_nextToken 107 = .ok (.getfield 49, 3) := by decide +kernel
theorem dX1_nextToken_110 : decode cX1_nextToken 110 = .ok (.iconst 2, 1) := by decide +kernel
theorem dX1_nextToken_111 : decode cX1_nextToken 111 = .ok (.if_icmp .ne 51, 3) := by decide +kernel
theorem dX1_nextToken_114 : decode cX1_nextToken 114 = .ok (.aload_n 0, 1) := by decide +kernel
theorem dX1_nextToken_115 : decode cX1_nextToken 115 = .ok (.getfield 32, 3) := by decide +kernel
theorem dX1_nextToken_118 : decode cX1_nextToken 118 = .ok (.aload_n 0, 1) := by decide +kernel
theorem dX1_nextToken_119 : decode cX1_nextToken 119 = .ok (.getfield 12, 3) := by decide +kernel
theorem dX1_nextToken_122 : decode cX1_nextToken 122 = .ok (.getfield 58, 3) := by decide +kernel
theorem dX1_nextToken_125 : decode cX1_nextToken 125 = .ok (.if_icmp .ge 37, 3) := by decide +kernel
theorem dX1_nextToken_128 : decode cX1_nextToken 128 = .ok (.aload_n 0, 1) := by decide +kernel
theorem dX1_nextToken_129 : decode cX1_nextToken 129 = .ok (.getfield 12, 3) := by decide +kernel
theorem dX1_nextToken_132 : decode cX1_nextToken 132 = .ok (.aload_n 0, 1) := by decide +kernel
theorem dX1_nextToken_133 : decode cX1_nextToken 133 = .ok (.getfield 32, 3) := by decide +kernel
theorem dX1_nextToken_136 : decode cX1_nextToken 136 = .ok (.invokevirtual 139, 3) := by decide +kernel
theorem dX1_nextToken_139 : decode cX1_nextToken 139 = .ok (.invokestatic 165, 3) := by decide +kernel
theorem dX1_nextToken_142 : decode cX1_nextToken 142 = .ok (.aload_n 0, 1) := by decide +kernel
theorem dX1_nextToken_143 : decode cX1_nextToken 143 = .ok (.getfield 49, 3) := by decide +kernel
theorem dX1_nextToken_146 : decode cX1_nextToken 146 = .ok (.if_icmp .ne 16, 3) := by decide +kernel
theorem dX1_nextToken_149 : decode cX1_nextToken 149 = .ok (.aload_n 0, 1) := by decide +kernel
theorem dX1_nextToken_150 : decode cX1_nextToken 150 = .ok (.dup, 1) := by decide +kernel
theorem dX1_nextToken_151 : decode cX1_nextToken 151 = .ok (.getfield 32, 3) := by decide +kernel
theorem dX1_nextToken_154 : decode cX1_nextToken 154 = .ok (.iconst 1, 1) := by decide +kernel
theorem dX1_nextToken_155 : decode cX1_nextToken 155 = .ok (.iadd, 1) := by decide +kernel
theorem dX1_nextToken_156 : decode cX1_nextToken 156 = .ok (.putfield 32, 3) := by decide +kernel
theorem dX1_nextToken_159 : decode cX1_nextToken 159 = .ok (.goto (-45), 3) := by decide +kernel
theorem dX1_nextToken_162 : decode cX1_nextToken 162 = .ok (.aload_n 0, 1) := by decide +kernel
theorem dX1_nextToken_163 : decode cX1_nextToken 163 = .ok (.getfield 49, 3) := by decide +kernel
theorem dX1_nextToken_166 : decode cX1_nextToken 166 = .ok (.iconst 2, 1) := by decide +kernel
theorem dX1_nextToken_167 : decode cX1_nextToken 167 = .ok (.if_icmp .ne 20, 3) := by decide +kernel
theorem dX1_nextToken_170 : decode cX1_nextToken 170 = .ok (.aload_n 0, 1) := by decide +kernel
theorem dX1_nextToken_171 : decode cX1_nextToken 171 = .ok (.getfield 32, 3) := by decide +kernel
theorem dX1_nextToken_174 : decode cX1_nextToken 174 = .ok (.aload_n 0, 1) := by decide +kernel
theorem dX1_nextToken_175 : decode cX1_nextToken 175 = .ok (.getfield 107, 3) := by decide +kernel
theorem dX1_nextToken_178 : decode cX1_nextToken 178 = .ok (.isub, 1) := by decide +kernel
theorem dX1_nextToken_179 : decode cX1_nextToken 179 = .ok (.iconst 2, 1) := by decide +kernel
theorem dX1_nextToken_180 : decode cX1_nextToken 180 = .ok (.if_icmp .le 7, 3) := by decide +kernel
theorem dX1_nextToken_183 : decode cX1_nextToken 183 = .ok (.iconst 1, 1) := by decide +kernel
theorem dX1_nextToken_184 : decode cX1_nextToken 184 = .ok (.goto 4, 3) := by decide +kernel
theorem dX1_nextToken_187 : decode cX1_nextToken 187 = .ok (.iconst 0, 1) := by decide +kernel
theorem dX1_nextToken_188 : decode cX1_nextToken 188 = .ok (.istore_n 1, 1) := by decide +kernel
theorem dX1_nextToken_189 : decode cX1_nextToken 189 = .ok (.aload_n 0, 1) := by decide +kernel
theorem dX1_nextToken_190 : decode cX1_nextToken 190 = .ok (.getfield 49, 3) := by decide +kernel
theorem dX1_nextToken_193 : decode cX1_nextToken 193 = .ok (.iconst 4, 1) := by decide +kernel
theorem dX1_nextToken_194 : decode cX1_nextToken 194 = .ok (.if_icmp .eq 7, 3) := by decide +kernel
theorem dX1_nextToken_197 : decode cX1_nextToken 197 = .ok (.iload_n 1, 1) := by decide +kernel
theorem dX1_nextToken_198 : decode cX1_nextToken 198 = .ok (.ifCond .eq 15, 3) := by decide +kernel
theorem dX1_nextToken_201 : decode cX1_nextToken 201 = .ok (.aload_n 0, 1) := by decide +kernel
theorem dX1_nextToken_202 : decode cX1_nextToken 202 = .ok (.iconst 1, 1) := by decide +kernel
theorem dX1_nextToken_203 : decode cX1_nextToken 203 = .ok (.aload_n 0, 1) := by decide +kernel
theorem dX1_nextToken_204 : decode cX1_nextToken 204 = .ok (.getfield 107, 3) := by decide +kernel
theorem dX1_nextToken_207 : decode cX1_nextToken 207 = .ok (.invokevirtual 61, 3) := by decide +kernel
theorem dX1_nextToken_210 : decode cX1_nextToken 210 = .ok (.ifCond .eq 7, 3) := by decide +kernel
theorem dX1_nextToken_213 : decode cX1_nextToken 213 = .ok (.iconst 1, 1) := by decide +kernel
theorem dX1_nextToken_214 : decode cX1_nextToken 214 = .ok (.goto 4, 3) := by decide +kernel
theorem dX1_nextToken_217 : decode cX1_nextToken 217 = .ok (.iconst 0, 1) := by decide +kernel
theorem dX1_nextToken_218 : decode cX1_nextToken 218 = .ok (.ireturn, 1) := by decide +kernel
/-! ===== Reader: b, len the tape; d the draft; y: sort, from, to, value, broken, loadTold, prizeTold, fault, place ===== -/
def sof (x : Int32) : Nat := if x < 0 then 0 else if 97 ≤ x ∧ x ≤ 122 then 1 else if 48 ≤ x ∧ x ≤ 57 then 2 else if x = 59 then 3 else 4
def srt (b : Nat → Nat) (len p : Nat) : Nat := sof (bya b len p)
def wX (b : Nat → Nat) (len : Nat) (d : rT) (y : Nat → Nat) : jW := [.inr (1, [.ref 1, .ref 3, .int (nI (y 0)), .int (nI (y 1)), .int (nI (y 2)), .int (nI (y 3)), .int (nI (y 4)), .int (nI (y 5)), .int (nI (y 6)), .int (nI (y 7)), .int (nI (y 8))]), .inr (5, [.ref 2, .int (nI len)]), .inl (2, 160, .inl (fun j => nI (b j))),
  .inr (2, [.ref 4, .ref 5, .ref 6, .ref 7, .ref 8, .ref 9, .int (nI (d 6 0)), .int (nI (d 6 1)), .int (nI (d 6 2)), .int (nI (d 6 3)), .int (nI (d 6 4)), .int (nI (d 6 5)), .int (nI (d 6 6))]),
  .inl (0, 3, .inl (fun j => nI (d 0 j))), .inl (0, 3, .inl (fun j => nI (d 1 j))), .inl (0, 4, .inl (fun j => nI (d 2 j))), .inl (0, 4, .inl (fun j => nI (d 3 j))), .inl (0, 3, .inl (fun j => nI (d 4 j))), .inl (0, 3, .inl (fun j => nI (d 5 j)))]
def yset (y : Nat → Nat) (i v : Nat) : Nat → Nat := fun j => if j = i then v else y j
def skp (b : Nat → Nat) : Nat → Nat → Nat
  | 0, p => p
  | k + 1, p => if b p = 32 then skp b k (p + 1) else p
def run (b : Nat → Nat) (len st : Nat) : Nat → Nat → Nat
  | 0, p => p
  | k + 1, p => if srt b len p = st then run b len st k (p + 1) else p
/-- the next TOKEN behind p: where it begins, its sort, where it ends, whether it is none that is FAULT 1 -/
def ntf (b : Nat → Nat) (len p : Nat) : Nat := skp b (len - p) p
def nts (b : Nat → Nat) (len p : Nat) : Nat := srt b len (ntf b len p)
def ntt (b : Nat → Nat) (len p : Nat) : Nat := if nts b len p = 3 then ntf b len p + 1 else if nts b len p = 1 ∨ nts b len p = 2 then run b len (nts b len p) (len - ntf b len p) (ntf b len p) else ntf b len p
def nto (b : Nat → Nat) (len p : Nat) : Prop := nts b len p ≠ 4 ∧ ¬ (nts b len p = 2 ∧ 2 < ntt b len p - ntf b len p)
theorem skp_le (b : Nat → Nat) : ∀ k p, p ≤ skp b k p ∧ skp b k p ≤ p + k
  | 0, p => ⟨Nat.le_refl _, Nat.le_refl _⟩
  | k + 1, p => by
    have := skp_le b k (p + 1)
    simp only [skp]
    split <;> omega
theorem run_le (b : Nat → Nat) (len st : Nat) : ∀ k p, p ≤ run b len st k p ∧ run b len st k p ≤ p + k
  | 0, p => ⟨Nat.le_refl _, Nat.le_refl _⟩
  | k + 1, p => by
    have := run_le b len st k (p + 1)
    simp only [run]
    split <;> omega
theorem sof_le (x : Int32) : sof x ≤ 4 := by
  unfold sof
  repeat' split
  all_goals omega
set_option maxRecDepth 100000 in
set_option maxHeartbeats 4000000 in
theorem mX1_sortOf (x : Int32) : J KX1_sortOf 0 (fun o B => o = some (.int (nI (sof x))) ∧ B = []) 0 [some (.int x)] [] [] 0 0 := by
  refine J.iload_n dX1_sortOf_0 rfl rfl ?_
  refine J.if_ge (tgt := 6) dX1_sortOf_1 (by decide) (fun c1 => ?_) (fun c1 => ?_)
  · refine J.iload_n dX1_sortOf_6 rfl rfl ?_
    refine J.bipush (97) dX1_sortOf_7 (by decide) ?_
    refine J.icmp_lt (tgt := 20) dX1_sortOf_9 (by decide) (fun c9 => ?_) (fun c9 => ?_)
    · refine J.iload_n dX1_sortOf_20 rfl rfl ?_
      refine J.bipush (48) dX1_sortOf_21 (by decide) ?_
      refine J.icmp_lt (tgt := 34) dX1_sortOf_23 (by decide) (fun c23 => ?_) (fun c23 => ?_)
      · refine J.iload_n dX1_sortOf_34 rfl rfl ?_
        refine J.bipush (59) dX1_sortOf_35 (by decide) ?_
        refine J.icmp_ne (tgt := 44) dX1_sortOf_37 (by decide) (fun c37 => ?_) (fun c37 => ?_)
        · refine J.iconst (4) dX1_sortOf_44 (by decide) ?_
          exact J.iret dX1_sortOf_45 rfl rfl (Nat.le_refl _) (Nat.le_refl _) ⟨congrArg (fun x => some (Value.int x)) (by rw [sof, if_neg (Int32.not_lt.mpr c1), if_neg (fun h => by first | exact absurd h.1 (Int32.not_le.mpr c9) | exact absurd h.2 (Int32.not_le.mpr c15)), if_neg (fun h => by first | exact absurd h.1 (Int32.not_le.mpr c23) | exact absurd h.2 (Int32.not_le.mpr c29))]; first | (rw [if_pos c37]; rfl) | (rw [if_neg c37]; rfl)), rfl⟩
        · refine J.iconst (3) dX1_sortOf_40 (by decide) ?_
          refine J.goto (tgt := 45) dX1_sortOf_41 (by decide) ?_
          exact J.iret dX1_sortOf_45 rfl rfl (Nat.le_refl _) (Nat.le_refl _) ⟨congrArg (fun x => some (Value.int x)) (by rw [sof, if_neg (Int32.not_lt.mpr c1), if_neg (fun h => by first | exact absurd h.1 (Int32.not_le.mpr c9) | exact absurd h.2 (Int32.not_le.mpr c15)), if_neg (fun h => by first | exact absurd h.1 (Int32.not_le.mpr c23) | exact absurd h.2 (Int32.not_le.mpr c29))]; first | (rw [if_pos c37]; rfl) | (rw [if_neg c37]; rfl)), rfl⟩
      · refine J.iload_n dX1_sortOf_26 rfl rfl ?_
        refine J.bipush (57) dX1_sortOf_27 (by decide) ?_
        refine J.icmp_gt (tgt := 34) dX1_sortOf_29 (by decide) (fun c29 => ?_) (fun c29 => ?_)
        · refine J.iload_n dX1_sortOf_34 rfl rfl ?_
          refine J.bipush (59) dX1_sortOf_35 (by decide) ?_
          refine J.icmp_ne (tgt := 44) dX1_sortOf_37 (by decide) (fun c37 => ?_) (fun c37 => ?_)
          · refine J.iconst (4) dX1_sortOf_44 (by decide) ?_
            exact J.iret dX1_sortOf_45 rfl rfl (Nat.le_refl _) (Nat.le_refl _) ⟨congrArg (fun x => some (Value.int x)) (by rw [sof, if_neg (Int32.not_lt.mpr c1), if_neg (fun h => by first | exact absurd h.1 (Int32.not_le.mpr c9) | exact absurd h.2 (Int32.not_le.mpr c15)), if_neg (fun h => by first | exact absurd h.1 (Int32.not_le.mpr c23) | exact absurd h.2 (Int32.not_le.mpr c29))]; first | (rw [if_pos c37]; rfl) | (rw [if_neg c37]; rfl)), rfl⟩
          · refine J.iconst (3) dX1_sortOf_40 (by decide) ?_
            refine J.goto (tgt := 45) dX1_sortOf_41 (by decide) ?_
            exact J.iret dX1_sortOf_45 rfl rfl (Nat.le_refl _) (Nat.le_refl _) ⟨congrArg (fun x => some (Value.int x)) (by rw [sof, if_neg (Int32.not_lt.mpr c1), if_neg (fun h => by first | exact absurd h.1 (Int32.not_le.mpr c9) | exact absurd h.2 (Int32.not_le.mpr c15)), if_neg (fun h => by first | exact absurd h.1 (Int32.not_le.mpr c23) | exact absurd h.2 (Int32.not_le.mpr c29))]; first | (rw [if_pos c37]; rfl) | (rw [if_neg c37]; rfl)), rfl⟩
        · refine J.iconst (2) dX1_sortOf_32 (by decide) ?_
          exact J.iret dX1_sortOf_33 rfl rfl (Nat.le_refl _) (Nat.le_refl _) ⟨congrArg (fun x => some (Value.int x)) (by rw [sof, if_neg (Int32.not_lt.mpr c1), if_neg (fun h => by first | exact absurd h.1 (Int32.not_le.mpr c9) | exact absurd h.2 (Int32.not_le.mpr c15)), if_pos ⟨Int32.not_lt.mp c23, Int32.not_lt.mp c29⟩]; rfl), rfl⟩
    · refine J.iload_n dX1_sortOf_12 rfl rfl ?_
      refine J.bipush (122) dX1_sortOf_13 (by decide) ?_
      refine J.icmp_gt (tgt := 20) dX1_sortOf_15 (by decide) (fun c15 => ?_) (fun c15 => ?_)
      · refine J.iload_n dX1_sortOf_20 rfl rfl ?_
        refine J.bipush (48) dX1_sortOf_21 (by decide) ?_
        refine J.icmp_lt (tgt := 34) dX1_sortOf_23 (by decide) (fun c23 => ?_) (fun c23 => ?_)
        · refine J.iload_n dX1_sortOf_34 rfl rfl ?_
          refine J.bipush (59) dX1_sortOf_35 (by decide) ?_
          refine J.icmp_ne (tgt := 44) dX1_sortOf_37 (by decide) (fun c37 => ?_) (fun c37 => ?_)
          · refine J.iconst (4) dX1_sortOf_44 (by decide) ?_
            exact J.iret dX1_sortOf_45 rfl rfl (Nat.le_refl _) (Nat.le_refl _) ⟨congrArg (fun x => some (Value.int x)) (by rw [sof, if_neg (Int32.not_lt.mpr c1), if_neg (fun h => by first | exact absurd h.1 (Int32.not_le.mpr c9) | exact absurd h.2 (Int32.not_le.mpr c15)), if_neg (fun h => by first | exact absurd h.1 (Int32.not_le.mpr c23) | exact absurd h.2 (Int32.not_le.mpr c29))]; first | (rw [if_pos c37]; rfl) | (rw [if_neg c37]; rfl)), rfl⟩
          · refine J.iconst (3) dX1_sortOf_40 (by decide) ?_
            refine J.goto (tgt := 45) dX1_sortOf_41 (by decide) ?_
            exact J.iret dX1_sortOf_45 rfl rfl (Nat.le_refl _) (Nat.le_refl _) ⟨congrArg (fun x => some (Value.int x)) (by rw [sof, if_neg (Int32.not_lt.mpr c1), if_neg (fun h => by first | exact absurd h.1 (Int32.not_le.mpr c9) | exact absurd h.2 (Int32.not_le.mpr c15)), if_neg (fun h => by first | exact absurd h.1 (Int32.not_le.mpr c23) | exact absurd h.2 (Int32.not_le.mpr c29))]; first | (rw [if_pos c37]; rfl) | (rw [if_neg c37]; rfl)), rfl⟩
        · refine J.iload_n dX1_sortOf_26 rfl rfl ?_
          refine J.bipush (57) dX1_sortOf_27 (by decide) ?_
          refine J.icmp_gt (tgt := 34) dX1_sortOf_29 (by decide) (fun c29 => ?_) (fun c29 => ?_)
          · refine J.iload_n dX1_sortOf_34 rfl rfl ?_
            refine J.bipush (59) dX1_sortOf_35 (by decide) ?_
            refine J.icmp_ne (tgt := 44) dX1_sortOf_37 (by decide) (fun c37 => ?_) (fun c37 => ?_)
            · refine J.iconst (4) dX1_sortOf_44 (by decide) ?_
              exact J.iret dX1_sortOf_45 rfl rfl (Nat.le_refl _) (Nat.le_refl _) ⟨congrArg (fun x => some (Value.int x)) (by rw [sof, if_neg (Int32.not_lt.mpr c1), if_neg (fun h => by first | exact absurd h.1 (Int32.not_le.mpr c9) | exact absurd h.2 (Int32.not_le.mpr c15)), if_neg (fun h => by first | exact absurd h.1 (Int32.not_le.mpr c23) | exact absurd h.2 (Int32.not_le.mpr c29))]; first | (rw [if_pos c37]; rfl) | (rw [if_neg c37]; rfl)), rfl⟩
            · refine J.iconst (3) dX1_sortOf_40 (by decide) ?_
              refine J.goto (tgt := 45) dX1_sortOf_41 (by decide) ?_
              exact J.iret dX1_sortOf_45 rfl rfl (Nat.le_refl _) (Nat.le_refl _) ⟨congrArg (fun x => some (Value.int x)) (by rw [sof, if_neg (Int32.not_lt.mpr c1), if_neg (fun h => by first | exact absurd h.1 (Int32.not_le.mpr c9) | exact absurd h.2 (Int32.not_le.mpr c15)), if_neg (fun h => by first | exact absurd h.1 (Int32.not_le.mpr c23) | exact absurd h.2 (Int32.not_le.mpr c29))]; first | (rw [if_pos c37]; rfl) | (rw [if_neg c37]; rfl)), rfl⟩
          · refine J.iconst (2) dX1_sortOf_32 (by decide) ?_
            exact J.iret dX1_sortOf_33 rfl rfl (Nat.le_refl _) (Nat.le_refl _) ⟨congrArg (fun x => some (Value.int x)) (by rw [sof, if_neg (Int32.not_lt.mpr c1), if_neg (fun h => by first | exact absurd h.1 (Int32.not_le.mpr c9) | exact absurd h.2 (Int32.not_le.mpr c15)), if_pos ⟨Int32.not_lt.mp c23, Int32.not_lt.mp c29⟩]; rfl), rfl⟩
      · refine J.iconst (1) dX1_sortOf_18 (by decide) ?_
        exact J.iret dX1_sortOf_19 rfl rfl (Nat.le_refl _) (Nat.le_refl _) ⟨congrArg (fun x => some (Value.int x)) (by rw [sof, if_neg (Int32.not_lt.mpr c1), if_pos ⟨Int32.not_lt.mp c9, Int32.not_lt.mp c15⟩]; rfl), rfl⟩
  · refine J.iconst (0) dX1_sortOf_4 (by decide) ?_
    exact J.iret dX1_sortOf_5 rfl rfl (Nat.le_refl _) (Nat.le_refl _) ⟨congrArg (fun x => some (Value.int x)) (by rw [sof, if_pos (Int32.not_le.mp c1)]; rfl), rfl⟩
set_option maxRecDepth 100000 in
set_option maxHeartbeats 4000000 in
theorem mX1_fail (b : Nat → Nat) (len : Nat) (d : rT) (y : Nat → Nat) (f p : Nat) : J KX1_fail 10 (fun o B => o = some (.int 0) ∧ B = wX b len d (yset (yset y 7 f) 8 p)) 0 [some (.ref 0), some (.int (nI f)), some (.int (nI p))] [] (wX b len d y) 0 0 := by
  unfold wX
  refine J.aload_n dX1_fail_0 rfl rfl ?_
  refine J.iload_n dX1_fail_1 rfl rfl ?_
  refine J.putfield dX1_fail_2 jFX1_25 jP1_9 rfl rfl rfl (Nat.le_of_ble_eq_true rfl) ?_
  try dsimp only [List.set, wX]
  refine J.aload_n dX1_fail_5 rfl rfl ?_
  refine J.iload_n dX1_fail_6 rfl rfl ?_
  refine J.putfield dX1_fail_7 jFX1_68 jP1_10 rfl rfl rfl (Nat.le_of_ble_eq_true rfl) ?_
  try dsimp only [List.set, wX]
  refine J.iconst (0) dX1_fail_10 (by decide) ?_
  exact J.iret dX1_fail_11 rfl (by decide) (Nat.le_refl _) (Nat.le_refl _) ⟨rfl, rfl⟩
/-- what nextToken leaves -/
def ynt (b : Nat → Nat) (len : Nat) (y : Nat → Nat) (ok : Prop) [Decidable ok] : Nat → Nat := fun j => match j with
  | 0 => nts b len (y 2)
  | 1 => ntf b len (y 2)
  | 2 => ntt b len (y 2)
  | 7 => if ok then y 7 else 1
  | 8 => if ok then y 8 else ntf b len (y 2)
  | j => y j
set_option maxRecDepth 100000 in
set_option maxHeartbeats 4000000 in
theorem mX1_nextToken_z (b : Nat → Nat) (len : Nat) (d : rT) (hb : ∀ j, b j < 128) (hl : len ≤ 160) (y0 : Nat → Nat) (hy : y0 2 ≤ len) (ok : Prop) (hd : Decidable ok) (hok : ok ↔ nto b len (y0 2)) (hft : ntf b len (y0 2) ≤ ntt b len (y0 2) ∧ ntt b len (y0 2) < 1000) : J KX1_nextToken 10 (fun o B => o = some (.int (jB ok)) ∧ B = wX b len d (ynt b len y0 ok)) 162 [some (.ref 0), none] [] (wX b len d (yset (yset (yset y0 1 (ntf b len (y0 2))) 0 (nts b len (y0 2))) 2 (ntt b len (y0 2)))) 0 0 := by
  by_cases hn : nto b len (y0 2)
  · by_cases h2 : nts b len (y0 2) = 2
    · refine J.aload_n dX1_nextToken_162 rfl rfl ?_
      refine J.getfield dX1_nextToken_163 jFX1_49 rfl rfl ?_
      refine J.iconst (2) dX1_nextToken_166 (by decide) ?_
      refine J.icmp_ne (tgt := 187) dX1_nextToken_167 (by decide) (fun c167 => absurd c167 (fun h => h (congrArg nI h2))) (fun c167 => ?_)
      refine J.aload_n dX1_nextToken_170 rfl rfl ?_
      refine J.getfield dX1_nextToken_171 jFX1_32 rfl rfl ?_
      refine J.aload_n dX1_nextToken_174 rfl rfl ?_
      refine J.getfield dX1_nextToken_175 jFX1_107 rfl rfl ?_
      refine J.isub dX1_nextToken_178 ?_
      refine J.iconst (2) dX1_nextToken_179 (by decide) ?_
      rw [show nI ((yset (yset (yset y0 1 (ntf b len (y0 2))) 0 (nts b len (y0 2))) 2 (ntt b len (y0 2))) 2) - nI ((yset (yset (yset y0 1 (ntf b len (y0 2))) 0 (nts b len (y0 2))) 2 (ntt b len (y0 2))) 1) = nI (ntt b len (y0 2) - ntf b len (y0 2)) from pk_sub hft.1]
      refine J.icmp_le (tgt := 187) dX1_nextToken_180 (by decide) (fun c180 => ?_) (fun c180 => absurd c180 (fun h => h ((nI_lei (b := 2) (by omega) (by decide)).mpr (by have := mt (And.intro h2) hn.2; omega))))
      refine J.iconst (0) dX1_nextToken_187 (by decide) ?_
      refine J.istore_n dX1_nextToken_188 rfl (by decide) rfl ?_
      try dsimp only [List.set, wX]
      refine J.aload_n dX1_nextToken_189 rfl rfl ?_
      refine J.getfield dX1_nextToken_190 jFX1_49 rfl rfl ?_
      refine J.iconst (4) dX1_nextToken_193 (by decide) ?_
      refine J.icmp_eq (tgt := 201) dX1_nextToken_194 (by decide) (fun c194 => absurd c194 (fun h => absurd ((nI_eqi (b := 4) (show nts b len (y0 2) < 2147483648 by have := sof_le (bya b len (ntf b len (y0 2))); unfold nts srt; omega) (by decide)).mp h) (show ¬ nts b len (y0 2) = 4 from hn.1))) (fun c194 => ?_)
      refine J.iload_n dX1_nextToken_197 rfl rfl ?_
      refine J.if_eq (tgt := 213) dX1_nextToken_198 (by decide) (fun c198 => ?_) (fun c198 => absurd c198 (fun h => h rfl))
      refine J.iconst (1) dX1_nextToken_213 (by decide) ?_
      refine J.goto (tgt := 218) dX1_nextToken_214 (by decide) ?_
      refine J.iret dX1_nextToken_218 rfl (by decide) (Nat.le_refl _) (Nat.le_refl _) ⟨congrArg (fun x => some (Value.int x)) (jB_t hd (hok.mpr hn)).symm, ?_⟩
      simp only [ynt, if_pos (hok.mpr hn)]
      rfl
    · refine J.aload_n dX1_nextToken_162 rfl rfl ?_
      refine J.getfield dX1_nextToken_163 jFX1_49 rfl rfl ?_
      refine J.iconst (2) dX1_nextToken_166 (by decide) ?_
      refine J.icmp_ne (tgt := 187) dX1_nextToken_167 (by decide) (fun c167 => ?_) (fun c167 => absurd c167 (fun h => absurd ((nI_eqi (b := 2) (show nts b len (y0 2) < 2147483648 by have := sof_le (bya b len (ntf b len (y0 2))); unfold nts srt; omega) (by decide)).mp h) (show ¬ nts b len (y0 2) = 2 from h2)))
      refine J.iconst (0) dX1_nextToken_187 (by decide) ?_
      refine J.istore_n dX1_nextToken_188 rfl (by decide) rfl ?_
      try dsimp only [List.set, wX]
      refine J.aload_n dX1_nextToken_189 rfl rfl ?_
      refine J.getfield dX1_nextToken_190 jFX1_49 rfl rfl ?_
      refine J.iconst (4) dX1_nextToken_193 (by decide) ?_
      refine J.icmp_eq (tgt := 201) dX1_nextToken_194 (by decide) (fun c194 => absurd c194 (fun h => absurd ((nI_eqi (b := 4) (show nts b len (y0 2) < 2147483648 by have := sof_le (bya b len (ntf b len (y0 2))); unfold nts srt; omega) (by decide)).mp h) (show ¬ nts b len (y0 2) = 4 from hn.1))) (fun c194 => ?_)
      refine J.iload_n dX1_nextToken_197 rfl rfl ?_
      refine J.if_eq (tgt := 213) dX1_nextToken_198 (by decide) (fun c198 => ?_) (fun c198 => absurd c198 (fun h => h rfl))
      refine J.iconst (1) dX1_nextToken_213 (by decide) ?_
      refine J.goto (tgt := 218) dX1_nextToken_214 (by decide) ?_
      refine J.iret dX1_nextToken_218 rfl (by decide) (Nat.le_refl _) (Nat.le_refl _) ⟨congrArg (fun x => some (Value.int x)) (jB_t hd (hok.mpr hn)).symm, ?_⟩
      simp only [ynt, if_pos (hok.mpr hn)]
      rfl
  · by_cases h4 : nts b len (y0 2) = 4
    · refine J.aload_n dX1_nextToken_162 rfl rfl ?_
      refine J.getfield dX1_nextToken_163 jFX1_49 rfl rfl ?_
      refine J.iconst (2) dX1_nextToken_166 (by decide) ?_
      refine J.icmp_ne (tgt := 187) dX1_nextToken_167 (by decide) (fun c167 => ?_) (fun c167 => absurd c167 (fun h => absurd ((nI_eqi (b := 2) (show nts b len (y0 2) < 2147483648 by have := sof_le (bya b len (ntf b len (y0 2))); unfold nts srt; omega) (by decide)).mp h) (show ¬ nts b len (y0 2) = 2 from (by rw [h4]; decide))))
      refine J.iconst (0) dX1_nextToken_187 (by decide) ?_
      refine J.istore_n dX1_nextToken_188 rfl (by decide) rfl ?_
      try dsimp only [List.set, wX]
      refine J.aload_n dX1_nextToken_189 rfl rfl ?_
      refine J.getfield dX1_nextToken_190 jFX1_49 rfl rfl ?_
      refine J.iconst (4) dX1_nextToken_193 (by decide) ?_
      refine J.icmp_eq (tgt := 201) dX1_nextToken_194 (by decide) (fun c194 => ?_) (fun c194 => absurd c194 (fun h => h (congrArg nI h4)))
      refine J.aload_n dX1_nextToken_201 rfl rfl ?_
      refine J.iconst (1) dX1_nextToken_202 (by decide) ?_
      refine J.aload_n dX1_nextToken_203 rfl rfl ?_
      refine J.getfield dX1_nextToken_204 jFX1_107 rfl rfl ?_
      refine J.cv (as := [.int (nI 1), .int _]) (is := [0, 1, 2, 3, 4, 5, 6, 7, 8, 9]) (o := 0) okX1_fail jcX1_61 (mX1_fail b len d (yset (yset (yset y0 1 (ntf b len (y0 2))) 0 (nts b len (y0 2))) 2 (ntt b len (y0 2))) 1 (ntf b len (y0 2))) dX1_nextToken_207 rfl rfl rfl rfl rfl rfl rfl (fun r9 B9 hq => ?_)
      obtain ⟨rfl, rfl⟩ := hq
      refine ⟨rfl, ?_⟩
      show J _ _ _ _ _ (.int 0 :: _) (wX b len d (yset (yset (yset (yset (yset y0 1 (ntf b len (y0 2))) 0 (nts b len (y0 2))) 2 (ntt b len (y0 2))) 7 1) 8 (ntf b len (y0 2)))) _ _
      refine J.if_eq (tgt := 217) dX1_nextToken_210 (by decide) (fun c210 => ?_) (fun c210 => absurd c210 (fun h => h rfl))
      refine J.iconst (0) dX1_nextToken_217 (by decide) ?_
      refine J.iret dX1_nextToken_218 rfl (by decide) (Nat.le_refl _) (Nat.le_refl _) ⟨congrArg (fun x => some (Value.int x)) (jB_f hd (fun h => hn (hok.mp h))).symm, ?_⟩
      simp only [ynt, if_neg (fun h => hn (hok.mp h))]
      rfl
    · have h2 : nts b len (y0 2) = 2 ∧ 2 < ntt b len (y0 2) - ntf b len (y0 2) := Decidable.not_not.mp (fun h => hn ⟨h4, h⟩)
      refine J.aload_n dX1_nextToken_162 rfl rfl ?_
      refine J.getfield dX1_nextToken_163 jFX1_49 rfl rfl ?_
      refine J.iconst (2) dX1_nextToken_166 (by decide) ?_
      refine J.icmp_ne (tgt := 187) dX1_nextToken_167 (by decide) (fun c167 => absurd c167 (fun h => h (congrArg nI h2.1))) (fun c167 => ?_)
      refine J.aload_n dX1_nextToken_170 rfl rfl ?_
      refine J.getfield dX1_nextToken_171 jFX1_32 rfl rfl ?_
      refine J.aload_n dX1_nextToken_174 rfl rfl ?_
      refine J.getfield dX1_nextToken_175 jFX1_107 rfl rfl ?_
      refine J.isub dX1_nextToken_178 ?_
      refine J.iconst (2) dX1_nextToken_179 (by decide) ?_
      rw [show nI ((yset (yset (yset y0 1 (ntf b len (y0 2))) 0 (nts b len (y0 2))) 2 (ntt b len (y0 2))) 2) - nI ((yset (yset (yset y0 1 (ntf b len (y0 2))) 0 (nts b len (y0 2))) 2 (ntt b len (y0 2))) 1) = nI (ntt b len (y0 2) - ntf b len (y0 2)) from pk_sub hft.1]
      refine J.icmp_le (tgt := 187) dX1_nextToken_180 (by decide) (fun c180 => absurd c180 (fun h => absurd ((nI_lei (b := 2) (by omega) (by decide)).mp h) (by omega))) (fun c180 => ?_)
      refine J.iconst (1) dX1_nextToken_183 (by decide) ?_
      refine J.goto (tgt := 188) dX1_nextToken_184 (by decide) ?_
      refine J.istore_n dX1_nextToken_188 rfl (by decide) rfl ?_
      try dsimp only [List.set, wX]
      refine J.aload_n dX1_nextToken_189 rfl rfl ?_
      refine J.getfield dX1_nextToken_190 jFX1_49 rfl rfl ?_
      refine J.iconst (4) dX1_nextToken_193 (by decide) ?_
      refine J.icmp_eq (tgt := 201) dX1_nextToken_194 (by decide) (fun c194 => absurd c194 (fun h => absurd ((nI_eqi (b := 4) (show nts b len (y0 2) < 2147483648 by have := sof_le (bya b len (ntf b len (y0 2))); unfold nts srt; omega) (by decide)).mp h) (show ¬ nts b len (y0 2) = 4 from (by rw [h2.1]; decide)))) (fun c194 => ?_)
      refine J.iload_n dX1_nextToken_197 rfl rfl ?_
      refine J.if_eq (tgt := 213) dX1_nextToken_198 (by decide) (fun c198 => absurd c198 (by decide)) (fun c198 => ?_)
      refine J.aload_n dX1_nextToken_201 rfl rfl ?_
      refine J.iconst (1) dX1_nextToken_202 (by decide) ?_
      refine J.aload_n dX1_nextToken_203 rfl rfl ?_
      refine J.getfield dX1_nextToken_204 jFX1_107 rfl rfl ?_
      refine J.cv (as := [.int (nI 1), .int _]) (is := [0, 1, 2, 3, 4, 5, 6, 7, 8, 9]) (o := 0) okX1_fail jcX1_61 (mX1_fail b len d (yset (yset (yset y0 1 (ntf b len (y0 2))) 0 (nts b len (y0 2))) 2 (ntt b len (y0 2))) 1 (ntf b len (y0 2))) dX1_nextToken_207 rfl rfl rfl rfl rfl rfl rfl (fun r9 B9 hq => ?_)
      obtain ⟨rfl, rfl⟩ := hq
      refine ⟨rfl, ?_⟩
      show J _ _ _ _ _ (.int 0 :: _) (wX b len d (yset (yset (yset (yset (yset y0 1 (ntf b len (y0 2))) 0 (nts b len (y0 2))) 2 (ntt b len (y0 2))) 7 1) 8 (ntf b len (y0 2)))) _ _
      refine J.if_eq (tgt := 217) dX1_nextToken_210 (by decide) (fun c210 => ?_) (fun c210 => absurd c210 (fun h => h rfl))
      refine J.iconst (0) dX1_nextToken_217 (by decide) ?_
      refine J.iret dX1_nextToken_218 rfl (by decide) (Nat.le_refl _) (Nat.le_refl _) ⟨congrArg (fun x => some (Value.int x)) (jB_f hd (fun h => hn (hok.mp h))).symm, ?_⟩
      simp only [ynt, if_neg (fun h => hn (hok.mp h))]
      rfl
set_option maxRecDepth 100000 in
set_option maxHeartbeats 4000000 in
theorem mX1_nextToken_r (b : Nat → Nat) (len : Nat) (d : rT) (hb : ∀ j, b j < 128) (hl : len ≤ 160) (y0 : Nat → Nat) (hy : y0 2 ≤ len) (ok : Prop) (hd : Decidable ok) (hok : ok ↔ nto b len (y0 2)) : ∀ (k p : Nat), p + k = len → J KX1_nextToken 10 (fun o B => o = some (.int (jB ok)) ∧ B = wX b len d (ynt b len y0 ok)) 162 [some (.ref 0), none] [] (wX b len d (yset (yset (yset y0 1 (ntf b len (y0 2))) 0 (nts b len (y0 2))) 2 (run b len (nts b len (y0 2)) k p))) 0 0 → J KX1_nextToken 10 (fun o B => o = some (.int (jB ok)) ∧ B = wX b len d (ynt b len y0 ok)) 114 [some (.ref 0), none] [] (wX b len d (yset (yset (yset y0 1 (ntf b len (y0 2))) 0 (nts b len (y0 2))) 2 p)) 0 0 := by
  intro k
  induction k with
  | zero =>
    intro p hp hk
    obtain rfl : p = len := by omega
    refine J.aload_n dX1_nextToken_114 rfl rfl ?_
    refine J.getfield dX1_nextToken_115 jFX1_32 rfl rfl ?_
    refine J.aload_n dX1_nextToken_118 rfl rfl ?_
    refine J.getfield dX1_nextToken_119 jFX1_12 rfl rfl ?_
    refine J.getfield dX1_nextToken_122 jFX1_58 rfl rfl ?_
    refine J.icmp_ge (tgt := 162) dX1_nextToken_125 (by decide) (fun c125 => ?_) (fun c125 => absurd c125 (fun h => h (Int32.le_refl _)))
    exact hk
  | succ k ih =>
    intro p hp hk
    refine J.aload_n dX1_nextToken_114 rfl rfl ?_
    refine J.getfield dX1_nextToken_115 jFX1_32 rfl rfl ?_
    refine J.aload_n dX1_nextToken_118 rfl rfl ?_
    refine J.getfield dX1_nextToken_119 jFX1_12 rfl rfl ?_
    refine J.getfield dX1_nextToken_122 jFX1_58 rfl rfl ?_
    refine J.icmp_ge (tgt := 162) dX1_nextToken_125 (by decide) (fun c125 => absurd c125 (nI_ge (show p < len by omega) (by omega))) (fun c125 => ?_)
    refine J.aload_n dX1_nextToken_128 rfl rfl ?_
    refine J.getfield dX1_nextToken_129 jFX1_12 rfl rfl ?_
    refine J.aload_n dX1_nextToken_132 rfl rfl ?_
    refine J.getfield dX1_nextToken_133 jFX1_32 rfl rfl ?_
    refine J.cv (as := [.int _]) (is := [1, 2]) (o := 0) okX5_byteAt jcX1_139 (mX5_byteAt b len p hl (by omega)) dX1_nextToken_136 rfl rfl rfl rfl rfl rfl rfl (fun r9 B9 hq => ?_)
    obtain ⟨rfl, rfl⟩ := hq
    refine ⟨rfl, ?_⟩
    show J _ _ _ _ _ _ (wX b len d (yset (yset (yset y0 1 (ntf b len (y0 2))) 0 (nts b len (y0 2))) 2 p)) _ _
    refine J.cs (as := [.int _]) (is := []) okX1_sortOf jcX1_165 (mX1_sortOf _) dX1_nextToken_139 rfl rfl rfl rfl rfl rfl (fun r9 B9 hq => ?_)
    obtain ⟨rfl, rfl⟩ := hq
    refine ⟨rfl, ?_⟩
    show J _ _ _ _ _ _ (wX b len d (yset (yset (yset y0 1 (ntf b len (y0 2))) 0 (nts b len (y0 2))) 2 p)) _ _
    refine J.aload_n dX1_nextToken_142 rfl rfl ?_
    refine J.getfield dX1_nextToken_143 jFX1_49 rfl rfl ?_
    refine J.icmp_ne (tgt := 162) dX1_nextToken_146 (by decide) (fun c146 => ?_) (fun c146 => ?_)
    · rw [run, if_neg (show ¬ srt b len p = nts b len (y0 2) from fun h => c146 (congrArg nI h))] at hk
      exact hk
    · refine J.aload_n dX1_nextToken_149 rfl rfl ?_
      refine J.dup dX1_nextToken_150 rfl ?_
      refine J.getfield dX1_nextToken_151 jFX1_32 rfl rfl ?_
      refine J.iconst (1) dX1_nextToken_154 (by decide) ?_
      refine J.iadd dX1_nextToken_155 ?_
      refine J.putfield dX1_nextToken_156 jFX1_32 jP1_4 rfl rfl rfl (Nat.le_of_ble_eq_true rfl) ?_
      try dsimp only [List.set, wX]
      refine J.goto (tgt := 114) dX1_nextToken_159 (by decide) ?_
      rw [nI_1]
      rw [run, if_pos (show srt b len p = nts b len (y0 2) from (nI_eqi (show srt b len p < 2147483648 by have := sof_le (bya b len p); unfold srt; omega) (show nts b len (y0 2) < 2147483648 by have := sof_le (bya b len (ntf b len (y0 2))); unfold nts srt; omega)).mp c146)] at hk
      exact ih (p + 1) (by omega) hk
set_option maxRecDepth 100000 in
set_option maxHeartbeats 4000000 in
theorem mX1_nextToken_s (b : Nat → Nat) (len : Nat) (d : rT) (hb : ∀ j, b j < 128) (hl : len ≤ 160) (y0 : Nat → Nat) (hy : y0 2 ≤ len) (ok : Prop) (hd : Decidable ok) (hok : ok ↔ nto b len (y0 2)) : ∀ (k p : Nat), p + k = len → J KX1_nextToken 10 (fun o B => o = some (.int (jB ok)) ∧ B = wX b len d (ynt b len y0 ok)) 51 [some (.ref 0), none] [] (wX b len d (yset y0 1 (skp b k p))) 0 0 → J KX1_nextToken 10 (fun o B => o = some (.int (jB ok)) ∧ B = wX b len d (ynt b len y0 ok)) 8 [some (.ref 0), none] [] (wX b len d (yset y0 1 p)) 0 0 := by
  intro k
  induction k with
  | zero =>
    intro p hp hk
    obtain rfl : p = len := by omega
    refine J.aload_n dX1_nextToken_8 rfl rfl ?_
    refine J.getfield dX1_nextToken_9 jFX1_107 rfl rfl ?_
    refine J.aload_n dX1_nextToken_12 rfl rfl ?_
    refine J.getfield dX1_nextToken_13 jFX1_12 rfl rfl ?_
    refine J.getfield dX1_nextToken_16 jFX1_58 rfl rfl ?_
    refine J.icmp_ge (tgt := 51) dX1_nextToken_19 (by decide) (fun c19 => ?_) (fun c19 => absurd c19 (fun h => h (Int32.le_refl _)))
    exact hk
  | succ k ih =>
    intro p hp hk
    refine J.aload_n dX1_nextToken_8 rfl rfl ?_
    refine J.getfield dX1_nextToken_9 jFX1_107 rfl rfl ?_
    refine J.aload_n dX1_nextToken_12 rfl rfl ?_
    refine J.getfield dX1_nextToken_13 jFX1_12 rfl rfl ?_
    refine J.getfield dX1_nextToken_16 jFX1_58 rfl rfl ?_
    refine J.icmp_ge (tgt := 51) dX1_nextToken_19 (by decide) (fun c19 => absurd c19 (nI_ge (show p < len by omega) (by omega))) (fun c19 => ?_)
    refine J.aload_n dX1_nextToken_22 rfl rfl ?_
    refine J.getfield dX1_nextToken_23 jFX1_12 rfl rfl ?_
    refine J.aload_n dX1_nextToken_26 rfl rfl ?_
    refine J.getfield dX1_nextToken_27 jFX1_107 rfl rfl ?_
    refine J.cv (as := [.int _]) (is := [1, 2]) (o := 0) okX5_byteAt jcX1_139 (mX5_byteAt b len p hl (by omega)) dX1_nextToken_30 rfl rfl rfl rfl rfl rfl rfl (fun r9 B9 hq => ?_)
    obtain ⟨rfl, rfl⟩ := hq
    refine ⟨rfl, ?_⟩
    show J _ _ _ _ _ _ (wX b len d (yset y0 1 p)) _ _
    refine J.bipush (32) dX1_nextToken_33 (by decide) ?_
    refine J.icmp_ne (tgt := 51) dX1_nextToken_35 (by decide) (fun c35 => ?_) (fun c35 => ?_)
    · rw [skp, if_neg (fun h => c35 (by rw [(show bya b len p = nI (b p) from if_pos (by omega)), h]; rfl))] at hk
      exact hk
    · refine J.aload_n dX1_nextToken_38 rfl rfl ?_
      refine J.dup dX1_nextToken_39 rfl ?_
      refine J.getfield dX1_nextToken_40 jFX1_107 rfl rfl ?_
      refine J.iconst (1) dX1_nextToken_43 (by decide) ?_
      refine J.iadd dX1_nextToken_44 ?_
      refine J.putfield dX1_nextToken_45 jFX1_107 jP1_3 rfl rfl rfl (Nat.le_of_ble_eq_true rfl) ?_
      try dsimp only [List.set, wX]
      refine J.goto (tgt := 8) dX1_nextToken_48 (by decide) ?_
      rw [nI_1]
      rw [(show bya b len p = nI (b p) from if_pos (by omega))] at c35
      rw [skp, if_pos ((nI_eqi (b := 32) (by have := hb p; omega) (by decide)).mp c35)] at hk
      exact ih (p + 1) (by omega) hk
set_option maxRecDepth 100000 in
set_option maxHeartbeats 4000000 in
theorem mX1_nextToken_m (b : Nat → Nat) (len : Nat) (d : rT) (hb : ∀ j, b j < 128) (hl : len ≤ 160) (y0 : Nat → Nat) (hy : y0 2 ≤ len) (ok : Prop) (hd : Decidable ok) (hok : ok ↔ nto b len (y0 2)) : J KX1_nextToken 10 (fun o B => o = some (.int (jB ok)) ∧ B = wX b len d (ynt b len y0 ok)) 51 [some (.ref 0), none] [] (wX b len d (yset y0 1 (ntf b len (y0 2)))) 0 0 := by
  have hfl := (show ntf b len (y0 2) ≤ len by have := skp_le b (len - y0 2) (y0 2); unfold ntf; omega)
  refine J.aload_n dX1_nextToken_51 rfl rfl ?_
  refine J.aload_n dX1_nextToken_52 rfl rfl ?_
  refine J.getfield dX1_nextToken_53 jFX1_107 rfl rfl ?_
  refine J.putfield dX1_nextToken_56 jFX1_32 jP1_4 rfl rfl rfl (Nat.le_of_ble_eq_true rfl) ?_
  try dsimp only [List.set, wX]
  refine J.aload_n dX1_nextToken_59 rfl rfl ?_
  refine J.aload_n dX1_nextToken_60 rfl rfl ?_
  refine J.getfield dX1_nextToken_61 jFX1_12 rfl rfl ?_
  refine J.aload_n dX1_nextToken_64 rfl rfl ?_
  refine J.getfield dX1_nextToken_65 jFX1_107 rfl rfl ?_
  refine J.cv (as := [.int _]) (is := [1, 2]) (o := 0) okX5_byteAt jcX1_139 (mX5_byteAt b len (ntf b len (y0 2)) hl (by omega)) dX1_nextToken_68 rfl rfl rfl rfl rfl rfl rfl (fun r9 B9 hq => ?_)
  obtain ⟨rfl, rfl⟩ := hq
  refine ⟨rfl, ?_⟩
  show J _ _ _ _ _ _ (wX b len d (yset (yset y0 1 (ntf b len (y0 2))) 2 (ntf b len (y0 2)))) _ _
  refine J.cs (as := [.int _]) (is := []) okX1_sortOf jcX1_165 (mX1_sortOf _) dX1_nextToken_71 rfl rfl rfl rfl rfl rfl (fun r9 B9 hq => ?_)
  obtain ⟨rfl, rfl⟩ := hq
  refine ⟨rfl, ?_⟩
  show J _ _ _ _ _ _ (wX b len d (yset (yset y0 1 (ntf b len (y0 2))) 2 (ntf b len (y0 2)))) _ _
  refine J.putfield dX1_nextToken_74 jFX1_49 jP1_2 rfl rfl rfl (Nat.le_of_ble_eq_true rfl) ?_
  try dsimp only [List.set, wX]
  show J _ _ _ _ _ [] (wX b len d (yset (yset (yset y0 1 (ntf b len (y0 2))) 2 (ntf b len (y0 2))) 0 (nts b len (y0 2)))) _ _
  by_cases h3 : nts b len (y0 2) = 3
  · refine J.aload_n dX1_nextToken_77 rfl rfl ?_
    refine J.getfield dX1_nextToken_78 jFX1_49 rfl rfl ?_
    refine J.iconst (3) dX1_nextToken_81 (by decide) ?_
    refine J.icmp_ne (tgt := 98) dX1_nextToken_82 (by decide) (fun c82 => absurd c82 (fun h => h (congrArg nI h3))) (fun c82 => ?_)
    refine J.aload_n dX1_nextToken_85 rfl rfl ?_
    refine J.dup dX1_nextToken_86 rfl ?_
    refine J.getfield dX1_nextToken_87 jFX1_32 rfl rfl ?_
    refine J.iconst (1) dX1_nextToken_90 (by decide) ?_
    refine J.iadd dX1_nextToken_91 ?_
    rw [nI_1]
    refine J.putfield dX1_nextToken_92 jFX1_32 jP1_4 rfl rfl rfl (Nat.le_of_ble_eq_true rfl) ?_
    try dsimp only [List.set, wX]
    refine J.goto (tgt := 162) dX1_nextToken_95 (by decide) ?_
    have e9 : ntt b len (y0 2) = (ntf b len (y0 2)) + 1 := if_pos h3
    refine J.at (mX1_nextToken_z b len d hb hl y0 hy ok hd hok ?_) rfl rfl (by rw [e9]; rfl)
    rw [e9]
    omega
  · by_cases h1 : nts b len (y0 2) = 1
    · refine J.aload_n dX1_nextToken_77 rfl rfl ?_
      refine J.getfield dX1_nextToken_78 jFX1_49 rfl rfl ?_
      refine J.iconst (3) dX1_nextToken_81 (by decide) ?_
      refine J.icmp_ne (tgt := 98) dX1_nextToken_82 (by decide) (fun c82 => ?_) (fun c82 => absurd c82 (fun h => absurd ((nI_eqi (b := 3) (show nts b len (y0 2) < 2147483648 by have := sof_le (bya b len (ntf b len (y0 2))); unfold nts srt; omega) (by decide)).mp h) (show ¬ nts b len (y0 2) = 3 from (by rw [h1]; decide))))
      refine J.aload_n dX1_nextToken_98 rfl rfl ?_
      refine J.getfield dX1_nextToken_99 jFX1_49 rfl rfl ?_
      refine J.iconst (1) dX1_nextToken_102 (by decide) ?_
      refine J.icmp_eq (tgt := 114) dX1_nextToken_103 (by decide) (fun c103 => ?_) (fun c103 => absurd c103 (fun h => h (congrArg nI h1)))
      have e9 : ntt b len (y0 2) = run b len (nts b len (y0 2)) (len - (ntf b len (y0 2))) (ntf b len (y0 2)) := (if_neg (by rw [h1]; decide)).trans (if_pos (Or.inl h1))
      have hr9 := run_le b len (nts b len (y0 2)) (len - (ntf b len (y0 2))) (ntf b len (y0 2))
      exact J.at (mX1_nextToken_r b len d hb hl y0 hy ok hd hok (len - (ntf b len (y0 2))) (ntf b len (y0 2)) (by omega) (J.at (mX1_nextToken_z b len d hb hl y0 hy ok hd hok (by rw [e9]; omega)) rfl rfl (by rw [e9]))) rfl rfl rfl
    · by_cases h2 : nts b len (y0 2) = 2
      · have h1 := h2
        refine J.aload_n dX1_nextToken_77 rfl rfl ?_
        refine J.getfield dX1_nextToken_78 jFX1_49 rfl rfl ?_
        refine J.iconst (3) dX1_nextToken_81 (by decide) ?_
        refine J.icmp_ne (tgt := 98) dX1_nextToken_82 (by decide) (fun c82 => ?_) (fun c82 => absurd c82 (fun h => absurd ((nI_eqi (b := 3) (show nts b len (y0 2) < 2147483648 by have := sof_le (bya b len (ntf b len (y0 2))); unfold nts srt; omega) (by decide)).mp h) (show ¬ nts b len (y0 2) = 3 from (by rw [h1]; decide))))
        refine J.aload_n dX1_nextToken_98 rfl rfl ?_
        refine J.getfield dX1_nextToken_99 jFX1_49 rfl rfl ?_
        refine J.iconst (1) dX1_nextToken_102 (by decide) ?_
        refine J.icmp_eq (tgt := 114) dX1_nextToken_103 (by decide) (fun c103 => absurd c103 (fun h => absurd ((nI_eqi (b := 1) (show nts b len (y0 2) < 2147483648 by have := sof_le (bya b len (ntf b len (y0 2))); unfold nts srt; omega) (by decide)).mp h) (show ¬ nts b len (y0 2) = 1 from (by rw [h1]; decide)))) (fun c103 => ?_)
        refine J.aload_n dX1_nextToken_106 rfl rfl ?_
        refine J.getfield dX1_nextToken_107 jFX1_49 rfl rfl ?_
        refine J.iconst (2) dX1_nextToken_110 (by decide) ?_
        refine J.icmp_ne (tgt := 162) dX1_nextToken_111 (by decide) (fun c111 => absurd c111 (fun h => h (congrArg nI h1))) (fun c111 => ?_)
        have e9 : ntt b len (y0 2) = run b len (nts b len (y0 2)) (len - (ntf b len (y0 2))) (ntf b len (y0 2)) := (if_neg (by rw [h1]; decide)).trans (if_pos (Or.inr h1))
        have hr9 := run_le b len (nts b len (y0 2)) (len - (ntf b len (y0 2))) (ntf b len (y0 2))
        exact J.at (mX1_nextToken_r b len d hb hl y0 hy ok hd hok (len - (ntf b len (y0 2))) (ntf b len (y0 2)) (by omega) (J.at (mX1_nextToken_z b len d hb hl y0 hy ok hd hok (by rw [e9]; omega)) rfl rfl (by rw [e9]))) rfl rfl rfl
      · refine J.aload_n dX1_nextToken_77 rfl rfl ?_
        refine J.getfield dX1_nextToken_78 jFX1_49 rfl rfl ?_
        refine J.iconst (3) dX1_nextToken_81 (by decide) ?_
        refine J.icmp_ne (tgt := 98) dX1_nextToken_82 (by decide) (fun c82 => ?_) (fun c82 => absurd c82 (fun h => absurd ((nI_eqi (b := 3) (show nts b len (y0 2) < 2147483648 by have := sof_le (bya b len (ntf b len (y0 2))); unfold nts srt; omega) (by decide)).mp h) (show ¬ nts b len (y0 2) = 3 from h3)))
        refine J.aload_n dX1_nextToken_98 rfl rfl ?_
        refine J.getfield dX1_nextToken_99 jFX1_49 rfl rfl ?_
        refine J.iconst (1) dX1_nextToken_102 (by decide) ?_
        refine J.icmp_eq (tgt := 114) dX1_nextToken_103 (by decide) (fun c103 => absurd c103 (fun h => absurd ((nI_eqi (b := 1) (show nts b len (y0 2) < 2147483648 by have := sof_le (bya b len (ntf b len (y0 2))); unfold nts srt; omega) (by decide)).mp h) (show ¬ nts b len (y0 2) = 1 from h1))) (fun c103 => ?_)
        refine J.aload_n dX1_nextToken_106 rfl rfl ?_
        refine J.getfield dX1_nextToken_107 jFX1_49 rfl rfl ?_
        refine J.iconst (2) dX1_nextToken_110 (by decide) ?_
        refine J.icmp_ne (tgt := 162) dX1_nextToken_111 (by decide) (fun c111 => ?_) (fun c111 => absurd c111 (fun h => absurd ((nI_eqi (b := 2) (show nts b len (y0 2) < 2147483648 by have := sof_le (bya b len (ntf b len (y0 2))); unfold nts srt; omega) (by decide)).mp h) (show ¬ nts b len (y0 2) = 2 from h2)))
        have e9 : ntt b len (y0 2) = (ntf b len (y0 2)) := (if_neg h3).trans (if_neg (fun h => h.elim h1 h2))
        refine J.at (mX1_nextToken_z b len d hb hl y0 hy ok hd hok ?_) rfl rfl (by rw [e9]; rfl)
        rw [e9]
        omega
set_option maxRecDepth 100000 in
set_option maxHeartbeats 4000000 in
theorem mX1_nextToken (b : Nat → Nat) (len : Nat) (d : rT) (hb : ∀ j, b j < 128) (hl : len ≤ 160) (y0 : Nat → Nat) (hy : y0 2 ≤ len) (ok : Prop) (hd : Decidable ok) (hok : ok ↔ nto b len (y0 2)) : J KX1_nextToken 10 (fun o B => o = some (.int (jB ok)) ∧ B = wX b len d (ynt b len y0 ok)) 0 [some (.ref 0), none] [] (wX b len d y0) 0 0 := by
  refine J.aload_n dX1_nextToken_0 rfl rfl ?_
  refine J.aload_n dX1_nextToken_1 rfl rfl ?_
  refine J.getfield dX1_nextToken_2 jFX1_32 rfl rfl ?_
  refine J.putfield dX1_nextToken_5 jFX1_107 jP1_3 rfl rfl rfl (Nat.le_of_ble_eq_true rfl) ?_
  try dsimp only [List.set, wX]
  exact J.at (mX1_nextToken_s b len d hb hl y0 hy ok hd hok (len - y0 2) (y0 2) (by omega) (mX1_nextToken_m b len d hb hl y0 hy ok hd hok)) rfl rfl rfl
