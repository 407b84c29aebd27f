/-! ===== the reference's reader: TOKENS ===== -/
def sg : Nat → Nat := fun n => [0, 6, 7, 8, 9, 10, 1, 2, 3, 4, 5].getD n 0
def cutN : Nat → Nat := fun n => [0, 4, 8, 11, 15, 20, 26, 31, 35, 39, 46, 50].getD n 0
theorem cutI (n : Nat) : mcut n = nI (cutN n) := rfl
theorem cut_l : ∀ n, n < 11 → cutN (n + 1) - cutN n = jlen.getD (sg n) 0 ∧ cutN n ≤ cutN (n + 1) ∧ cutN (n + 1) ≤ 50 := by decide +kernel
theorem cut_b : ∀ n, n < 11 → ∀ k, k < 7 → k < jlen.getD (sg n) 0 → mlet (cutN n + k) = (jbyt.getD (sg n) []).getD k 0 := by decide +kernel
theorem len_7 : ∀ n, n < 11 → jlen.getD (sg n) 0 ≤ 7 := by decide +kernel
def nmF (b y : Nat → Nat) : Nat → Nat → Int32
  | 0, _ => -4
  | f + 1, n => if spl b y (sg n) then nI n else nmF b y f (n + 1)
theorem dX7_fails_0 : decode cX7_fails 0 = .ok (.aload_n 0, 1) := by decide +kernel
theorem dX7_fails_1 : decode cX7_fails 1 = .ok (.getfield 82, 3) := by decide +kernel
theorem dX7_fails_4 : decode cX7_fails 4 = .ok (.ifCond .ne 16, 3) := by decide +kernel
theorem dX7_fails_7 : decode cX7_fails 7 = .ok (.aload_n 0, 1) := by decide +kernel
theorem dX7_fails_8 : decode cX7_fails 8 = .ok (.iload_n 1, 1) := by decide +kernel
theorem dX7_fails_9 : decode cX7_fails 9 = .ok (.putfield 82, 3) := by decide +kernel
theorem dX7_fails_12 : decode cX7_fails 12 = .ok (.aload_n 0, 1) := by decide +kernel
theorem dX7_fails_13 : decode cX7_fails 13 = .ok (.aload_n 0, 1) := by decide +kernel
theorem dX7_fails_14 : decode cX7_fails 14 = .ok (.getfield 85, 3) := by decide +kernel
theorem dX7_fails_17 : decode cX7_fails 17 = .ok (.putfield 88, 3) := by decide +kernel
theorem dX7_fails_20 : decode cX7_fails 20 = .ok (.return_, 1) := by decide +kernel
theorem dX7_nameHere_0 : decode cX7_nameHere 0 = .ok (.iconst 0, 1) := by decide +kernel
theorem dX7_nameHere_1 : decode cX7_nameHere 1 = .ok (.istore_n 1, 1) := by decide +kernel
theorem dX7_nameHere_2 : decode cX7_nameHere 2 = .ok (.iload_n 1, 1) := by decide +kernel
theorem dX7_nameHere_3 : decode cX7_nameHere 3 = .ok (.bipush 11, 2) := by decide +kernel
theorem dX7_nameHere_5 : decode cX7_nameHere 5 = .ok (.if_icmp .ge 113, 3) := by decide +kernel
theorem dX7_nameHere_8 : decode cX7_nameHere 8 = .ok (.aload_n 0, 1) := by decide +kernel
theorem dX7_nameHere_9 : decode cX7_nameHere 9 = .ok (.getfield 91, 3) := by decide +kernel
theorem dX7_nameHere_12 : decode cX7_nameHere 12 = .ok (.iconst 1, 1) := by decide +kernel
theorem dX7_nameHere_13 : decode cX7_nameHere 13 = .ok (.if_icmp .ne 105, 3) := by decide +kernel
theorem dX7_nameHere_16 : decode cX7_nameHere 16 = .ok (.aload_n 0, 1) := by decide +kernel
theorem dX7_nameHere_17 : decode cX7_nameHere 17 = .ok (.getfield 94, 3) := by decide +kernel
theorem dX7_nameHere_20 : decode cX7_nameHere 20 = .ok (.aload_n 0, 1) := by decide +kernel
theorem dX7_nameHere_21 : decode cX7_nameHere 21 = .ok (.getfield 85, 3) := by decide +kernel
theorem dX7_nameHere_24 : decode cX7_nameHere 24 = .ok (.isub, 1) := by decide +kernel
theorem dX7_nameHere_25 : decode cX7_nameHere 25 = .ok (.aload_n 0, 1) := by decide +kernel
theorem dX7_nameHere_26 : decode cX7_nameHere 26 = .ok (.getfield 25, 3) := by decide +kernel
theorem dX7_nameHere_29 : decode cX7_nameHere 29 = .ok (.iload_n 1, 1) := by decide +kernel
theorem dX7_nameHere_30 : decode cX7_nameHere 30 = .ok (.iconst 1, 1) := by decide +kernel
theorem dX7_nameHere_31 : decode cX7_nameHere 31 = .ok (.iadd, 1) := by decide +kernel
theorem dX7_nameHere_32 : decode cX7_nameHere 32 = .ok (.iaload, 1) := by decide +kernel
theorem dX7_nameHere_33 : decode cX7_nameHere 33 = .ok (.aload_n 0, 1) := by decide +kernel
theorem dX7_nameHere_34 : decode cX7_nameHere 34 = .ok (.getfield 25, 3) := by decide +kernel
theorem dX7_nameHere_37 : decode cX7_nameHere 37 = .ok (.iload_n 1, 1) := by decide +kernel
theorem dX7_nameHere_38 : decode cX7_nameHere 38 = .ok (.iaload, 1) := by decide +kernel
theorem dX7_nameHere_39 : decode cX7_nameHere 39 = .ok (.isub, 1) := by decide +kernel
theorem dX7_nameHere_40 : decode cX7_nameHere 40 = .ok (.if_icmp .ne 7, 3) := by decide +kernel
theorem dX7_nameHere_43 : decode cX7_nameHere 43 = .ok (.iconst 1, 1) := by decide +kernel
theorem dX7_nameHere_44 : decode cX7_nameHere 44 = .ok (.goto 4, 3) := by decide +kernel
theorem dX7_nameHere_47 : decode cX7_nameHere 47 = .ok (.iconst 0, 1) := by decide +kernel
theorem dX7_nameHere_48 : decode cX7_nameHere 48 = .ok (.istore_n 2, 1) := by decide +kernel
theorem dX7_nameHere_49 : decode cX7_nameHere 49 = .ok (.iconst 0, 1) := by decide +kernel
theorem dX7_nameHere_50 : decode cX7_nameHere 50 = .ok (.istore_n 3, 1) := by decide +kernel
theorem dX7_nameHere_51 : decode cX7_nameHere 51 = .ok (.iload_n 2, 1) := by decide +kernel
theorem dX7_nameHere_52 : decode cX7_nameHere 52 = .ok (.ifCond .eq 54, 3) := by decide +kernel
theorem dX7_nameHere_55 : decode cX7_nameHere 55 = .ok (.iload_n 3, 1) := by decide +kernel
theorem dX7_nameHere_56 : decode cX7_nameHere 56 = .ok (.aload_n 0, 1) := by decide +kernel
theorem dX7_nameHere_57 : decode cX7_nameHere 57 = .ok (.getfield 94, 3) := by decide +kernel
theorem dX7_nameHere_60 : decode cX7_nameHere 60 = .ok (.aload_n 0, 1) := by decide +kernel
theorem dX7_nameHere_61 : decode cX7_nameHere 61 = .ok (.getfield 85, 3) := by decide +kernel
theorem dX7_nameHere_64 : decode cX7_nameHere 64 = .ok (.isub, 1) := by decide +kernel
theorem dX7_nameHere_65 : decode cX7_nameHere 65 = .ok (.if_icmp .ge 41, 3) := by decide +kernel
theorem dX7_nameHere_68 : decode cX7_nameHere 68 = .ok (.aload_n 0, 1) := by decide +kernel
theorem dX7_nameHere_69 : decode cX7_nameHere 69 = .ok (.aload_n 0, 1) := by decide +kernel
theorem dX7_nameHere_70 : decode cX7_nameHere 70 = .ok (.getfield 85, 3) := by decide +kernel
theorem dX7_nameHere_73 : decode cX7_nameHere 73 = .ok (.iload_n 3, 1) := by decide +kernel
theorem dX7_nameHere_74 : decode cX7_nameHere 74 = .ok (.iadd, 1) := by decide +kernel
theorem dX7_nameHere_75 : decode cX7_nameHere 75 = .ok (.invokevirtual 97, 3) := by decide +kernel
theorem dX7_nameHere_78 : decode cX7_nameHere 78 = .ok (.aload_n 0, 1) := by decide +kernel
theorem dX7_nameHere_79 : decode cX7_nameHere 79 = .ok (.getfield 28, 3) := by decide +kernel
theorem dX7_nameHere_82 : decode cX7_nameHere 82 = .ok (.aload_n 0, 1) := by decide +kernel
theorem dX7_nameHere_83 : decode cX7_nameHere 83 = .ok (.getfield 25, 3) := by decide +kernel
theorem dX7_nameHere_86 : decode cX7_nameHere 86 = .ok (.iload_n 1, 1) := by decide +kernel
theorem dX7_nameHere_87 : decode cX7_nameHere 87 = .ok (.iaload, 1) := by decide +kernel
theorem dX7_nameHere_88 : decode cX7_nameHere 88 = .ok (.iload_n 3, 1) := by decide +kernel
theorem dX7_nameHere_89 : decode cX7_nameHere 89 = .ok (.iadd, 1) := by decide +kernel
theorem dX7_nameHere_90 : decode cX7_nameHere 90 = .ok (.iaload, 1) := by decide +kernel
theorem dX7_nameHere_91 : decode cX7_nameHere 91 = .ok (.if_icmp .ne 7, 3) := by decide +kernel
theorem dX7_nameHere_94 : decode cX7_nameHere 94 = .ok (.iconst 1, 1) := by decide +kernel
theorem dX7_nameHere_95 : decode cX7_nameHere 95 = .ok (.goto 4, 3) := by decide +kernel
theorem dX7_nameHere_98 : decode cX7_nameHere 98 = .ok (.iconst 0, 1) := by decide +kernel
theorem dX7_nameHere_99 : decode cX7_nameHere 99 = .ok (.istore_n 2, 1) := by decide +kernel
theorem dX7_nameHere_100 : decode cX7_nameHere 100 = .ok (.iinc 3 1, 3) := by decide +kernel
theorem dX7_nameHere_103 : decode cX7_nameHere 103 = .ok (.goto (-52), 3) := by decide +kernel
theorem dX7_nameHere_106 : decode cX7_nameHere 106 = .ok (.iload_n 2, 1) := by decide +kernel
theorem dX7_nameHere_107 : decode cX7_nameHere 107 = .ok (.ifCond .eq 5, 3) := by decide +kernel
theorem dX7_nameHere_110 : decode cX7_nameHere 110 = .ok (.iload_n 1, 1) := by decide +kernel
theorem dX7_nameHere_111 : decode cX7_nameHere 111 = .ok (.ireturn, 1) := by decide +kernel
theorem dX7_nameHere_112 : decode cX7_nameHere 112 = .ok (.iinc 1 1, 3) := by decide +kernel
theorem dX7_nameHere_115 : decode cX7_nameHere 115 = .ok (.goto (-113), 3) := by decide +kernel
theorem dX7_nameHere_118 : decode cX7_nameHere 118 = .ok (.bipush (-4), 2) := by decide +kernel
theorem dX7_nameHere_120 : decode cX7_nameHere 120 = .ok (.ireturn, 1) := by decide +kernel
theorem dX7_step_0 : decode cX7_step 0 = .ok (.aload_n 0, 1) := by decide +kernel
theorem dX7_step_1 : decode cX7_step 1 = .ok (.getfield 82, 3) := by decide +kernel
theorem dX7_step_4 : decode cX7_step 4 = .ok (.ifCond .le 4, 3) := by decide +kernel
theorem dX7_step_7 : decode cX7_step 7 = .ok (.return_, 1) := by decide +kernel
theorem dX7_step_8 : decode cX7_step 8 = .ok (.aload_n 0, 1) := by decide +kernel
theorem dX7_step_9 : decode cX7_step 9 = .ok (.aload_n 0, 1) := by decide +kernel
theorem dX7_step_10 : decode cX7_step 10 = .ok (.getfield 94, 3) := by decide +kernel
theorem dX7_step_13 : decode cX7_step 13 = .ok (.invokevirtual 97, 3) := by decide +kernel
theorem dX7_step_16 : decode cX7_step 16 = .ok (.bipush 32, 2) := by decide +kernel
theorem dX7_step_18 : decode cX7_step 18 = .ok (.if_icmp .ne 16, 3) := by decide +kernel
theorem dX7_step_21 : decode cX7_step 21 = .ok (.aload_n 0, 1) := by decide +kernel
theorem dX7_step_22 : decode cX7_step 22 = .ok (.dup, 1) := by decide +kernel
theorem dX7_step_23 : decode cX7_step 23 = .ok (.getfield 94, 3) := by decide +kernel
theorem dX7_step_26 : decode cX7_step 26 = .ok (.iconst 1, 1) := by decide +kernel
theorem dX7_step_27 : decode cX7_step 27 = .ok (.iadd, 1) := by decide +kernel
theorem dX7_step_28 : decode cX7_step 28 = .ok (.putfield 94, 3) := by decide +kernel
theorem dX7_step_31 : decode cX7_step 31 = .ok (.goto (-23), 3) := by decide +kernel
theorem dX7_step_34 : decode cX7_step 34 = .ok (.aload_n 0, 1) := by decide +kernel
theorem dX7_step_35 : decode cX7_step 35 = .ok (.aload_n 0, 1) := by decide +kernel
theorem dX7_step_36 : decode cX7_step 36 = .ok (.getfield 94, 3) := by decide +kernel
theorem dX7_step_39 : decode cX7_step 39 = .ok (.putfield 85, 3) := by decide +kernel
theorem dX7_step_42 : decode cX7_step 42 = .ok (.aload_n 0, 1) := by decide +kernel
theorem dX7_step_43 : decode cX7_step 43 = .ok (.aload_n 0, 1) := by decide +kernel
theorem dX7_step_44 : decode cX7_step 44 = .ok (.getfield 94, 3) := by decide +kernel
theorem dX7_step_47 : decode cX7_step 47 = .ok (.invokevirtual 97, 3) := by decide +kernel
theorem dX7_step_50 : decode cX7_step 50 = .ok (.istore_n 1, 1) := by decide +kernel
theorem dX7_step_51 : decode cX7_step 51 = .ok (.aload_n 0, 1) := by decide +kernel
theorem dX7_step_52 : decode cX7_step 52 = .ok (.iconst 0, 1) := by decide +kernel
theorem dX7_step_53 : decode cX7_step 53 = .ok (.putfield 101, 3) := by decide +kernel
theorem dX7_step_56 : decode cX7_step 56 = .ok (.iload_n 1, 1) := by decide +kernel
theorem dX7_step_57 : decode cX7_step 57 = .ok (.bipush (-4), 2) := by decide +kernel
theorem dX7_step_59 : decode cX7_step 59 = .ok (.if_icmp .ne 11, 3) := by decide +kernel
theorem dX7_step_62 : decode cX7_step 62 = .ok (.aload_n 0, 1) := by decide +kernel
theorem dX7_step_63 : decode cX7_step 63 = .ok (.iconst 0, 1) := by decide +kernel
theorem dX7_step_64 : decode cX7_step 64 = .ok (.putfield 91, 3) := by decide +kernel
theorem dX7_step_67 : decode cX7_step 67 = .ok (.goto 202, 3) := by decide +kernel
theorem dX7_step_70 : decode cX7_step 70 = .ok (.iload_n 1, 1) := by decide +kernel
theorem dX7_step_71 : decode cX7_step 71 = .ok (.i2l, 1) := by decide +kernel
theorem dX7_step_72 : decode cX7_step 72 = .ok (.ldc2_w 104, 3) := by decide +kernel
theorem dX7_step_75 : decode cX7_step 75 = .ok (.ldc2_w 106, 3) := by decide +kernel
theorem dX7_step_78 : decode cX7_step 78 = .ok (.invokestatic 74, 3) := by decide +kernel
theorem dX7_step_81 : decode cX7_step 81 = .ok (.ifCond .eq 45, 3) := by decide +kernel
theorem dX7_step_84 : decode cX7_step 84 = .ok (.aload_n 0, 1) := by decide +kernel
theorem dX7_step_85 : decode cX7_step 85 = .ok (.aload_n 0, 1) := by decide +kernel
theorem dX7_step_86 : decode cX7_step 86 = .ok (.getfield 94, 3) := by decide +kernel
theorem dX7_step_89 : decode cX7_step 89 = .ok (.invokevirtual 97, 3) := by decide +kernel
theorem dX7_step_92 : decode cX7_step 92 = .ok (.i2l, 1) := by decide +kernel
theorem dX7_step_93 : decode cX7_step 93 = .ok (.ldc2_w 104, 3) := by decide +kernel
theorem dX7_step_96 : decode cX7_step 96 = .ok (.ldc2_w 106, 3) := by decide +kernel
theorem dX7_step_99 : decode cX7_step 99 = .ok (.invokestatic 74, 3) := by decide +kernel
theorem dX7_step_102 : decode cX7_step 102 = .ok (.ifCond .eq 16, 3) := by decide +kernel
theorem dX7_step_105 : decode cX7_step 105 = .ok (.aload_n 0, 1) := by decide +kernel
theorem dX7_step_106 : decode cX7_step 106 = .ok (.dup, 1) := by decide +kernel
theorem dX7_step_107 : decode cX7_step 107 = .ok (.getfield 94, 3) := by decide +kernel
theorem dX7_step_110 : decode cX7_step 110 = .ok (.iconst 1, 1) := by decide +kernel
theorem dX7_step_111 : decode cX7_step 111 = .ok (.iadd, 1) := by decide +kernel
theorem dX7_step_112 : decode cX7_step 112 = .ok (.putfield 94, 3) := by decide +kernel
theorem dX7_step_115 : decode cX7_step 115 = .ok (.goto (-31), 3) := by decide +kernel
theorem dX7_step_118 : decode cX7_step 118 = .ok (.aload_n 0, 1) := by decide +kernel
theorem dX7_step_119 : decode cX7_step 119 = .ok (.iconst 1, 1) := by decide +kernel
theorem dX7_step_120 : decode cX7_step 120 = .ok (.putfield 91, 3) := by decide +kernel
theorem dX7_step_123 : decode cX7_step 123 = .ok (.goto 146, 3) := by decide +kernel
theorem dX7_step_126 : decode cX7_step 126 = .ok (.iload_n 1, 1) := by decide +kernel
theorem dX7_step_127 : decode cX7_step 127 = .ok (.i2l, 1) := by decide +kernel
theorem dX7_step_128 : decode cX7_step 128 = .ok (.ldc2_w 108, 3) := by decide +kernel
theorem dX7_step_131 : decode cX7_step 131 = .ok (.ldc2_w 110, 3) := by decide +kernel
theorem dX7_step_134 : decode cX7_step 134 = .ok (.invokestatic 74, 3) := by decide +kernel
theorem dX7_step_137 : decode cX7_step 137 = .ok (.ifCond .eq 106, 3) := by decide +kernel
theorem dX7_step_140 : decode cX7_step 140 = .ok (.aload_n 0, 1) := by decide +kernel
theorem dX7_step_141 : decode cX7_step 141 = .ok (.aload_n 0, 1) := by decide +kernel
theorem dX7_step_142 : decode cX7_step 142 = .ok (.getfield 94, 3) := by decide +kernel
theorem dX7_step_145 : decode cX7_step 145 = .ok (.invokevirtual 97, 3) := by decide +kernel
theorem dX7_step_148 : decode cX7_step 148 = .ok (.i2l, 1) := by decide +kernel
theorem dX7_step_149 : decode cX7_step 149 = .ok (.ldc2_w 108, 3) := by decide +kernel
theorem dX7_step_152 : decode cX7_step 152 = .ok (.ldc2_w 110, 3) := by decide +kernel
theorem dX7_step_155 : decode cX7_step 155 = .ok (.invokestatic 74, 3) := by decide +kernel
theorem dX7_step_158 : decode cX7_step 158 = .ok (.ifCond .eq 59, 3) := by decide +kernel
theorem dX7_step_161 : decode cX7_step 161 = .ok (.aload_n 0, 1) := by decide +kernel
theorem dX7_step_162 : decode cX7_step 162 = .ok (.aload_n 0, 1) := by decide +kernel
theorem dX7_step_163 : decode cX7_step 163 = .ok (.getfield 94, 3) := by decide +kernel
theorem dX7_step_166 : decode cX7_step 166 = .ok (.aload_n 0, 1) := by decide +kernel
theorem dX7_step_167 : decode cX7_step 167 = .ok (.getfield 85, 3) := by decide +kernel
theorem dX7_step_170 : decode cX7_step 170 = .ok (.isub, 1) := by decide +kernel
theorem dX7_step_171 : decode cX7_step 171 = .ok (.iconst 2, 1) := by decide +kernel
theorem dX7_step_172 : decode cX7_step 172 = .ok (.if_icmp .ge 25, 3) := by decide +kernel
theorem dX7_step_175 : decode cX7_step 175 = .ok (.bipush 10, 2) := by decide +kernel
theorem dX7_step_177 : decode cX7_step 177 = .ok (.aload_n 0, 1) := by decide +kernel
theorem dX7_step_178 : decode cX7_step 178 = .ok (.getfield 101, 3) := by decide +kernel
theorem dX7_step_181 : decode cX7_step 181 = .ok (.imul, 1) := by decide +kernel
theorem dX7_step_182 : decode cX7_step 182 = .ok (.aload_n 0, 1) := by decide +kernel
theorem dX7_step_183 : decode cX7_step 183 = .ok (.aload_n 0, 1) := by decide +kernel
theorem dX7_step_184 : decode cX7_step 184 = .ok (.getfield 94, 3) := by decide +kernel
theorem dX7_step_187 : decode cX7_step 187 = .ok (.invokevirtual 97, 3) := by decide +kernel
theorem dX7_step_190 : decode cX7_step 190 = .ok (.iadd, 1) := by decide +kernel
theorem dX7_step_191 : decode cX7_step 191 = .ok (.bipush 48, 2) := by decide +kernel
theorem dX7_step_193 : decode cX7_step 193 = .ok (.isub, 1) := by decide +kernel
theorem dX7_step_194 : decode cX7_step 194 = .ok (.goto 7, 3) := by decide +kernel
theorem dX7_step_197 : decode cX7_step 197 = .ok (.aload_n 0, 1) := by decide +kernel
theorem dX7_step_198 : decode cX7_step 198 = .ok (.getfield 101, 3) := by decide +kernel
theorem dX7_step_201 : decode cX7_step 201 = .ok (.putfield 101, 3) := by decide +kernel
theorem dX7_step_204 : decode cX7_step 204 = .ok (.aload_n 0, 1) := by decide +kernel
theorem dX7_step_205 : decode cX7_step 205 = .ok (.dup, 1) := by decide +kernel
theorem dX7_step_206 : decode cX7_step 206 = .ok (.getfield 94, 3) := by decide +kernel
theorem dX7_step_209 : decode cX7_step 209 = .ok (.iconst 1, 1) := by decide +kernel
theorem dX7_step_210 : decode cX7_step 210 = .ok (.iadd, 1) := by decide +kernel
theorem dX7_step_211 : decode cX7_step 211 = .ok (.putfield 94, 3) := by decide +kernel
theorem dX7_step_214 : decode cX7_step 214 = .ok (.goto (-74), 3) := by decide +kernel
theorem dX7_step_217 : decode cX7_step 217 = .ok (.aload_n 0, 1) := by decide +kernel
theorem dX7_step_218 : decode cX7_step 218 = .ok (.iconst 2, 1) := by decide +kernel
theorem dX7_step_219 : decode cX7_step 219 = .ok (.putfield 91, 3) := by decide +kernel
theorem dX7_step_222 : decode cX7_step 222 = .ok (.aload_n 0, 1) := by decide +kernel
theorem dX7_step_223 : decode cX7_step 223 = .ok (.getfield 94, 3) := by decide +kernel
theorem dX7_step_226 : decode cX7_step 226 = .ok (.aload_n 0, 1) := by decide +kernel
theorem dX7_step_227 : decode cX7_step 227 = .ok (.getfield 85, 3) := by decide +kernel
theorem dX7_step_230 : decode cX7_step 230 = .ok (.isub, 1) := by decide +kernel
theorem dX7_step_231 : decode cX7_step 231 = .ok (.iconst 2, 1) := by decide +kernel
theorem dX7_step_232 : decode cX7_step 232 = .ok (.if_icmp .le 37, 3) := by decide +kernel
theorem dX7_step_235 : decode cX7_step 235 = .ok (.aload_n 0, 1) := by decide +kernel
theorem dX7_step_236 : decode cX7_step 236 = .ok (.iconst 1, 1) := by decide +kernel
theorem dX7_step_237 : decode cX7_step 237 = .ok (.invokevirtual 112, 3) := by decide +kernel
theorem dX7_step_240 : decode cX7_step 240 = .ok (.goto 29, 3) := by decide +kernel
theorem dX7_step_243 : decode cX7_step 243 = .ok (.aload_n 0, 1) := by decide +kernel
theorem dX7_step_244 : decode cX7_step 244 = .ok (.iconst 3, 1) := by decide +kernel
theorem dX7_step_245 : decode cX7_step 245 = .ok (.putfield 91, 3) := by decide +kernel
theorem dX7_step_248 : decode cX7_step 248 = .ok (.aload_n 0, 1) := by decide +kernel
theorem dX7_step_249 : decode cX7_step 249 = .ok (.dup, 1) := by decide +kernel
theorem dX7_step_250 : decode cX7_step 250 = .ok (.getfield 94, 3) := by decide +kernel
theorem dX7_step_253 : decode cX7_step 253 = .ok (.iconst 1, 1) := by decide +kernel
theorem dX7_step_254 : decode cX7_step 254 = .ok (.iadd, 1) := by decide +kernel
theorem dX7_step_255 : decode cX7_step 255 = .ok (.putfield 94, 3) := by decide +kernel
theorem dX7_step_258 : decode cX7_step 258 = .ok (.iload_n 1, 1) := by decide +kernel
theorem dX7_step_259 : decode cX7_step 259 = .ok (.bipush 59, 2) := by decide +kernel
theorem dX7_step_261 : decode cX7_step 261 = .ok (.if_icmp .eq 8, 3) := by decide +kernel
theorem dX7_step_264 : decode cX7_step 264 = .ok (.aload_n 0, 1) := by decide +kernel
theorem dX7_step_265 : decode cX7_step 265 = .ok (.iconst 1, 1) := by decide +kernel
theorem dX7_step_266 : decode cX7_step 266 = .ok (.invokevirtual 112, 3) := by decide +kernel
theorem dX7_step_269 : decode cX7_step 269 = .ok (.return_, 1) := by decide +kernel
theorem dX7_number_0 : decode cX7_number 0 = .ok (.aload_n 0, 1) := by decide +kernel
theorem dX7_number_1 : decode cX7_number 1 = .ok (.getfield 82, 3) := by decide +kernel
theorem dX7_number_4 : decode cX7_number 4 = .ok (.ifCond .ne 16, 3) := by decide +kernel
theorem dX7_number_7 : decode cX7_number 7 = .ok (.aload_n 0, 1) := by decide +kernel
theorem dX7_number_8 : decode cX7_number 8 = .ok (.getfield 91, 3) := by decide +kernel
theorem dX7_number_11 : decode cX7_number 11 = .ok (.iconst 2, 1) := by decide +kernel
theorem dX7_number_12 : decode cX7_number 12 = .ok (.if_icmp .eq 8, 3) := by decide +kernel
theorem dX7_number_15 : decode cX7_number 15 = .ok (.aload_n 0, 1) := by decide +kernel
theorem dX7_number_16 : decode cX7_number 16 = .ok (.iconst 2, 1) := by decide +kernel
theorem dX7_number_17 : decode cX7_number 17 = .ok (.invokevirtual 112, 3) := by decide +kernel
theorem dX7_number_20 : decode cX7_number 20 = .ok (.aload_n 0, 1) := by decide +kernel
theorem dX7_number_21 : decode cX7_number 21 = .ok (.getfield 82, 3) := by decide +kernel
theorem dX7_number_24 : decode cX7_number 24 = .ok (.ifCond .ne 23, 3) := by decide +kernel
theorem dX7_number_27 : decode cX7_number 27 = .ok (.aload_n 0, 1) := by decide +kernel
theorem dX7_number_28 : decode cX7_number 28 = .ok (.getfield 101, 3) := by decide +kernel
theorem dX7_number_31 : decode cX7_number 31 = .ok (.i2l, 1) := by decide +kernel
theorem dX7_number_32 : decode cX7_number 32 = .ok (.iload_n 1, 1) := by decide +kernel
theorem dX7_number_33 : decode cX7_number 33 = .ok (.i2l, 1) := by decide +kernel
theorem dX7_number_34 : decode cX7_number 34 = .ok (.iload_n 2, 1) := by decide +kernel
theorem dX7_number_35 : decode cX7_number 35 = .ok (.i2l, 1) := by decide +kernel
theorem dX7_number_36 : decode cX7_number 36 = .ok (.invokestatic 74, 3) := by decide +kernel
theorem dX7_number_39 : decode cX7_number 39 = .ok (.ifCond .ne 8, 3) := by decide +kernel
theorem dX7_number_42 : decode cX7_number 42 = .ok (.aload_n 0, 1) := by decide +kernel
theorem dX7_number_43 : decode cX7_number 43 = .ok (.iconst 3, 1) := by decide +kernel
theorem dX7_number_44 : decode cX7_number 44 = .ok (.invokevirtual 112, 3) := by decide +kernel
theorem dX7_number_47 : decode cX7_number 47 = .ok (.aload_n 0, 1) := by decide +kernel
theorem dX7_number_48 : decode cX7_number 48 = .ok (.getfield 82, 3) := by decide +kernel
theorem dX7_number_51 : decode cX7_number 51 = .ok (.ifCond .ne 10, 3) := by decide +kernel
theorem dX7_number_54 : decode cX7_number 54 = .ok (.aload_n 0, 1) := by decide +kernel
theorem dX7_number_55 : decode cX7_number 55 = .ok (.getfield 101, 3) := by decide +kernel
theorem dX7_number_58 : decode cX7_number 58 = .ok (.goto 4, 3) := by decide +kernel
theorem dX7_number_61 : decode cX7_number 61 = .ok (.iload_n 1, 1) := by decide +kernel
theorem dX7_number_62 : decode cX7_number 62 = .ok (.istore_n 3, 1) := by decide +kernel
theorem dX7_number_63 : decode cX7_number 63 = .ok (.aload_n 0, 1) := by decide +kernel
theorem dX7_number_64 : decode cX7_number 64 = .ok (.invokevirtual 116, 3) := by decide +kernel
theorem dX7_number_67 : decode cX7_number 67 = .ok (.iload_n 3, 1) := by decide +kernel
theorem dX7_number_68 : decode cX7_number 68 = .ok (.ireturn, 1) := by decide +kernel
set_option maxRecDepth 100000 in
set_option maxHeartbeats 4000000 in
theorem mX7_fails (s : Nat → Int32) (la : Nat → Int32) (r : rT) (v : vT) (c : Nat → Nat → Int32) (l : Nat → Int32) (tn : Int32) (p : Nat → Int32) (pa : Nat → Nat → Int32) (m : Nat) (q : rT) (b : Int32) (x : Nat → Nat) (h : Nat → Nat → Int64) (F : Nat) (h5 : p 5 = 0) : J KX7_fails 21 (fun o B => o = none ∧ B = (wM s la r v c l tn (pset (pset p 5 (nI F)) 6 (p 8)) pa m q b x h)) 0 [some (.ref 0), some (.int (nI F))] [] (wM s la r v c l tn p pa m q b x h) 0 0 := by
  refine J.aload_n dX7_fails_0 rfl rfl ?_
  refine J.mg15 dX7_fails_1 rfl ?_
  refine J.if_ne (tgt := 20) dX7_fails_4 (by decide) (fun c4 => absurd c4 (fun h => h h5)) (fun c4 => ?_)
  refine J.aload_n dX7_fails_7 rfl rfl ?_
  refine J.iload_n dX7_fails_8 rfl rfl ?_
  refine J.mp15 dX7_fails_9 rfl ?_
  try dsimp only [List.set]
  refine J.aload_n dX7_fails_12 rfl rfl ?_
  refine J.aload_n dX7_fails_13 rfl rfl ?_
  refine J.mg18 dX7_fails_14 rfl ?_
  refine J.mp16 dX7_fails_17 rfl ?_
  try dsimp only [List.set]
  exact J.vret dX7_fails_20 rfl (Nat.le_refl _) (Nat.le_refl _) ⟨rfl, rfl⟩
set_option maxRecDepth 100000 in
set_option maxHeartbeats 4000000 in
theorem mX7_nameHere_iR (s : Nat → Int32) (la : Nat → Int32) (r : rT) (v : vT) (c : Nat → Nat → Int32) (l : Nat → Int32) (tn : Int32) (p : Nat → Int32) (pa : Nat → Nat → Int32) (m : Nat) (q : rT) (b : Int32) (x : Nat → Nat) (h : Nat → Nat → Int64) (y : Nat → Nat) (h7 : p 7 = nI (y 2)) (h8 : p 8 = nI (y 1)) (h9 : p 9 = nI (y 0)) (hy : y 1 ≤ y 2) (hy2 : y 2 ≤ v 4 0) (hy0 : y 0 ≤ 4) (hl : v 4 0 ≤ 160) (R9 : Int32) (n : Nat) (hn11 : n < 11) (hn1 : y 0 = 1) (hn : y 2 - y 1 = jlen.getD (sg n) 0) (hk1 : spl (v 1) y (sg n) → ∀ k9 : Nat, J KX7_nameHere 21 (fun o B => o = some (.int (R9)) ∧ B = (wM s la r v c l tn p pa m q b x h)) 106 [some (.ref 0), some (.int (nI n)), some (.int 1), some (.int (nI k9))] [] (wM s la r v c l tn p pa m q b x h) 0 0) (hk0 : ¬ spl (v 1) y (sg n) → ∀ z3 : Int32, J KX7_nameHere 21 (fun o B => o = some (.int (R9)) ∧ B = (wM s la r v c l tn p pa m q b x h)) 106 [some (.ref 0), some (.int (nI n)), some (.int 0), some (.int z3)] [] (wM s la r v c l tn p pa m q b x h) 0 0) : ∀ (k9 i : Nat), i + k9 = y 2 - y 1 → (∀ j, j < i → nI (v 1 (y 1 + j)) = (jbyt.getD (sg n) []).getD j 0) → J KX7_nameHere 21 (fun o B => o = some (.int (R9)) ∧ B = (wM s la r v c l tn p pa m q b x h)) 51 [some (.ref 0), some (.int (nI n)), some (.int 1), some (.int (nI i))] [] (wM s la r v c l tn p pa m q b x h) 0 0 := by
  intro k9
  induction k9 with
  | zero =>
    intro i hi
    obtain hiN : i = y 2 - y 1 := by omega
    intro hh
    have hh : ∀ j, j < y 2 - y 1 → nI (v 1 (y 1 + j)) = (jbyt.getD (sg n) []).getD j 0 := fun j hj => hh j (by omega)
    rw [hiN]
    refine J.iload_n dX7_nameHere_51 rfl rfl ?_
    refine J.if_eq (tgt := 106) dX7_nameHere_52 (by decide) (fun c52 => absurd c52 (by decide)) (fun c52 => ?_)
    refine J.iload_n dX7_nameHere_55 rfl rfl ?_
    refine J.aload_n dX7_nameHere_56 rfl rfl ?_
    refine J.mg17 dX7_nameHere_57 rfl ?_
    rw [h7]
    refine J.aload_n dX7_nameHere_60 rfl rfl ?_
    refine J.mg18 dX7_nameHere_61 rfl ?_
    rw [h8]
    refine J.isub dX7_nameHere_64 ?_
    rw [pk_sub hy]
    refine J.icmp_ge (tgt := 106) dX7_nameHere_65 (by decide) (fun c65 => ?_) (fun c65 => absurd c65 (fun h => h (Int32.le_refl _)))
    exact hk1 ⟨hn1, hn, fun j hj => hh j (by omega)⟩ _
  | succ k9 ih =>
    intro i hi
    have hiN : i < y 2 - y 1 := by omega
    intro hh
    refine J.iload_n dX7_nameHere_51 rfl rfl ?_
    refine J.if_eq (tgt := 106) dX7_nameHere_52 (by decide) (fun c52 => absurd c52 (by decide)) (fun c52 => ?_)
    refine J.iload_n dX7_nameHere_55 rfl rfl ?_
    refine J.aload_n dX7_nameHere_56 rfl rfl ?_
    refine J.mg17 dX7_nameHere_57 rfl ?_
    rw [h7]
    refine J.aload_n dX7_nameHere_60 rfl rfl ?_
    refine J.mg18 dX7_nameHere_61 rfl ?_
    rw [h8]
    refine J.isub dX7_nameHere_64 ?_
    rw [pk_sub hy]
    refine J.icmp_ge (tgt := 106) dX7_nameHere_65 (by decide) (fun c65 => absurd c65 (nI_ge (by omega) (by omega))) (fun c65 => ?_)
    refine J.aload_n dX7_nameHere_68 rfl rfl ?_
    refine J.aload_n dX7_nameHere_69 rfl rfl ?_
    refine J.mg18 dX7_nameHere_70 rfl ?_
    rw [h8]
    refine J.iload_n dX7_nameHere_73 rfl rfl ?_
    refine J.iadd dX7_nameHere_74 ?_
    rw [nI_add]
    refine J.cvM (as := [.int _]) s la r v c l tn p pa m q b x h okX7_byteAt jcX7_97 (mX7_byteAt s la r v c l tn p pa m q b x h (y 1 + i) (by omega) hl) dX7_nameHere_75 rfl rfl rfl rfl (fun r9 B9 hq9 => ?_)
    obtain ⟨rfl, rfl⟩ := hq9
    refine ⟨_, _, _, _, _, _, _, _, _, _, _, _, _, _, rfl, ?_⟩
    show J _ _ _ _ _ (.int _ :: _) (wM s la r v c l tn p pa m q b x h) _ _
    rw [mbya, if_pos (show y 1 + i < v 4 0 by omega)]
    refine J.aload_n dX7_nameHere_78 rfl rfl ?_
    refine J.mg22 dX7_nameHere_79 rfl ?_
    refine J.aload_n dX7_nameHere_82 rfl rfl ?_
    refine J.mg21 dX7_nameHere_83 rfl ?_
    refine J.iload_n dX7_nameHere_86 rfl rfl ?_
    refine J.ml6 (n) dX7_nameHere_87 rfl (by omega) ?_
    rw [cutI]
    refine J.iload_n dX7_nameHere_88 rfl rfl ?_
    refine J.iadd dX7_nameHere_89 ?_
    rw [nI_add]
    refine J.ml7 (cutN n + i) dX7_nameHere_90 rfl (by have := cut_l n hn11; omega) ?_
    rw [cut_b n hn11 i (by have := len_7 n hn11; omega) (by omega)]
    refine J.icmp_ne (tgt := 98) dX7_nameHere_91 (by decide) (fun c91 => ?_) (fun c91 => ?_)
    · refine J.iconst (0) dX7_nameHere_98 (by decide) ?_
      refine J.istore_n dX7_nameHere_99 rfl (by decide) rfl ?_
      try dsimp only [List.set]
      refine J.iinc (1) dX7_nameHere_100 (by decide) rfl (by decide) rfl ?_
      try dsimp only [List.set]
      refine J.goto (tgt := 51) dX7_nameHere_103 (by decide) ?_
      first
      | (have e9 : (nI (v 1 (y 1 + i)) = (jbyt.getD (sg n) []).getD i 0) := c91
         exact J.at (ih (i + 1) (by omega) (fun j hj => if e : j = i then e ▸ e9 else hh j (by omega))) (by rw [← nI_1 i]) rfl rfl)
      | (refine J.iload_n dX7_nameHere_51 rfl rfl ?_
         refine J.if_eq (tgt := 106) dX7_nameHere_52 (by decide) (fun c52 => ?_) (fun c52 => absurd c52 (fun h => h rfl))
         exact hk0 (fun h9 => c91 (h9.2.2 i (by omega))) _)
    · refine J.iconst (1) dX7_nameHere_94 (by decide) ?_
      refine J.goto (tgt := 99) dX7_nameHere_95 (by decide) ?_
      refine J.istore_n dX7_nameHere_99 rfl (by decide) rfl ?_
      try dsimp only [List.set]
      refine J.iinc (1) dX7_nameHere_100 (by decide) rfl (by decide) rfl ?_
      try dsimp only [List.set]
      refine J.goto (tgt := 51) dX7_nameHere_103 (by decide) ?_
      first
      | (have e9 : (nI (v 1 (y 1 + i)) = (jbyt.getD (sg n) []).getD i 0) := c91
         exact J.at (ih (i + 1) (by omega) (fun j hj => if e : j = i then e ▸ e9 else hh j (by omega))) (by rw [← nI_1 i]) rfl rfl)
      | (refine J.iload_n dX7_nameHere_51 rfl rfl ?_
         refine J.if_eq (tgt := 106) dX7_nameHere_52 (by decide) (fun c52 => ?_) (fun c52 => absurd c52 (fun h => h rfl))
         exact hk0 (fun h9 => c91 (h9.2.2 i (by omega))) _)
theorem nm_no {b y : Nat → Nat} (h : ¬ y 0 = 1) : ∀ f n, nmF b y f n = -4
  | 0, _ => rfl
  | f + 1, n => by rw [nmF, if_neg (fun h9 => h h9.1), nm_no h f (n + 1)]
set_option maxRecDepth 100000 in
set_option maxHeartbeats 4000000 in
theorem mX7_nameHere_o (s : Nat → Int32) (la : Nat → Int32) (r : rT) (v : vT) (c : Nat → Nat → Int32) (l : Nat → Int32) (tn : Int32) (p : Nat → Int32) (pa : Nat → Nat → Int32) (m : Nat) (q : rT) (b : Int32) (x : Nat → Nat) (h : Nat → Nat → Int64) (y : Nat → Nat) (h7 : p 7 = nI (y 2)) (h8 : p 8 = nI (y 1)) (h9 : p 9 = nI (y 0)) (hy : y 1 ≤ y 2) (hy2 : y 2 ≤ v 4 0) (hy0 : y 0 ≤ 4) (hl : v 4 0 ≤ 160) (R9 : Int32) : ∀ (k9 i : Nat), i + k9 = 11 → ∀ (z2 z3 : Option Value), nmF (v 1) y k9 i = R9 → J KX7_nameHere 21 (fun o B => o = some (.int (R9)) ∧ B = (wM s la r v c l tn p pa m q b x h)) 2 [some (.ref 0), some (.int (nI i)), z2, z3] [] (wM s la r v c l tn p pa m q b x h) 0 0 := by
  intro k9
  induction k9 with
  | zero =>
    intro i hi
    obtain hiN : i = 11 := by omega
    intro z2 z3 hh
    subst hiN
    refine J.iload_n dX7_nameHere_2 rfl rfl ?_
    refine J.bipush (11) dX7_nameHere_3 (by decide) ?_
    refine J.icmp_ge (tgt := 118) dX7_nameHere_5 (by decide) (fun c5 => ?_) (fun c5 => absurd c5 (fun h => h (by decide)))
    refine J.bipush (-4) dX7_nameHere_118 (by decide) ?_
    exact J.iret dX7_nameHere_120 rfl rfl (Nat.le_refl _) (Nat.le_refl _) ⟨congrArg (fun z => some (Value.int z)) hh, rfl⟩
  | succ k9 ih =>
    intro i hi
    have hiN : i < 11 := by omega
    intro z2 z3 hh
    by_cases hn1 : y 0 = 1
    · skip
      refine J.iload_n dX7_nameHere_2 rfl rfl ?_
      refine J.bipush (11) dX7_nameHere_3 (by decide) ?_
      refine J.icmp_ge (tgt := 118) dX7_nameHere_5 (by decide) (fun c5 => absurd c5 (nI_ge (b := 11) (by omega) (by omega))) (fun c5 => ?_)
      refine J.aload_n dX7_nameHere_8 rfl rfl ?_
      refine J.mg19 dX7_nameHere_9 rfl ?_
      rw [h9]
      refine J.iconst (1) dX7_nameHere_12 (by decide) ?_
      refine J.icmp_ne (tgt := 118) dX7_nameHere_13 (by decide) (fun c13 => absurd c13 (fun h => h (by rw [hn1] <;> rfl))) (fun c13 => ?_)
      refine J.aload_n dX7_nameHere_16 rfl rfl ?_
      refine J.mg17 dX7_nameHere_17 rfl ?_
      rw [h7]
      refine J.aload_n dX7_nameHere_20 rfl rfl ?_
      refine J.mg18 dX7_nameHere_21 rfl ?_
      rw [h8]
      refine J.isub dX7_nameHere_24 ?_
      refine J.aload_n dX7_nameHere_25 rfl rfl ?_
      refine J.mg21 dX7_nameHere_26 rfl ?_
      refine J.iload_n dX7_nameHere_29 rfl rfl ?_
      refine J.iconst (1) dX7_nameHere_30 (by decide) ?_
      refine J.iadd dX7_nameHere_31 ?_
      rw [nI_1 i]
      refine J.ml6 (i + 1) dX7_nameHere_32 rfl (by omega) ?_
      rw [cutI]
      refine J.aload_n dX7_nameHere_33 rfl rfl ?_
      refine J.mg21 dX7_nameHere_34 rfl ?_
      refine J.iload_n dX7_nameHere_37 rfl rfl ?_
      refine J.ml6 (i) dX7_nameHere_38 rfl (by omega) ?_
      rw [cutI]
      refine J.isub dX7_nameHere_39 ?_
      rw [pk_sub hy, pk_sub (cut_l i (by omega)).2.1, (cut_l i (by omega)).1]
      refine J.icmp_ne (tgt := 47) dX7_nameHere_40 (by decide) (fun c40 => ?_) (fun c40 => ?_)
      · refine J.iconst (0) dX7_nameHere_47 (by decide) ?_
        refine J.istore_n dX7_nameHere_48 rfl (by decide) rfl ?_
        try dsimp only [List.set]
        refine J.iconst (0) dX7_nameHere_49 (by decide) ?_
        refine J.istore_n dX7_nameHere_50 rfl (by decide) rfl ?_
        try dsimp only [List.set]
        have hs9 : ¬ spl (v 1) y (sg i) := fun h9 => c40 (congrArg nI h9.2.1)
        refine J.iload_n dX7_nameHere_51 rfl rfl ?_
        refine J.if_eq (tgt := 106) dX7_nameHere_52 (by decide) (fun c52 => ?_) (fun c52 => absurd c52 (fun h => h rfl))
        refine J.iload_n dX7_nameHere_106 rfl rfl ?_
        refine J.if_eq (tgt := 112) dX7_nameHere_107 (by decide) (fun c107 => ?_) (fun c107 => absurd c107 (fun h => h rfl))
        refine J.iinc (1) dX7_nameHere_112 (by decide) rfl (by decide) rfl ?_
        try dsimp only [List.set]
        refine J.goto (tgt := 2) dX7_nameHere_115 (by decide) ?_
        exact J.at (ih (i + 1) (by omega) _ _ (by rw [← hh, nmF, if_neg hs9])) (by rw [← nI_1 i]) rfl rfl
      · refine J.iconst (1) dX7_nameHere_43 (by decide) ?_
        refine J.goto (tgt := 48) dX7_nameHere_44 (by decide) ?_
        refine J.istore_n dX7_nameHere_48 rfl (by decide) rfl ?_
        try dsimp only [List.set]
        refine J.iconst (0) dX7_nameHere_49 (by decide) ?_
        refine J.istore_n dX7_nameHere_50 rfl (by decide) rfl ?_
        try dsimp only [List.set]
        refine mX7_nameHere_iR s la r v c l tn p pa m q b x h y h7 h8 h9 hy hy2 hy0 hl R9 i (by omega) hn1 ((nI_eqi (by omega) (by have := len_7 i (by omega); omega)).mp c40) (fun hs9 k9' => ?_) (fun hs9 z3' => ?_) (y 2 - y 1) 0 (by omega) (fun j hj => absurd hj (Nat.not_lt_zero j))
        · skip
          refine J.iload_n dX7_nameHere_106 rfl rfl ?_
          refine J.if_eq (tgt := 112) dX7_nameHere_107 (by decide) (fun c107 => absurd c107 (by decide)) (fun c107 => ?_)
          refine J.iload_n dX7_nameHere_110 rfl rfl ?_
          exact J.iret dX7_nameHere_111 rfl rfl (Nat.le_refl _) (Nat.le_refl _) ⟨congrArg (fun z => some (Value.int z)) (by rw [← hh, nmF, if_pos hs9]), rfl⟩
        · skip
          refine J.iload_n dX7_nameHere_106 rfl rfl ?_
          refine J.if_eq (tgt := 112) dX7_nameHere_107 (by decide) (fun c107 => ?_) (fun c107 => absurd c107 (fun h => h rfl))
          refine J.iinc (1) dX7_nameHere_112 (by decide) rfl (by decide) rfl ?_
          try dsimp only [List.set]
          refine J.goto (tgt := 2) dX7_nameHere_115 (by decide) ?_
          exact J.at (ih (i + 1) (by omega) _ _ (by rw [← hh, nmF, if_neg hs9])) (by rw [← nI_1 i]) rfl rfl
    · skip
      refine J.iload_n dX7_nameHere_2 rfl rfl ?_
      refine J.bipush (11) dX7_nameHere_3 (by decide) ?_
      refine J.icmp_ge (tgt := 118) dX7_nameHere_5 (by decide) (fun c5 => absurd c5 (nI_ge (b := 11) (by omega) (by omega))) (fun c5 => ?_)
      refine J.aload_n dX7_nameHere_8 rfl rfl ?_
      refine J.mg19 dX7_nameHere_9 rfl ?_
      rw [h9]
      refine J.iconst (1) dX7_nameHere_12 (by decide) ?_
      refine J.icmp_ne (tgt := 118) dX7_nameHere_13 (by decide) (fun c13 => ?_) (fun c13 => absurd c13 (fun h => hn1 ((nI_eqi (b := 1) (by omega) (by decide)).mp h)))
      refine J.bipush (-4) dX7_nameHere_118 (by decide) ?_
      exact J.iret dX7_nameHere_120 rfl rfl (Nat.le_refl _) (Nat.le_refl _) ⟨congrArg (fun z => some (Value.int z)) (by rw [← hh]; exact (nm_no hn1 _ _).symm), rfl⟩
set_option maxRecDepth 100000 in
set_option maxHeartbeats 4000000 in
theorem mX7_nameHere (s : Nat → Int32) (la : Nat → Int32) (r : rT) (v : vT) (c : Nat → Nat → Int32) (l : Nat → Int32) (tn : Int32) (p : Nat → Int32) (pa : Nat → Nat → Int32) (m : Nat) (q : rT) (b : Int32) (x : Nat → Nat) (h : Nat → Nat → Int64) (y : Nat → Nat) (h7 : p 7 = nI (y 2)) (h8 : p 8 = nI (y 1)) (h9 : p 9 = nI (y 0)) (hy : y 1 ≤ y 2) (hy2 : y 2 ≤ v 4 0) (hy0 : y 0 ≤ 4) (hl : v 4 0 ≤ 160) : J KX7_nameHere 21 (fun o B => o = some (.int (nmF (v 1) y 11 0)) ∧ B = (wM s la r v c l tn p pa m q b x h)) 0 [some (.ref 0), none, none, none] [] (wM s la r v c l tn p pa m q b x h) 0 0 := by
  refine J.iconst (0) dX7_nameHere_0 (by decide) ?_
  refine J.istore_n dX7_nameHere_1 rfl (by decide) rfl ?_
  try dsimp only [List.set]
  exact J.at (mX7_nameHere_o s la r v c l tn p pa m q b x h y h7 h8 h9 hy hy2 hy0 hl _ 11 0 (by omega) none none rfl) rfl rfl rfl
/-- the TOKEN that stands in the reference: its sort, where it begins, ends, its number -/
def tkp (v : vT) (p : Nat → Int32) (s f t : Nat) : Prop := p 7 = nI t ∧ p 8 = nI f ∧ p 9 = nI s ∧ (s = 2 → p 10 = nI (vl (v 1) f (t - f)))
/-- the reference behind a step() from P on -/
def rA (v : vT) (p : Nat → Int32) (P : Nat) : Prop := (ntoB (v 1) (v 4 0) P = true → p 5 = 0 ∧ tkp v p (nts (v 1) (v 4 0) P) (ntf (v 1) (v 4 0) P) (ntt (v 1) (v 4 0) P)) ∧ (¬ ntoB (v 1) (v 4 0) P = true → p 5 = 1 ∧ p 6 = nI (ntf (v 1) (v 4 0) P))
def low5 (p p' : Nat → Int32) : Prop := ∀ i, i < 5 → p' i = p i
theorem mby_lt {v : vT} {k : Nat} (h : k < v 4 0) : mbya v k = nI (v 1 k) := if_pos h
theorem mby_ge {v : vT} {k : Nat} (h : ¬ k < v 4 0) : mbya v k = -4 := if_neg h
theorem mby_32 {v : vT} (hb : ∀ j, v 1 j < 128) (k : Nat) : mbya v k = 32 ↔ k < v 4 0 ∧ v 1 k = 32 := by
  by_cases h : k < v 4 0
  · rw [mby_lt h]
    have := hb k
    exact ⟨fun e => ⟨h, (nI_eqi (b := 32) (by omega) (by decide)).mp e⟩, fun e => by rw [e.2]; rfl⟩
  · rw [mby_ge h]
    exact ⟨fun e => absurd e (by decide), fun e => absurd e.1 h⟩
theorem mby_4 {v : vT} (hb : ∀ j, v 1 j < 128) (k : Nat) : mbya v k = -4 ↔ ¬ k < v 4 0 := by
  by_cases h : k < v 4 0
  · rw [mby_lt h]
    have h1 := hb k
    refine ⟨fun e => absurd (nI_pos' (show v 1 k < 2 ^ 31 by omega)) (by rw [e]; decide), fun e => absurd h e⟩
  · rw [mby_ge h]
    exact ⟨fun _ => h, fun _ => rfl⟩
theorem srt_m {v : vT} (hb : ∀ j, v 1 j < 128) {k : Nat} (h : k < v 4 0) : srt (v 1) (v 4 0) k = if 97 ≤ mbya v k ∧ mbya v k ≤ 122 then 1 else if 48 ≤ mbya v k ∧ mbya v k ≤ 57 then 2 else if mbya v k = 59 then 3 else 4 := by
  have := hb k
  rw [srt, bya, if_pos h, sof, if_neg (nI_pos (by omega)), mby_lt h]
theorem mby_az {v : vT} (hb : ∀ j, v 1 j < 128) (k : Nat) : (97 ≤ mbya v k ∧ mbya v k ≤ 122) ↔ srt (v 1) (v 4 0) k = 1 := by
  by_cases h : k < v 4 0
  · rw [srt_m hb h]
    by_cases h1 : 97 ≤ mbya v k ∧ mbya v k ≤ 122
    · rw [if_pos h1]; exact ⟨fun _ => rfl, fun _ => h1⟩
    · rw [if_neg h1]
      refine ⟨fun e => absurd e h1, fun e => ?_⟩
      split at e
      · exact absurd e (by decide)
      · split at e <;> exact absurd e (by decide)
  · rw [srt_0 (by omega), mby_ge h]
    exact ⟨fun e => absurd e.1 (by decide), fun e => absurd e (by decide)⟩
theorem mby_09 {v : vT} (hb : ∀ j, v 1 j < 128) (k : Nat) : (48 ≤ mbya v k ∧ mbya v k ≤ 57) ↔ srt (v 1) (v 4 0) k = 2 := by
  by_cases h : k < v 4 0
  · rw [srt_m hb h]
    by_cases h1 : 97 ≤ mbya v k ∧ mbya v k ≤ 122
    · rw [if_pos h1]
      refine ⟨fun e => absurd (Int32.le_trans h1.1 e.2) (by decide), fun e => absurd e (by decide)⟩
    · rw [if_neg h1]
      by_cases h2 : 48 ≤ mbya v k ∧ mbya v k ≤ 57
      · rw [if_pos h2]; exact ⟨fun _ => rfl, fun _ => h2⟩
      · rw [if_neg h2]
        refine ⟨fun e => absurd e h2, fun e => ?_⟩
        split at e <;> exact absurd e (by decide)
  · rw [srt_0 (by omega), mby_ge h]
    exact ⟨fun e => absurd e.1 (by decide), fun e => absurd e (by decide)⟩
theorem skp_s {b : Nat → Nat} {len X : Nat} (h : X < len) (h1 : b X = 32) : skp b (len - X) X = skp b (len - (X + 1)) (X + 1) := by
  rw [show len - X = (len - (X + 1)) + 1 by omega, skp, if_pos h1]
theorem skp_e {b : Nat → Nat} {len X : Nat} (h : ¬ (X < len ∧ b X = 32)) : skp b (len - X) X = X := by
  by_cases h1 : X < len
  · rw [show len - X = (len - (X + 1)) + 1 by omega, skp, if_neg (fun e => h ⟨h1, e⟩)]
  · rw [show len - X = 0 by omega, skp]
theorem run_s {b : Nat → Nat} {len st X : Nat} (h0 : st ≠ 0) (h1 : srt b len X = st) : X < len ∧ run b len st (len - X) X = run b len st (len - (X + 1)) (X + 1) := by
  have h : X < len := by
    apply Decidable.not_not.mp
    intro h
    rw [srt_0 (by omega)] at h1
    exact h0 h1.symm
  refine ⟨h, ?_⟩
  rw [show len - X = (len - (X + 1)) + 1 by omega, run, if_pos h1]
theorem run_e {b : Nat → Nat} {len st X : Nat} (h1 : ¬ srt b len X = st) : run b len st (len - X) X = X := by
  cases h : len - X with
  | zero => rfl
  | succ k => rw [run, if_neg h1]
theorem vl_2 {v : vT} (hb : ∀ j, v 1 j < 128) {F X : Nat} (h2 : srt (v 1) (v 4 0) X = 2) (hF : F ≤ X) (hX : X - F < 2) : (10 : Int32) * nI (vl (v 1) F (X - F)) + nI (v 1 X) - 48 = nI (vl (v 1) F (X - F + 1)) := by
  have hd := dig (hb X) h2
  rw [vl, show F + (X - F) = X by omega, show (10 : Int32) = nI 10 from rfl, pk_mul, nI_add, show (48 : Int32) = nI 48 from rfl, pk_sub (by omega)]
theorem rA_n {v : vT} {p : Nat → Int32} {P : Nat} (hn : (nts (v 1) (v 4 0) P) = 1) (h5 : p 5 = 0) (h7 : p 7 = nI (ntt (v 1) (v 4 0) P)) (h8 : p 8 = nI (ntf (v 1) (v 4 0) P)) : rA v (pset p 9 1) P := by
  refine ⟨fun _ => ⟨h5, h7, h8, by rw [hn]; rfl, fun h => by rw [hn] at h; exact absurd h (by decide)⟩, fun h => absurd ((ntoB_iff _ _ _).mpr ⟨by rw [hn]; decide, fun h9 => by rw [hn] at h9; exact absurd h9.1 (by decide)⟩) h⟩
set_option maxRecDepth 100000 in
set_option maxHeartbeats 4000000 in
theorem mX7_step_n (s : Nat → Int32) (la : Nat → Int32) (r : rT) (v : vT) (c : Nat → Nat → Int32) (l : Nat → Int32) (tn : Int32) (pa : Nat → Nat → Int32) (m : Nat) (q : rT) (b : Int32) (x : Nat → Nat) (h : Nat → Nat → Int64) (hb : ∀ j, v 1 j < 128) (hl : v 4 0 ≤ 160) (p0 : Nat → Int32) (P : Nat) (hP : P ≤ v 4 0) (hn : (nts (v 1) (v 4 0) P) = 1) (z1 : Int32) : ∀ D X, X + D = v 4 0 + 1 → ∀ p : Nat → Int32, (low5 p0 p ∧ p 7 = nI X ∧ p 8 = nI (ntf (v 1) (v 4 0) P) ∧ p 5 = 0 ∧ (ntf (v 1) (v 4 0) P) ≤ X ∧ X ≤ v 4 0 ∧ run (v 1) (v 4 0) 1 (v 4 0 - X) X = (ntt (v 1) (v 4 0) P)) → J KX7_step 21 (fun o B => o = none ∧ ∃ p9, B = (wM s la r v c l tn p9 pa m q b x h) ∧ low5 p0 p9 ∧ rA v p9 P) 84 [some (.ref 0), some (.int z1)] [] (wM s la r v c l tn p pa m q b x h) 0 0 := by
  intro D
  induction D with
  | zero =>
    intro X hX p hh
    exact absurd hh.2.2.2.2.2.1 (by omega)
  | succ D ih =>
    intro X hX p hh
    by_cases hs : srt (v 1) (v 4 0) X = 1
    · skip
      refine J.aload_n dX7_step_84 rfl rfl ?_
      refine J.aload_n dX7_step_85 rfl rfl ?_
      refine J.mg17 dX7_step_86 rfl ?_
      rw [hh.2.1]
      refine J.cvM (as := [.int _]) s la r v c l tn p pa m q b x h okX7_byteAt jcX7_97 (mX7_byteAt s la r v c l tn p pa m q b x h X (by omega) hl) dX7_step_89 rfl rfl rfl rfl (fun r9 B9 hq9 => ?_)
      obtain ⟨rfl, rfl⟩ := hq9
      refine ⟨_, _, _, _, _, _, _, _, _, _, _, _, _, _, rfl, ?_⟩
      show J _ _ _ _ _ (.int _ :: _) (wM s la r v c l tn p pa m q b x h) _ _
      refine J.i2l dX7_step_92 ?_
      refine J.ldc2 (v := 97) dX7_step_93 (jt 929 rfl rfl) ?_
      refine J.ldc2 (v := 122) dX7_step_96 (jt 930 rfl rfl) ?_
      refine J.cs (as := [.long _, .long _, .long _]) (is := []) okX7_in jcX7_74 (mX7_inI (mbya v X) 97 122 (by decide) (by decide)) dX7_step_99 rfl rfl rfl rfl rfl rfl (fun r9 B9 hq => ?_)
      obtain ⟨rfl, rfl⟩ := hq
      refine ⟨rfl, ?_⟩
      show J _ _ _ _ _ (.int _ :: _) (wM s la r v c l tn p pa m q b x h) _ _
      refine J.if_eq (tgt := 118) dX7_step_102 (by decide) (fun c102 => absurd c102 (fun h => (jB_0 _).mp h ((mby_az hb X).mpr hs))) (fun c102 => ?_)
      refine J.aload_n dX7_step_105 rfl rfl ?_
      refine J.dup dX7_step_106 rfl ?_
      refine J.mg17 dX7_step_107 rfl ?_
      rw [hh.2.1]
      refine J.iconst (1) dX7_step_110 (by decide) ?_
      refine J.iadd dX7_step_111 ?_
      rw [nI_1]
      refine J.mp17 dX7_step_112 rfl ?_
      try dsimp only [List.set]
      refine J.goto (tgt := 84) dX7_step_115 (by decide) ?_
      exact ih (X + 1) (by omega) _ ⟨fun i hi => (if_neg (by omega)).trans (hh.1 i hi), rfl, hh.2.2.1, hh.2.2.2.1, by omega, by have := (run_s (b := v 1) (by decide) hs).1; omega, by rw [← hh.2.2.2.2.2.2, (run_s (b := v 1) (by decide) hs).2]⟩
    · skip
      refine J.aload_n dX7_step_84 rfl rfl ?_
      refine J.aload_n dX7_step_85 rfl rfl ?_
      refine J.mg17 dX7_step_86 rfl ?_
      rw [hh.2.1]
      refine J.cvM (as := [.int _]) s la r v c l tn p pa m q b x h okX7_byteAt jcX7_97 (mX7_byteAt s la r v c l tn p pa m q b x h X (by omega) hl) dX7_step_89 rfl rfl rfl rfl (fun r9 B9 hq9 => ?_)
      obtain ⟨rfl, rfl⟩ := hq9
      refine ⟨_, _, _, _, _, _, _, _, _, _, _, _, _, _, rfl, ?_⟩
      show J _ _ _ _ _ (.int _ :: _) (wM s la r v c l tn p pa m q b x h) _ _
      refine J.i2l dX7_step_92 ?_
      refine J.ldc2 (v := 97) dX7_step_93 (jt 929 rfl rfl) ?_
      refine J.ldc2 (v := 122) dX7_step_96 (jt 930 rfl rfl) ?_
      refine J.cs (as := [.long _, .long _, .long _]) (is := []) okX7_in jcX7_74 (mX7_inI (mbya v X) 97 122 (by decide) (by decide)) dX7_step_99 rfl rfl rfl rfl rfl rfl (fun r9 B9 hq => ?_)
      obtain ⟨rfl, rfl⟩ := hq
      refine ⟨rfl, ?_⟩
      show J _ _ _ _ _ (.int _ :: _) (wM s la r v c l tn p pa m q b x h) _ _
      refine J.if_eq (tgt := 118) dX7_step_102 (by decide) (fun c102 => ?_) (fun c102 => absurd c102 (fun h => h ((jB_0 _).mpr (fun h9 => hs ((mby_az hb X).mp h9)))))
      refine J.aload_n dX7_step_118 rfl rfl ?_
      refine J.iconst (1) dX7_step_119 (by decide) ?_
      refine J.mp19 dX7_step_120 rfl ?_
      try dsimp only [List.set]
      refine J.goto (tgt := 269) dX7_step_123 (by decide) ?_
      refine J.vret dX7_step_269 rfl (Nat.le_refl _) (Nat.le_refl _) ⟨rfl, _, rfl, fun i hi => (if_neg (by omega)).trans (hh.1 i hi), ?_⟩
      have eX : X = (ntt (v 1) (v 4 0) P) := by rw [← hh.2.2.2.2.2.2, run_e hs]
      exact rA_n hn (hh.2.2.2.1) (by rw [← eX]; exact hh.2.1) hh.2.2.1
theorem rA_d {v : vT} {p : Nat → Int32} {P : Nat} (hn : (nts (v 1) (v 4 0) P) = 2) (h2 : ¬ 2 < (ntt (v 1) (v 4 0) P) - (ntf (v 1) (v 4 0) P)) (h5 : p 5 = 0) (h7 : p 7 = nI (ntt (v 1) (v 4 0) P)) (h8 : p 8 = nI (ntf (v 1) (v 4 0) P)) (h10 : p 10 = nI (vl (v 1) (ntf (v 1) (v 4 0) P) (min ((ntt (v 1) (v 4 0) P) - (ntf (v 1) (v 4 0) P)) 2))) : rA v (pset p 9 2) P := by
  refine ⟨fun _ => ⟨h5, h7, h8, by rw [hn]; rfl, fun _ => ?_⟩, fun h => absurd ((ntoB_iff _ _ _).mpr ⟨by rw [hn]; decide, fun h9 => h2 h9.2⟩) h⟩
  show p 10 = _
  rw [h10, Nat.min_eq_left (by omega)]
theorem rA_f {v : vT} {p : Nat → Int32} {P : Nat} (hn : ¬ nto (v 1) (v 4 0) P) (h5 : p 5 = 1) (h6 : p 6 = nI (ntf (v 1) (v 4 0) P)) : rA v p P :=
  ⟨fun h => absurd ((ntoB_iff _ _ _).mp h) hn, fun _ => ⟨h5, h6⟩⟩
set_option maxRecDepth 100000 in
set_option maxHeartbeats 4000000 in
theorem mX7_step_d (s : Nat → Int32) (la : Nat → Int32) (r : rT) (v : vT) (c : Nat → Nat → Int32) (l : Nat → Int32) (tn : Int32) (pa : Nat → Nat → Int32) (m : Nat) (q : rT) (b : Int32) (x : Nat → Nat) (h : Nat → Nat → Int64) (hb : ∀ j, v 1 j < 128) (hl : v 4 0 ≤ 160) (p0 : Nat → Int32) (P : Nat) (hP : P ≤ v 4 0) (hn : (nts (v 1) (v 4 0) P) = 2) (z1 : Int32) : ∀ D X, X + D = v 4 0 + 1 → ∀ p : Nat → Int32, (low5 p0 p ∧ p 7 = nI X ∧ p 8 = nI (ntf (v 1) (v 4 0) P) ∧ p 5 = 0 ∧ (ntf (v 1) (v 4 0) P) ≤ X ∧ X ≤ v 4 0 ∧ run (v 1) (v 4 0) 2 (v 4 0 - X) X = (ntt (v 1) (v 4 0) P) ∧ p 10 = nI (vl (v 1) (ntf (v 1) (v 4 0) P) (min (X - (ntf (v 1) (v 4 0) P)) 2))) → J KX7_step 21 (fun o B => o = none ∧ ∃ p9, B = (wM s la r v c l tn p9 pa m q b x h) ∧ low5 p0 p9 ∧ rA v p9 P) 140 [some (.ref 0), some (.int z1)] [] (wM s la r v c l tn p pa m q b x h) 0 0 := by
  intro D
  induction D with
  | zero =>
    intro X hX p hh
    exact absurd hh.2.2.2.2.2.1 (by omega)
  | succ D ih =>
    intro X hX p hh
    by_cases hs : srt (v 1) (v 4 0) X = 2
    · have hFX := hh.2.2.2.2.1
      have hXl := hh.2.2.2.2.2.1
      by_cases hlt : X - (ntf (v 1) (v 4 0) P) < 2
      · skip
        refine J.aload_n dX7_step_140 rfl rfl ?_
        refine J.aload_n dX7_step_141 rfl rfl ?_
        refine J.mg17 dX7_step_142 rfl ?_
        rw [hh.2.1]
        refine J.cvM (as := [.int _]) s la r v c l tn p pa m q b x h okX7_byteAt jcX7_97 (mX7_byteAt s la r v c l tn p pa m q b x h X (by omega) hl) dX7_step_145 rfl rfl rfl rfl (fun r9 B9 hq9 => ?_)
        obtain ⟨rfl, rfl⟩ := hq9
        refine ⟨_, _, _, _, _, _, _, _, _, _, _, _, _, _, rfl, ?_⟩
        show J _ _ _ _ _ (.int _ :: _) (wM s la r v c l tn p pa m q b x h) _ _
        refine J.i2l dX7_step_148 ?_
        refine J.ldc2 (v := 48) dX7_step_149 (jt 931 rfl rfl) ?_
        refine J.ldc2 (v := 57) dX7_step_152 (jt 932 rfl rfl) ?_
        refine J.cs (as := [.long _, .long _, .long _]) (is := []) okX7_in jcX7_74 (mX7_inI (mbya v X) 48 57 (by decide) (by decide)) dX7_step_155 rfl rfl rfl rfl rfl rfl (fun r9 B9 hq => ?_)
        obtain ⟨rfl, rfl⟩ := hq
        refine ⟨rfl, ?_⟩
        show J _ _ _ _ _ (.int _ :: _) (wM s la r v c l tn p pa m q b x h) _ _
        refine J.if_eq (tgt := 217) dX7_step_158 (by decide) (fun c158 => absurd c158 (fun h => (jB_0 _).mp h ((mby_09 hb X).mpr hs))) (fun c158 => ?_)
        refine J.aload_n dX7_step_161 rfl rfl ?_
        refine J.aload_n dX7_step_162 rfl rfl ?_
        refine J.mg17 dX7_step_163 rfl ?_
        rw [hh.2.1]
        refine J.aload_n dX7_step_166 rfl rfl ?_
        refine J.mg18 dX7_step_167 rfl ?_
        rw [hh.2.2.1]
        refine J.isub dX7_step_170 ?_
        refine J.iconst (2) dX7_step_171 (by decide) ?_
        rw [pk_sub hh.2.2.2.2.1]
        refine J.icmp_ge (tgt := 197) dX7_step_172 (by decide) (fun c172 => absurd c172 (fun h9 => absurd ((nI_lei (a := 2) (by decide) (by omega)).mp h9) (by omega))) (fun c172 => ?_)
        refine J.bipush (10) dX7_step_175 (by decide) ?_
        refine J.aload_n dX7_step_177 rfl rfl ?_
        refine J.mg20 dX7_step_178 rfl ?_
        rw [hh.2.2.2.2.2.2.2]
        refine J.imul dX7_step_181 ?_
        refine J.aload_n dX7_step_182 rfl rfl ?_
        refine J.aload_n dX7_step_183 rfl rfl ?_
        refine J.mg17 dX7_step_184 rfl ?_
        rw [hh.2.1]
        refine J.cvM (as := [.int _]) s la r v c l tn p pa m q b x h okX7_byteAt jcX7_97 (mX7_byteAt s la r v c l tn p pa m q b x h X (by omega) hl) dX7_step_187 rfl rfl rfl rfl (fun r9 B9 hq9 => ?_)
        obtain ⟨rfl, rfl⟩ := hq9
        refine ⟨_, _, _, _, _, _, _, _, _, _, _, _, _, _, rfl, ?_⟩
        show J _ _ _ _ _ (.int _ :: _) (wM s la r v c l tn p pa m q b x h) _ _
        refine J.iadd dX7_step_190 ?_
        refine J.bipush (48) dX7_step_191 (by decide) ?_
        refine J.isub dX7_step_193 ?_
        refine J.goto (tgt := 201) dX7_step_194 (by decide) ?_
        rw [mby_lt (run_s (b := v 1) (by decide) hs).1, Nat.min_eq_left (show X - (ntf (v 1) (v 4 0) P) ≤ 2 by omega), vl_2 hb hs hh.2.2.2.2.1 hlt]
        refine J.mp20 dX7_step_201 rfl ?_
        try dsimp only [List.set]
        refine J.aload_n dX7_step_204 rfl rfl ?_
        refine J.dup dX7_step_205 rfl ?_
        refine J.mg17 dX7_step_206 rfl ?_
        rw [show pset p 10 _ 7 = nI X from hh.2.1]
        refine J.iconst (1) dX7_step_209 (by decide) ?_
        refine J.iadd dX7_step_210 ?_
        rw [nI_1]
        refine J.mp17 dX7_step_211 rfl ?_
        try dsimp only [List.set]
        refine J.goto (tgt := 140) dX7_step_214 (by decide) ?_
        exact ih (X + 1) (by omega) _ ⟨fun i hi => (if_neg (show ¬ i = 7 by omega)).trans ((if_neg (show ¬ i = 10 by omega)).trans (hh.1 i hi)), rfl, hh.2.2.1, hh.2.2.2.1, by omega, by have := (run_s (b := v 1) (by decide) hs).1; omega, by rw [← hh.2.2.2.2.2.2.1, (run_s (b := v 1) (by decide) hs).2], by show nI _ = nI _; rw [show min (X + 1 - (ntf (v 1) (v 4 0) P)) 2 = X - (ntf (v 1) (v 4 0) P) + 1 by omega]⟩
      · skip
        refine J.aload_n dX7_step_140 rfl rfl ?_
        refine J.aload_n dX7_step_141 rfl rfl ?_
        refine J.mg17 dX7_step_142 rfl ?_
        rw [hh.2.1]
        refine J.cvM (as := [.int _]) s la r v c l tn p pa m q b x h okX7_byteAt jcX7_97 (mX7_byteAt s la r v c l tn p pa m q b x h X (by omega) hl) dX7_step_145 rfl rfl rfl rfl (fun r9 B9 hq9 => ?_)
        obtain ⟨rfl, rfl⟩ := hq9
        refine ⟨_, _, _, _, _, _, _, _, _, _, _, _, _, _, rfl, ?_⟩
        show J _ _ _ _ _ (.int _ :: _) (wM s la r v c l tn p pa m q b x h) _ _
        refine J.i2l dX7_step_148 ?_
        refine J.ldc2 (v := 48) dX7_step_149 (jt 931 rfl rfl) ?_
        refine J.ldc2 (v := 57) dX7_step_152 (jt 932 rfl rfl) ?_
        refine J.cs (as := [.long _, .long _, .long _]) (is := []) okX7_in jcX7_74 (mX7_inI (mbya v X) 48 57 (by decide) (by decide)) dX7_step_155 rfl rfl rfl rfl rfl rfl (fun r9 B9 hq => ?_)
        obtain ⟨rfl, rfl⟩ := hq
        refine ⟨rfl, ?_⟩
        show J _ _ _ _ _ (.int _ :: _) (wM s la r v c l tn p pa m q b x h) _ _
        refine J.if_eq (tgt := 217) dX7_step_158 (by decide) (fun c158 => absurd c158 (fun h => (jB_0 _).mp h ((mby_09 hb X).mpr hs))) (fun c158 => ?_)
        refine J.aload_n dX7_step_161 rfl rfl ?_
        refine J.aload_n dX7_step_162 rfl rfl ?_
        refine J.mg17 dX7_step_163 rfl ?_
        rw [hh.2.1]
        refine J.aload_n dX7_step_166 rfl rfl ?_
        refine J.mg18 dX7_step_167 rfl ?_
        rw [hh.2.2.1]
        refine J.isub dX7_step_170 ?_
        refine J.iconst (2) dX7_step_171 (by decide) ?_
        rw [pk_sub hh.2.2.2.2.1]
        refine J.icmp_ge (tgt := 197) dX7_step_172 (by decide) (fun c172 => ?_) (fun c172 => absurd c172 (fun h9 => h9 ((nI_lei (a := 2) (by decide) (by omega)).mpr (by omega))))
        refine J.aload_n dX7_step_197 rfl rfl ?_
        refine J.mg20 dX7_step_198 rfl ?_
        rw [hh.2.2.2.2.2.2.2]
        refine J.mp20 dX7_step_201 rfl ?_
        try dsimp only [List.set]
        refine J.aload_n dX7_step_204 rfl rfl ?_
        refine J.dup dX7_step_205 rfl ?_
        refine J.mg17 dX7_step_206 rfl ?_
        rw [show pset p 10 _ 7 = nI X from hh.2.1]
        refine J.iconst (1) dX7_step_209 (by decide) ?_
        refine J.iadd dX7_step_210 ?_
        rw [nI_1]
        refine J.mp17 dX7_step_211 rfl ?_
        try dsimp only [List.set]
        refine J.goto (tgt := 140) dX7_step_214 (by decide) ?_
        exact ih (X + 1) (by omega) _ ⟨fun i hi => (if_neg (show ¬ i = 7 by omega)).trans ((if_neg (show ¬ i = 10 by omega)).trans (hh.1 i hi)), rfl, hh.2.2.1, hh.2.2.2.1, by omega, by have := (run_s (b := v 1) (by decide) hs).1; omega, by rw [← hh.2.2.2.2.2.2.1, (run_s (b := v 1) (by decide) hs).2], by show nI _ = nI _; rw [show min (X + 1 - (ntf (v 1) (v 4 0) P)) 2 = min (X - (ntf (v 1) (v 4 0) P)) 2 by omega]⟩
    · skip
      refine J.aload_n dX7_step_140 rfl rfl ?_
      refine J.aload_n dX7_step_141 rfl rfl ?_
      refine J.mg17 dX7_step_142 rfl ?_
      rw [hh.2.1]
      refine J.cvM (as := [.int _]) s la r v c l tn p pa m q b x h okX7_byteAt jcX7_97 (mX7_byteAt s la r v c l tn p pa m q b x h X (by omega) hl) dX7_step_145 rfl rfl rfl rfl (fun r9 B9 hq9 => ?_)
      obtain ⟨rfl, rfl⟩ := hq9
      refine ⟨_, _, _, _, _, _, _, _, _, _, _, _, _, _, rfl, ?_⟩
      show J _ _ _ _ _ (.int _ :: _) (wM s la r v c l tn p pa m q b x h) _ _
      refine J.i2l dX7_step_148 ?_
      refine J.ldc2 (v := 48) dX7_step_149 (jt 931 rfl rfl) ?_
      refine J.ldc2 (v := 57) dX7_step_152 (jt 932 rfl rfl) ?_
      refine J.cs (as := [.long _, .long _, .long _]) (is := []) okX7_in jcX7_74 (mX7_inI (mbya v X) 48 57 (by decide) (by decide)) dX7_step_155 rfl rfl rfl rfl rfl rfl (fun r9 B9 hq => ?_)
      obtain ⟨rfl, rfl⟩ := hq
      refine ⟨rfl, ?_⟩
      show J _ _ _ _ _ (.int _ :: _) (wM s la r v c l tn p pa m q b x h) _ _
      refine J.if_eq (tgt := 217) dX7_step_158 (by decide) (fun c158 => ?_) (fun c158 => absurd c158 (fun h => h ((jB_0 _).mpr (fun h9 => hs ((mby_09 hb X).mp h9)))))
      have eX : X = (ntt (v 1) (v 4 0) P) := by rw [← hh.2.2.2.2.2.2.1, run_e hs]
      have hXF : (ntf (v 1) (v 4 0) P) ≤ (ntt (v 1) (v 4 0) P) := by rw [← eX]; exact hh.2.2.2.2.1
      have hTl : (ntt (v 1) (v 4 0) P) ≤ v 4 0 := by rw [← eX]; exact hh.2.2.2.2.2.1
      refine J.aload_n dX7_step_217 rfl rfl ?_
      refine J.iconst (2) dX7_step_218 (by decide) ?_
      refine J.mp19 dX7_step_219 rfl ?_
      try dsimp only [List.set]
      refine J.aload_n dX7_step_222 rfl rfl ?_
      refine J.mg17 dX7_step_223 rfl ?_
      rw [show pset p 9 2 7 = nI X from hh.2.1, eX]
      refine J.aload_n dX7_step_226 rfl rfl ?_
      refine J.mg18 dX7_step_227 rfl ?_
      rw [show pset p 9 2 8 = nI (ntf (v 1) (v 4 0) P) from hh.2.2.1]
      refine J.isub dX7_step_230 ?_
      refine J.iconst (2) dX7_step_231 (by decide) ?_
      rw [pk_sub hXF]
      refine J.icmp_le (tgt := 269) dX7_step_232 (by decide) (fun c232 => ?_) (fun c232 => ?_)
      · first
        | (have h2 : ¬ 2 < (ntt (v 1) (v 4 0) P) - (ntf (v 1) (v 4 0) P) := fun h9 => absurd ((nI_lei (b := 2) (by omega) (by decide)).mp c232) (by omega)
           exact J.vret dX7_step_269 rfl (Nat.le_refl _) (Nat.le_refl _) ⟨rfl, _, rfl, fun i hi => (if_neg (by omega)).trans (hh.1 i hi), rA_d hn h2 hh.2.2.2.1 (by rw [← eX]; exact hh.2.1) hh.2.2.1 (by rw [← eX]; exact hh.2.2.2.2.2.2.2)⟩)
        | (have h2 : 2 < (ntt (v 1) (v 4 0) P) - (ntf (v 1) (v 4 0) P) := Nat.not_le.mp (fun h9 => c232 ((nI_lei (b := 2) (by omega) (by decide)).mpr h9))
           exact J.vret dX7_step_269 rfl (Nat.le_refl _) (Nat.le_refl _) ⟨rfl, _, rfl, fun i hi => (if_neg (show ¬ i = 6 by omega)).trans ((if_neg (show ¬ i = 5 by omega)).trans ((if_neg (show ¬ i = 9 by omega)).trans (hh.1 i hi))), rA_f (fun h9 => h9.2 ⟨hn, h2⟩) rfl hh.2.2.1⟩)
      · refine J.aload_n dX7_step_235 rfl rfl ?_
        refine J.iconst (1) dX7_step_236 (by decide) ?_
        refine J.cvM (as := [.int _]) s la r v c l tn (pset p 9 2) pa m q b x h okX7_fails jcX7_112 (mX7_fails s la r v c l tn (pset p 9 2) pa m q b x h 1 (show pset p 9 2 5 = 0 from hh.2.2.2.1)) dX7_step_237 rfl rfl rfl rfl (fun r9 B9 hq9 => ?_)
        obtain ⟨rfl, rfl⟩ := hq9
        refine ⟨_, _, _, _, _, _, _, _, _, _, _, _, _, _, rfl, ?_⟩
        show J _ _ _ _ _ [] (wM s la r v c l tn (pset (pset (pset p 9 2) 5 (nI 1)) 6 ((pset p 9 2) 8)) pa m q b x h) _ _
        refine J.goto (tgt := 269) dX7_step_240 (by decide) ?_
        first
        | (have h2 : ¬ 2 < (ntt (v 1) (v 4 0) P) - (ntf (v 1) (v 4 0) P) := fun h9 => absurd ((nI_lei (b := 2) (by omega) (by decide)).mp c232) (by omega)
           exact J.vret dX7_step_269 rfl (Nat.le_refl _) (Nat.le_refl _) ⟨rfl, _, rfl, fun i hi => (if_neg (by omega)).trans (hh.1 i hi), rA_d hn h2 hh.2.2.2.1 (by rw [← eX]; exact hh.2.1) hh.2.2.1 (by rw [← eX]; exact hh.2.2.2.2.2.2.2)⟩)
        | (have h2 : 2 < (ntt (v 1) (v 4 0) P) - (ntf (v 1) (v 4 0) P) := Nat.not_le.mp (fun h9 => c232 ((nI_lei (b := 2) (by omega) (by decide)).mpr h9))
           exact J.vret dX7_step_269 rfl (Nat.le_refl _) (Nat.le_refl _) ⟨rfl, _, rfl, fun i hi => (if_neg (show ¬ i = 6 by omega)).trans ((if_neg (show ¬ i = 5 by omega)).trans ((if_neg (show ¬ i = 9 by omega)).trans (hh.1 i hi))), rA_f (fun h9 => h9.2 ⟨hn, h2⟩) rfl hh.2.2.1⟩)
theorem rA_0 {v : vT} {p : Nat → Int32} {P : Nat} (hn : (nts (v 1) (v 4 0) P) = 0) (h5 : p 5 = 0) (h7 : p 7 = nI (ntt (v 1) (v 4 0) P)) {z : Int32} (h8 : z = nI (ntf (v 1) (v 4 0) P)) : rA v (pset (pset (pset p 8 z) 10 0) 9 0) P := by
  refine ⟨fun _ => ⟨h5, h7, h8, by rw [hn]; rfl, fun h => by rw [hn] at h; exact absurd h (by decide)⟩, fun h => absurd ((ntoB_iff _ _ _).mpr ⟨by rw [hn]; decide, fun h9 => by rw [hn] at h9; exact absurd h9.1 (by decide)⟩) h⟩
theorem rA_3 {v : vT} {p : Nat → Int32} {P : Nat} (hn : (nts (v 1) (v 4 0) P) = 3) (h5 : p 5 = 0) {z y : Int32} (h7 : y = nI (ntt (v 1) (v 4 0) P)) (h8 : z = nI (ntf (v 1) (v 4 0) P)) : rA v (pset (pset (pset (pset p 8 z) 10 0) 9 3) 7 y) P := by
  refine ⟨fun _ => ⟨h5, h7, h8, by rw [hn]; rfl, fun h => by rw [hn] at h; exact absurd h (by decide)⟩, fun h => absurd ((ntoB_iff _ _ _).mpr ⟨by rw [hn]; decide, fun h9 => by rw [hn] at h9; exact absurd h9.1 (by decide)⟩) h⟩
set_option maxRecDepth 100000 in
set_option maxHeartbeats 4000000 in
theorem mX7_step_b (s : Nat → Int32) (la : Nat → Int32) (r : rT) (v : vT) (c : Nat → Nat → Int32) (l : Nat → Int32) (tn : Int32) (pa : Nat → Nat → Int32) (m : Nat) (q : rT) (b : Int32) (x : Nat → Nat) (h : Nat → Nat → Int64) (hb : ∀ j, v 1 j < 128) (hl : v 4 0 ≤ 160) (p0 : Nat → Int32) (P : Nat) (hP : P ≤ v 4 0) : ∀ D X, X + D = v 4 0 + 1 → ∀ p : Nat → Int32, (low5 p0 p ∧ p 7 = nI X ∧ p 5 = 0 ∧ X ≤ v 4 0 ∧ skp (v 1) (v 4 0 - X) X = (ntf (v 1) (v 4 0) P)) → ∀ z1 : Option Value, J KX7_step 21 (fun o B => o = none ∧ ∃ p9, B = (wM s la r v c l tn p9 pa m q b x h) ∧ low5 p0 p9 ∧ rA v p9 P) 8 [some (.ref 0), z1] [] (wM s la r v c l tn p pa m q b x h) 0 0 := by
  intro D
  induction D with
  | zero =>
    intro X hX p hh z1
    exact absurd hh.2.2.2.1 (by omega)
  | succ D ih =>
    intro X hX p hh z1
    by_cases hs : X < v 4 0 ∧ v 1 X = 32
    · skip
      refine J.aload_n dX7_step_8 rfl rfl ?_
      refine J.aload_n dX7_step_9 rfl rfl ?_
      refine J.mg17 dX7_step_10 rfl ?_
      rw [hh.2.1]
      refine J.cvM (as := [.int _]) s la r v c l tn p pa m q b x h okX7_byteAt jcX7_97 (mX7_byteAt s la r v c l tn p pa m q b x h X (by omega) hl) dX7_step_13 rfl rfl rfl rfl (fun r9 B9 hq9 => ?_)
      obtain ⟨rfl, rfl⟩ := hq9
      refine ⟨_, _, _, _, _, _, _, _, _, _, _, _, _, _, rfl, ?_⟩
      show J _ _ _ _ _ (.int _ :: _) (wM s la r v c l tn p pa m q b x h) _ _
      refine J.bipush (32) dX7_step_16 (by decide) ?_
      refine J.icmp_ne (tgt := 34) dX7_step_18 (by decide) (fun c18 => absurd c18 (fun h9 => h9 ((mby_32 hb X).mpr hs))) (fun c18 => ?_)
      refine J.aload_n dX7_step_21 rfl rfl ?_
      refine J.dup dX7_step_22 rfl ?_
      refine J.mg17 dX7_step_23 rfl ?_
      rw [hh.2.1]
      refine J.iconst (1) dX7_step_26 (by decide) ?_
      refine J.iadd dX7_step_27 ?_
      rw [nI_1]
      refine J.mp17 dX7_step_28 rfl ?_
      try dsimp only [List.set]
      refine J.goto (tgt := 8) dX7_step_31 (by decide) ?_
      exact ih (X + 1) (by omega) (pset p 7 (nI (X + 1))) ⟨fun i hi => (if_neg (by omega)).trans (hh.1 i hi), rfl, hh.2.2.1, by omega, by rw [← hh.2.2.2.2, skp_s hs.1 hs.2]⟩ z1
    · skip
      refine J.aload_n dX7_step_8 rfl rfl ?_
      refine J.aload_n dX7_step_9 rfl rfl ?_
      refine J.mg17 dX7_step_10 rfl ?_
      rw [hh.2.1]
      refine J.cvM (as := [.int _]) s la r v c l tn p pa m q b x h okX7_byteAt jcX7_97 (mX7_byteAt s la r v c l tn p pa m q b x h X (by omega) hl) dX7_step_13 rfl rfl rfl rfl (fun r9 B9 hq9 => ?_)
      obtain ⟨rfl, rfl⟩ := hq9
      refine ⟨_, _, _, _, _, _, _, _, _, _, _, _, _, _, rfl, ?_⟩
      show J _ _ _ _ _ (.int _ :: _) (wM s la r v c l tn p pa m q b x h) _ _
      refine J.bipush (32) dX7_step_16 (by decide) ?_
      refine J.icmp_ne (tgt := 34) dX7_step_18 (by decide) (fun c18 => ?_) (fun c18 => absurd c18 (fun h9 => hs ((mby_32 hb X).mp h9)))
      have eX : X = (ntf (v 1) (v 4 0) P) := by rw [← hh.2.2.2.2, skp_e hs]
      refine J.aload_n dX7_step_34 rfl rfl ?_
      refine J.aload_n dX7_step_35 rfl rfl ?_
      refine J.mg17 dX7_step_36 rfl ?_
      rw [hh.2.1]
      refine J.mp18 dX7_step_39 rfl ?_
      try dsimp only [List.set]
      refine J.aload_n dX7_step_42 rfl rfl ?_
      refine J.aload_n dX7_step_43 rfl rfl ?_
      refine J.mg17 dX7_step_44 rfl ?_
      rw [show (pset p 8 (nI X)) 7 = nI X from hh.2.1]
      refine J.cvM (as := [.int _]) s la r v c l tn (pset p 8 (nI X)) pa m q b x h okX7_byteAt jcX7_97 (mX7_byteAt s la r v c l tn (pset p 8 (nI X)) pa m q b x h X (by omega) hl) dX7_step_47 rfl rfl rfl rfl (fun r9 B9 hq9 => ?_)
      obtain ⟨rfl, rfl⟩ := hq9
      refine ⟨_, _, _, _, _, _, _, _, _, _, _, _, _, _, rfl, ?_⟩
      show J _ _ _ _ _ (.int _ :: _) (wM s la r v c l tn (pset p 8 (nI X)) pa m q b x h) _ _
      refine J.istore_n dX7_step_50 rfl (by decide) rfl ?_
      try dsimp only [List.set]
      refine J.aload_n dX7_step_51 rfl rfl ?_
      refine J.iconst (0) dX7_step_52 (by decide) ?_
      refine J.mp20 dX7_step_53 rfl ?_
      try dsimp only [List.set]
      refine J.iload_n dX7_step_56 rfl rfl ?_
      refine J.bipush (-4) dX7_step_57 (by decide) ?_
      refine J.icmp_ne (tgt := 70) dX7_step_59 (by decide) (fun c59 => ?_) (fun c59 => ?_)
      · refine J.iload_n dX7_step_70 rfl rfl ?_
        refine J.i2l dX7_step_71 ?_
        refine J.ldc2 (v := 97) dX7_step_72 (jt 929 rfl rfl) ?_
        refine J.ldc2 (v := 122) dX7_step_75 (jt 930 rfl rfl) ?_
        refine J.cs (as := [.long _, .long _, .long _]) (is := []) okX7_in jcX7_74 (mX7_inI (mbya v X) 97 122 (by decide) (by decide)) dX7_step_78 rfl rfl rfl rfl rfl rfl (fun r9 B9 hq => ?_)
        obtain ⟨rfl, rfl⟩ := hq
        refine ⟨rfl, ?_⟩
        show J _ _ _ _ _ (.int _ :: _) (wM s la r v c l tn (pset (pset p 8 (nI X)) 10 0) pa m q b x h) _ _
        refine J.if_eq (tgt := 126) dX7_step_81 (by decide) (fun c81 => ?_) (fun c81 => ?_)
        · refine J.iload_n dX7_step_126 rfl rfl ?_
          refine J.i2l dX7_step_127 ?_
          refine J.ldc2 (v := 48) dX7_step_128 (jt 931 rfl rfl) ?_
          refine J.ldc2 (v := 57) dX7_step_131 (jt 932 rfl rfl) ?_
          refine J.cs (as := [.long _, .long _, .long _]) (is := []) okX7_in jcX7_74 (mX7_inI (mbya v X) 48 57 (by decide) (by decide)) dX7_step_134 rfl rfl rfl rfl rfl rfl (fun r9 B9 hq => ?_)
          obtain ⟨rfl, rfl⟩ := hq
          refine ⟨rfl, ?_⟩
          show J _ _ _ _ _ (.int _ :: _) (wM s la r v c l tn (pset (pset p 8 (nI X)) 10 0) pa m q b x h) _ _
          refine J.if_eq (tgt := 243) dX7_step_137 (by decide) (fun c137 => ?_) (fun c137 => ?_)
          · refine J.aload_n dX7_step_243 rfl rfl ?_
            refine J.iconst (3) dX7_step_244 (by decide) ?_
            refine J.mp19 dX7_step_245 rfl ?_
            try dsimp only [List.set]
            refine J.aload_n dX7_step_248 rfl rfl ?_
            refine J.dup dX7_step_249 rfl ?_
            refine J.mg17 dX7_step_250 rfl ?_
            rw [show (pset (pset (pset p 8 (nI X)) 10 0) 9 3) 7 = nI X from hh.2.1]
            refine J.iconst (1) dX7_step_253 (by decide) ?_
            refine J.iadd dX7_step_254 ?_
            rw [nI_1]
            refine J.mp17 dX7_step_255 rfl ?_
            try dsimp only [List.set]
            refine J.iload_n dX7_step_258 rfl rfl ?_
            refine J.bipush (59) dX7_step_259 (by decide) ?_
            refine J.icmp_eq (tgt := 269) dX7_step_261 (by decide) (fun c261 => ?_) (fun c261 => ?_)
            · first
              | (have hge := (mby_4 hb X).mp c59
                 have h0 : (nts (v 1) (v 4 0) P) = 0 := by rw [(show nts (v 1) (v 4 0) P = srt (v 1) (v 4 0) X by rw [nts, ← eX])]; exact srt_0 (by omega)
                 exact J.vret dX7_step_269 rfl (Nat.le_refl _) (Nat.le_refl _) ⟨rfl, _, rfl, fun i hi => (if_neg (show ¬ i = 9 by omega)).trans ((fun i hi => (if_neg (show ¬ i = 10 by omega)).trans ((if_neg (show ¬ i = 8 by omega)).trans (hh.1 i hi))) i hi), rA_0 h0 hh.2.2.1 (by rw [ntt, if_neg (by rw [h0]; decide), if_neg (by rw [h0]; decide), ← eX]; exact hh.2.1) (by rw [← eX] <;> rfl)⟩)
              | (have hlt : X < v 4 0 := Decidable.not_not.mp (fun h9 => c59 ((mby_4 hb X).mpr h9))
                 have h3 : (nts (v 1) (v 4 0) P) = 3 := by rw [(show nts (v 1) (v 4 0) P = srt (v 1) (v 4 0) X by rw [nts, ← eX]), srt_m hb hlt, if_neg ((jB_0 _).mp c81), if_neg ((jB_0 _).mp c137), if_pos c261]
                 exact J.vret dX7_step_269 rfl (Nat.le_refl _) (Nat.le_refl _) ⟨rfl, _, rfl, fun i hi => (if_neg (show ¬ i = 7 by omega)).trans ((fun i hi => (if_neg (show ¬ i = 9 by omega)).trans ((fun i hi => (if_neg (show ¬ i = 10 by omega)).trans ((if_neg (show ¬ i = 8 by omega)).trans (hh.1 i hi))) i hi)) i hi), rA_3 h3 hh.2.2.1 (by rw [ntt, if_pos h3, ← eX] <;> rfl) (by rw [← eX] <;> rfl)⟩)
              | (have hlt : X < v 4 0 := Decidable.not_not.mp (fun h9 => c59 ((mby_4 hb X).mpr h9))
                 have h4 : (nts (v 1) (v 4 0) P) = 4 := by rw [(show nts (v 1) (v 4 0) P = srt (v 1) (v 4 0) X by rw [nts, ← eX]), srt_m hb hlt, if_neg ((jB_0 _).mp c81), if_neg ((jB_0 _).mp c137), if_neg c261]
                 exact J.vret dX7_step_269 rfl (Nat.le_refl _) (Nat.le_refl _) ⟨rfl, _, rfl, fun i hi => (if_neg (show ¬ i = 6 by omega)).trans ((if_neg (show ¬ i = 5 by omega)).trans ((if_neg (show ¬ i = 7 by omega)).trans ((fun i hi => (if_neg (show ¬ i = 9 by omega)).trans ((fun i hi => (if_neg (show ¬ i = 10 by omega)).trans ((if_neg (show ¬ i = 8 by omega)).trans (hh.1 i hi))) i hi)) i hi))), rA_f (fun h9 => h9.1 h4) rfl (by rw [← eX] <;> rfl)⟩)
            · refine J.aload_n dX7_step_264 rfl rfl ?_
              refine J.iconst (1) dX7_step_265 (by decide) ?_
              refine J.cvM (as := [.int _]) s la r v c l tn (pset (pset (pset (pset p 8 (nI X)) 10 0) 9 3) 7 (nI (X + 1))) pa m q b x h okX7_fails jcX7_112 (mX7_fails s la r v c l tn (pset (pset (pset (pset p 8 (nI X)) 10 0) 9 3) 7 (nI (X + 1))) pa m q b x h 1 (show (pset (pset (pset (pset p 8 (nI X)) 10 0) 9 3) 7 (nI (X + 1))) 5 = 0 from hh.2.2.1)) dX7_step_266 rfl rfl rfl rfl (fun r9 B9 hq9 => ?_)
              obtain ⟨rfl, rfl⟩ := hq9
              refine ⟨_, _, _, _, _, _, _, _, _, _, _, _, _, _, rfl, ?_⟩
              show J _ _ _ _ _ [] (wM s la r v c l tn (pset (pset (pset (pset (pset (pset p 8 (nI X)) 10 0) 9 3) 7 (nI (X + 1))) 5 (nI 1)) 6 ((pset (pset (pset (pset p 8 (nI X)) 10 0) 9 3) 7 (nI (X + 1))) 8)) pa m q b x h) _ _
              first
              | (have hge := (mby_4 hb X).mp c59
                 have h0 : (nts (v 1) (v 4 0) P) = 0 := by rw [(show nts (v 1) (v 4 0) P = srt (v 1) (v 4 0) X by rw [nts, ← eX])]; exact srt_0 (by omega)
                 exact J.vret dX7_step_269 rfl (Nat.le_refl _) (Nat.le_refl _) ⟨rfl, _, rfl, fun i hi => (if_neg (show ¬ i = 9 by omega)).trans ((fun i hi => (if_neg (show ¬ i = 10 by omega)).trans ((if_neg (show ¬ i = 8 by omega)).trans (hh.1 i hi))) i hi), rA_0 h0 hh.2.2.1 (by rw [ntt, if_neg (by rw [h0]; decide), if_neg (by rw [h0]; decide), ← eX]; exact hh.2.1) (by rw [← eX] <;> rfl)⟩)
              | (have hlt : X < v 4 0 := Decidable.not_not.mp (fun h9 => c59 ((mby_4 hb X).mpr h9))
                 have h3 : (nts (v 1) (v 4 0) P) = 3 := by rw [(show nts (v 1) (v 4 0) P = srt (v 1) (v 4 0) X by rw [nts, ← eX]), srt_m hb hlt, if_neg ((jB_0 _).mp c81), if_neg ((jB_0 _).mp c137), if_pos c261]
                 exact J.vret dX7_step_269 rfl (Nat.le_refl _) (Nat.le_refl _) ⟨rfl, _, rfl, fun i hi => (if_neg (show ¬ i = 7 by omega)).trans ((fun i hi => (if_neg (show ¬ i = 9 by omega)).trans ((fun i hi => (if_neg (show ¬ i = 10 by omega)).trans ((if_neg (show ¬ i = 8 by omega)).trans (hh.1 i hi))) i hi)) i hi), rA_3 h3 hh.2.2.1 (by rw [ntt, if_pos h3, ← eX] <;> rfl) (by rw [← eX] <;> rfl)⟩)
              | (have hlt : X < v 4 0 := Decidable.not_not.mp (fun h9 => c59 ((mby_4 hb X).mpr h9))
                 have h4 : (nts (v 1) (v 4 0) P) = 4 := by rw [(show nts (v 1) (v 4 0) P = srt (v 1) (v 4 0) X by rw [nts, ← eX]), srt_m hb hlt, if_neg ((jB_0 _).mp c81), if_neg ((jB_0 _).mp c137), if_neg c261]
                 exact J.vret dX7_step_269 rfl (Nat.le_refl _) (Nat.le_refl _) ⟨rfl, _, rfl, fun i hi => (if_neg (show ¬ i = 6 by omega)).trans ((if_neg (show ¬ i = 5 by omega)).trans ((if_neg (show ¬ i = 7 by omega)).trans ((fun i hi => (if_neg (show ¬ i = 9 by omega)).trans ((fun i hi => (if_neg (show ¬ i = 10 by omega)).trans ((if_neg (show ¬ i = 8 by omega)).trans (hh.1 i hi))) i hi)) i hi))), rA_f (fun h9 => h9.1 h4) rfl (by rw [← eX] <;> rfl)⟩)
          · exact mX7_step_d s la r v c l tn pa m q b x h hb hl p0 P hP (by rw [(show nts (v 1) (v 4 0) P = srt (v 1) (v 4 0) X by rw [nts, ← eX])]; exact (mby_09 hb X).mp (Decidable.not_not.mp (fun h9 => c137 ((jB_0 _).mpr h9)))) _ (v 4 0 + 1 - X) X (by omega) _ ⟨fun i hi => (if_neg (show ¬ i = 10 by omega)).trans ((if_neg (show ¬ i = 8 by omega)).trans (hh.1 i hi)), hh.2.1, by rw [← eX] <;> rfl, hh.2.2.1, by omega, hh.2.2.2.1, by rw [ntt, if_neg (by rw [(show nts (v 1) (v 4 0) P = srt (v 1) (v 4 0) X by rw [nts, ← eX]), (mby_09 hb X).mp (Decidable.not_not.mp (fun h9 => c137 ((jB_0 _).mpr h9)))]; decide), if_pos (Or.inr (by rw [(show nts (v 1) (v 4 0) P = srt (v 1) (v 4 0) X by rw [nts, ← eX]), (mby_09 hb X).mp (Decidable.not_not.mp (fun h9 => c137 ((jB_0 _).mpr h9)))])), (show nts (v 1) (v 4 0) P = srt (v 1) (v 4 0) X by rw [nts, ← eX]), (mby_09 hb X).mp (Decidable.not_not.mp (fun h9 => c137 ((jB_0 _).mpr h9))), ← eX], by rw [← eX, Nat.sub_self] <;> rfl⟩
        · exact mX7_step_n s la r v c l tn pa m q b x h hb hl p0 P hP (by rw [(show nts (v 1) (v 4 0) P = srt (v 1) (v 4 0) X by rw [nts, ← eX])]; exact (mby_az hb X).mp (Decidable.not_not.mp (fun h9 => c81 ((jB_0 _).mpr h9)))) _ (v 4 0 + 1 - X) X (by omega) _ ⟨fun i hi => (if_neg (show ¬ i = 10 by omega)).trans ((if_neg (show ¬ i = 8 by omega)).trans (hh.1 i hi)), hh.2.1, by rw [← eX] <;> rfl, hh.2.2.1, by omega, hh.2.2.2.1, by rw [ntt, if_neg (by rw [(show nts (v 1) (v 4 0) P = srt (v 1) (v 4 0) X by rw [nts, ← eX]), (mby_az hb X).mp (Decidable.not_not.mp (fun h9 => c81 ((jB_0 _).mpr h9)))]; decide), if_pos (Or.inl (by rw [(show nts (v 1) (v 4 0) P = srt (v 1) (v 4 0) X by rw [nts, ← eX]), (mby_az hb X).mp (Decidable.not_not.mp (fun h9 => c81 ((jB_0 _).mpr h9)))])), (show nts (v 1) (v 4 0) P = srt (v 1) (v 4 0) X by rw [nts, ← eX]), (mby_az hb X).mp (Decidable.not_not.mp (fun h9 => c81 ((jB_0 _).mpr h9))), ← eX]⟩
      · refine J.aload_n dX7_step_62 rfl rfl ?_
        refine J.iconst (0) dX7_step_63 (by decide) ?_
        refine J.mp19 dX7_step_64 rfl ?_
        try dsimp only [List.set]
        refine J.goto (tgt := 269) dX7_step_67 (by decide) ?_
        first
        | (have hge := (mby_4 hb X).mp c59
           have h0 : (nts (v 1) (v 4 0) P) = 0 := by rw [(show nts (v 1) (v 4 0) P = srt (v 1) (v 4 0) X by rw [nts, ← eX])]; exact srt_0 (by omega)
           exact J.vret dX7_step_269 rfl (Nat.le_refl _) (Nat.le_refl _) ⟨rfl, _, rfl, fun i hi => (if_neg (show ¬ i = 9 by omega)).trans ((fun i hi => (if_neg (show ¬ i = 10 by omega)).trans ((if_neg (show ¬ i = 8 by omega)).trans (hh.1 i hi))) i hi), rA_0 h0 hh.2.2.1 (by rw [ntt, if_neg (by rw [h0]; decide), if_neg (by rw [h0]; decide), ← eX]; exact hh.2.1) (by rw [← eX] <;> rfl)⟩)
        | (have hlt : X < v 4 0 := Decidable.not_not.mp (fun h9 => c59 ((mby_4 hb X).mpr h9))
           have h3 : (nts (v 1) (v 4 0) P) = 3 := by rw [(show nts (v 1) (v 4 0) P = srt (v 1) (v 4 0) X by rw [nts, ← eX]), srt_m hb hlt, if_neg ((jB_0 _).mp c81), if_neg ((jB_0 _).mp c137), if_pos c261]
           exact J.vret dX7_step_269 rfl (Nat.le_refl _) (Nat.le_refl _) ⟨rfl, _, rfl, fun i hi => (if_neg (show ¬ i = 7 by omega)).trans ((fun i hi => (if_neg (show ¬ i = 9 by omega)).trans ((fun i hi => (if_neg (show ¬ i = 10 by omega)).trans ((if_neg (show ¬ i = 8 by omega)).trans (hh.1 i hi))) i hi)) i hi), rA_3 h3 hh.2.2.1 (by rw [ntt, if_pos h3, ← eX] <;> rfl) (by rw [← eX] <;> rfl)⟩)
        | (have hlt : X < v 4 0 := Decidable.not_not.mp (fun h9 => c59 ((mby_4 hb X).mpr h9))
           have h4 : (nts (v 1) (v 4 0) P) = 4 := by rw [(show nts (v 1) (v 4 0) P = srt (v 1) (v 4 0) X by rw [nts, ← eX]), srt_m hb hlt, if_neg ((jB_0 _).mp c81), if_neg ((jB_0 _).mp c137), if_neg c261]
           exact J.vret dX7_step_269 rfl (Nat.le_refl _) (Nat.le_refl _) ⟨rfl, _, rfl, fun i hi => (if_neg (show ¬ i = 6 by omega)).trans ((if_neg (show ¬ i = 5 by omega)).trans ((if_neg (show ¬ i = 7 by omega)).trans ((fun i hi => (if_neg (show ¬ i = 9 by omega)).trans ((fun i hi => (if_neg (show ¬ i = 10 by omega)).trans ((if_neg (show ¬ i = 8 by omega)).trans (hh.1 i hi))) i hi)) i hi))), rA_f (fun h9 => h9.1 h4) rfl (by rw [← eX] <;> rfl)⟩)
set_option maxRecDepth 100000 in
set_option maxHeartbeats 4000000 in
theorem mX7_step (s : Nat → Int32) (la : Nat → Int32) (r : rT) (v : vT) (c : Nat → Nat → Int32) (l : Nat → Int32) (tn : Int32) (p : Nat → Int32) (pa : Nat → Nat → Int32) (m : Nat) (q : rT) (b : Int32) (x : Nat → Nat) (h : Nat → Nat → Int64) (hb : ∀ j, v 1 j < 128) (hl : v 4 0 ≤ 160) (P : Nat) (hP : P ≤ v 4 0) (h5 : p 5 = 0) (h7 : p 7 = nI P) : J KX7_step 21 (fun o B => o = none ∧ ∃ p9, B = (wM s la r v c l tn p9 pa m q b x h) ∧ low5 p p9 ∧ rA v p9 P) 0 [some (.ref 0), none] [] (wM s la r v c l tn p pa m q b x h) 0 0 := by
  refine J.aload_n dX7_step_0 rfl rfl ?_
  refine J.mg15 dX7_step_1 rfl ?_
  refine J.if_le (tgt := 8) dX7_step_4 (by decide) (fun c4 => ?_) (fun c4 => absurd c4 (fun h9 => h9 (by rw [h5]; decide)))
  exact mX7_step_b s la r v c l tn pa m q b x h hb hl p P hP (v 4 0 + 1 - P) P (by omega) p ⟨fun _ _ => rfl, h7, h5, hP, rfl⟩ none
set_option maxRecDepth 100000 in
set_option maxHeartbeats 4000000 in
theorem mX7_stepx (s : Nat → Int32) (la : Nat → Int32) (r : rT) (v : vT) (c : Nat → Nat → Int32) (l : Nat → Int32) (tn : Int32) (p : Nat → Int32) (pa : Nat → Nat → Int32) (m : Nat) (q : rT) (b : Int32) (x : Nat → Nat) (h : Nat → Nat → Int64) (F : Nat) (h5 : p 5 = nI F) (h0 : 0 < F) (hF : F < 100) : J KX7_step 21 (fun o B => o = none ∧ B = (wM s la r v c l tn p pa m q b x h)) 0 [some (.ref 0), none] [] (wM s la r v c l tn p pa m q b x h) 0 0 := by
  refine J.aload_n dX7_step_0 rfl rfl ?_
  refine J.mg15 dX7_step_1 rfl ?_
  refine J.if_le (tgt := 8) dX7_step_4 (by decide) (fun c4 => absurd c4 (fun h9 => absurd h9 (by rw [h5]; exact nI_nle h0 (by omega)))) (fun c4 => ?_)
  exact J.vret dX7_step_7 rfl (Nat.le_refl _) (Nat.le_refl _) ⟨rfl, rfl⟩
