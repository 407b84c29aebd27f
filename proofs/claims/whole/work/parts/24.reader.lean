theorem dX1_readLine_0 : decode cX1_readLine 0 = .ok (.aload_n 0, 1) := by decide +kernel
theorem dX1_readLine_1 : decode cX1_readLine 1 = .ok (.ldc 71, 2) := by decide +kernel
theorem dX1_readLine_3 : decode cX1_readLine 3 = .ok (.invokevirtual 73, 3) := by decide +kernel
theorem dX1_readLine_6 : decode cX1_readLine 6 = .ok (.ifCond .eq 23, 3) := by decide +kernel
theorem dX1_readLine_9 : decode cX1_readLine 9 = .ok (.aload_n 0, 1) := by decide +kernel
theorem dX1_readLine_10 : decode cX1_readLine 10 = .ok (.invokevirtual 77, 3) := by decide +kernel
theorem dX1_readLine_13 : decode cX1_readLine 13 = .ok (.ifCond .eq 14, 3) := by decide +kernel
theorem dX1_readLine_16 : decode cX1_readLine 16 = .ok (.aload_n 0, 1) := by decide +kernel
theorem dX1_readLine_17 : decode cX1_readLine 17 = .ok (.invokevirtual 80, 3) := by decide +kernel
theorem dX1_readLine_20 : decode cX1_readLine 20 = .ok (.ifCond .eq 7, 3) := by decide +kernel
theorem dX1_readLine_23 : decode cX1_readLine 23 = .ok (.iconst 1, 1) := by decide +kernel
theorem dX1_readLine_24 : decode cX1_readLine 24 = .ok (.goto 4, 3) := by decide +kernel
theorem dX1_readLine_27 : decode cX1_readLine 27 = .ok (.iconst 0, 1) := by decide +kernel
theorem dX1_readLine_28 : decode cX1_readLine 28 = .ok (.ireturn, 1) := by decide +kernel
theorem dX1_readLine_29 : decode cX1_readLine 29 = .ok (.aload_n 0, 1) := by decide +kernel
theorem dX1_readLine_30 : decode cX1_readLine 30 = .ok (.ldc 83, 2) := by decide +kernel
theorem dX1_readLine_32 : decode cX1_readLine 32 = .ok (.invokevirtual 73, 3) := by decide +kernel
theorem dX1_readLine_35 : decode cX1_readLine 35 = .ok (.ifCond .eq 23, 3) := by decide +kernel
theorem dX1_readLine_38 : decode cX1_readLine 38 = .ok (.aload_n 0, 1) := by decide +kernel
theorem dX1_readLine_39 : decode cX1_readLine 39 = .ok (.invokevirtual 85, 3) := by decide +kernel
theorem dX1_readLine_42 : decode cX1_readLine 42 = .ok (.ifCond .eq 14, 3) := by decide +kernel
theorem dX1_readLine_45 : decode cX1_readLine 45 = .ok (.aload_n 0, 1) := by decide +kernel
theorem dX1_readLine_46 : decode cX1_readLine 46 = .ok (.invokevirtual 80, 3) := by decide +kernel
theorem dX1_readLine_49 : decode cX1_readLine 49 = .ok (.ifCond .eq 7, 3) := by decide +kernel
theorem dX1_readLine_52 : decode cX1_readLine 52 = .ok (.iconst 1, 1) := by decide +kernel
theorem dX1_readLine_53 : decode cX1_readLine 53 = .ok (.goto 4, 3) := by decide +kernel
theorem dX1_readLine_56 : decode cX1_readLine 56 = .ok (.iconst 0, 1) := by decide +kernel
theorem dX1_readLine_57 : decode cX1_readLine 57 = .ok (.ireturn, 1) := by decide +kernel
theorem dX1_readLine_58 : decode cX1_readLine 58 = .ok (.aload_n 0, 1) := by decide +kernel
theorem dX1_readLine_59 : decode cX1_readLine 59 = .ok (.ldc 88, 2) := by decide +kernel
theorem dX1_readLine_61 : decode cX1_readLine 61 = .ok (.invokevirtual 73, 3) := by decide +kernel
theorem dX1_readLine_64 : decode cX1_readLine 64 = .ok (.ifCond .eq 23, 3) := by decide +kernel
theorem dX1_readLine_67 : decode cX1_readLine 67 = .ok (.aload_n 0, 1) := by decide +kernel
theorem dX1_readLine_68 : decode cX1_readLine 68 = .ok (.invokevirtual 90, 3) := by decide +kernel
theorem dX1_readLine_71 : decode cX1_readLine 71 = .ok (.ifCond .eq 14, 3) := by decide +kernel
theorem dX1_readLine_74 : decode cX1_readLine 74 = .ok (.aload_n 0, 1) := by decide +kernel
theorem dX1_readLine_75 : decode cX1_readLine 75 = .ok (.invokevirtual 80, 3) := by decide +kernel
theorem dX1_readLine_78 : decode cX1_readLine 78 = .ok (.ifCond .eq 7, 3) := by decide +kernel
theorem dX1_readLine_81 : decode cX1_readLine 81 = .ok (.iconst 1, 1) := by decide +kernel
theorem dX1_readLine_82 : decode cX1_readLine 82 = .ok (.goto 4, 3) := by decide +kernel
theorem dX1_readLine_85 : decode cX1_readLine 85 = .ok (.iconst 0, 1) := by decide +kernel
theorem dX1_readLine_86 : decode cX1_readLine 86 = .ok (.ireturn, 1) := by decide +kernel
theorem dX1_readLine_87 : decode cX1_readLine 87 = .ok (.aload_n 0, 1) := by decide +kernel
theorem dX1_readLine_88 : decode cX1_readLine 88 = .ok (.ldc 93, 2) := by decide +kernel
theorem dX1_readLine_90 : decode cX1_readLine 90 = .ok (.invokevirtual 73, 3) := by decide +kernel
theorem dX1_readLine_93 : decode cX1_readLine 93 = .ok (.ifCond .eq 23, 3) := by decide +kernel
theorem dX1_readLine_96 : decode cX1_readLine 96 = .ok (.aload_n 0, 1) := by decide +kernel
theorem dX1_readLine_97 : decode cX1_readLine 97 = .ok (.invokevirtual 95, 3) := by decide +kernel
theorem dX1_readLine_100 : decode cX1_readLine 100 = .ok (.ifCond .eq 14, 3) := by decide +kernel
theorem dX1_readLine_103 : decode cX1_readLine 103 = .ok (.aload_n 0, 1) := by decide +kernel
theorem dX1_readLine_104 : decode cX1_readLine 104 = .ok (.invokevirtual 80, 3) := by decide +kernel
theorem dX1_readLine_107 : decode cX1_readLine 107 = .ok (.ifCond .eq 7, 3) := by decide +kernel
theorem dX1_readLine_110 : decode cX1_readLine 110 = .ok (.iconst 1, 1) := by decide +kernel
theorem dX1_readLine_111 : decode cX1_readLine 111 = .ok (.goto 4, 3) := by decide +kernel
theorem dX1_readLine_114 : decode cX1_readLine 114 = .ok (.iconst 0, 1) := by decide +kernel
theorem dX1_readLine_115 : decode cX1_readLine 115 = .ok (.ireturn, 1) := by decide +kernel
theorem dX1_readLine_116 : decode cX1_readLine 116 = .ok (.aload_n 0, 1) := by decide +kernel
theorem dX1_readLine_117 : decode cX1_readLine 117 = .ok (.ldc 98, 2) := by decide +kernel
theorem dX1_readLine_119 : decode cX1_readLine 119 = .ok (.invokevirtual 73, 3) := by decide +kernel
theorem dX1_readLine_122 : decode cX1_readLine 122 = .ok (.ifCond .eq 23, 3) := by decide +kernel
theorem dX1_readLine_125 : decode cX1_readLine 125 = .ok (.aload_n 0, 1) := by decide +kernel
theorem dX1_readLine_126 : decode cX1_readLine 126 = .ok (.invokevirtual 100, 3) := by decide +kernel
theorem dX1_readLine_129 : decode cX1_readLine 129 = .ok (.ifCond .eq 14, 3) := by decide +kernel
theorem dX1_readLine_132 : decode cX1_readLine 132 = .ok (.aload_n 0, 1) := by decide +kernel
theorem dX1_readLine_133 : decode cX1_readLine 133 = .ok (.invokevirtual 80, 3) := by decide +kernel
theorem dX1_readLine_136 : decode cX1_readLine 136 = .ok (.ifCond .eq 7, 3) := by decide +kernel
theorem dX1_readLine_139 : decode cX1_readLine 139 = .ok (.iconst 1, 1) := by decide +kernel
theorem dX1_readLine_140 : decode cX1_readLine 140 = .ok (.goto 4, 3) := by decide +kernel
theorem dX1_readLine_143 : decode cX1_readLine 143 = .ok (.iconst 0, 1) := by decide +kernel
theorem dX1_readLine_144 : decode cX1_readLine 144 = .ok (.ireturn, 1) := by decide +kernel
theorem dX1_readLine_145 : decode cX1_readLine 145 = .ok (.aload_n 0, 1) := by decide +kernel
theorem dX1_readLine_146 : decode cX1_readLine 146 = .ok (.ldc 103, 2) := by decide +kernel
theorem dX1_readLine_148 : decode cX1_readLine 148 = .ok (.invokevirtual 73, 3) := by decide +kernel
theorem dX1_readLine_151 : decode cX1_readLine 151 = .ok (.ifCond .eq 23, 3) := by decide +kernel
theorem dX1_readLine_154 : decode cX1_readLine 154 = .ok (.aload_n 0, 1) := by decide +kernel
theorem dX1_readLine_155 : decode cX1_readLine 155 = .ok (.invokevirtual 104, 3) := by decide +kernel
theorem dX1_readLine_158 : decode cX1_readLine 158 = .ok (.ifCond .eq 14, 3) := by decide +kernel
theorem dX1_readLine_161 : decode cX1_readLine 161 = .ok (.aload_n 0, 1) := by decide +kernel
theorem dX1_readLine_162 : decode cX1_readLine 162 = .ok (.invokevirtual 80, 3) := by decide +kernel
theorem dX1_readLine_165 : decode cX1_readLine 165 = .ok (.ifCond .eq 7, 3) := by decide +kernel
theorem dX1_readLine_168 : decode cX1_readLine 168 = .ok (.iconst 1, 1) := by decide +kernel
theorem dX1_readLine_169 : decode cX1_readLine 169 = .ok (.goto 4, 3) := by decide +kernel
theorem dX1_readLine_172 : decode cX1_readLine 172 = .ok (.iconst 0, 1) := by decide +kernel
theorem dX1_readLine_173 : decode cX1_readLine 173 = .ok (.ireturn, 1) := by decide +kernel
theorem dX1_readLine_174 : decode cX1_readLine 174 = .ok (.aload_n 0, 1) := by decide +kernel
theorem dX1_readLine_175 : decode cX1_readLine 175 = .ok (.iconst 2, 1) := by decide +kernel
theorem dX1_readLine_176 : decode cX1_readLine 176 = .ok (.aload_n 0, 1) := by decide +kernel
theorem dX1_readLine_177 : decode cX1_readLine 177 = .ok (.getfield 107, 3) := by decide +kernel
theorem dX1_readLine_180 : decode cX1_readLine 180 = .ok (.invokevirtual 61, 3) := by decide +kernel
theorem dX1_readLine_183 : decode cX1_readLine 183 = .ok (.ireturn, 1) := by decide +kernel
theorem dX1_readAll_0 : decode cX1_readAll 0 = .ok (.aload_n 0, 1) := by decide +kernel
theorem dX1_readAll_1 : decode cX1_readAll 1 = .ok (.getfield 21, 3) := by decide +kernel
theorem dX1_readAll_4 : decode cX1_readAll 4 = .ok (.invokevirtual 29, 3) := by decide +kernel
theorem dX1_readAll_7 : decode cX1_readAll 7 = .ok (.aload_n 0, 1) := by decide +kernel
theorem dX1_readAll_8 : decode cX1_readAll 8 = .ok (.iconst 0, 1) := by decide +kernel
theorem dX1_readAll_9 : decode cX1_readAll 9 = .ok (.putfield 32, 3) := by decide +kernel
theorem dX1_readAll_12 : decode cX1_readAll 12 = .ok (.aload_n 0, 1) := by decide +kernel
theorem dX1_readAll_13 : decode cX1_readAll 13 = .ok (.iconst 0, 1) := by decide +kernel
theorem dX1_readAll_14 : decode cX1_readAll 14 = .ok (.putfield 35, 3) := by decide +kernel
theorem dX1_readAll_17 : decode cX1_readAll 17 = .ok (.aload_n 0, 1) := by decide +kernel
theorem dX1_readAll_18 : decode cX1_readAll 18 = .ok (.iconst 0, 1) := by decide +kernel
theorem dX1_readAll_19 : decode cX1_readAll 19 = .ok (.putfield 38, 3) := by decide +kernel
theorem dX1_readAll_22 : decode cX1_readAll 22 = .ok (.aload_n 0, 1) := by decide +kernel
theorem dX1_readAll_23 : decode cX1_readAll 23 = .ok (.iconst 0, 1) := by decide +kernel
theorem dX1_readAll_24 : decode cX1_readAll 24 = .ok (.putfield 42, 3) := by decide +kernel
theorem dX1_readAll_27 : decode cX1_readAll 27 = .ok (.aload_n 0, 1) := by decide +kernel
theorem dX1_readAll_28 : decode cX1_readAll 28 = .ok (.iconst 0, 1) := by decide +kernel
theorem dX1_readAll_29 : decode cX1_readAll 29 = .ok (.putfield 25, 3) := by decide +kernel
theorem dX1_readAll_32 : decode cX1_readAll 32 = .ok (.iconst 0, 1) := by decide +kernel
theorem dX1_readAll_33 : decode cX1_readAll 33 = .ok (.istore_n 1, 1) := by decide +kernel
theorem dX1_readAll_34 : decode cX1_readAll 34 = .ok (.iconst 0, 1) := by decide +kernel
theorem dX1_readAll_35 : decode cX1_readAll 35 = .ok (.istore_n 2, 1) := by decide +kernel
theorem dX1_readAll_36 : decode cX1_readAll 36 = .ok (.iload_n 2, 1) := by decide +kernel
theorem dX1_readAll_37 : decode cX1_readAll 37 = .ok (.sipush 160, 3) := by decide +kernel
theorem dX1_readAll_40 : decode cX1_readAll 40 = .ok (.if_icmp .gt 33, 3) := by decide +kernel
theorem dX1_readAll_43 : decode cX1_readAll 43 = .ok (.aload_n 0, 1) := by decide +kernel
theorem dX1_readAll_44 : decode cX1_readAll 44 = .ok (.invokevirtual 45, 3) := by decide +kernel
theorem dX1_readAll_47 : decode cX1_readAll 47 = .ok (.ifCond .eq 26, 3) := by decide +kernel
theorem dX1_readAll_50 : decode cX1_readAll 50 = .ok (.aload_n 0, 1) := by decide +kernel
theorem dX1_readAll_51 : decode cX1_readAll 51 = .ok (.getfield 49, 3) := by decide +kernel
theorem dX1_readAll_54 : decode cX1_readAll 54 = .ok (.ifCond .eq 19, 3) := by decide +kernel
theorem dX1_readAll_57 : decode cX1_readAll 57 = .ok (.aload_n 0, 1) := by decide +kernel
theorem dX1_readAll_58 : decode cX1_readAll 58 = .ok (.invokevirtual 52, 3) := by decide +kernel
theorem dX1_readAll_61 : decode cX1_readAll 61 = .ok (.ifCond .eq 12, 3) := by decide +kernel
theorem dX1_readAll_64 : decode cX1_readAll 64 = .ok (.iinc 1 1, 3) := by decide +kernel
theorem dX1_readAll_67 : decode cX1_readAll 67 = .ok (.iinc 2 1, 3) := by decide +kernel
theorem dX1_readAll_70 : decode cX1_readAll 70 = .ok (.goto (-34), 3) := by decide +kernel
theorem dX1_readAll_73 : decode cX1_readAll 73 = .ok (.aload_n 0, 1) := by decide +kernel
theorem dX1_readAll_74 : decode cX1_readAll 74 = .ok (.getfield 25, 3) := by decide +kernel
theorem dX1_readAll_77 : decode cX1_readAll 77 = .ok (.ifCond .ne 32, 3) := by decide +kernel
theorem dX1_readAll_80 : decode cX1_readAll 80 = .ok (.aload_n 0, 1) := by decide +kernel
theorem dX1_readAll_81 : decode cX1_readAll 81 = .ok (.getfield 35, 3) := by decide +kernel
theorem dX1_readAll_84 : decode cX1_readAll 84 = .ok (.aload_n 0, 1) := by decide +kernel
theorem dX1_readAll_85 : decode cX1_readAll 85 = .ok (.getfield 21, 3) := by decide +kernel
theorem dX1_readAll_88 : decode cX1_readAll 88 = .ok (.getfield 55, 3) := by decide +kernel
theorem dX1_readAll_91 : decode cX1_readAll 91 = .ok (.ishr, 1) := by decide +kernel
theorem dX1_readAll_92 : decode cX1_readAll 92 = .ok (.ifCond .eq 17, 3) := by decide +kernel
theorem dX1_readAll_95 : decode cX1_readAll 95 = .ok (.aload_n 0, 1) := by decide +kernel
theorem dX1_readAll_96 : decode cX1_readAll 96 = .ok (.bipush 6, 2) := by decide +kernel
theorem dX1_readAll_98 : decode cX1_readAll 98 = .ok (.aload_n 0, 1) := by decide +kernel
theorem dX1_readAll_99 : decode cX1_readAll 99 = .ok (.getfield 12, 3) := by decide +kernel
theorem dX1_readAll_102 : decode cX1_readAll 102 = .ok (.getfield 58, 3) := by decide +kernel
theorem dX1_readAll_105 : decode cX1_readAll 105 = .ok (.invokevirtual 61, 3) := by decide +kernel
theorem dX1_readAll_108 : decode cX1_readAll 108 = .ok (.pop, 1) := by decide +kernel
theorem dX1_readAll_109 : decode cX1_readAll 109 = .ok (.aload_n 0, 1) := by decide +kernel
theorem dX1_readAll_110 : decode cX1_readAll 110 = .ok (.getfield 21, 3) := by decide +kernel
theorem dX1_readAll_113 : decode cX1_readAll 113 = .ok (.dup, 1) := by decide +kernel
theorem dX1_readAll_114 : decode cX1_readAll 114 = .ok (.getfield 65, 3) := by decide +kernel
theorem dX1_readAll_117 : decode cX1_readAll 117 = .ok (.aload_n 0, 1) := by decide +kernel
theorem dX1_readAll_118 : decode cX1_readAll 118 = .ok (.getfield 35, 3) := by decide +kernel
theorem dX1_readAll_121 : decode cX1_readAll 121 = .ok (.iconst (-1), 1) := by decide +kernel
theorem dX1_readAll_122 : decode cX1_readAll 122 = .ok (.ixor, 1) := by decide +kernel
theorem dX1_readAll_123 : decode cX1_readAll 123 = .ok (.iand, 1) := by decide +kernel
theorem dX1_readAll_124 : decode cX1_readAll 124 = .ok (.putfield 65, 3) := by decide +kernel
theorem dX1_readAll_127 : decode cX1_readAll 127 = .ok (.aload_n 0, 1) := by decide +kernel
theorem dX1_readAll_128 : decode cX1_readAll 128 = .ok (.getfield 25, 3) := by decide +kernel
theorem dX1_readAll_131 : decode cX1_readAll 131 = .ok (.ifCond .ne 7, 3) := by decide +kernel
theorem dX1_readAll_134 : decode cX1_readAll 134 = .ok (.iload_n 1, 1) := by decide +kernel
theorem dX1_readAll_135 : decode cX1_readAll 135 = .ok (.goto 10, 3) := by decide +kernel
theorem dX1_readAll_138 : decode cX1_readAll 138 = .ok (.bipush (-10), 2) := by decide +kernel
theorem dX1_readAll_140 : decode cX1_readAll 140 = .ok (.aload_n 0, 1) := by decide +kernel
theorem dX1_readAll_141 : decode cX1_readAll 141 = .ok (.getfield 68, 3) := by decide +kernel
theorem dX1_readAll_144 : decode cX1_readAll 144 = .ok (.isub, 1) := by decide +kernel
theorem dX1_readAll_145 : decode cX1_readAll 145 = .ok (.ireturn, 1) := by decide +kernel
def fin (b : Nat → Nat) (len : Nat) (p : Bool × pT) : Bool × pT := if p.1 = true then ((rdS b len p.2.1).1, ((rdS b len p.2.1).2, p.2.2)) else (false, p.2)
def rdLi (b : Nat → Nat) (len : Nat) (y : Nat → Nat) (d : rT) : Bool × pT :=
  if spl b y 0 then fin b len (rdHa b len y d) else if spl b y 6 then fin b len (rdKi b len y d) else if spl b y 7 then fin b len (rdLa b len y d) else if spl b y 8 then fin b len (rdOnce b len 5 1 9 4 y d) else if spl b y 9 then fin b len (rdOnce b len 6 0 99 5 y d) else if spl b y 10 then fin b len (rdBr b len y d) else (false, (yF y 2 (y 1), d))
/-- what the reader's state always keeps to -/
def yOK (len : Nat) (y : Nat → Nat) (d : rT) : Prop := y 1 ≤ y 2 ∧ y 2 ≤ len ∧ y 0 ≤ 4 ∧ y 4 < 8 ∧ y 5 ≤ 1 ∧ y 6 ≤ 1 ∧ d 6 0 ≤ 3 ∧ d 6 1 ≤ 4 ∧ d 6 2 ≤ 3 ∧ d 6 3 < 8
theorem yF_i {y : Nat → Nat} {f p i : Nat} (h7 : i ≠ 7) (h8 : i ≠ 8) : yF y f p i = y i := by
  unfold yF yset
  rw [if_neg h8, if_neg h7]
theorem yOK.F {len : Nat} {y : Nat → Nat} {d : rT} {f p : Nat} (h : yOK len y d) : yOK len (yF y f p) d := h
theorem yOK.N {b : Nat → Nat} {len : Nat} {y : Nat → Nat} {d : rT} (h : yOK len y d) : yOK len (yN b len y) d := ⟨(yN_2 h.2.1).1, (yN_2 h.2.1).2, yN_0 b len y, h.2.2.2⟩
theorem rdN_0 {b : Nat → Nat} {len lo hi : Nat} {y : Nat → Nat} : (rdN b len lo hi y).2 0 = yN b len y 0 := by
  unfold rdN
  repeat' split
  all_goals rfl
theorem yOK.R {b : Nat → Nat} {len lo hi : Nat} {y : Nat → Nat} {d : rT} (h : yOK len y d) : yOK len (rdN b len lo hi y).2 d := by
  unfold yOK
  rw [rdN_0, rdN_1, rdN_2, rdN_4, rdN_5, rdN_6]
  exact ⟨(yN_2 h.2.1).1, (yN_2 h.2.1).2, yN_0 b len y, h.2.2.2⟩
theorem yOK.S {b : Nat → Nat} {len : Nat} {y : Nat → Nat} {d : rT} (h : yOK len y d) : yOK len (rdS b len y).2 d := by
  unfold rdS
  split
  · split
    · exact h.N
    · exact h.N
  · exact h.N
theorem yOK.Ha {b : Nat → Nat} {len : Nat} {y : Nat → Nat} {d : rT} (h : yOK len y d) : yOK len (rdHa b len y d).2.1 (rdHa b len y d).2.2 := by
  unfold rdHa
  split
  · next h3 =>
    split
    · split
      · exact h.N
      · split
        · have h9 := (yOK.R (b := b) (lo := 0) (hi := 9) (h.N (b := b)))
          exact ⟨h9.1, h9.2.1, h9.2.2.1, h9.2.2.2.1, h9.2.2.2.2.1, h9.2.2.2.2.2.1, h3, h9.2.2.2.2.2.2.2.1, h9.2.2.2.2.2.2.2.2.1, ws_lt _ h9.2.2.2.2.2.2.2.2.2 _ h3⟩
        · exact h.N.R
    · exact h.N
  · exact h
theorem yOK.Ki {b : Nat → Nat} {len : Nat} {y : Nat → Nat} {d : rT} (h : yOK len y d) : yOK len (rdKi b len y d).2.1 (rdKi b len y d).2.2 := by
  unfold rdKi
  split
  · next h3 =>
    unfold rdTwo
    split
    · split
      · have h9 := (yOK.R (b := b) (lo := 0) (hi := 99) (h.R (b := b) (lo := 0) (hi := 9)))
        exact ⟨h9.1, h9.2.1, h9.2.2.1, h9.2.2.2.1, h9.2.2.2.2.1, h9.2.2.2.2.2.1, h9.2.2.2.2.2.2.1, h3, h9.2.2.2.2.2.2.2.2⟩
      · exact h.R.R
    · exact h.R
  · exact h
theorem yOK.La {b : Nat → Nat} {len : Nat} {y : Nat → Nat} {d : rT} (h : yOK len y d) : yOK len (rdLa b len y d).2.1 (rdLa b len y d).2.2 := by
  unfold rdLa
  split
  · next h3 =>
    unfold rdTwo
    split
    · split
      · have h9 := (yOK.R (b := b) (lo := 0) (hi := 9) (h.R (b := b) (lo := 1) (hi := 5)))
        exact ⟨h9.1, h9.2.1, h9.2.2.1, h9.2.2.2.1, h9.2.2.2.2.1, h9.2.2.2.2.2.1, h9.2.2.2.2.2.2.1, h9.2.2.2.2.2.2.2.1, h3, h9.2.2.2.2.2.2.2.2.2⟩
      · exact h.R.R
    · exact h.R
  · exact h
theorem yOK.Lo {b : Nat → Nat} {len : Nat} {y : Nat → Nat} {d : rT} (h : yOK len y d) : yOK len (rdOnce b len 5 1 9 4 y d).2.1 (rdOnce b len 5 1 9 4 y d).2.2 := by
  have h8 : yOK len (yset y 5 1) d := ⟨h.1, h.2.1, h.2.2.1, h.2.2.2.1, Nat.le_refl _, h.2.2.2.2.2⟩
  unfold rdOnce
  split
  · split
    · exact h8.R
    · exact h8.R
  · exact h
theorem yOK.Pr {b : Nat → Nat} {len : Nat} {y : Nat → Nat} {d : rT} (h : yOK len y d) : yOK len (rdOnce b len 6 0 99 5 y d).2.1 (rdOnce b len 6 0 99 5 y d).2.2 := by
  have h8 : yOK len (yset y 6 1) d := ⟨h.1, h.2.1, h.2.2.1, h.2.2.2.1, h.2.2.2.2.1, Nat.le_refl _, h.2.2.2.2.2.2⟩
  unfold rdOnce
  split
  · split
    · exact h8.R
    · exact h8.R
  · exact h
theorem yOK.Br {b : Nat → Nat} {len : Nat} {y : Nat → Nat} {d : rT} (h : yOK len y d) : yOK len (rdBr b len y d).2.1 (rdBr b len y d).2.2 := by
  unfold rdBr
  split
  · next h1 =>
    split
    · exact h.R
    · have h9 := (yOK.R (b := b) (lo := 0) (hi := 2) h)
      have h8 := rdN_3 h1
      exact ⟨h9.1, h9.2.1, h9.2.2.1, ws_lt _ h9.2.2.2.1 _ (by omega), h9.2.2.2.2⟩
  · exact h.R
theorem yOK_fin {b : Nat → Nat} {len : Nat} {p : Bool × pT} (h : yOK len p.2.1 p.2.2) : yOK len (fin b len p).2.1 (fin b len p).2.2 := by
  unfold fin
  split
  · exact h.S
  · exact h
theorem yOK.Li {b : Nat → Nat} {len : Nat} {y : Nat → Nat} {d : rT} (h : yOK len y d) : yOK len (rdLi b len y d).2.1 (rdLi b len y d).2.2 := by
  unfold rdLi
  repeat' split
  · exact yOK_fin h.Ha
  · exact yOK_fin h.Ki
  · exact yOK_fin h.La
  · exact yOK_fin h.Lo
  · exact yOK_fin h.Pr
  · exact yOK_fin h.Br
  · exact h
set_option maxRecDepth 100000 in
set_option maxHeartbeats 4000000 in
theorem mX1_readLine (b : Nat → Nat) (len : Nat) (d : rT) (hb : ∀ j, b j < 128) (hl : len ≤ 160) (y : Nat → Nat) (hy : yOK len y d) : J KX1_readLine 10 (fun o B => o = some (.int (jB ((rdLi b len y d).1 = true))) ∧ B = wX b len (rdLi b len y d).2.2 (rdLi b len y d).2.1) 0 [some (.ref 0)] [] (wX b len d y) 0 0 := by
  refine J.aload_n dX1_readLine_0 rfl rfl ?_
  refine J.ldcS (j := 0) dX1_readLine_1 rfl (by decide) rfl ?_
  refine J.cv (as := [.ref (1000 + 0)]) (is := [0, 1, 2, 3, 4, 5, 6, 7, 8, 9]) (o := 0) okX1_spells jcX1_73 (mX1_spells b len d hb hl y 0 (by decide) ⟨hy.1, hy.2.1⟩ (by have := hy.2.2.1; omega)) dX1_readLine_3 rfl rfl rfl rfl rfl rfl rfl (fun r9 B9 hq => ?_)
  obtain ⟨rfl, rfl⟩ := hq
  refine ⟨rfl, ?_⟩
  show J _ _ _ _ _ (.int _ :: _) (wX b len d y) _ _
  refine J.if_eq (tgt := 29) dX1_readLine_6 (by decide) (fun c6 => ?_) (fun c6 => ?_)
  · refine J.aload_n dX1_readLine_29 rfl rfl ?_
    refine J.ldcS (j := 6) dX1_readLine_30 rfl (by decide) rfl ?_
    refine J.cv (as := [.ref (1000 + 6)]) (is := [0, 1, 2, 3, 4, 5, 6, 7, 8, 9]) (o := 0) okX1_spells jcX1_73 (mX1_spells b len d hb hl y 6 (by decide) ⟨hy.1, hy.2.1⟩ (by have := hy.2.2.1; omega)) dX1_readLine_32 rfl rfl rfl rfl rfl rfl rfl (fun r9 B9 hq => ?_)
    obtain ⟨rfl, rfl⟩ := hq
    refine ⟨rfl, ?_⟩
    show J _ _ _ _ _ (.int _ :: _) (wX b len d y) _ _
    refine J.if_eq (tgt := 58) dX1_readLine_35 (by decide) (fun c35 => ?_) (fun c35 => ?_)
    · refine J.aload_n dX1_readLine_58 rfl rfl ?_
      refine J.ldcS (j := 7) dX1_readLine_59 rfl (by decide) rfl ?_
      refine J.cv (as := [.ref (1000 + 7)]) (is := [0, 1, 2, 3, 4, 5, 6, 7, 8, 9]) (o := 0) okX1_spells jcX1_73 (mX1_spells b len d hb hl y 7 (by decide) ⟨hy.1, hy.2.1⟩ (by have := hy.2.2.1; omega)) dX1_readLine_61 rfl rfl rfl rfl rfl rfl rfl (fun r9 B9 hq => ?_)
      obtain ⟨rfl, rfl⟩ := hq
      refine ⟨rfl, ?_⟩
      show J _ _ _ _ _ (.int _ :: _) (wX b len d y) _ _
      refine J.if_eq (tgt := 87) dX1_readLine_64 (by decide) (fun c64 => ?_) (fun c64 => ?_)
      · refine J.aload_n dX1_readLine_87 rfl rfl ?_
        refine J.ldcS (j := 8) dX1_readLine_88 rfl (by decide) rfl ?_
        refine J.cv (as := [.ref (1000 + 8)]) (is := [0, 1, 2, 3, 4, 5, 6, 7, 8, 9]) (o := 0) okX1_spells jcX1_73 (mX1_spells b len d hb hl y 8 (by decide) ⟨hy.1, hy.2.1⟩ (by have := hy.2.2.1; omega)) dX1_readLine_90 rfl rfl rfl rfl rfl rfl rfl (fun r9 B9 hq => ?_)
        obtain ⟨rfl, rfl⟩ := hq
        refine ⟨rfl, ?_⟩
        show J _ _ _ _ _ (.int _ :: _) (wX b len d y) _ _
        refine J.if_eq (tgt := 116) dX1_readLine_93 (by decide) (fun c93 => ?_) (fun c93 => ?_)
        · refine J.aload_n dX1_readLine_116 rfl rfl ?_
          refine J.ldcS (j := 9) dX1_readLine_117 rfl (by decide) rfl ?_
          refine J.cv (as := [.ref (1000 + 9)]) (is := [0, 1, 2, 3, 4, 5, 6, 7, 8, 9]) (o := 0) okX1_spells jcX1_73 (mX1_spells b len d hb hl y 9 (by decide) ⟨hy.1, hy.2.1⟩ (by have := hy.2.2.1; omega)) dX1_readLine_119 rfl rfl rfl rfl rfl rfl rfl (fun r9 B9 hq => ?_)
          obtain ⟨rfl, rfl⟩ := hq
          refine ⟨rfl, ?_⟩
          show J _ _ _ _ _ (.int _ :: _) (wX b len d y) _ _
          refine J.if_eq (tgt := 145) dX1_readLine_122 (by decide) (fun c122 => ?_) (fun c122 => ?_)
          · refine J.aload_n dX1_readLine_145 rfl rfl ?_
            refine J.ldcS (j := 10) dX1_readLine_146 rfl (by decide) rfl ?_
            refine J.cv (as := [.ref (1000 + 10)]) (is := [0, 1, 2, 3, 4, 5, 6, 7, 8, 9]) (o := 0) okX1_spells jcX1_73 (mX1_spells b len d hb hl y 10 (by decide) ⟨hy.1, hy.2.1⟩ (by have := hy.2.2.1; omega)) dX1_readLine_148 rfl rfl rfl rfl rfl rfl rfl (fun r9 B9 hq => ?_)
            obtain ⟨rfl, rfl⟩ := hq
            refine ⟨rfl, ?_⟩
            show J _ _ _ _ _ (.int _ :: _) (wX b len d y) _ _
            refine J.if_eq (tgt := 174) dX1_readLine_151 (by decide) (fun c151 => ?_) (fun c151 => ?_)
            · refine J.aload_n dX1_readLine_174 rfl rfl ?_
              refine J.iconst (2) dX1_readLine_175 (by decide) ?_
              refine J.aload_n dX1_readLine_176 rfl rfl ?_
              refine J.getfield dX1_readLine_177 jFX1_107 rfl rfl ?_
              refine J.cv (as := [.int (nI 2), .int _]) (is := [0, 1, 2, 3, 4, 5, 6, 7, 8, 9]) (o := 0) okX1_fail jcX1_61 (mX1_fail b len d y 2 (y 1)) dX1_readLine_180 rfl rfl rfl rfl rfl rfl rfl (fun r9 B9 hq => ?_)
              obtain ⟨rfl, rfl⟩ := hq
              refine ⟨rfl, ?_⟩
              show J _ _ _ _ _ (.int 0 :: _) (wX b len d (yF y 2 (y 1))) _ _
              have e9 : rdLi b len y d = (false, (yF y 2 (y 1), d)) := (by (unfold rdLi; rw [if_neg ((jB_0 _).mp c6), if_neg ((jB_0 _).mp c35), if_neg ((jB_0 _).mp c64), if_neg ((jB_0 _).mp c93), if_neg ((jB_0 _).mp c122), if_neg ((jB_0 _).mp c151)]))
              exact J.iret dX1_readLine_183 rfl (by decide) (Nat.le_refl _) (Nat.le_refl _) ⟨by rw [e9] <;> rfl, by rw [e9] <;> rfl⟩
            · refine J.aload_n dX1_readLine_154 rfl rfl ?_
              refine J.cv (as := []) (is := [0, 1, 2, 3, 4, 5, 6, 7, 8, 9]) (o := 0) okX1_readBroken jcX1_104 (mX1_readBroken b len d hb hl y hy.2.1 hy.2.2.2.1) dX1_readLine_155 rfl rfl rfl rfl rfl rfl rfl (fun r9 B9 hq => ?_)
              obtain ⟨rfl, rfl⟩ := hq
              refine ⟨rfl, ?_⟩
              show J _ _ _ _ _ (.int _ :: _) (wX b len (rdBr b len y d).2.2 (rdBr b len y d).2.1) _ _
              refine J.if_eq (tgt := 172) dX1_readLine_158 (by decide) (fun c158 => ?_) (fun c158 => ?_)
              · refine J.iconst (0) dX1_readLine_172 (by decide) ?_
                first | (have e9 : rdLi b len y d = (true, ((rdS b len (rdBr b len y d).2.1).2, (rdBr b len y d).2.2)) := (by (unfold rdLi; rw [if_neg ((jB_0 _).mp c6), if_neg ((jB_0 _).mp c35), if_neg ((jB_0 _).mp c64), if_neg ((jB_0 _).mp c93), if_neg ((jB_0 _).mp c122), if_pos (Decidable.not_not.mp (fun h => c151 ((jB_0 _).mpr h)))]; unfold fin; rw [if_pos (Decidable.not_not.mp (fun h => c158 ((jB_0 _).mpr h))), show (rdS b len (rdBr b len y d).2.1).1 = true from (Decidable.not_not.mp (fun h => c165 ((jB_0 _).mpr h)))])); exact J.iret dX1_readLine_173 rfl (by decide) (Nat.le_refl _) (Nat.le_refl _) ⟨by rw [e9] <;> rfl, by rw [e9] <;> rfl⟩) | (have e9 : rdLi b len y d = (false, ((rdS b len (rdBr b len y d).2.1).2, (rdBr b len y d).2.2)) := (by (unfold rdLi; rw [if_neg ((jB_0 _).mp c6), if_neg ((jB_0 _).mp c35), if_neg ((jB_0 _).mp c64), if_neg ((jB_0 _).mp c93), if_neg ((jB_0 _).mp c122), if_pos (Decidable.not_not.mp (fun h => c151 ((jB_0 _).mpr h)))]; unfold fin; rw [if_pos (Decidable.not_not.mp (fun h => c158 ((jB_0 _).mpr h))), show (rdS b len (rdBr b len y d).2.1).1 = false from Bool.eq_false_iff.mpr ((jB_0 _).mp c165)])); exact J.iret dX1_readLine_173 rfl (by decide) (Nat.le_refl _) (Nat.le_refl _) ⟨by rw [e9] <;> rfl, by rw [e9] <;> rfl⟩) | (have e9 : rdLi b len y d = (false, (rdBr b len y d).2) := (by (unfold rdLi; rw [if_neg ((jB_0 _).mp c6), if_neg ((jB_0 _).mp c35), if_neg ((jB_0 _).mp c64), if_neg ((jB_0 _).mp c93), if_neg ((jB_0 _).mp c122), if_pos (Decidable.not_not.mp (fun h => c151 ((jB_0 _).mpr h)))]; unfold fin; rw [if_neg ((jB_0 _).mp c158)])); exact J.iret dX1_readLine_173 rfl (by decide) (Nat.le_refl _) (Nat.le_refl _) ⟨by rw [e9] <;> rfl, by rw [e9] <;> rfl⟩)
              · refine J.aload_n dX1_readLine_161 rfl rfl ?_
                refine J.cv (as := []) (is := [0, 1, 2, 3, 4, 5, 6, 7, 8, 9]) (o := 0) okX1_readStop jcX1_80 (mX1_readStop b len (rdBr b len y d).2.2 hb hl (rdBr b len y d).2.1 (yOK.Br hy).2.1) dX1_readLine_162 rfl rfl rfl rfl rfl rfl rfl (fun r9 B9 hq => ?_)
                obtain ⟨rfl, rfl⟩ := hq
                refine ⟨rfl, ?_⟩
                show J _ _ _ _ _ (.int _ :: _) (wX b len (rdBr b len y d).2.2 (rdS b len (rdBr b len y d).2.1).2) _ _
                refine J.if_eq (tgt := 172) dX1_readLine_165 (by decide) (fun c165 => ?_) (fun c165 => ?_)
                · refine J.iconst (0) dX1_readLine_172 (by decide) ?_
                  first | (have e9 : rdLi b len y d = (true, ((rdS b len (rdBr b len y d).2.1).2, (rdBr b len y d).2.2)) := (by (unfold rdLi; rw [if_neg ((jB_0 _).mp c6), if_neg ((jB_0 _).mp c35), if_neg ((jB_0 _).mp c64), if_neg ((jB_0 _).mp c93), if_neg ((jB_0 _).mp c122), if_pos (Decidable.not_not.mp (fun h => c151 ((jB_0 _).mpr h)))]; unfold fin; rw [if_pos (Decidable.not_not.mp (fun h => c158 ((jB_0 _).mpr h))), show (rdS b len (rdBr b len y d).2.1).1 = true from (Decidable.not_not.mp (fun h => c165 ((jB_0 _).mpr h)))])); exact J.iret dX1_readLine_173 rfl (by decide) (Nat.le_refl _) (Nat.le_refl _) ⟨by rw [e9] <;> rfl, by rw [e9] <;> rfl⟩) | (have e9 : rdLi b len y d = (false, ((rdS b len (rdBr b len y d).2.1).2, (rdBr b len y d).2.2)) := (by (unfold rdLi; rw [if_neg ((jB_0 _).mp c6), if_neg ((jB_0 _).mp c35), if_neg ((jB_0 _).mp c64), if_neg ((jB_0 _).mp c93), if_neg ((jB_0 _).mp c122), if_pos (Decidable.not_not.mp (fun h => c151 ((jB_0 _).mpr h)))]; unfold fin; rw [if_pos (Decidable.not_not.mp (fun h => c158 ((jB_0 _).mpr h))), show (rdS b len (rdBr b len y d).2.1).1 = false from Bool.eq_false_iff.mpr ((jB_0 _).mp c165)])); exact J.iret dX1_readLine_173 rfl (by decide) (Nat.le_refl _) (Nat.le_refl _) ⟨by rw [e9] <;> rfl, by rw [e9] <;> rfl⟩) | (have e9 : rdLi b len y d = (false, (rdBr b len y d).2) := (by (unfold rdLi; rw [if_neg ((jB_0 _).mp c6), if_neg ((jB_0 _).mp c35), if_neg ((jB_0 _).mp c64), if_neg ((jB_0 _).mp c93), if_neg ((jB_0 _).mp c122), if_pos (Decidable.not_not.mp (fun h => c151 ((jB_0 _).mpr h)))]; unfold fin; rw [if_neg ((jB_0 _).mp c158)])); exact J.iret dX1_readLine_173 rfl (by decide) (Nat.le_refl _) (Nat.le_refl _) ⟨by rw [e9] <;> rfl, by rw [e9] <;> rfl⟩)
                · refine J.iconst (1) dX1_readLine_168 (by decide) ?_
                  refine J.goto (tgt := 173) dX1_readLine_169 (by decide) ?_
                  first | (have e9 : rdLi b len y d = (true, ((rdS b len (rdBr b len y d).2.1).2, (rdBr b len y d).2.2)) := (by (unfold rdLi; rw [if_neg ((jB_0 _).mp c6), if_neg ((jB_0 _).mp c35), if_neg ((jB_0 _).mp c64), if_neg ((jB_0 _).mp c93), if_neg ((jB_0 _).mp c122), if_pos (Decidable.not_not.mp (fun h => c151 ((jB_0 _).mpr h)))]; unfold fin; rw [if_pos (Decidable.not_not.mp (fun h => c158 ((jB_0 _).mpr h))), show (rdS b len (rdBr b len y d).2.1).1 = true from (Decidable.not_not.mp (fun h => c165 ((jB_0 _).mpr h)))])); exact J.iret dX1_readLine_173 rfl (by decide) (Nat.le_refl _) (Nat.le_refl _) ⟨by rw [e9] <;> rfl, by rw [e9] <;> rfl⟩) | (have e9 : rdLi b len y d = (false, ((rdS b len (rdBr b len y d).2.1).2, (rdBr b len y d).2.2)) := (by (unfold rdLi; rw [if_neg ((jB_0 _).mp c6), if_neg ((jB_0 _).mp c35), if_neg ((jB_0 _).mp c64), if_neg ((jB_0 _).mp c93), if_neg ((jB_0 _).mp c122), if_pos (Decidable.not_not.mp (fun h => c151 ((jB_0 _).mpr h)))]; unfold fin; rw [if_pos (Decidable.not_not.mp (fun h => c158 ((jB_0 _).mpr h))), show (rdS b len (rdBr b len y d).2.1).1 = false from Bool.eq_false_iff.mpr ((jB_0 _).mp c165)])); exact J.iret dX1_readLine_173 rfl (by decide) (Nat.le_refl _) (Nat.le_refl _) ⟨by rw [e9] <;> rfl, by rw [e9] <;> rfl⟩) | (have e9 : rdLi b len y d = (false, (rdBr b len y d).2) := (by (unfold rdLi; rw [if_neg ((jB_0 _).mp c6), if_neg ((jB_0 _).mp c35), if_neg ((jB_0 _).mp c64), if_neg ((jB_0 _).mp c93), if_neg ((jB_0 _).mp c122), if_pos (Decidable.not_not.mp (fun h => c151 ((jB_0 _).mpr h)))]; unfold fin; rw [if_neg ((jB_0 _).mp c158)])); exact J.iret dX1_readLine_173 rfl (by decide) (Nat.le_refl _) (Nat.le_refl _) ⟨by rw [e9] <;> rfl, by rw [e9] <;> rfl⟩)
          · refine J.aload_n dX1_readLine_125 rfl rfl ?_
            refine J.cv (as := []) (is := [0, 1, 2, 3, 4, 5, 6, 7, 8, 9]) (o := 0) okX1_readPrize jcX1_100 (mX1_readPrize b len d hb hl y hy.2.1 (by have := hy.2.2.2.2.2.1; omega)) dX1_readLine_126 rfl rfl rfl rfl rfl rfl rfl (fun r9 B9 hq => ?_)
            obtain ⟨rfl, rfl⟩ := hq
            refine ⟨rfl, ?_⟩
            show J _ _ _ _ _ (.int _ :: _) (wX b len (rdOnce b len 6 0 99 5 y d).2.2 (rdOnce b len 6 0 99 5 y d).2.1) _ _
            refine J.if_eq (tgt := 143) dX1_readLine_129 (by decide) (fun c129 => ?_) (fun c129 => ?_)
            · refine J.iconst (0) dX1_readLine_143 (by decide) ?_
              first | (have e9 : rdLi b len y d = (true, ((rdS b len (rdOnce b len 6 0 99 5 y d).2.1).2, (rdOnce b len 6 0 99 5 y d).2.2)) := (by (unfold rdLi; rw [if_neg ((jB_0 _).mp c6), if_neg ((jB_0 _).mp c35), if_neg ((jB_0 _).mp c64), if_neg ((jB_0 _).mp c93), if_pos (Decidable.not_not.mp (fun h => c122 ((jB_0 _).mpr h)))]; unfold fin; rw [if_pos (Decidable.not_not.mp (fun h => c129 ((jB_0 _).mpr h))), show (rdS b len (rdOnce b len 6 0 99 5 y d).2.1).1 = true from (Decidable.not_not.mp (fun h => c136 ((jB_0 _).mpr h)))])); exact J.iret dX1_readLine_144 rfl (by decide) (Nat.le_refl _) (Nat.le_refl _) ⟨by rw [e9] <;> rfl, by rw [e9] <;> rfl⟩) | (have e9 : rdLi b len y d = (false, ((rdS b len (rdOnce b len 6 0 99 5 y d).2.1).2, (rdOnce b len 6 0 99 5 y d).2.2)) := (by (unfold rdLi; rw [if_neg ((jB_0 _).mp c6), if_neg ((jB_0 _).mp c35), if_neg ((jB_0 _).mp c64), if_neg ((jB_0 _).mp c93), if_pos (Decidable.not_not.mp (fun h => c122 ((jB_0 _).mpr h)))]; unfold fin; rw [if_pos (Decidable.not_not.mp (fun h => c129 ((jB_0 _).mpr h))), show (rdS b len (rdOnce b len 6 0 99 5 y d).2.1).1 = false from Bool.eq_false_iff.mpr ((jB_0 _).mp c136)])); exact J.iret dX1_readLine_144 rfl (by decide) (Nat.le_refl _) (Nat.le_refl _) ⟨by rw [e9] <;> rfl, by rw [e9] <;> rfl⟩) | (have e9 : rdLi b len y d = (false, (rdOnce b len 6 0 99 5 y d).2) := (by (unfold rdLi; rw [if_neg ((jB_0 _).mp c6), if_neg ((jB_0 _).mp c35), if_neg ((jB_0 _).mp c64), if_neg ((jB_0 _).mp c93), if_pos (Decidable.not_not.mp (fun h => c122 ((jB_0 _).mpr h)))]; unfold fin; rw [if_neg ((jB_0 _).mp c129)])); exact J.iret dX1_readLine_144 rfl (by decide) (Nat.le_refl _) (Nat.le_refl _) ⟨by rw [e9] <;> rfl, by rw [e9] <;> rfl⟩)
            · refine J.aload_n dX1_readLine_132 rfl rfl ?_
              refine J.cv (as := []) (is := [0, 1, 2, 3, 4, 5, 6, 7, 8, 9]) (o := 0) okX1_readStop jcX1_80 (mX1_readStop b len (rdOnce b len 6 0 99 5 y d).2.2 hb hl (rdOnce b len 6 0 99 5 y d).2.1 (yOK.Pr hy).2.1) dX1_readLine_133 rfl rfl rfl rfl rfl rfl rfl (fun r9 B9 hq => ?_)
              obtain ⟨rfl, rfl⟩ := hq
              refine ⟨rfl, ?_⟩
              show J _ _ _ _ _ (.int _ :: _) (wX b len (rdOnce b len 6 0 99 5 y d).2.2 (rdS b len (rdOnce b len 6 0 99 5 y d).2.1).2) _ _
              refine J.if_eq (tgt := 143) dX1_readLine_136 (by decide) (fun c136 => ?_) (fun c136 => ?_)
              · refine J.iconst (0) dX1_readLine_143 (by decide) ?_
                first | (have e9 : rdLi b len y d = (true, ((rdS b len (rdOnce b len 6 0 99 5 y d).2.1).2, (rdOnce b len 6 0 99 5 y d).2.2)) := (by (unfold rdLi; rw [if_neg ((jB_0 _).mp c6), if_neg ((jB_0 _).mp c35), if_neg ((jB_0 _).mp c64), if_neg ((jB_0 _).mp c93), if_pos (Decidable.not_not.mp (fun h => c122 ((jB_0 _).mpr h)))]; unfold fin; rw [if_pos (Decidable.not_not.mp (fun h => c129 ((jB_0 _).mpr h))), show (rdS b len (rdOnce b len 6 0 99 5 y d).2.1).1 = true from (Decidable.not_not.mp (fun h => c136 ((jB_0 _).mpr h)))])); exact J.iret dX1_readLine_144 rfl (by decide) (Nat.le_refl _) (Nat.le_refl _) ⟨by rw [e9] <;> rfl, by rw [e9] <;> rfl⟩) | (have e9 : rdLi b len y d = (false, ((rdS b len (rdOnce b len 6 0 99 5 y d).2.1).2, (rdOnce b len 6 0 99 5 y d).2.2)) := (by (unfold rdLi; rw [if_neg ((jB_0 _).mp c6), if_neg ((jB_0 _).mp c35), if_neg ((jB_0 _).mp c64), if_neg ((jB_0 _).mp c93), if_pos (Decidable.not_not.mp (fun h => c122 ((jB_0 _).mpr h)))]; unfold fin; rw [if_pos (Decidable.not_not.mp (fun h => c129 ((jB_0 _).mpr h))), show (rdS b len (rdOnce b len 6 0 99 5 y d).2.1).1 = false from Bool.eq_false_iff.mpr ((jB_0 _).mp c136)])); exact J.iret dX1_readLine_144 rfl (by decide) (Nat.le_refl _) (Nat.le_refl _) ⟨by rw [e9] <;> rfl, by rw [e9] <;> rfl⟩) | (have e9 : rdLi b len y d = (false, (rdOnce b len 6 0 99 5 y d).2) := (by (unfold rdLi; rw [if_neg ((jB_0 _).mp c6), if_neg ((jB_0 _).mp c35), if_neg ((jB_0 _).mp c64), if_neg ((jB_0 _).mp c93), if_pos (Decidable.not_not.mp (fun h => c122 ((jB_0 _).mpr h)))]; unfold fin; rw [if_neg ((jB_0 _).mp c129)])); exact J.iret dX1_readLine_144 rfl (by decide) (Nat.le_refl _) (Nat.le_refl _) ⟨by rw [e9] <;> rfl, by rw [e9] <;> rfl⟩)
              · refine J.iconst (1) dX1_readLine_139 (by decide) ?_
                refine J.goto (tgt := 144) dX1_readLine_140 (by decide) ?_
                first | (have e9 : rdLi b len y d = (true, ((rdS b len (rdOnce b len 6 0 99 5 y d).2.1).2, (rdOnce b len 6 0 99 5 y d).2.2)) := (by (unfold rdLi; rw [if_neg ((jB_0 _).mp c6), if_neg ((jB_0 _).mp c35), if_neg ((jB_0 _).mp c64), if_neg ((jB_0 _).mp c93), if_pos (Decidable.not_not.mp (fun h => c122 ((jB_0 _).mpr h)))]; unfold fin; rw [if_pos (Decidable.not_not.mp (fun h => c129 ((jB_0 _).mpr h))), show (rdS b len (rdOnce b len 6 0 99 5 y d).2.1).1 = true from (Decidable.not_not.mp (fun h => c136 ((jB_0 _).mpr h)))])); exact J.iret dX1_readLine_144 rfl (by decide) (Nat.le_refl _) (Nat.le_refl _) ⟨by rw [e9] <;> rfl, by rw [e9] <;> rfl⟩) | (have e9 : rdLi b len y d = (false, ((rdS b len (rdOnce b len 6 0 99 5 y d).2.1).2, (rdOnce b len 6 0 99 5 y d).2.2)) := (by (unfold rdLi; rw [if_neg ((jB_0 _).mp c6), if_neg ((jB_0 _).mp c35), if_neg ((jB_0 _).mp c64), if_neg ((jB_0 _).mp c93), if_pos (Decidable.not_not.mp (fun h => c122 ((jB_0 _).mpr h)))]; unfold fin; rw [if_pos (Decidable.not_not.mp (fun h => c129 ((jB_0 _).mpr h))), show (rdS b len (rdOnce b len 6 0 99 5 y d).2.1).1 = false from Bool.eq_false_iff.mpr ((jB_0 _).mp c136)])); exact J.iret dX1_readLine_144 rfl (by decide) (Nat.le_refl _) (Nat.le_refl _) ⟨by rw [e9] <;> rfl, by rw [e9] <;> rfl⟩) | (have e9 : rdLi b len y d = (false, (rdOnce b len 6 0 99 5 y d).2) := (by (unfold rdLi; rw [if_neg ((jB_0 _).mp c6), if_neg ((jB_0 _).mp c35), if_neg ((jB_0 _).mp c64), if_neg ((jB_0 _).mp c93), if_pos (Decidable.not_not.mp (fun h => c122 ((jB_0 _).mpr h)))]; unfold fin; rw [if_neg ((jB_0 _).mp c129)])); exact J.iret dX1_readLine_144 rfl (by decide) (Nat.le_refl _) (Nat.le_refl _) ⟨by rw [e9] <;> rfl, by rw [e9] <;> rfl⟩)
        · refine J.aload_n dX1_readLine_96 rfl rfl ?_
          refine J.cv (as := []) (is := [0, 1, 2, 3, 4, 5, 6, 7, 8, 9]) (o := 0) okX1_readLoad jcX1_95 (mX1_readLoad b len d hb hl y hy.2.1 (by have := hy.2.2.2.2.1; omega)) dX1_readLine_97 rfl rfl rfl rfl rfl rfl rfl (fun r9 B9 hq => ?_)
          obtain ⟨rfl, rfl⟩ := hq
          refine ⟨rfl, ?_⟩
          show J _ _ _ _ _ (.int _ :: _) (wX b len (rdOnce b len 5 1 9 4 y d).2.2 (rdOnce b len 5 1 9 4 y d).2.1) _ _
          refine J.if_eq (tgt := 114) dX1_readLine_100 (by decide) (fun c100 => ?_) (fun c100 => ?_)
          · refine J.iconst (0) dX1_readLine_114 (by decide) ?_
            first | (have e9 : rdLi b len y d = (true, ((rdS b len (rdOnce b len 5 1 9 4 y d).2.1).2, (rdOnce b len 5 1 9 4 y d).2.2)) := (by (unfold rdLi; rw [if_neg ((jB_0 _).mp c6), if_neg ((jB_0 _).mp c35), if_neg ((jB_0 _).mp c64), if_pos (Decidable.not_not.mp (fun h => c93 ((jB_0 _).mpr h)))]; unfold fin; rw [if_pos (Decidable.not_not.mp (fun h => c100 ((jB_0 _).mpr h))), show (rdS b len (rdOnce b len 5 1 9 4 y d).2.1).1 = true from (Decidable.not_not.mp (fun h => c107 ((jB_0 _).mpr h)))])); exact J.iret dX1_readLine_115 rfl (by decide) (Nat.le_refl _) (Nat.le_refl _) ⟨by rw [e9] <;> rfl, by rw [e9] <;> rfl⟩) | (have e9 : rdLi b len y d = (false, ((rdS b len (rdOnce b len 5 1 9 4 y d).2.1).2, (rdOnce b len 5 1 9 4 y d).2.2)) := (by (unfold rdLi; rw [if_neg ((jB_0 _).mp c6), if_neg ((jB_0 _).mp c35), if_neg ((jB_0 _).mp c64), if_pos (Decidable.not_not.mp (fun h => c93 ((jB_0 _).mpr h)))]; unfold fin; rw [if_pos (Decidable.not_not.mp (fun h => c100 ((jB_0 _).mpr h))), show (rdS b len (rdOnce b len 5 1 9 4 y d).2.1).1 = false from Bool.eq_false_iff.mpr ((jB_0 _).mp c107)])); exact J.iret dX1_readLine_115 rfl (by decide) (Nat.le_refl _) (Nat.le_refl _) ⟨by rw [e9] <;> rfl, by rw [e9] <;> rfl⟩) | (have e9 : rdLi b len y d = (false, (rdOnce b len 5 1 9 4 y d).2) := (by (unfold rdLi; rw [if_neg ((jB_0 _).mp c6), if_neg ((jB_0 _).mp c35), if_neg ((jB_0 _).mp c64), if_pos (Decidable.not_not.mp (fun h => c93 ((jB_0 _).mpr h)))]; unfold fin; rw [if_neg ((jB_0 _).mp c100)])); exact J.iret dX1_readLine_115 rfl (by decide) (Nat.le_refl _) (Nat.le_refl _) ⟨by rw [e9] <;> rfl, by rw [e9] <;> rfl⟩)
          · refine J.aload_n dX1_readLine_103 rfl rfl ?_
            refine J.cv (as := []) (is := [0, 1, 2, 3, 4, 5, 6, 7, 8, 9]) (o := 0) okX1_readStop jcX1_80 (mX1_readStop b len (rdOnce b len 5 1 9 4 y d).2.2 hb hl (rdOnce b len 5 1 9 4 y d).2.1 (yOK.Lo hy).2.1) dX1_readLine_104 rfl rfl rfl rfl rfl rfl rfl (fun r9 B9 hq => ?_)
            obtain ⟨rfl, rfl⟩ := hq
            refine ⟨rfl, ?_⟩
            show J _ _ _ _ _ (.int _ :: _) (wX b len (rdOnce b len 5 1 9 4 y d).2.2 (rdS b len (rdOnce b len 5 1 9 4 y d).2.1).2) _ _
            refine J.if_eq (tgt := 114) dX1_readLine_107 (by decide) (fun c107 => ?_) (fun c107 => ?_)
            · refine J.iconst (0) dX1_readLine_114 (by decide) ?_
              first | (have e9 : rdLi b len y d = (true, ((rdS b len (rdOnce b len 5 1 9 4 y d).2.1).2, (rdOnce b len 5 1 9 4 y d).2.2)) := (by (unfold rdLi; rw [if_neg ((jB_0 _).mp c6), if_neg ((jB_0 _).mp c35), if_neg ((jB_0 _).mp c64), if_pos (Decidable.not_not.mp (fun h => c93 ((jB_0 _).mpr h)))]; unfold fin; rw [if_pos (Decidable.not_not.mp (fun h => c100 ((jB_0 _).mpr h))), show (rdS b len (rdOnce b len 5 1 9 4 y d).2.1).1 = true from (Decidable.not_not.mp (fun h => c107 ((jB_0 _).mpr h)))])); exact J.iret dX1_readLine_115 rfl (by decide) (Nat.le_refl _) (Nat.le_refl _) ⟨by rw [e9] <;> rfl, by rw [e9] <;> rfl⟩) | (have e9 : rdLi b len y d = (false, ((rdS b len (rdOnce b len 5 1 9 4 y d).2.1).2, (rdOnce b len 5 1 9 4 y d).2.2)) := (by (unfold rdLi; rw [if_neg ((jB_0 _).mp c6), if_neg ((jB_0 _).mp c35), if_neg ((jB_0 _).mp c64), if_pos (Decidable.not_not.mp (fun h => c93 ((jB_0 _).mpr h)))]; unfold fin; rw [if_pos (Decidable.not_not.mp (fun h => c100 ((jB_0 _).mpr h))), show (rdS b len (rdOnce b len 5 1 9 4 y d).2.1).1 = false from Bool.eq_false_iff.mpr ((jB_0 _).mp c107)])); exact J.iret dX1_readLine_115 rfl (by decide) (Nat.le_refl _) (Nat.le_refl _) ⟨by rw [e9] <;> rfl, by rw [e9] <;> rfl⟩) | (have e9 : rdLi b len y d = (false, (rdOnce b len 5 1 9 4 y d).2) := (by (unfold rdLi; rw [if_neg ((jB_0 _).mp c6), if_neg ((jB_0 _).mp c35), if_neg ((jB_0 _).mp c64), if_pos (Decidable.not_not.mp (fun h => c93 ((jB_0 _).mpr h)))]; unfold fin; rw [if_neg ((jB_0 _).mp c100)])); exact J.iret dX1_readLine_115 rfl (by decide) (Nat.le_refl _) (Nat.le_refl _) ⟨by rw [e9] <;> rfl, by rw [e9] <;> rfl⟩)
            · refine J.iconst (1) dX1_readLine_110 (by decide) ?_
              refine J.goto (tgt := 115) dX1_readLine_111 (by decide) ?_
              first | (have e9 : rdLi b len y d = (true, ((rdS b len (rdOnce b len 5 1 9 4 y d).2.1).2, (rdOnce b len 5 1 9 4 y d).2.2)) := (by (unfold rdLi; rw [if_neg ((jB_0 _).mp c6), if_neg ((jB_0 _).mp c35), if_neg ((jB_0 _).mp c64), if_pos (Decidable.not_not.mp (fun h => c93 ((jB_0 _).mpr h)))]; unfold fin; rw [if_pos (Decidable.not_not.mp (fun h => c100 ((jB_0 _).mpr h))), show (rdS b len (rdOnce b len 5 1 9 4 y d).2.1).1 = true from (Decidable.not_not.mp (fun h => c107 ((jB_0 _).mpr h)))])); exact J.iret dX1_readLine_115 rfl (by decide) (Nat.le_refl _) (Nat.le_refl _) ⟨by rw [e9] <;> rfl, by rw [e9] <;> rfl⟩) | (have e9 : rdLi b len y d = (false, ((rdS b len (rdOnce b len 5 1 9 4 y d).2.1).2, (rdOnce b len 5 1 9 4 y d).2.2)) := (by (unfold rdLi; rw [if_neg ((jB_0 _).mp c6), if_neg ((jB_0 _).mp c35), if_neg ((jB_0 _).mp c64), if_pos (Decidable.not_not.mp (fun h => c93 ((jB_0 _).mpr h)))]; unfold fin; rw [if_pos (Decidable.not_not.mp (fun h => c100 ((jB_0 _).mpr h))), show (rdS b len (rdOnce b len 5 1 9 4 y d).2.1).1 = false from Bool.eq_false_iff.mpr ((jB_0 _).mp c107)])); exact J.iret dX1_readLine_115 rfl (by decide) (Nat.le_refl _) (Nat.le_refl _) ⟨by rw [e9] <;> rfl, by rw [e9] <;> rfl⟩) | (have e9 : rdLi b len y d = (false, (rdOnce b len 5 1 9 4 y d).2) := (by (unfold rdLi; rw [if_neg ((jB_0 _).mp c6), if_neg ((jB_0 _).mp c35), if_neg ((jB_0 _).mp c64), if_pos (Decidable.not_not.mp (fun h => c93 ((jB_0 _).mpr h)))]; unfold fin; rw [if_neg ((jB_0 _).mp c100)])); exact J.iret dX1_readLine_115 rfl (by decide) (Nat.le_refl _) (Nat.le_refl _) ⟨by rw [e9] <;> rfl, by rw [e9] <;> rfl⟩)
      · refine J.aload_n dX1_readLine_67 rfl rfl ?_
        refine J.cv (as := []) (is := [0, 1, 2, 3, 4, 5, 6, 7, 8, 9]) (o := 0) okX1_readLaw jcX1_90 (mX1_readLaw b len d hb hl y hy.2.1 hy.2.2.2.2.2.2.2.2.1) dX1_readLine_68 rfl rfl rfl rfl rfl rfl rfl (fun r9 B9 hq => ?_)
        obtain ⟨rfl, rfl⟩ := hq
        refine ⟨rfl, ?_⟩
        show J _ _ _ _ _ (.int _ :: _) (wX b len (rdLa b len y d).2.2 (rdLa b len y d).2.1) _ _
        refine J.if_eq (tgt := 85) dX1_readLine_71 (by decide) (fun c71 => ?_) (fun c71 => ?_)
        · refine J.iconst (0) dX1_readLine_85 (by decide) ?_
          first | (have e9 : rdLi b len y d = (true, ((rdS b len (rdLa b len y d).2.1).2, (rdLa b len y d).2.2)) := (by (unfold rdLi; rw [if_neg ((jB_0 _).mp c6), if_neg ((jB_0 _).mp c35), if_pos (Decidable.not_not.mp (fun h => c64 ((jB_0 _).mpr h)))]; unfold fin; rw [if_pos (Decidable.not_not.mp (fun h => c71 ((jB_0 _).mpr h))), show (rdS b len (rdLa b len y d).2.1).1 = true from (Decidable.not_not.mp (fun h => c78 ((jB_0 _).mpr h)))])); exact J.iret dX1_readLine_86 rfl (by decide) (Nat.le_refl _) (Nat.le_refl _) ⟨by rw [e9] <;> rfl, by rw [e9] <;> rfl⟩) | (have e9 : rdLi b len y d = (false, ((rdS b len (rdLa b len y d).2.1).2, (rdLa b len y d).2.2)) := (by (unfold rdLi; rw [if_neg ((jB_0 _).mp c6), if_neg ((jB_0 _).mp c35), if_pos (Decidable.not_not.mp (fun h => c64 ((jB_0 _).mpr h)))]; unfold fin; rw [if_pos (Decidable.not_not.mp (fun h => c71 ((jB_0 _).mpr h))), show (rdS b len (rdLa b len y d).2.1).1 = false from Bool.eq_false_iff.mpr ((jB_0 _).mp c78)])); exact J.iret dX1_readLine_86 rfl (by decide) (Nat.le_refl _) (Nat.le_refl _) ⟨by rw [e9] <;> rfl, by rw [e9] <;> rfl⟩) | (have e9 : rdLi b len y d = (false, (rdLa b len y d).2) := (by (unfold rdLi; rw [if_neg ((jB_0 _).mp c6), if_neg ((jB_0 _).mp c35), if_pos (Decidable.not_not.mp (fun h => c64 ((jB_0 _).mpr h)))]; unfold fin; rw [if_neg ((jB_0 _).mp c71)])); exact J.iret dX1_readLine_86 rfl (by decide) (Nat.le_refl _) (Nat.le_refl _) ⟨by rw [e9] <;> rfl, by rw [e9] <;> rfl⟩)
        · refine J.aload_n dX1_readLine_74 rfl rfl ?_
          refine J.cv (as := []) (is := [0, 1, 2, 3, 4, 5, 6, 7, 8, 9]) (o := 0) okX1_readStop jcX1_80 (mX1_readStop b len (rdLa b len y d).2.2 hb hl (rdLa b len y d).2.1 (yOK.La hy).2.1) dX1_readLine_75 rfl rfl rfl rfl rfl rfl rfl (fun r9 B9 hq => ?_)
          obtain ⟨rfl, rfl⟩ := hq
          refine ⟨rfl, ?_⟩
          show J _ _ _ _ _ (.int _ :: _) (wX b len (rdLa b len y d).2.2 (rdS b len (rdLa b len y d).2.1).2) _ _
          refine J.if_eq (tgt := 85) dX1_readLine_78 (by decide) (fun c78 => ?_) (fun c78 => ?_)
          · refine J.iconst (0) dX1_readLine_85 (by decide) ?_
            first | (have e9 : rdLi b len y d = (true, ((rdS b len (rdLa b len y d).2.1).2, (rdLa b len y d).2.2)) := (by (unfold rdLi; rw [if_neg ((jB_0 _).mp c6), if_neg ((jB_0 _).mp c35), if_pos (Decidable.not_not.mp (fun h => c64 ((jB_0 _).mpr h)))]; unfold fin; rw [if_pos (Decidable.not_not.mp (fun h => c71 ((jB_0 _).mpr h))), show (rdS b len (rdLa b len y d).2.1).1 = true from (Decidable.not_not.mp (fun h => c78 ((jB_0 _).mpr h)))])); exact J.iret dX1_readLine_86 rfl (by decide) (Nat.le_refl _) (Nat.le_refl _) ⟨by rw [e9] <;> rfl, by rw [e9] <;> rfl⟩) | (have e9 : rdLi b len y d = (false, ((rdS b len (rdLa b len y d).2.1).2, (rdLa b len y d).2.2)) := (by (unfold rdLi; rw [if_neg ((jB_0 _).mp c6), if_neg ((jB_0 _).mp c35), if_pos (Decidable.not_not.mp (fun h => c64 ((jB_0 _).mpr h)))]; unfold fin; rw [if_pos (Decidable.not_not.mp (fun h => c71 ((jB_0 _).mpr h))), show (rdS b len (rdLa b len y d).2.1).1 = false from Bool.eq_false_iff.mpr ((jB_0 _).mp c78)])); exact J.iret dX1_readLine_86 rfl (by decide) (Nat.le_refl _) (Nat.le_refl _) ⟨by rw [e9] <;> rfl, by rw [e9] <;> rfl⟩) | (have e9 : rdLi b len y d = (false, (rdLa b len y d).2) := (by (unfold rdLi; rw [if_neg ((jB_0 _).mp c6), if_neg ((jB_0 _).mp c35), if_pos (Decidable.not_not.mp (fun h => c64 ((jB_0 _).mpr h)))]; unfold fin; rw [if_neg ((jB_0 _).mp c71)])); exact J.iret dX1_readLine_86 rfl (by decide) (Nat.le_refl _) (Nat.le_refl _) ⟨by rw [e9] <;> rfl, by rw [e9] <;> rfl⟩)
          · refine J.iconst (1) dX1_readLine_81 (by decide) ?_
            refine J.goto (tgt := 86) dX1_readLine_82 (by decide) ?_
            first | (have e9 : rdLi b len y d = (true, ((rdS b len (rdLa b len y d).2.1).2, (rdLa b len y d).2.2)) := (by (unfold rdLi; rw [if_neg ((jB_0 _).mp c6), if_neg ((jB_0 _).mp c35), if_pos (Decidable.not_not.mp (fun h => c64 ((jB_0 _).mpr h)))]; unfold fin; rw [if_pos (Decidable.not_not.mp (fun h => c71 ((jB_0 _).mpr h))), show (rdS b len (rdLa b len y d).2.1).1 = true from (Decidable.not_not.mp (fun h => c78 ((jB_0 _).mpr h)))])); exact J.iret dX1_readLine_86 rfl (by decide) (Nat.le_refl _) (Nat.le_refl _) ⟨by rw [e9] <;> rfl, by rw [e9] <;> rfl⟩) | (have e9 : rdLi b len y d = (false, ((rdS b len (rdLa b len y d).2.1).2, (rdLa b len y d).2.2)) := (by (unfold rdLi; rw [if_neg ((jB_0 _).mp c6), if_neg ((jB_0 _).mp c35), if_pos (Decidable.not_not.mp (fun h => c64 ((jB_0 _).mpr h)))]; unfold fin; rw [if_pos (Decidable.not_not.mp (fun h => c71 ((jB_0 _).mpr h))), show (rdS b len (rdLa b len y d).2.1).1 = false from Bool.eq_false_iff.mpr ((jB_0 _).mp c78)])); exact J.iret dX1_readLine_86 rfl (by decide) (Nat.le_refl _) (Nat.le_refl _) ⟨by rw [e9] <;> rfl, by rw [e9] <;> rfl⟩) | (have e9 : rdLi b len y d = (false, (rdLa b len y d).2) := (by (unfold rdLi; rw [if_neg ((jB_0 _).mp c6), if_neg ((jB_0 _).mp c35), if_pos (Decidable.not_not.mp (fun h => c64 ((jB_0 _).mpr h)))]; unfold fin; rw [if_neg ((jB_0 _).mp c71)])); exact J.iret dX1_readLine_86 rfl (by decide) (Nat.le_refl _) (Nat.le_refl _) ⟨by rw [e9] <;> rfl, by rw [e9] <;> rfl⟩)
    · refine J.aload_n dX1_readLine_38 rfl rfl ?_
      refine J.cv (as := []) (is := [0, 1, 2, 3, 4, 5, 6, 7, 8, 9]) (o := 0) okX1_readKing jcX1_85 (mX1_readKing b len d hb hl y hy.2.1 hy.2.2.2.2.2.2.2.1) dX1_readLine_39 rfl rfl rfl rfl rfl rfl rfl (fun r9 B9 hq => ?_)
      obtain ⟨rfl, rfl⟩ := hq
      refine ⟨rfl, ?_⟩
      show J _ _ _ _ _ (.int _ :: _) (wX b len (rdKi b len y d).2.2 (rdKi b len y d).2.1) _ _
      refine J.if_eq (tgt := 56) dX1_readLine_42 (by decide) (fun c42 => ?_) (fun c42 => ?_)
      · refine J.iconst (0) dX1_readLine_56 (by decide) ?_
        first | (have e9 : rdLi b len y d = (true, ((rdS b len (rdKi b len y d).2.1).2, (rdKi b len y d).2.2)) := (by (unfold rdLi; rw [if_neg ((jB_0 _).mp c6), if_pos (Decidable.not_not.mp (fun h => c35 ((jB_0 _).mpr h)))]; unfold fin; rw [if_pos (Decidable.not_not.mp (fun h => c42 ((jB_0 _).mpr h))), show (rdS b len (rdKi b len y d).2.1).1 = true from (Decidable.not_not.mp (fun h => c49 ((jB_0 _).mpr h)))])); exact J.iret dX1_readLine_57 rfl (by decide) (Nat.le_refl _) (Nat.le_refl _) ⟨by rw [e9] <;> rfl, by rw [e9] <;> rfl⟩) | (have e9 : rdLi b len y d = (false, ((rdS b len (rdKi b len y d).2.1).2, (rdKi b len y d).2.2)) := (by (unfold rdLi; rw [if_neg ((jB_0 _).mp c6), if_pos (Decidable.not_not.mp (fun h => c35 ((jB_0 _).mpr h)))]; unfold fin; rw [if_pos (Decidable.not_not.mp (fun h => c42 ((jB_0 _).mpr h))), show (rdS b len (rdKi b len y d).2.1).1 = false from Bool.eq_false_iff.mpr ((jB_0 _).mp c49)])); exact J.iret dX1_readLine_57 rfl (by decide) (Nat.le_refl _) (Nat.le_refl _) ⟨by rw [e9] <;> rfl, by rw [e9] <;> rfl⟩) | (have e9 : rdLi b len y d = (false, (rdKi b len y d).2) := (by (unfold rdLi; rw [if_neg ((jB_0 _).mp c6), if_pos (Decidable.not_not.mp (fun h => c35 ((jB_0 _).mpr h)))]; unfold fin; rw [if_neg ((jB_0 _).mp c42)])); exact J.iret dX1_readLine_57 rfl (by decide) (Nat.le_refl _) (Nat.le_refl _) ⟨by rw [e9] <;> rfl, by rw [e9] <;> rfl⟩)
      · refine J.aload_n dX1_readLine_45 rfl rfl ?_
        refine J.cv (as := []) (is := [0, 1, 2, 3, 4, 5, 6, 7, 8, 9]) (o := 0) okX1_readStop jcX1_80 (mX1_readStop b len (rdKi b len y d).2.2 hb hl (rdKi b len y d).2.1 (yOK.Ki hy).2.1) dX1_readLine_46 rfl rfl rfl rfl rfl rfl rfl (fun r9 B9 hq => ?_)
        obtain ⟨rfl, rfl⟩ := hq
        refine ⟨rfl, ?_⟩
        show J _ _ _ _ _ (.int _ :: _) (wX b len (rdKi b len y d).2.2 (rdS b len (rdKi b len y d).2.1).2) _ _
        refine J.if_eq (tgt := 56) dX1_readLine_49 (by decide) (fun c49 => ?_) (fun c49 => ?_)
        · refine J.iconst (0) dX1_readLine_56 (by decide) ?_
          first | (have e9 : rdLi b len y d = (true, ((rdS b len (rdKi b len y d).2.1).2, (rdKi b len y d).2.2)) := (by (unfold rdLi; rw [if_neg ((jB_0 _).mp c6), if_pos (Decidable.not_not.mp (fun h => c35 ((jB_0 _).mpr h)))]; unfold fin; rw [if_pos (Decidable.not_not.mp (fun h => c42 ((jB_0 _).mpr h))), show (rdS b len (rdKi b len y d).2.1).1 = true from (Decidable.not_not.mp (fun h => c49 ((jB_0 _).mpr h)))])); exact J.iret dX1_readLine_57 rfl (by decide) (Nat.le_refl _) (Nat.le_refl _) ⟨by rw [e9] <;> rfl, by rw [e9] <;> rfl⟩) | (have e9 : rdLi b len y d = (false, ((rdS b len (rdKi b len y d).2.1).2, (rdKi b len y d).2.2)) := (by (unfold rdLi; rw [if_neg ((jB_0 _).mp c6), if_pos (Decidable.not_not.mp (fun h => c35 ((jB_0 _).mpr h)))]; unfold fin; rw [if_pos (Decidable.not_not.mp (fun h => c42 ((jB_0 _).mpr h))), show (rdS b len (rdKi b len y d).2.1).1 = false from Bool.eq_false_iff.mpr ((jB_0 _).mp c49)])); exact J.iret dX1_readLine_57 rfl (by decide) (Nat.le_refl _) (Nat.le_refl _) ⟨by rw [e9] <;> rfl, by rw [e9] <;> rfl⟩) | (have e9 : rdLi b len y d = (false, (rdKi b len y d).2) := (by (unfold rdLi; rw [if_neg ((jB_0 _).mp c6), if_pos (Decidable.not_not.mp (fun h => c35 ((jB_0 _).mpr h)))]; unfold fin; rw [if_neg ((jB_0 _).mp c42)])); exact J.iret dX1_readLine_57 rfl (by decide) (Nat.le_refl _) (Nat.le_refl _) ⟨by rw [e9] <;> rfl, by rw [e9] <;> rfl⟩)
        · refine J.iconst (1) dX1_readLine_52 (by decide) ?_
          refine J.goto (tgt := 57) dX1_readLine_53 (by decide) ?_
          first | (have e9 : rdLi b len y d = (true, ((rdS b len (rdKi b len y d).2.1).2, (rdKi b len y d).2.2)) := (by (unfold rdLi; rw [if_neg ((jB_0 _).mp c6), if_pos (Decidable.not_not.mp (fun h => c35 ((jB_0 _).mpr h)))]; unfold fin; rw [if_pos (Decidable.not_not.mp (fun h => c42 ((jB_0 _).mpr h))), show (rdS b len (rdKi b len y d).2.1).1 = true from (Decidable.not_not.mp (fun h => c49 ((jB_0 _).mpr h)))])); exact J.iret dX1_readLine_57 rfl (by decide) (Nat.le_refl _) (Nat.le_refl _) ⟨by rw [e9] <;> rfl, by rw [e9] <;> rfl⟩) | (have e9 : rdLi b len y d = (false, ((rdS b len (rdKi b len y d).2.1).2, (rdKi b len y d).2.2)) := (by (unfold rdLi; rw [if_neg ((jB_0 _).mp c6), if_pos (Decidable.not_not.mp (fun h => c35 ((jB_0 _).mpr h)))]; unfold fin; rw [if_pos (Decidable.not_not.mp (fun h => c42 ((jB_0 _).mpr h))), show (rdS b len (rdKi b len y d).2.1).1 = false from Bool.eq_false_iff.mpr ((jB_0 _).mp c49)])); exact J.iret dX1_readLine_57 rfl (by decide) (Nat.le_refl _) (Nat.le_refl _) ⟨by rw [e9] <;> rfl, by rw [e9] <;> rfl⟩) | (have e9 : rdLi b len y d = (false, (rdKi b len y d).2) := (by (unfold rdLi; rw [if_neg ((jB_0 _).mp c6), if_pos (Decidable.not_not.mp (fun h => c35 ((jB_0 _).mpr h)))]; unfold fin; rw [if_neg ((jB_0 _).mp c42)])); exact J.iret dX1_readLine_57 rfl (by decide) (Nat.le_refl _) (Nat.le_refl _) ⟨by rw [e9] <;> rfl, by rw [e9] <;> rfl⟩)
  · refine J.aload_n dX1_readLine_9 rfl rfl ?_
    refine J.cv (as := []) (is := [0, 1, 2, 3, 4, 5, 6, 7, 8, 9]) (o := 0) okX1_readHair jcX1_77 (mX1_readHair b len d hb hl y hy.2.1 hy.2.2.2.2.2.2.1 hy.2.2.2.2.2.2.2.2.2) dX1_readLine_10 rfl rfl rfl rfl rfl rfl rfl (fun r9 B9 hq => ?_)
    obtain ⟨rfl, rfl⟩ := hq
    refine ⟨rfl, ?_⟩
    show J _ _ _ _ _ (.int _ :: _) (wX b len (rdHa b len y d).2.2 (rdHa b len y d).2.1) _ _
    refine J.if_eq (tgt := 27) dX1_readLine_13 (by decide) (fun c13 => ?_) (fun c13 => ?_)
    · refine J.iconst (0) dX1_readLine_27 (by decide) ?_
      first | (have e9 : rdLi b len y d = (true, ((rdS b len (rdHa b len y d).2.1).2, (rdHa b len y d).2.2)) := (by (unfold rdLi; rw [if_pos (Decidable.not_not.mp (fun h => c6 ((jB_0 _).mpr h)))]; unfold fin; rw [if_pos (Decidable.not_not.mp (fun h => c13 ((jB_0 _).mpr h))), show (rdS b len (rdHa b len y d).2.1).1 = true from (Decidable.not_not.mp (fun h => c20 ((jB_0 _).mpr h)))])); exact J.iret dX1_readLine_28 rfl (by decide) (Nat.le_refl _) (Nat.le_refl _) ⟨by rw [e9] <;> rfl, by rw [e9] <;> rfl⟩) | (have e9 : rdLi b len y d = (false, ((rdS b len (rdHa b len y d).2.1).2, (rdHa b len y d).2.2)) := (by (unfold rdLi; rw [if_pos (Decidable.not_not.mp (fun h => c6 ((jB_0 _).mpr h)))]; unfold fin; rw [if_pos (Decidable.not_not.mp (fun h => c13 ((jB_0 _).mpr h))), show (rdS b len (rdHa b len y d).2.1).1 = false from Bool.eq_false_iff.mpr ((jB_0 _).mp c20)])); exact J.iret dX1_readLine_28 rfl (by decide) (Nat.le_refl _) (Nat.le_refl _) ⟨by rw [e9] <;> rfl, by rw [e9] <;> rfl⟩) | (have e9 : rdLi b len y d = (false, (rdHa b len y d).2) := (by (unfold rdLi; rw [if_pos (Decidable.not_not.mp (fun h => c6 ((jB_0 _).mpr h)))]; unfold fin; rw [if_neg ((jB_0 _).mp c13)])); exact J.iret dX1_readLine_28 rfl (by decide) (Nat.le_refl _) (Nat.le_refl _) ⟨by rw [e9] <;> rfl, by rw [e9] <;> rfl⟩)
    · refine J.aload_n dX1_readLine_16 rfl rfl ?_
      refine J.cv (as := []) (is := [0, 1, 2, 3, 4, 5, 6, 7, 8, 9]) (o := 0) okX1_readStop jcX1_80 (mX1_readStop b len (rdHa b len y d).2.2 hb hl (rdHa b len y d).2.1 (yOK.Ha hy).2.1) dX1_readLine_17 rfl rfl rfl rfl rfl rfl rfl (fun r9 B9 hq => ?_)
      obtain ⟨rfl, rfl⟩ := hq
      refine ⟨rfl, ?_⟩
      show J _ _ _ _ _ (.int _ :: _) (wX b len (rdHa b len y d).2.2 (rdS b len (rdHa b len y d).2.1).2) _ _
      refine J.if_eq (tgt := 27) dX1_readLine_20 (by decide) (fun c20 => ?_) (fun c20 => ?_)
      · refine J.iconst (0) dX1_readLine_27 (by decide) ?_
        first | (have e9 : rdLi b len y d = (true, ((rdS b len (rdHa b len y d).2.1).2, (rdHa b len y d).2.2)) := (by (unfold rdLi; rw [if_pos (Decidable.not_not.mp (fun h => c6 ((jB_0 _).mpr h)))]; unfold fin; rw [if_pos (Decidable.not_not.mp (fun h => c13 ((jB_0 _).mpr h))), show (rdS b len (rdHa b len y d).2.1).1 = true from (Decidable.not_not.mp (fun h => c20 ((jB_0 _).mpr h)))])); exact J.iret dX1_readLine_28 rfl (by decide) (Nat.le_refl _) (Nat.le_refl _) ⟨by rw [e9] <;> rfl, by rw [e9] <;> rfl⟩) | (have e9 : rdLi b len y d = (false, ((rdS b len (rdHa b len y d).2.1).2, (rdHa b len y d).2.2)) := (by (unfold rdLi; rw [if_pos (Decidable.not_not.mp (fun h => c6 ((jB_0 _).mpr h)))]; unfold fin; rw [if_pos (Decidable.not_not.mp (fun h => c13 ((jB_0 _).mpr h))), show (rdS b len (rdHa b len y d).2.1).1 = false from Bool.eq_false_iff.mpr ((jB_0 _).mp c20)])); exact J.iret dX1_readLine_28 rfl (by decide) (Nat.le_refl _) (Nat.le_refl _) ⟨by rw [e9] <;> rfl, by rw [e9] <;> rfl⟩) | (have e9 : rdLi b len y d = (false, (rdHa b len y d).2) := (by (unfold rdLi; rw [if_pos (Decidable.not_not.mp (fun h => c6 ((jB_0 _).mpr h)))]; unfold fin; rw [if_neg ((jB_0 _).mp c13)])); exact J.iret dX1_readLine_28 rfl (by decide) (Nat.le_refl _) (Nat.le_refl _) ⟨by rw [e9] <;> rfl, by rw [e9] <;> rfl⟩)
      · refine J.iconst (1) dX1_readLine_23 (by decide) ?_
        refine J.goto (tgt := 28) dX1_readLine_24 (by decide) ?_
        first | (have e9 : rdLi b len y d = (true, ((rdS b len (rdHa b len y d).2.1).2, (rdHa b len y d).2.2)) := (by (unfold rdLi; rw [if_pos (Decidable.not_not.mp (fun h => c6 ((jB_0 _).mpr h)))]; unfold fin; rw [if_pos (Decidable.not_not.mp (fun h => c13 ((jB_0 _).mpr h))), show (rdS b len (rdHa b len y d).2.1).1 = true from (Decidable.not_not.mp (fun h => c20 ((jB_0 _).mpr h)))])); exact J.iret dX1_readLine_28 rfl (by decide) (Nat.le_refl _) (Nat.le_refl _) ⟨by rw [e9] <;> rfl, by rw [e9] <;> rfl⟩) | (have e9 : rdLi b len y d = (false, ((rdS b len (rdHa b len y d).2.1).2, (rdHa b len y d).2.2)) := (by (unfold rdLi; rw [if_pos (Decidable.not_not.mp (fun h => c6 ((jB_0 _).mpr h)))]; unfold fin; rw [if_pos (Decidable.not_not.mp (fun h => c13 ((jB_0 _).mpr h))), show (rdS b len (rdHa b len y d).2.1).1 = false from Bool.eq_false_iff.mpr ((jB_0 _).mp c20)])); exact J.iret dX1_readLine_28 rfl (by decide) (Nat.le_refl _) (Nat.le_refl _) ⟨by rw [e9] <;> rfl, by rw [e9] <;> rfl⟩) | (have e9 : rdLi b len y d = (false, (rdHa b len y d).2) := (by (unfold rdLi; rw [if_pos (Decidable.not_not.mp (fun h => c6 ((jB_0 _).mpr h)))]; unfold fin; rw [if_neg ((jB_0 _).mp c13)])); exact J.iret dX1_readLine_28 rfl (by decide) (Nat.le_refl _) (Nat.le_refl _) ⟨by rw [e9] <;> rfl, by rw [e9] <;> rfl⟩)
/-- the lines, up to the first FAULT: how many, and what is left; k the most that may come -/
def rdA (b : Nat → Nat) (len : Nat) : Nat → Nat → (Nat → Nat) → rT → Nat × pT
  | 0, l, y, d => (l, (y, d))
  | k + 1, l, y, d => if ntoB b len (y 2) = true then (if yN b len y 0 = 0 then (l, (yN b len y, d)) else if (rdLi b len (yN b len y) d).1 = true then rdA b len k (l + 1) (rdLi b len (yN b len y) d).2.1 (rdLi b len (yN b len y) d).2.2 else (l, (rdLi b len (yN b len y) d).2)) else (l, (yN b len y, d))
/-- ... ahead of a TOKEN -/
def zOK (len : Nat) (y : Nat → Nat) (d : rT) : Prop := y 2 ≤ len ∧ y 4 < 8 ∧ y 5 ≤ 1 ∧ y 6 ≤ 1 ∧ d 6 0 ≤ 3 ∧ d 6 1 ≤ 4 ∧ d 6 2 ≤ 3 ∧ d 6 3 < 8
theorem yOK.z {len : Nat} {y : Nat → Nat} {d : rT} (h : yOK len y d) : zOK len y d := ⟨h.2.1, h.2.2.2⟩
theorem zOK.N {b : Nat → Nat} {len : Nat} {y : Nat → Nat} {d : rT} (h : zOK len y d) : yOK len (yN b len y) d := ⟨(yN_2 h.1).1, (yN_2 h.1).2, yN_0 b len y, h.2⟩
theorem zOK.A {b : Nat → Nat} {len : Nat} : ∀ (k l : Nat) (y : Nat → Nat) (d : rT), zOK len y d → zOK len (rdA b len k l y d).2.1 (rdA b len k l y d).2.2
  | 0, l, y, d, h => h
  | k + 1, l, y, d, h => by
    simp only [rdA]
    split
    · split
      · exact h.N.z
      · split
        · exact zOK.A k (l + 1) _ _ h.N.Li.z
        · exact h.N.Li.z
    · exact h.N.z
theorem rdA_l {b : Nat → Nat} {len : Nat} : ∀ (k l : Nat) (y : Nat → Nat) (d : rT), (rdA b len k l y d).1 ≤ l + k
  | 0, l, y, d => Nat.le_refl _
  | k + 1, l, y, d => by
    simp only [rdA]
    split
    · split
      · exact Nat.le_add_right _ _
      · split
        · have := rdA_l (b := b) (len := len) k (l + 1) (rdLi b len (yN b len y) d).2.1 (rdLi b len (yN b len y) d).2.2
          omega
        · exact Nat.le_add_right _ _
    · exact Nat.le_add_right _ _
/-- behind the lines: a broken HAIR that there is not; what is WHOLE -/
def yE (len : Nat) (y : Nat → Nat) (d : rT) : Nat → Nat := if nI (y 7) = 0 ∧ ¬ y 4 / 2 ^ d 6 0 = 0 then yF y 6 len else y
def yA0 (y : Nat → Nat) : Nat → Nat := yset (yset (yset (yset (yset y 2 0) 4 0) 5 0) 6 0) 7 0
def ansA (l : Nat) (y : Nat → Nat) : Int32 := if nI (y 7) = 0 then nI l else -10 - nI (y 8)
theorem shr_eval : ∀ w, w < 8 → ∀ i, i < 4 → nI w >>> (nI i &&& 31) = nI (w / 2 ^ i) := by decide +kernel
set_option maxRecDepth 100000 in
set_option maxHeartbeats 4000000 in
theorem mX1_readAll_e (b : Nat → Nat) (len : Nat) (hb : ∀ j, b j < 128) (hl : len ≤ 160) (p : Nat → Nat) (e : rT) (l : Nat) (z : Option Value) (hp : zOK len p e) : J KX1_readAll 10 (fun o B => o = some (.int (ansA l (yE len p e))) ∧ B = wX b len (rset e 6 3 (e 6 3 &&& (7 - p 4))) (yE len p e)) 73 [some (.ref 0), some (.int (nI l)), z] [] (wX b len e p) 0 0 := by
  refine J.aload_n dX1_readAll_73 rfl rfl ?_
  refine J.getfield dX1_readAll_74 jFX1_25 rfl rfl ?_
  refine J.if_ne (tgt := 109) dX1_readAll_77 (by decide) (fun c77 => ?_) (fun c77 => ?_)
  · have e9 : yE len p e = p := if_neg (fun h => c77 h.1)
    refine J.aload_n dX1_readAll_109 rfl rfl ?_
    refine J.getfield dX1_readAll_110 jFX1_21 rfl rfl ?_
    refine J.dup dX1_readAll_113 rfl ?_
    refine J.getfield dX1_readAll_114 jFX1_65 rfl rfl ?_
    refine J.aload_n dX1_readAll_117 rfl rfl ?_
    refine J.getfield dX1_readAll_118 jFX1_35 rfl rfl ?_
    refine J.iconst (-1) dX1_readAll_121 (by decide) ?_
    refine J.ixor dX1_readAll_122 ?_
    refine J.iand dX1_readAll_123 ?_
    first | rw [wo_eval _ hp.2.2.2.2.2.2.2 _ hp.2.1] | rw [show nI (yF p 6 len 4) = nI (p 4) from rfl, wo_eval _ hp.2.2.2.2.2.2.2 _ hp.2.1]
    refine J.putfield dX1_readAll_124 jFX1_65 jP2_9 rfl rfl rfl (Nat.le_of_ble_eq_true rfl) ?_
    try dsimp only [List.set, wX]
    refine J.aload_n dX1_readAll_127 rfl rfl ?_
    refine J.getfield dX1_readAll_128 jFX1_25 rfl rfl ?_
    refine J.if_ne (tgt := 138) dX1_readAll_131 (by decide) (fun c131 => ?_) (fun c131 => ?_)
    · refine J.bipush (-10) dX1_readAll_138 (by decide) ?_
      refine J.aload_n dX1_readAll_140 rfl rfl ?_
      refine J.getfield dX1_readAll_141 jFX1_68 rfl rfl ?_
      refine J.isub dX1_readAll_144 ?_
      refine J.iret dX1_readAll_145 rfl rfl (Nat.le_refl _) (Nat.le_refl _) ⟨congrArg (fun x => some (Value.int x)) ?_, by rw [e9] <;> rfl⟩
      rw [e9]
      unfold ansA
      first | rw [if_pos c131] | rw [if_neg c131]
    · refine J.iload_n dX1_readAll_134 rfl rfl ?_
      refine J.goto (tgt := 145) dX1_readAll_135 (by decide) ?_
      refine J.iret dX1_readAll_145 rfl rfl (Nat.le_refl _) (Nat.le_refl _) ⟨congrArg (fun x => some (Value.int x)) ?_, by rw [e9] <;> rfl⟩
      rw [e9]
      unfold ansA
      first | rw [if_pos c131] | rw [if_neg c131]
  · refine J.aload_n dX1_readAll_80 rfl rfl ?_
    refine J.getfield dX1_readAll_81 jFX1_35 rfl rfl ?_
    refine J.aload_n dX1_readAll_84 rfl rfl ?_
    refine J.getfield dX1_readAll_85 jFX1_21 rfl rfl ?_
    refine J.getfield dX1_readAll_88 jFX1_55 rfl rfl ?_
    refine J.ishr dX1_readAll_91 ?_
    rw [shr_eval _ hp.2.1 _ (by have := hp.2.2.2.2.1; omega)]
    refine J.if_eq (tgt := 109) dX1_readAll_92 (by decide) (fun c92 => ?_) (fun c92 => ?_)
    · have e9 : yE len p e = p := if_neg (fun h => h.2 ((nI_eqi (b := 0) (Nat.lt_of_le_of_lt (Nat.div_le_self _ _) (by have := hp.2.1; omega)) (by decide)).mp c92))
      refine J.aload_n dX1_readAll_109 rfl rfl ?_
      refine J.getfield dX1_readAll_110 jFX1_21 rfl rfl ?_
      refine J.dup dX1_readAll_113 rfl ?_
      refine J.getfield dX1_readAll_114 jFX1_65 rfl rfl ?_
      refine J.aload_n dX1_readAll_117 rfl rfl ?_
      refine J.getfield dX1_readAll_118 jFX1_35 rfl rfl ?_
      refine J.iconst (-1) dX1_readAll_121 (by decide) ?_
      refine J.ixor dX1_readAll_122 ?_
      refine J.iand dX1_readAll_123 ?_
      first | rw [wo_eval _ hp.2.2.2.2.2.2.2 _ hp.2.1] | rw [show nI (yF p 6 len 4) = nI (p 4) from rfl, wo_eval _ hp.2.2.2.2.2.2.2 _ hp.2.1]
      refine J.putfield dX1_readAll_124 jFX1_65 jP2_9 rfl rfl rfl (Nat.le_of_ble_eq_true rfl) ?_
      try dsimp only [List.set, wX]
      refine J.aload_n dX1_readAll_127 rfl rfl ?_
      refine J.getfield dX1_readAll_128 jFX1_25 rfl rfl ?_
      refine J.if_ne (tgt := 138) dX1_readAll_131 (by decide) (fun c131 => ?_) (fun c131 => ?_)
      · refine J.bipush (-10) dX1_readAll_138 (by decide) ?_
        refine J.aload_n dX1_readAll_140 rfl rfl ?_
        refine J.getfield dX1_readAll_141 jFX1_68 rfl rfl ?_
        refine J.isub dX1_readAll_144 ?_
        refine J.iret dX1_readAll_145 rfl rfl (Nat.le_refl _) (Nat.le_refl _) ⟨congrArg (fun x => some (Value.int x)) ?_, by rw [e9] <;> rfl⟩
        rw [e9]
        unfold ansA
        first | rw [if_pos c131] | rw [if_neg c131]
      · refine J.iload_n dX1_readAll_134 rfl rfl ?_
        refine J.goto (tgt := 145) dX1_readAll_135 (by decide) ?_
        refine J.iret dX1_readAll_145 rfl rfl (Nat.le_refl _) (Nat.le_refl _) ⟨congrArg (fun x => some (Value.int x)) ?_, by rw [e9] <;> rfl⟩
        rw [e9]
        unfold ansA
        first | rw [if_pos c131] | rw [if_neg c131]
    · refine J.aload_n dX1_readAll_95 rfl rfl ?_
      refine J.bipush (6) dX1_readAll_96 (by decide) ?_
      refine J.aload_n dX1_readAll_98 rfl rfl ?_
      refine J.getfield dX1_readAll_99 jFX1_12 rfl rfl ?_
      refine J.getfield dX1_readAll_102 jFX1_58 rfl rfl ?_
      refine J.cv (as := [.int (nI 6), .int _]) (is := [0, 1, 2, 3, 4, 5, 6, 7, 8, 9]) (o := 0) okX1_fail jcX1_61 (mX1_fail b len e p 6 len) dX1_readAll_105 rfl rfl rfl rfl rfl rfl rfl (fun r9 B9 hq => ?_)
      obtain ⟨rfl, rfl⟩ := hq
      refine ⟨rfl, ?_⟩
      show J _ _ _ _ _ (.int 0 :: _) (wX b len e (yF p 6 len)) _ _
      refine J.pop dX1_readAll_108 rfl ?_
      have e9 : yE len p e = (yF p 6 len) := if_pos ⟨c77, fun h => c92 (congrArg nI h)⟩
      refine J.aload_n dX1_readAll_109 rfl rfl ?_
      refine J.getfield dX1_readAll_110 jFX1_21 rfl rfl ?_
      refine J.dup dX1_readAll_113 rfl ?_
      refine J.getfield dX1_readAll_114 jFX1_65 rfl rfl ?_
      refine J.aload_n dX1_readAll_117 rfl rfl ?_
      refine J.getfield dX1_readAll_118 jFX1_35 rfl rfl ?_
      refine J.iconst (-1) dX1_readAll_121 (by decide) ?_
      refine J.ixor dX1_readAll_122 ?_
      refine J.iand dX1_readAll_123 ?_
      first | rw [wo_eval _ hp.2.2.2.2.2.2.2 _ hp.2.1] | rw [show nI (yF p 6 len 4) = nI (p 4) from rfl, wo_eval _ hp.2.2.2.2.2.2.2 _ hp.2.1]
      refine J.putfield dX1_readAll_124 jFX1_65 jP2_9 rfl rfl rfl (Nat.le_of_ble_eq_true rfl) ?_
      try dsimp only [List.set, wX]
      refine J.aload_n dX1_readAll_127 rfl rfl ?_
      refine J.getfield dX1_readAll_128 jFX1_25 rfl rfl ?_
      refine J.if_ne (tgt := 138) dX1_readAll_131 (by decide) (fun c131 => ?_) (fun c131 => ?_)
      · refine J.bipush (-10) dX1_readAll_138 (by decide) ?_
        refine J.aload_n dX1_readAll_140 rfl rfl ?_
        refine J.getfield dX1_readAll_141 jFX1_68 rfl rfl ?_
        refine J.isub dX1_readAll_144 ?_
        refine J.iret dX1_readAll_145 rfl rfl (Nat.le_refl _) (Nat.le_refl _) ⟨congrArg (fun x => some (Value.int x)) ?_, by rw [e9] <;> rfl⟩
        rw [e9]
        unfold ansA
        first | rw [if_pos c131] | rw [if_neg c131]
      · refine J.iload_n dX1_readAll_134 rfl rfl ?_
        refine J.goto (tgt := 145) dX1_readAll_135 (by decide) ?_
        refine J.iret dX1_readAll_145 rfl rfl (Nat.le_refl _) (Nat.le_refl _) ⟨congrArg (fun x => some (Value.int x)) ?_, by rw [e9] <;> rfl⟩
        rw [e9]
        unfold ansA
        first | rw [if_pos c131] | rw [if_neg c131]
set_option maxRecDepth 100000 in
set_option maxHeartbeats 4000000 in
theorem mX1_readAll_l (b : Nat → Nat) (len : Nat) (hb : ∀ j, b j < 128) (hl : len ≤ 160) : ∀ (k l i : Nat) (y : Nat → Nat) (d : rT), i + k = 161 → zOK len y d → J KX1_readAll 10 (fun o B => o = some (.int (ansA (rdA b len k l y d).1 (yE len (rdA b len k l y d).2.1 (rdA b len k l y d).2.2))) ∧ B = wX b len (rset (rdA b len k l y d).2.2 6 3 ((rdA b len k l y d).2.2 6 3 &&& (7 - (rdA b len k l y d).2.1 4))) (yE len (rdA b len k l y d).2.1 (rdA b len k l y d).2.2)) 36 [some (.ref 0), some (.int (nI l)), some (.int (nI i))] [] (wX b len d y) 0 0 := by
  intro k
  induction k with
  | zero =>
    intro l i y d hi hy
    refine J.iload_n dX1_readAll_36 rfl rfl ?_
    refine J.sipush (160) dX1_readAll_37 (by decide) ?_
    refine J.icmp_gt (tgt := 73) dX1_readAll_40 (by decide) (fun c40 => ?_) (fun c40 => absurd c40 (fun h => h ((nI_lti (a := 160) (by decide) (by omega)).mpr (by omega))))
    exact mX1_readAll_e b len hb hl y d l _ hy
  | succ k ih =>
    intro l i y d hi hy
    refine J.iload_n dX1_readAll_36 rfl rfl ?_
    refine J.sipush (160) dX1_readAll_37 (by decide) ?_
    refine J.icmp_gt (tgt := 73) dX1_readAll_40 (by decide) (fun c40 => absurd c40 (fun h => absurd ((nI_lti (a := 160) (by decide) (by omega)).mp h) (by omega))) (fun c40 => ?_)
    refine J.aload_n dX1_readAll_43 rfl rfl ?_
    refine J.cv (as := []) (is := [0, 1, 2, 3, 4, 5, 6, 7, 8, 9]) (o := 0) okX1_nextToken jcX1_45 (mX1_next b len d hb hl y hy.1) dX1_readAll_44 rfl rfl rfl rfl rfl rfl rfl (fun r9 B9 hq => ?_)
    obtain ⟨rfl, rfl⟩ := hq
    refine ⟨rfl, ?_⟩
    show J _ _ _ _ _ (.int _ :: _) (wX b len d (yN b len y)) _ _
    refine J.if_eq (tgt := 73) dX1_readAll_47 (by decide) (fun c47 => ?_) (fun c47 => ?_)
    · first | (have e9 : rdA b len (k + 1) l y d = (l, ((yN b len y), d)) := (by (simp only [rdA]; rw [if_neg ((jB_0 _).mp c47)])); rw [e9]; exact mX1_readAll_e b len hb hl (yN b len y) d l _ hy.N.z) | (have e9 : rdA b len (k + 1) l y d = (l, ((yN b len y), d)) := (by (simp only [rdA]; rw [if_pos (Decidable.not_not.mp (fun h => c47 ((jB_0 _).mpr h))), if_pos ((nI_eqi (b := 0) (by have := yN_0 b len y; omega) (by decide)).mp c54)])); rw [e9]; exact mX1_readAll_e b len hb hl (yN b len y) d l _ hy.N.z) | (have e9 : rdA b len (k + 1) l y d = (l, (rdLi b len (yN b len y) d).2) := (by (simp only [rdA]; rw [if_pos (Decidable.not_not.mp (fun h => c47 ((jB_0 _).mpr h))), if_neg (fun h => c54 (congrArg nI h)), if_neg ((jB_0 _).mp c61)])); rw [e9]; exact mX1_readAll_e b len hb hl (rdLi b len (yN b len y) d).2.1 (rdLi b len (yN b len y) d).2.2 l _ hy.N.Li.z)
    · refine J.aload_n dX1_readAll_50 rfl rfl ?_
      refine J.getfield dX1_readAll_51 jFX1_49 rfl rfl ?_
      refine J.if_eq (tgt := 73) dX1_readAll_54 (by decide) (fun c54 => ?_) (fun c54 => ?_)
      · first | (have e9 : rdA b len (k + 1) l y d = (l, ((yN b len y), d)) := (by (simp only [rdA]; rw [if_neg ((jB_0 _).mp c47)])); rw [e9]; exact mX1_readAll_e b len hb hl (yN b len y) d l _ hy.N.z) | (have e9 : rdA b len (k + 1) l y d = (l, ((yN b len y), d)) := (by (simp only [rdA]; rw [if_pos (Decidable.not_not.mp (fun h => c47 ((jB_0 _).mpr h))), if_pos ((nI_eqi (b := 0) (by have := yN_0 b len y; omega) (by decide)).mp c54)])); rw [e9]; exact mX1_readAll_e b len hb hl (yN b len y) d l _ hy.N.z) | (have e9 : rdA b len (k + 1) l y d = (l, (rdLi b len (yN b len y) d).2) := (by (simp only [rdA]; rw [if_pos (Decidable.not_not.mp (fun h => c47 ((jB_0 _).mpr h))), if_neg (fun h => c54 (congrArg nI h)), if_neg ((jB_0 _).mp c61)])); rw [e9]; exact mX1_readAll_e b len hb hl (rdLi b len (yN b len y) d).2.1 (rdLi b len (yN b len y) d).2.2 l _ hy.N.Li.z)
      · refine J.aload_n dX1_readAll_57 rfl rfl ?_
        refine J.cv (as := []) (is := [0, 1, 2, 3, 4, 5, 6, 7, 8, 9]) (o := 0) okX1_readLine jcX1_52 (mX1_readLine b len d hb hl (yN b len y) hy.N) dX1_readAll_58 rfl rfl rfl rfl rfl rfl rfl (fun r9 B9 hq => ?_)
        obtain ⟨rfl, rfl⟩ := hq
        refine ⟨rfl, ?_⟩
        show J _ _ _ _ _ (.int _ :: _) (wX b len (rdLi b len (yN b len y) d).2.2 (rdLi b len (yN b len y) d).2.1) _ _
        refine J.if_eq (tgt := 73) dX1_readAll_61 (by decide) (fun c61 => ?_) (fun c61 => ?_)
        · first | (have e9 : rdA b len (k + 1) l y d = (l, ((yN b len y), d)) := (by (simp only [rdA]; rw [if_neg ((jB_0 _).mp c47)])); rw [e9]; exact mX1_readAll_e b len hb hl (yN b len y) d l _ hy.N.z) | (have e9 : rdA b len (k + 1) l y d = (l, ((yN b len y), d)) := (by (simp only [rdA]; rw [if_pos (Decidable.not_not.mp (fun h => c47 ((jB_0 _).mpr h))), if_pos ((nI_eqi (b := 0) (by have := yN_0 b len y; omega) (by decide)).mp c54)])); rw [e9]; exact mX1_readAll_e b len hb hl (yN b len y) d l _ hy.N.z) | (have e9 : rdA b len (k + 1) l y d = (l, (rdLi b len (yN b len y) d).2) := (by (simp only [rdA]; rw [if_pos (Decidable.not_not.mp (fun h => c47 ((jB_0 _).mpr h))), if_neg (fun h => c54 (congrArg nI h)), if_neg ((jB_0 _).mp c61)])); rw [e9]; exact mX1_readAll_e b len hb hl (rdLi b len (yN b len y) d).2.1 (rdLi b len (yN b len y) d).2.2 l _ hy.N.Li.z)
        · refine J.iinc (1) dX1_readAll_64 (by decide) rfl (by decide) rfl ?_
          try dsimp only [List.set, wX]
          refine J.iinc (1) dX1_readAll_67 (by decide) rfl (by decide) rfl ?_
          try dsimp only [List.set, wX]
          refine J.goto (tgt := 36) dX1_readAll_70 (by decide) ?_
          have e9 : rdA b len (k + 1) l y d = rdA b len k (l + 1) (rdLi b len (yN b len y) d).2.1 (rdLi b len (yN b len y) d).2.2 := (by (simp only [rdA]; rw [if_pos (Decidable.not_not.mp (fun h => c47 ((jB_0 _).mpr h))), if_neg (fun h => c54 (congrArg nI h)), if_pos (Decidable.not_not.mp (fun h => c61 ((jB_0 _).mpr h)))]))
          rw [e9]
          exact J.at (ih (l + 1) (i + 1) (rdLi b len (yN b len y) d).2.1 (rdLi b len (yN b len y) d).2.2 (by omega) hy.N.Li.z) (by rw [← nI_1, ← nI_1]) rfl rfl
set_option maxRecDepth 100000 in
set_option maxHeartbeats 4000000 in
theorem mX1_readAll (b : Nat → Nat) (len : Nat) (d : rT) (hb : ∀ j, b j < 128) (hl : len ≤ 160) (y : Nat → Nat) : J KX1_readAll 10 (fun o B => o = some (.int (ansA (rdA b len 161 0 (yA0 y) (rclear d)).1 (yE len ((rdA b len 161 0 (yA0 y) (rclear d)).2.1) ((rdA b len 161 0 (yA0 y) (rclear d)).2.2)))) ∧ B = wX b len (rset ((rdA b len 161 0 (yA0 y) (rclear d)).2.2) 6 3 (((rdA b len 161 0 (yA0 y) (rclear d)).2.2) 6 3 &&& (7 - ((rdA b len 161 0 (yA0 y) (rclear d)).2.1) 4))) (yE len ((rdA b len 161 0 (yA0 y) (rclear d)).2.1) ((rdA b len 161 0 (yA0 y) (rclear d)).2.2))) 0 [some (.ref 0), none, none] [] (wX b len d y) 0 0 := by
  refine J.aload_n dX1_readAll_0 rfl rfl ?_
  refine J.getfield dX1_readAll_1 jFX1_21 rfl rfl ?_
  refine J.cv (as := []) (is := [3, 4, 5, 6, 7, 8, 9]) (o := 0) okX2_clear jcX1_29 (mX2_clear d) dX1_readAll_4 rfl rfl rfl rfl rfl rfl rfl (fun r9 B9 hq => ?_)
  obtain ⟨rfl, rfl⟩ := hq
  refine ⟨rfl, ?_⟩
  show J _ _ _ _ _ [] (wX b len (rclear d) y) _ _
  refine J.aload_n dX1_readAll_7 rfl rfl ?_
  refine J.iconst (0) dX1_readAll_8 (by decide) ?_
  refine J.putfield dX1_readAll_9 jFX1_32 jP1_4 rfl rfl rfl (Nat.le_of_ble_eq_true rfl) ?_
  try dsimp only [List.set, wX]
  refine J.aload_n dX1_readAll_12 rfl rfl ?_
  refine J.iconst (0) dX1_readAll_13 (by decide) ?_
  refine J.putfield dX1_readAll_14 jFX1_35 jP1_6 rfl rfl rfl (Nat.le_of_ble_eq_true rfl) ?_
  try dsimp only [List.set, wX]
  refine J.aload_n dX1_readAll_17 rfl rfl ?_
  refine J.iconst (0) dX1_readAll_18 (by decide) ?_
  refine J.putfield dX1_readAll_19 jFX1_38 jP1_7 rfl (by decide) (by decide) (Nat.le_of_ble_eq_true rfl) ?_
  try dsimp only [List.set, wX]
  refine J.aload_n dX1_readAll_22 rfl rfl ?_
  refine J.iconst (0) dX1_readAll_23 (by decide) ?_
  refine J.putfield dX1_readAll_24 jFX1_42 jP1_8 rfl (by decide) (by decide) (Nat.le_of_ble_eq_true rfl) ?_
  try dsimp only [List.set, wX]
  refine J.aload_n dX1_readAll_27 rfl rfl ?_
  refine J.iconst (0) dX1_readAll_28 (by decide) ?_
  refine J.putfield dX1_readAll_29 jFX1_25 jP1_9 rfl rfl rfl (Nat.le_of_ble_eq_true rfl) ?_
  try dsimp only [List.set, wX]
  refine J.iconst (0) dX1_readAll_32 (by decide) ?_
  refine J.istore_n dX1_readAll_33 rfl (by decide) rfl ?_
  try dsimp only [List.set, wX]
  refine J.iconst (0) dX1_readAll_34 (by decide) ?_
  refine J.istore_n dX1_readAll_35 rfl (by decide) rfl ?_
  try dsimp only [List.set, wX]
  exact J.at (mX1_readAll_l b len hb hl 161 0 0 (yA0 y) (rclear d) (by decide) ⟨Nat.zero_le _, (by show 0 < 8; decide), (by show 0 ≤ 1; decide), (by show 0 ≤ 1; decide), (by show 0 ≤ 3; decide), (by show 0 ≤ 4; decide), (by show 0 ≤ 3; decide), (by show 0 < 8; decide)⟩) rfl rfl rfl
