theorem dX6_drift_0 : decode cX6_drift 0 = .ok (.iload_n 2, 1) := by decide +kernel
theorem dX6_drift_1 : decode cX6_drift 1 = .ok (.iconst 1, 1) := by decide +kernel
theorem dX6_drift_2 : decode cX6_drift 2 = .ok (.bipush 60, 2) := by decide +kernel
theorem dX6_drift_4 : decode cX6_drift 4 = .ok (.invokestatic 59, 3) := by decide +kernel
theorem dX6_drift_7 : decode cX6_drift 7 = .ok (.ifCond .eq 12, 3) := by decide +kernel
theorem dX6_drift_10 : decode cX6_drift 10 = .ok (.iload_n 3, 1) := by decide +kernel
theorem dX6_drift_11 : decode cX6_drift 11 = .ok (.iconst 0, 1) := by decide +kernel
theorem dX6_drift_12 : decode cX6_drift 12 = .ok (.iconst 1, 1) := by decide +kernel
theorem dX6_drift_13 : decode cX6_drift 13 = .ok (.invokestatic 59, 3) := by decide +kernel
theorem dX6_drift_16 : decode cX6_drift 16 = .ok (.ifCond .ne 5, 3) := by decide +kernel
theorem dX6_drift_19 : decode cX6_drift 19 = .ok (.iconst (-1), 1) := by decide +kernel
theorem dX6_drift_20 : decode cX6_drift 20 = .ok (.ireturn, 1) := by decide +kernel
theorem dX6_drift_21 : decode cX6_drift 21 = .ok (.aload_n 0, 1) := by decide +kernel
theorem dX6_drift_22 : decode cX6_drift 22 = .ok (.getfield 16, 3) := by decide +kernel
theorem dX6_drift_25 : decode cX6_drift 25 = .ok (.aload_n 0, 1) := by decide +kernel
theorem dX6_drift_26 : decode cX6_drift 26 = .ok (.getfield 12, 3) := by decide +kernel
theorem dX6_drift_29 : decode cX6_drift 29 = .ok (.invokevirtual 86, 3) := by decide +kernel
theorem dX6_drift_32 : decode cX6_drift 32 = .ok (.iconst 0, 1) := by decide +kernel
theorem dX6_drift_33 : decode cX6_drift 33 = .ok (.istore 4, 2) := by decide +kernel
theorem dX6_drift_35 : decode cX6_drift 35 = .ok (.iload_n 1, 1) := by decide +kernel
theorem dX6_drift_36 : decode cX6_drift 36 = .ok (.istore 5, 2) := by decide +kernel
theorem dX6_drift_38 : decode cX6_drift 38 = .ok (.iconst 0, 1) := by decide +kernel
theorem dX6_drift_39 : decode cX6_drift 39 = .ok (.istore 6, 2) := by decide +kernel
theorem dX6_drift_41 : decode cX6_drift 41 = .ok (.iload 6, 2) := by decide +kernel
theorem dX6_drift_43 : decode cX6_drift 43 = .ok (.iload_n 2, 1) := by decide +kernel
theorem dX6_drift_44 : decode cX6_drift 44 = .ok (.if_icmp .ge 133, 3) := by decide +kernel
theorem dX6_drift_47 : decode cX6_drift 47 = .ok (.aload_n 0, 1) := by decide +kernel
theorem dX6_drift_48 : decode cX6_drift 48 = .ok (.getfield 16, 3) := by decide +kernel
theorem dX6_drift_51 : decode cX6_drift 51 = .ok (.getfield 111, 3) := by decide +kernel
theorem dX6_drift_54 : decode cX6_drift 54 = .ok (.ifCond .eq 123, 3) := by decide +kernel
theorem dX6_drift_57 : decode cX6_drift 57 = .ok (.iconst 0, 1) := by decide +kernel
theorem dX6_drift_58 : decode cX6_drift 58 = .ok (.istore 7, 2) := by decide +kernel
theorem dX6_drift_60 : decode cX6_drift 60 = .ok (.iconst 0, 1) := by decide +kernel
theorem dX6_drift_61 : decode cX6_drift 61 = .ok (.istore 8, 2) := by decide +kernel
theorem dX6_drift_63 : decode cX6_drift 63 = .ok (.iload 8, 2) := by decide +kernel
theorem dX6_drift_65 : decode cX6_drift 65 = .ok (.aload_n 0, 1) := by decide +kernel
theorem dX6_drift_66 : decode cX6_drift 66 = .ok (.getfield 16, 3) := by decide +kernel
theorem dX6_drift_69 : decode cX6_drift 69 = .ok (.getfield 93, 3) := by decide +kernel
theorem dX6_drift_72 : decode cX6_drift 72 = .ok (.if_icmp .ge 70, 3) := by decide +kernel
theorem dX6_drift_75 : decode cX6_drift 75 = .ok (.aload_n 0, 1) := by decide +kernel
theorem dX6_drift_76 : decode cX6_drift 76 = .ok (.getfield 16, 3) := by decide +kernel
theorem dX6_drift_79 : decode cX6_drift 79 = .ok (.iload 8, 2) := by decide +kernel
theorem dX6_drift_81 : decode cX6_drift 81 = .ok (.invokevirtual 121, 3) := by decide +kernel
theorem dX6_drift_84 : decode cX6_drift 84 = .ok (.iconst 1, 1) := by decide +kernel
theorem dX6_drift_85 : decode cX6_drift 85 = .ok (.if_icmp .ne 51, 3) := by decide +kernel
theorem dX6_drift_88 : decode cX6_drift 88 = .ok (.iload 5, 2) := by decide +kernel
theorem dX6_drift_90 : decode cX6_drift 90 = .ok (.ldc 223, 2) := by decide +kernel
theorem dX6_drift_92 : decode cX6_drift 92 = .ok (.imul, 1) := by decide +kernel
theorem dX6_drift_93 : decode cX6_drift 93 = .ok (.sipush 12345, 3) := by decide +kernel
theorem dX6_drift_96 : decode cX6_drift 96 = .ok (.iadd, 1) := by decide +kernel
theorem dX6_drift_97 : decode cX6_drift 97 = .ok (.istore 5, 2) := by decide +kernel
theorem dX6_drift_99 : decode cX6_drift 99 = .ok (.iload 7, 2) := by decide +kernel
theorem dX6_drift_101 : decode cX6_drift 101 = .ok (.iload 5, 2) := by decide +kernel
theorem dX6_drift_103 : decode cX6_drift 103 = .ok (.bipush 16, 2) := by decide +kernel
theorem dX6_drift_105 : decode cX6_drift 105 = .ok (.iushr, 1) := by decide +kernel
theorem dX6_drift_106 : decode cX6_drift 106 = .ok (.sipush 32767, 3) := by decide +kernel
theorem dX6_drift_109 : decode cX6_drift 109 = .ok (.iand, 1) := by decide +kernel
theorem dX6_drift_110 : decode cX6_drift 110 = .ok (.bipush 10, 2) := by decide +kernel
theorem dX6_drift_112 : decode cX6_drift 112 = .ok (.irem, 1) := by decide +kernel
theorem dX6_drift_113 : decode cX6_drift 113 = .ok (.aload_n 0, 1) := by decide +kernel
theorem dX6_drift_114 : decode cX6_drift 114 = .ok (.getfield 16, 3) := by decide +kernel
theorem dX6_drift_117 : decode cX6_drift 117 = .ok (.iload 8, 2) := by decide +kernel
theorem dX6_drift_119 : decode cX6_drift 119 = .ok (.invokevirtual 125, 3) := by decide +kernel
theorem dX6_drift_122 : decode cX6_drift 122 = .ok (.if_icmp .ge 10, 3) := by decide +kernel
theorem dX6_drift_125 : decode cX6_drift 125 = .ok (.iconst 1, 1) := by decide +kernel
theorem dX6_drift_126 : decode cX6_drift 126 = .ok (.iload 8, 2) := by decide +kernel
theorem dX6_drift_128 : decode cX6_drift 128 = .ok (.ishl, 1) := by decide +kernel
theorem dX6_drift_129 : decode cX6_drift 129 = .ok (.goto 4, 3) := by decide +kernel
theorem dX6_drift_132 : decode cX6_drift 132 = .ok (.iconst 0, 1) := by decide +kernel
theorem dX6_drift_133 : decode cX6_drift 133 = .ok (.ior, 1) := by decide +kernel
theorem dX6_drift_134 : decode cX6_drift 134 = .ok (.istore 7, 2) := by decide +kernel
theorem dX6_drift_136 : decode cX6_drift 136 = .ok (.iinc 8 1, 3) := by decide +kernel
theorem dX6_drift_139 : decode cX6_drift 139 = .ok (.goto (-76), 3) := by decide +kernel
theorem dX6_drift_142 : decode cX6_drift 142 = .ok (.aload_n 0, 1) := by decide +kernel
theorem dX6_drift_143 : decode cX6_drift 143 = .ok (.getfield 16, 3) := by decide +kernel
theorem dX6_drift_146 : decode cX6_drift 146 = .ok (.iload 7, 2) := by decide +kernel
theorem dX6_drift_148 : decode cX6_drift 148 = .ok (.invokevirtual 224, 3) := by decide +kernel
theorem dX6_drift_151 : decode cX6_drift 151 = .ok (.iload 4, 2) := by decide +kernel
theorem dX6_drift_153 : decode cX6_drift 153 = .ok (.aload_n 0, 1) := by decide +kernel
theorem dX6_drift_154 : decode cX6_drift 154 = .ok (.getfield 16, 3) := by decide +kernel
theorem dX6_drift_157 : decode cX6_drift 157 = .ok (.getfield 111, 3) := by decide +kernel
theorem dX6_drift_160 : decode cX6_drift 160 = .ok (.ifCond .eq 7, 3) := by decide +kernel
theorem dX6_drift_163 : decode cX6_drift 163 = .ok (.iconst 1, 1) := by decide +kernel
theorem dX6_drift_164 : decode cX6_drift 164 = .ok (.goto 4, 3) := by decide +kernel
theorem dX6_drift_167 : decode cX6_drift 167 = .ok (.iconst 0, 1) := by decide +kernel
theorem dX6_drift_168 : decode cX6_drift 168 = .ok (.iadd, 1) := by decide +kernel
theorem dX6_drift_169 : decode cX6_drift 169 = .ok (.istore 4, 2) := by decide +kernel
theorem dX6_drift_171 : decode cX6_drift 171 = .ok (.iinc 6 1, 3) := by decide +kernel
theorem dX6_drift_174 : decode cX6_drift 174 = .ok (.goto (-133), 3) := by decide +kernel
theorem dX6_drift_177 : decode cX6_drift 177 = .ok (.iload_n 3, 1) := by decide +kernel
theorem dX6_drift_178 : decode cX6_drift 178 = .ok (.ifCond .ne 8, 3) := by decide +kernel
theorem dX6_drift_181 : decode cX6_drift 181 = .ok (.iload 4, 2) := by decide +kernel
theorem dX6_drift_183 : decode cX6_drift 183 = .ok (.goto 10, 3) := by decide +kernel
theorem dX6_drift_186 : decode cX6_drift 186 = .ok (.aload_n 0, 1) := by decide +kernel
theorem dX6_drift_187 : decode cX6_drift 187 = .ok (.getfield 16, 3) := by decide +kernel
theorem dX6_drift_190 : decode cX6_drift 190 = .ok (.getfield 111, 3) := by decide +kernel
theorem dX6_drift_193 : decode cX6_drift 193 = .ok (.ireturn, 1) := by decide +kernel
theorem dX6_read_0 : decode cX6_read 0 = .ok (.iload_n 1, 1) := by decide +kernel
theorem dX6_read_1 : decode cX6_read 1 = .ok (.iconst 0, 1) := by decide +kernel
theorem dX6_read_2 : decode cX6_read 2 = .ok (.iconst 3, 1) := by decide +kernel
theorem dX6_read_3 : decode cX6_read 3 = .ok (.invokestatic 59, 3) := by decide +kernel
theorem dX6_read_6 : decode cX6_read 6 = .ok (.ifCond .eq 23, 3) := by decide +kernel
theorem dX6_read_9 : decode cX6_read 9 = .ok (.iload_n 2, 1) := by decide +kernel
theorem dX6_read_10 : decode cX6_read 10 = .ok (.iconst 0, 1) := by decide +kernel
theorem dX6_read_11 : decode cX6_read 11 = .ok (.iconst 2, 1) := by decide +kernel
theorem dX6_read_12 : decode cX6_read 12 = .ok (.invokestatic 59, 3) := by decide +kernel
theorem dX6_read_15 : decode cX6_read 15 = .ok (.ifCond .eq 14, 3) := by decide +kernel
theorem dX6_read_18 : decode cX6_read 18 = .ok (.iload 4, 2) := by decide +kernel
theorem dX6_read_20 : decode cX6_read 20 = .ok (.iconst 0, 1) := by decide +kernel
theorem dX6_read_21 : decode cX6_read 21 = .ok (.bipush 20, 2) := by decide +kernel
theorem dX6_read_23 : decode cX6_read 23 = .ok (.invokestatic 59, 3) := by decide +kernel
theorem dX6_read_26 : decode cX6_read 26 = .ok (.ifCond .ne 5, 3) := by decide +kernel
theorem dX6_read_29 : decode cX6_read 29 = .ok (.iconst (-1), 1) := by decide +kernel
theorem dX6_read_30 : decode cX6_read 30 = .ok (.ireturn, 1) := by decide +kernel
theorem dX6_read_31 : decode cX6_read 31 = .ok (.aload_n 0, 1) := by decide +kernel
theorem dX6_read_32 : decode cX6_read 32 = .ok (.getfield 50, 3) := by decide +kernel
theorem dX6_read_35 : decode cX6_read 35 = .ok (.iload_n 1, 1) := by decide +kernel
theorem dX6_read_36 : decode cX6_read 36 = .ok (.aaload, 1) := by decide +kernel
theorem dX6_read_37 : decode cX6_read 37 = .ok (.astore 5, 2) := by decide +kernel
theorem dX6_read_39 : decode cX6_read 39 = .ok (.aload_n 0, 1) := by decide +kernel
theorem dX6_read_40 : decode cX6_read 40 = .ok (.getfield 16, 3) := by decide +kernel
theorem dX6_read_43 : decode cX6_read 43 = .ok (.aload_n 0, 1) := by decide +kernel
theorem dX6_read_44 : decode cX6_read 44 = .ok (.getfield 12, 3) := by decide +kernel
theorem dX6_read_47 : decode cX6_read 47 = .ok (.invokevirtual 86, 3) := by decide +kernel
theorem dX6_read_50 : decode cX6_read 50 = .ok (.iconst 0, 1) := by decide +kernel
theorem dX6_read_51 : decode cX6_read 51 = .ok (.istore 6, 2) := by decide +kernel
theorem dX6_read_53 : decode cX6_read 53 = .ok (.iconst 0, 1) := by decide +kernel
theorem dX6_read_54 : decode cX6_read 54 = .ok (.istore 7, 2) := by decide +kernel
theorem dX6_read_56 : decode cX6_read 56 = .ok (.iconst 0, 1) := by decide +kernel
theorem dX6_read_57 : decode cX6_read 57 = .ok (.istore 8, 2) := by decide +kernel
theorem dX6_read_59 : decode cX6_read 59 = .ok (.iload 8, 2) := by decide +kernel
theorem dX6_read_61 : decode cX6_read 61 = .ok (.iload 4, 2) := by decide +kernel
theorem dX6_read_63 : decode cX6_read 63 = .ok (.if_icmp .ge 60, 3) := by decide +kernel
theorem dX6_read_66 : decode cX6_read 66 = .ok (.iload 6, 2) := by decide +kernel
theorem dX6_read_68 : decode cX6_read 68 = .ok (.ifCond .ne 55, 3) := by decide +kernel
theorem dX6_read_71 : decode cX6_read 71 = .ok (.aload 5, 2) := by decide +kernel
theorem dX6_read_73 : decode cX6_read 73 = .ok (.iload_n 2, 1) := by decide +kernel
theorem dX6_read_74 : decode cX6_read 74 = .ok (.iload_n 3, 1) := by decide +kernel
theorem dX6_read_75 : decode cX6_read 75 = .ok (.iload 8, 2) := by decide +kernel
theorem dX6_read_77 : decode cX6_read 77 = .ok (.iadd, 1) := by decide +kernel
theorem dX6_read_78 : decode cX6_read 78 = .ok (.invokevirtual 234, 3) := by decide +kernel
theorem dX6_read_81 : decode cX6_read 81 = .ok (.istore 6, 2) := by decide +kernel
theorem dX6_read_83 : decode cX6_read 83 = .ok (.iload 6, 2) := by decide +kernel
theorem dX6_read_85 : decode cX6_read 85 = .ok (.ifCond .ne 32, 3) := by decide +kernel
theorem dX6_read_88 : decode cX6_read 88 = .ok (.aload_n 0, 1) := by decide +kernel
theorem dX6_read_89 : decode cX6_read 89 = .ok (.getfield 16, 3) := by decide +kernel
theorem dX6_read_92 : decode cX6_read 92 = .ok (.aload 5, 2) := by decide +kernel
theorem dX6_read_94 : decode cX6_read 94 = .ok (.getfield 238, 3) := by decide +kernel
theorem dX6_read_97 : decode cX6_read 97 = .ok (.iload_n 3, 1) := by decide +kernel
theorem dX6_read_98 : decode cX6_read 98 = .ok (.iload 8, 2) := by decide +kernel
theorem dX6_read_100 : decode cX6_read 100 = .ok (.iadd, 1) := by decide +kernel
theorem dX6_read_101 : decode cX6_read 101 = .ok (.iaload, 1) := by decide +kernel
theorem dX6_read_102 : decode cX6_read 102 = .ok (.invokevirtual 140, 3) := by decide +kernel
theorem dX6_read_105 : decode cX6_read 105 = .ok (.ifCond .ge 9, 3) := by decide +kernel
theorem dX6_read_108 : decode cX6_read 108 = .ok (.bipush (-20), 2) := by decide +kernel
theorem dX6_read_110 : decode cX6_read 110 = .ok (.iload 8, 2) := by decide +kernel
theorem dX6_read_112 : decode cX6_read 112 = .ok (.isub, 1) := by decide +kernel
theorem dX6_read_113 : decode cX6_read 113 = .ok (.ireturn, 1) := by decide +kernel
theorem dX6_read_114 : decode cX6_read 114 = .ok (.iinc 7 1, 3) := by decide +kernel
theorem dX6_read_117 : decode cX6_read 117 = .ok (.iinc 8 1, 3) := by decide +kernel
theorem dX6_read_120 : decode cX6_read 120 = .ok (.goto (-61), 3) := by decide +kernel
theorem dX6_read_123 : decode cX6_read 123 = .ok (.aload_n 0, 1) := by decide +kernel
theorem dX6_read_124 : decode cX6_read 124 = .ok (.getfield 12, 3) := by decide +kernel
theorem dX6_read_127 : decode cX6_read 127 = .ok (.aload_n 0, 1) := by decide +kernel
theorem dX6_read_128 : decode cX6_read 128 = .ok (.getfield 16, 3) := by decide +kernel
theorem dX6_read_131 : decode cX6_read 131 = .ok (.invokevirtual 86, 3) := by decide +kernel
theorem dX6_read_134 : decode cX6_read 134 = .ok (.aload_n 0, 1) := by decide +kernel
theorem dX6_read_135 : decode cX6_read 135 = .ok (.iload 6, 2) := by decide +kernel
theorem dX6_read_137 : decode cX6_read 137 = .ok (.putfield 54, 3) := by decide +kernel
theorem dX6_read_140 : decode cX6_read 140 = .ok (.iload 7, 2) := by decide +kernel
theorem dX6_read_142 : decode cX6_read 142 = .ok (.ireturn, 1) := by decide +kernel
/-! ===== hours by a seed, hours read ===== -/
def rnd (z : Int32) : Nat := z.toBitVec.toNat / 65536 % 32768 % 10
def dnx (z : Int32) : Int32 := z * 1103515245 + 12345
def dB (qc : rT) (t w : Nat) (z : Int32) : Nat → Int32 × Nat
  | 0 => (z, 0)
  | i + 1 => if bit w i = 1 then (dnx (dB qc t w z i).1, (dB qc t w z i).2 ||| (if rnd (dnx (dB qc t w z i).1) < ten qc w t i then 2 ^ i else 0)) else dB qc t w z i
def dO (qc : rT) (m : Nat) (z : Int32) : Nat → Nat × Int32 × Nat
  | 0 => (qc 6 0, z, 0)
  | t + 1 => ((dO qc m z t).1 &&& (7 - (dB qc t (dO qc m z t).1 (dO qc m z t).2.1 m).2), (dB qc t (dO qc m z t).1 (dO qc m z t).2.1 m).1, (dO qc m z t).2.2 + if (dO qc m z t).1 &&& (7 - (dB qc t (dO qc m z t).1 (dO qc m z t).2.1 m).2) = 0 then 0 else 1)
def driftA (r : rT) (z : Int32) (N : Nat) (wh : Int32) : Int32 := if wh = 0 then nI (dO (oqR r) (r 6 0) z N).2.2 else nI (dO (oqR r) (r 6 0) z N).1
theorem rnd_u (x : Int32) : (x.toUInt32 >>> ((16 : Int32).toUInt32 &&& Int32.toUInt32 31)).toInt32 &&& 32767 = nI (x.toBitVec.toNat / 65536 % 32768) := by
  rw [pk_and _ 15 (by decide), pk_ushr x 16 16 (by decide)]
theorem or0 (x : Int32) : x ||| 0 = x := Int32.or_zero
theorem rnd_10 {n : Nat} (h : n < 32768) : nI n - nI n / 10 * 10 = nI (n % 10) := pk_rem (d := 10) (by omega) (by decide) (by decide)
theorem dB_lt (qc : rT) (t w : Nat) (z : Int32) : ∀ i, (dB qc t w z i).2 < 2 ^ i
  | 0 => (Nat.zero_lt_one : 0 < 1)
  | i + 1 => by
    have ih := dB_lt qc t w z i
    have h2 : 2 ^ i < 2 ^ (i + 1) := Nat.pow_lt_pow_right (by decide) (by omega)
    rw [dB]
    split
    · refine Nat.or_lt_two_pow (by omega) ?_
      split
      · exact h2
      · omega
    · omega
theorem dB_8 (qc : rT) (t w : Nat) (z : Int32) {i : Nat} (hi : i ≤ 3) : (dB qc t w z i).2 < 8 := Nat.lt_of_lt_of_le (dB_lt qc t w z i) (Nat.pow_le_pow_right (by decide) hi)
theorem dB_0 (qc : rT) (t : Nat) (z : Int32) : ∀ i, dB qc t 0 z i = (z, 0)
  | 0 => rfl
  | i + 1 => by
    rw [dB, if_neg (by rw [bit, Nat.zero_div]; decide), dB_0 qc t z i]
theorem dO_le (qc : rT) (m : Nat) (z : Int32) : ∀ t, (dO qc m z t).1 ≤ qc 6 0 ∧ (dO qc m z t).2.2 ≤ t
  | 0 => ⟨Nat.le_refl _, Nat.le_refl _⟩
  | t + 1 => by
    obtain ⟨h1, h2⟩ := dO_le qc m z t
    refine ⟨Nat.le_trans Nat.and_le_left h1, ?_⟩
    rw [dO]
    dsimp only
    split <;> omega
theorem dO_stuck (qc : rT) (m : Nat) (z : Int32) {t : Nat} (h : (dO qc m z t).1 = 0) : ∀ k, (dO qc m z (t + k)).1 = 0 ∧ (dO qc m z (t + k)).2.2 = (dO qc m z t).2.2
  | 0 => ⟨h, rfl⟩
  | k + 1 => by
    obtain ⟨h1, h2⟩ := dO_stuck qc m z h k
    rw [← Nat.add_assoc, dO]
    dsimp only
    rw [h1, Nat.zero_and]
    exact ⟨rfl, h2⟩
/-- the realm t HOURS on, just w WHOLE -/
def tr (r : rT) (w t : Nat) : rT := fun y => if y = 6 then (fun j => match j with
  | 3 => w
  | 6 => r 6 6 + t
  | j => r 6 j) else if y = 1 then (fun j => if j < r 6 0 then min 9 (r 1 j + t) else r 1 j) else r y
theorem tr_0 {r : rT} (h : ∀ i, r 1 i ≤ 9) : tr r (r 6 3) 0 = r := by
  funext y
  unfold tr
  by_cases h6 : y = 6
  · subst h6
    rw [if_pos rfl]
    funext j
    split <;> rfl
  · rw [if_neg h6]
    by_cases h1 : y = 1
    · subst h1
      rw [if_pos rfl]
      funext j
      split
      · have := h j
        omega
      · rfl
    · rw [if_neg h1]
theorem tr_s (r : rT) (w t b : Nat) : rpass (tr r w t) b = tr r (w &&& (7 - b)) (t + 1) := by
  funext y
  unfold rpass
  by_cases h6 : y = 6
  · subst h6
    rw [if_pos rfl]
    funext j
    match j with
    | 0 => rfl
    | 1 => rfl
    | 2 => rfl
    | 3 => rfl
    | 4 => rfl
    | 5 => rfl
    | 6 => exact Nat.add_assoc _ _ _
    | j + 7 => rfl
  · rw [if_neg h6]
    by_cases h1 : y = 1
    · subst h1
      rw [if_pos rfl]
      funext j
      show (if j < r 6 0 then min 9 ((if j < r 6 0 then min 9 (r 1 j + t) else r 1 j) + 1) else (if j < r 6 0 then min 9 (r 1 j + t) else r 1 j)) = (if j < r 6 0 then min 9 (r 1 j + (t + 1)) else r 1 j)
      split <;> omega
    · rw [if_neg h1]
      unfold tr
      rw [if_neg h6, if_neg h1, if_neg h6, if_neg h1]
theorem tr_b {r : rT} {w t i : Nat} (hi : i < r 6 0) (hb : bit w i = 1) : rbrk (tr r w t) i = ten (oqR r) w t i := by
  show (if bit w i = 0 then 0 else brk (r 0 i) (if i < r 6 0 then min 9 (r 1 i + t) else r 1 i) (r 6 4) (pc3 w)) = _
  rw [if_neg (by omega), if_pos hi]
  rfl
set_option maxRecDepth 100000 in
set_option maxHeartbeats 4000000 in
theorem mX2_breaksW (r : rT) (i : Nat) (hw : r 6 3 < 8) (h4 : ∀ i, r 0 i ≤ 4) (h9 : ∀ i, r 1 i ≤ 9) (hl : r 6 4 ≤ 9) (hi : i < 3) : J KX2_breaks 7 (fun o B => o = some (.int (nI (rbrk r i))) ∧ B = wR r) 0 [some (.ref 0), some (.int (nI i))] [] (wR r) 0 0 := by
  refine J.aload_n dX2_breaks_0 rfl rfl ?_
  refine J.iload_n dX2_breaks_1 rfl rfl ?_
  refine J.cv (as := [.int _]) (is := [0, 1, 2, 3, 4, 5, 6]) (o := 0) okX2_wholeBit jcX2_59 (mX2_wholeBit r i hw hi) dX2_breaks_2 rfl rfl rfl rfl rfl rfl rfl (fun r9 B9 hq => ?_)
  obtain ⟨rfl, rfl⟩ := hq
  refine ⟨rfl, ?_⟩
  show J _ _ _ _ _ (.int _ :: _) (wR r) _ _
  refine J.if_ne (tgt := 10) dX2_breaks_5 (by decide) (fun c5 => ?_) (fun c5 => ?_)
  · refine J.aload_n dX2_breaks_10 rfl rfl ?_
    refine J.getfield dX2_breaks_11 jFX2_9 rfl rfl ?_
    refine J.iload_n dX2_breaks_14 rfl rfl ?_
    refine J.ialoadN dX2_breaks_15 rfl hi ?_
    refine J.aload_n dX2_breaks_16 rfl rfl ?_
    refine J.getfield dX2_breaks_17 jFX2_15 rfl rfl ?_
    refine J.iload_n dX2_breaks_20 rfl rfl ?_
    refine J.ialoadN dX2_breaks_21 rfl hi ?_
    refine J.aload_n dX2_breaks_22 rfl rfl ?_
    refine J.getfield dX2_breaks_23 jFX2_46 rfl rfl ?_
    refine J.aload_n dX2_breaks_26 rfl rfl ?_
    refine J.getfield dX2_breaks_27 jFX2_43 rfl rfl ?_
    refine J.cs (as := [.int _]) (is := []) okJ6_bitCount_0f7a4 jcX2_63 (mJ6_bitCount_0f7a4 _ hw) dX2_breaks_30 rfl rfl rfl rfl rfl rfl (fun r9 B9 hq => ?_)
    obtain ⟨rfl, rfl⟩ := hq
    refine ⟨rfl, ?_⟩
    show J _ _ _ _ _ (.int _ :: _) (wR r) _ _
    refine J.cs (as := [.int _, .int _, .int _, .int _]) (is := []) okX6_breaksOf jcX2_68 (mX6_breaksOf (r 0 i) (r 1 i) (r 6 4) (pc3 (r 6 3)) (by have := h4 i; omega) (by have := h9 i; omega) (by omega) (by have := pc3_le (r 6 3); omega)) dX2_breaks_33 rfl rfl rfl rfl rfl rfl (fun r9 B9 hq => ?_)
    obtain ⟨rfl, rfl⟩ := hq
    refine ⟨rfl, ?_⟩
    show J _ _ _ _ _ (.int _ :: _) (wR r) _ _
    exact J.iret dX2_breaks_36 rfl rfl (Nat.le_refl _) (Nat.le_refl _) ⟨congrArg (fun x => some (Value.int x)) (by rw [rbrk, if_neg (fun h => c5 (by rw [h]; rfl))]), rfl⟩
  · refine J.iconst (0) dX2_breaks_8 (by decide) ?_
    exact J.iret dX2_breaks_9 rfl rfl (Nat.le_refl _) (Nat.le_refl _) ⟨congrArg (fun x => some (Value.int x)) (by rw [rbrk, if_pos ((nI_eqi (b := 0) (by have := bit_le (r 6 3) i; omega) (by decide)).mp c5)]; rfl), rfl⟩
set_option maxRecDepth 100000 in
set_option maxHeartbeats 4000000 in
theorem mX6_drift_e (rs : Nat → rT) (v : Nat → Nat → Nat) (q : rT) (x : Nat → Nat) (n : Nat → Int64) (u : uT) (c : Nat → Nat → Int32) (l : Nat → Int32) (tn : Int32) (z0 : Int32) (N : Nat) (hN : N ≤ 60) (wh : Int32) (hr : rOK (rs 0)) (i : Nat) (he : (dO (oqR (rs 0)) (rs 0 6 0) z0 i).1 = (dO (oqR (rs 0)) (rs 0 6 0) z0 N).1 ∧ (dO (oqR (rs 0)) (rs 0 6 0) z0 i).2.2 = (dO (oqR (rs 0)) (rs 0 6 0) z0 N).2.2) (z7 z8 : Option Value) : J KX6_drift 62 (fun o B => o = some (.int (driftA (rs 0) z0 N wh)) ∧ ∃ r9, B = (wC (rsN rs 1 r9) v q x n u c l tn)) 177 [some (.ref 0), some (.int z0), some (.int (nI N)), some (.int wh), some (.int (nI (dO (oqR (rs 0)) (rs 0 6 0) z0 i).2.2)), some (.int (dO (oqR (rs 0)) (rs 0 6 0) z0 i).2.1), some (.int (nI i)), z7, z8] [] (wC (rsN rs 1 (tr (rs 0) (dO (oqR (rs 0)) (rs 0 6 0) z0 i).1 i)) v q x n u c l tn) 0 0 := by
  refine J.iload_n dX6_drift_177 rfl rfl ?_
  refine J.if_ne (tgt := 186) dX6_drift_178 (by decide) (fun c178 => ?_) (fun c178 => ?_)
  · refine J.aload_n dX6_drift_186 rfl rfl ?_
    refine J.getfield dX6_drift_187 jFX6_16 rfl rfl ?_
    refine J.getfield dX6_drift_190 jFX6_111 rfl rfl ?_
    first | exact J.iret dX6_drift_193 rfl rfl (Nat.le_refl _) (Nat.le_refl _) ⟨congrArg (fun z => some (Value.int z)) (by rw [driftA, if_neg c178, ← he.1] <;> rfl), _, rfl⟩ | exact J.iret dX6_drift_193 rfl rfl (Nat.le_refl _) (Nat.le_refl _) ⟨congrArg (fun z => some (Value.int z)) (by rw [driftA, if_pos c178, ← he.2]), _, rfl⟩
  · refine J.iload dX6_drift_181 rfl ?_
    refine J.goto (tgt := 193) dX6_drift_183 (by decide) ?_
    first | exact J.iret dX6_drift_193 rfl rfl (Nat.le_refl _) (Nat.le_refl _) ⟨congrArg (fun z => some (Value.int z)) (by rw [driftA, if_neg c178, ← he.1] <;> rfl), _, rfl⟩ | exact J.iret dX6_drift_193 rfl rfl (Nat.le_refl _) (Nat.le_refl _) ⟨congrArg (fun z => some (Value.int z)) (by rw [driftA, if_pos c178, ← he.2]), _, rfl⟩
set_option maxRecDepth 100000 in
set_option maxHeartbeats 4000000 in
theorem mX6_drift_i (rs : Nat → rT) (v : Nat → Nat → Nat) (q : rT) (x : Nat → Nat) (n : Nat → Int64) (u : uT) (c : Nat → Nat → Int32) (l : Nat → Int32) (tn : Int32) (z0 : Int32) (N : Nat) (hN : N ≤ 60) (wh : Int32) (hr : rOK (rs 0)) (t : Nat) (hk : J KX6_drift 62 (fun o B => o = some (.int (driftA (rs 0) z0 N wh)) ∧ ∃ r9, B = (wC (rsN rs 1 r9) v q x n u c l tn)) 142 [some (.ref 0), some (.int z0), some (.int (nI N)), some (.int wh), some (.int (nI (dO (oqR (rs 0)) (rs 0 6 0) z0 t).2.2)), some (.int (dB (oqR (rs 0)) t (dO (oqR (rs 0)) (rs 0 6 0) z0 t).1 (dO (oqR (rs 0)) (rs 0 6 0) z0 t).2.1 (rs 0 6 0)).1), some (.int (nI t)), some (.int (nI (dB (oqR (rs 0)) t (dO (oqR (rs 0)) (rs 0 6 0) z0 t).1 (dO (oqR (rs 0)) (rs 0 6 0) z0 t).2.1 (rs 0 6 0)).2)), some (.int (nI (rs 0 6 0)))] [] (wC (rsN rs 1 (tr (rs 0) (dO (oqR (rs 0)) (rs 0 6 0) z0 t).1 t)) v q x n u c l tn) 0 0) : ∀ (k9 i : Nat), i + k9 = rs 0 6 0 → J KX6_drift 62 (fun o B => o = some (.int (driftA (rs 0) z0 N wh)) ∧ ∃ r9, B = (wC (rsN rs 1 r9) v q x n u c l tn)) 63 [some (.ref 0), some (.int z0), some (.int (nI N)), some (.int wh), some (.int (nI (dO (oqR (rs 0)) (rs 0 6 0) z0 t).2.2)), some (.int (dB (oqR (rs 0)) t (dO (oqR (rs 0)) (rs 0 6 0) z0 t).1 (dO (oqR (rs 0)) (rs 0 6 0) z0 t).2.1 i).1), some (.int (nI t)), some (.int (nI (dB (oqR (rs 0)) t (dO (oqR (rs 0)) (rs 0 6 0) z0 t).1 (dO (oqR (rs 0)) (rs 0 6 0) z0 t).2.1 i).2)), some (.int (nI i))] [] (wC (rsN rs 1 (tr (rs 0) (dO (oqR (rs 0)) (rs 0 6 0) z0 t).1 t)) v q x n u c l tn) 0 0 := by
  intro k9
  induction k9 with
  | zero =>
    intro i hi
    obtain hiN : i = rs 0 6 0 := by omega
    subst hiN
    refine J.iload dX6_drift_63 rfl ?_
    refine J.aload_n dX6_drift_65 rfl rfl ?_
    refine J.getfield dX6_drift_66 jFX6_16 rfl rfl ?_
    refine J.getfield dX6_drift_69 jFX6_93 rfl rfl ?_
    refine J.icmp_ge (tgt := 142) dX6_drift_72 (by decide) (fun c72 => ?_) (fun c72 => absurd c72 (fun h => h (Int32.le_refl _)))
    exact hk
  | succ k9 ih =>
    intro i hi
    have hiN : i < rs 0 6 0 := by omega
    refine J.iload dX6_drift_63 rfl ?_
    refine J.aload_n dX6_drift_65 rfl rfl ?_
    refine J.getfield dX6_drift_66 jFX6_16 rfl rfl ?_
    refine J.getfield dX6_drift_69 jFX6_93 rfl rfl ?_
    refine J.icmp_ge (tgt := 142) dX6_drift_72 (by decide) (fun c72 => absurd c72 (show ¬ nI (rs 0 6 0) ≤ nI i from nI_ge hiN (by have := hr.1; omega))) (fun c72 => ?_)
    refine J.aload_n dX6_drift_75 rfl rfl ?_
    refine J.getfield dX6_drift_76 jFX6_16 rfl rfl ?_
    refine J.iload dX6_drift_79 rfl ?_
    refine J.cv (as := [.int _]) (is := [8, 9, 10, 11, 12, 13, 14]) (o := 0) okX2_wholeBit jcX6_121 (mX2_wholeBit (tr (rs 0) (dO (oqR (rs 0)) (rs 0 6 0) z0 t).1 t) i (show (dO (oqR (rs 0)) (rs 0 6 0) z0 t).1 < 8 from Nat.lt_of_le_of_lt (dO_le _ _ _ _).1 hr.w) (by have := hr.1; omega)) dX6_drift_81 rfl rfl rfl rfl rfl rfl rfl (fun r9 B9 hq => ?_)
    obtain ⟨rfl, rfl⟩ := hq
    refine ⟨rfl, ?_⟩
    show J _ _ _ _ _ (.int _ :: _) (wC (rsN rs 1 (tr (rs 0) (dO (oqR (rs 0)) (rs 0 6 0) z0 t).1 t)) v q x n u c l tn) _ _
    refine J.iconst (1) dX6_drift_84 (by decide) ?_
    refine J.icmp_ne (tgt := 136) dX6_drift_85 (by decide) (fun c85 => ?_) (fun c85 => ?_)
    · refine J.iinc (1) dX6_drift_136 (by decide) rfl (by decide) rfl ?_
      try dsimp only [List.set]
      refine J.goto (tgt := 63) dX6_drift_139 (by decide) ?_
      first
      | (have e9 : (dB (oqR (rs 0)) t (dO (oqR (rs 0)) (rs 0 6 0) z0 t).1 (dO (oqR (rs 0)) (rs 0 6 0) z0 t).2.1 (i + 1)) = (dB (oqR (rs 0)) t (dO (oqR (rs 0)) (rs 0 6 0) z0 t).1 (dO (oqR (rs 0)) (rs 0 6 0) z0 t).2.1 i) := if_neg (fun h9 => c85 (congrArg nI h9))
         exact J.at (ih (i + 1) (by omega)) (by rw [e9, ← nI_1 i]) rfl rfl)
      | (have e9 : (dB (oqR (rs 0)) t (dO (oqR (rs 0)) (rs 0 6 0) z0 t).1 (dO (oqR (rs 0)) (rs 0 6 0) z0 t).2.1 (i + 1)) = (dnx (dB (oqR (rs 0)) t (dO (oqR (rs 0)) (rs 0 6 0) z0 t).1 (dO (oqR (rs 0)) (rs 0 6 0) z0 t).2.1 i).1, (dB (oqR (rs 0)) t (dO (oqR (rs 0)) (rs 0 6 0) z0 t).1 (dO (oqR (rs 0)) (rs 0 6 0) z0 t).2.1 i).2 ||| 0) := (if_pos (show bit (dO (oqR (rs 0)) (rs 0 6 0) z0 t).1 i = 1 from (nI_eqi (b := 1) (by have := bit_le (dO (oqR (rs 0)) (rs 0 6 0) z0 t).1 i; omega) (by decide)).mp c85)).trans (by rw [if_neg (show ¬ rnd (dnx (dB (oqR (rs 0)) t (dO (oqR (rs 0)) (rs 0 6 0) z0 t).1 (dO (oqR (rs 0)) (rs 0 6 0) z0 t).2.1 i).1) < ten (oqR (rs 0)) (dO (oqR (rs 0)) (rs 0 6 0) z0 t).1 t i from fun h9 => absurd ((nI_lei (by have := ten_le (oqR (rs 0)) (dO (oqR (rs 0)) (rs 0 6 0) z0 t).1 t i; omega) (Nat.lt_of_lt_of_le (Nat.mod_lt _ (show 0 < 10 by decide)) (by decide))).mp c122) (Nat.not_le.mpr h9))])
         exact J.at (ih (i + 1) (by omega)) (by rw [e9, Nat.or_zero, ← nI_1 i, or0] <;> rfl) rfl rfl)
      | (have e9 : (dB (oqR (rs 0)) t (dO (oqR (rs 0)) (rs 0 6 0) z0 t).1 (dO (oqR (rs 0)) (rs 0 6 0) z0 t).2.1 (i + 1)) = (dnx (dB (oqR (rs 0)) t (dO (oqR (rs 0)) (rs 0 6 0) z0 t).1 (dO (oqR (rs 0)) (rs 0 6 0) z0 t).2.1 i).1, (dB (oqR (rs 0)) t (dO (oqR (rs 0)) (rs 0 6 0) z0 t).1 (dO (oqR (rs 0)) (rs 0 6 0) z0 t).2.1 i).2 ||| 2 ^ i) := (if_pos (show bit (dO (oqR (rs 0)) (rs 0 6 0) z0 t).1 i = 1 from (nI_eqi (b := 1) (by have := bit_le (dO (oqR (rs 0)) (rs 0 6 0) z0 t).1 i; omega) (by decide)).mp c85)).trans (by rw [if_pos (show rnd (dnx (dB (oqR (rs 0)) t (dO (oqR (rs 0)) (rs 0 6 0) z0 t).1 (dO (oqR (rs 0)) (rs 0 6 0) z0 t).2.1 i).1) < ten (oqR (rs 0)) (dO (oqR (rs 0)) (rs 0 6 0) z0 t).1 t i from Nat.not_le.mp (fun h9 => c122 ((nI_lei (by have := ten_le (oqR (rs 0)) (dO (oqR (rs 0)) (rs 0 6 0) z0 t).1 t i; omega) (Nat.lt_of_lt_of_le (Nat.mod_lt _ (show 0 < 10 by decide)) (by decide))).mpr h9)))])
         exact J.at (ih (i + 1) (by omega)) (by rw [e9, ← nI_1 i, ← ws_eval _ (dB_8 _ _ _ _ (by have := hr.1; omega)) i (by have := hr.1; omega)] <;> rfl) rfl rfl)
    · refine J.iload dX6_drift_88 rfl ?_
      refine J.ldc (v := 1103515245) dX6_drift_90 (jt 718 rfl rfl) ?_
      refine J.imul dX6_drift_92 ?_
      refine J.sipush (12345) dX6_drift_93 (by decide) ?_
      refine J.iadd dX6_drift_96 ?_
      refine J.istore dX6_drift_97 (by decide) rfl ?_
      try dsimp only [List.set]
      refine J.iload dX6_drift_99 rfl ?_
      refine J.iload dX6_drift_101 rfl ?_
      refine J.bipush (16) dX6_drift_103 (by decide) ?_
      refine J.iushr dX6_drift_105 ?_
      refine J.sipush (32767) dX6_drift_106 (by decide) ?_
      refine J.iand dX6_drift_109 ?_
      refine J.bipush (10) dX6_drift_110 (by decide) ?_
      rw [rnd_u]
      refine J.irem dX6_drift_112 (by decide) ?_
      rw [rnd_10 (Nat.mod_lt _ (by decide))]
      refine J.aload_n dX6_drift_113 rfl rfl ?_
      refine J.getfield dX6_drift_114 jFX6_16 rfl rfl ?_
      refine J.iload dX6_drift_117 rfl ?_
      refine J.cv (as := [.int _]) (is := [8, 9, 10, 11, 12, 13, 14]) (o := 0) okX2_breaks jcX6_125 (mX2_breaksW (tr (rs 0) (dO (oqR (rs 0)) (rs 0 6 0) z0 t).1 t) i (show (dO (oqR (rs 0)) (rs 0 6 0) z0 t).1 < 8 from Nat.lt_of_le_of_lt (dO_le _ _ _ _).1 hr.w) (fun j => hr.2.2.2.2.2.2.2.2.1 j) (fun j => by show (if j < rs 0 6 0 then min 9 (rs 0 1 j + t) else rs 0 1 j) ≤ 9; have := hr.2.2.2.2.2.2.2.2.2.1 j; split <;> omega) hr.2.2.2.2.2.1 (by have := hr.1; omega)) dX6_drift_119 rfl rfl rfl rfl rfl rfl rfl (fun r9 B9 hq => ?_)
      obtain ⟨rfl, rfl⟩ := hq
      refine ⟨rfl, ?_⟩
      show J _ _ _ _ _ (.int _ :: _) (wC (rsN rs 1 (tr (rs 0) (dO (oqR (rs 0)) (rs 0 6 0) z0 t).1 t)) v q x n u c l tn) _ _
      rw [tr_b (t := t) hiN (show bit (dO (oqR (rs 0)) (rs 0 6 0) z0 t).1 i = 1 from (nI_eqi (b := 1) (by have := bit_le (dO (oqR (rs 0)) (rs 0 6 0) z0 t).1 i; omega) (by decide)).mp c85)]
      refine J.icmp_ge (tgt := 132) dX6_drift_122 (by decide) (fun c122 => ?_) (fun c122 => ?_)
      · refine J.iconst (0) dX6_drift_132 (by decide) ?_
        refine J.ior dX6_drift_133 ?_
        refine J.istore dX6_drift_134 (by decide) rfl ?_
        try dsimp only [List.set]
        refine J.iinc (1) dX6_drift_136 (by decide) rfl (by decide) rfl ?_
        try dsimp only [List.set]
        refine J.goto (tgt := 63) dX6_drift_139 (by decide) ?_
        first
        | (have e9 : (dB (oqR (rs 0)) t (dO (oqR (rs 0)) (rs 0 6 0) z0 t).1 (dO (oqR (rs 0)) (rs 0 6 0) z0 t).2.1 (i + 1)) = (dB (oqR (rs 0)) t (dO (oqR (rs 0)) (rs 0 6 0) z0 t).1 (dO (oqR (rs 0)) (rs 0 6 0) z0 t).2.1 i) := if_neg (fun h9 => c85 (congrArg nI h9))
           exact J.at (ih (i + 1) (by omega)) (by rw [e9, ← nI_1 i]) rfl rfl)
        | (have e9 : (dB (oqR (rs 0)) t (dO (oqR (rs 0)) (rs 0 6 0) z0 t).1 (dO (oqR (rs 0)) (rs 0 6 0) z0 t).2.1 (i + 1)) = (dnx (dB (oqR (rs 0)) t (dO (oqR (rs 0)) (rs 0 6 0) z0 t).1 (dO (oqR (rs 0)) (rs 0 6 0) z0 t).2.1 i).1, (dB (oqR (rs 0)) t (dO (oqR (rs 0)) (rs 0 6 0) z0 t).1 (dO (oqR (rs 0)) (rs 0 6 0) z0 t).2.1 i).2 ||| 0) := (if_pos (show bit (dO (oqR (rs 0)) (rs 0 6 0) z0 t).1 i = 1 from (nI_eqi (b := 1) (by have := bit_le (dO (oqR (rs 0)) (rs 0 6 0) z0 t).1 i; omega) (by decide)).mp c85)).trans (by rw [if_neg (show ¬ rnd (dnx (dB (oqR (rs 0)) t (dO (oqR (rs 0)) (rs 0 6 0) z0 t).1 (dO (oqR (rs 0)) (rs 0 6 0) z0 t).2.1 i).1) < ten (oqR (rs 0)) (dO (oqR (rs 0)) (rs 0 6 0) z0 t).1 t i from fun h9 => absurd ((nI_lei (by have := ten_le (oqR (rs 0)) (dO (oqR (rs 0)) (rs 0 6 0) z0 t).1 t i; omega) (Nat.lt_of_lt_of_le (Nat.mod_lt _ (show 0 < 10 by decide)) (by decide))).mp c122) (Nat.not_le.mpr h9))])
           exact J.at (ih (i + 1) (by omega)) (by rw [e9, Nat.or_zero, ← nI_1 i, or0] <;> rfl) rfl rfl)
        | (have e9 : (dB (oqR (rs 0)) t (dO (oqR (rs 0)) (rs 0 6 0) z0 t).1 (dO (oqR (rs 0)) (rs 0 6 0) z0 t).2.1 (i + 1)) = (dnx (dB (oqR (rs 0)) t (dO (oqR (rs 0)) (rs 0 6 0) z0 t).1 (dO (oqR (rs 0)) (rs 0 6 0) z0 t).2.1 i).1, (dB (oqR (rs 0)) t (dO (oqR (rs 0)) (rs 0 6 0) z0 t).1 (dO (oqR (rs 0)) (rs 0 6 0) z0 t).2.1 i).2 ||| 2 ^ i) := (if_pos (show bit (dO (oqR (rs 0)) (rs 0 6 0) z0 t).1 i = 1 from (nI_eqi (b := 1) (by have := bit_le (dO (oqR (rs 0)) (rs 0 6 0) z0 t).1 i; omega) (by decide)).mp c85)).trans (by rw [if_pos (show rnd (dnx (dB (oqR (rs 0)) t (dO (oqR (rs 0)) (rs 0 6 0) z0 t).1 (dO (oqR (rs 0)) (rs 0 6 0) z0 t).2.1 i).1) < ten (oqR (rs 0)) (dO (oqR (rs 0)) (rs 0 6 0) z0 t).1 t i from Nat.not_le.mp (fun h9 => c122 ((nI_lei (by have := ten_le (oqR (rs 0)) (dO (oqR (rs 0)) (rs 0 6 0) z0 t).1 t i; omega) (Nat.lt_of_lt_of_le (Nat.mod_lt _ (show 0 < 10 by decide)) (by decide))).mpr h9)))])
           exact J.at (ih (i + 1) (by omega)) (by rw [e9, ← nI_1 i, ← ws_eval _ (dB_8 _ _ _ _ (by have := hr.1; omega)) i (by have := hr.1; omega)] <;> rfl) rfl rfl)
      · refine J.iconst (1) dX6_drift_125 (by decide) ?_
        refine J.iload dX6_drift_126 rfl ?_
        refine J.ishl dX6_drift_128 ?_
        refine J.goto (tgt := 133) dX6_drift_129 (by decide) ?_
        refine J.ior dX6_drift_133 ?_
        refine J.istore dX6_drift_134 (by decide) rfl ?_
        try dsimp only [List.set]
        refine J.iinc (1) dX6_drift_136 (by decide) rfl (by decide) rfl ?_
        try dsimp only [List.set]
        refine J.goto (tgt := 63) dX6_drift_139 (by decide) ?_
        first
        | (have e9 : (dB (oqR (rs 0)) t (dO (oqR (rs 0)) (rs 0 6 0) z0 t).1 (dO (oqR (rs 0)) (rs 0 6 0) z0 t).2.1 (i + 1)) = (dB (oqR (rs 0)) t (dO (oqR (rs 0)) (rs 0 6 0) z0 t).1 (dO (oqR (rs 0)) (rs 0 6 0) z0 t).2.1 i) := if_neg (fun h9 => c85 (congrArg nI h9))
           exact J.at (ih (i + 1) (by omega)) (by rw [e9, ← nI_1 i]) rfl rfl)
        | (have e9 : (dB (oqR (rs 0)) t (dO (oqR (rs 0)) (rs 0 6 0) z0 t).1 (dO (oqR (rs 0)) (rs 0 6 0) z0 t).2.1 (i + 1)) = (dnx (dB (oqR (rs 0)) t (dO (oqR (rs 0)) (rs 0 6 0) z0 t).1 (dO (oqR (rs 0)) (rs 0 6 0) z0 t).2.1 i).1, (dB (oqR (rs 0)) t (dO (oqR (rs 0)) (rs 0 6 0) z0 t).1 (dO (oqR (rs 0)) (rs 0 6 0) z0 t).2.1 i).2 ||| 0) := (if_pos (show bit (dO (oqR (rs 0)) (rs 0 6 0) z0 t).1 i = 1 from (nI_eqi (b := 1) (by have := bit_le (dO (oqR (rs 0)) (rs 0 6 0) z0 t).1 i; omega) (by decide)).mp c85)).trans (by rw [if_neg (show ¬ rnd (dnx (dB (oqR (rs 0)) t (dO (oqR (rs 0)) (rs 0 6 0) z0 t).1 (dO (oqR (rs 0)) (rs 0 6 0) z0 t).2.1 i).1) < ten (oqR (rs 0)) (dO (oqR (rs 0)) (rs 0 6 0) z0 t).1 t i from fun h9 => absurd ((nI_lei (by have := ten_le (oqR (rs 0)) (dO (oqR (rs 0)) (rs 0 6 0) z0 t).1 t i; omega) (Nat.lt_of_lt_of_le (Nat.mod_lt _ (show 0 < 10 by decide)) (by decide))).mp c122) (Nat.not_le.mpr h9))])
           exact J.at (ih (i + 1) (by omega)) (by rw [e9, Nat.or_zero, ← nI_1 i, or0] <;> rfl) rfl rfl)
        | (have e9 : (dB (oqR (rs 0)) t (dO (oqR (rs 0)) (rs 0 6 0) z0 t).1 (dO (oqR (rs 0)) (rs 0 6 0) z0 t).2.1 (i + 1)) = (dnx (dB (oqR (rs 0)) t (dO (oqR (rs 0)) (rs 0 6 0) z0 t).1 (dO (oqR (rs 0)) (rs 0 6 0) z0 t).2.1 i).1, (dB (oqR (rs 0)) t (dO (oqR (rs 0)) (rs 0 6 0) z0 t).1 (dO (oqR (rs 0)) (rs 0 6 0) z0 t).2.1 i).2 ||| 2 ^ i) := (if_pos (show bit (dO (oqR (rs 0)) (rs 0 6 0) z0 t).1 i = 1 from (nI_eqi (b := 1) (by have := bit_le (dO (oqR (rs 0)) (rs 0 6 0) z0 t).1 i; omega) (by decide)).mp c85)).trans (by rw [if_pos (show rnd (dnx (dB (oqR (rs 0)) t (dO (oqR (rs 0)) (rs 0 6 0) z0 t).1 (dO (oqR (rs 0)) (rs 0 6 0) z0 t).2.1 i).1) < ten (oqR (rs 0)) (dO (oqR (rs 0)) (rs 0 6 0) z0 t).1 t i from Nat.not_le.mp (fun h9 => c122 ((nI_lei (by have := ten_le (oqR (rs 0)) (dO (oqR (rs 0)) (rs 0 6 0) z0 t).1 t i; omega) (Nat.lt_of_lt_of_le (Nat.mod_lt _ (show 0 < 10 by decide)) (by decide))).mpr h9)))])
           exact J.at (ih (i + 1) (by omega)) (by rw [e9, ← nI_1 i, ← ws_eval _ (dB_8 _ _ _ _ (by have := hr.1; omega)) i (by have := hr.1; omega)] <;> rfl) rfl rfl)
set_option maxRecDepth 100000 in
set_option maxHeartbeats 4000000 in
theorem mX6_drift_o (rs : Nat → rT) (v : Nat → Nat → Nat) (q : rT) (x : Nat → Nat) (n : Nat → Int64) (u : uT) (c : Nat → Nat → Int32) (l : Nat → Int32) (tn : Int32) (z0 : Int32) (N : Nat) (hN : N ≤ 60) (wh : Int32) (hr : rOK (rs 0)) : ∀ (k9 i : Nat), i + k9 = N → ∀ (z7 z8 : Option Value), J KX6_drift 62 (fun o B => o = some (.int (driftA (rs 0) z0 N wh)) ∧ ∃ r9, B = (wC (rsN rs 1 r9) v q x n u c l tn)) 41 [some (.ref 0), some (.int z0), some (.int (nI N)), some (.int wh), some (.int (nI (dO (oqR (rs 0)) (rs 0 6 0) z0 i).2.2)), some (.int (dO (oqR (rs 0)) (rs 0 6 0) z0 i).2.1), some (.int (nI i)), z7, z8] [] (wC (rsN rs 1 (tr (rs 0) (dO (oqR (rs 0)) (rs 0 6 0) z0 i).1 i)) v q x n u c l tn) 0 0 := by
  intro k9
  induction k9 with
  | zero =>
    intro i hi
    obtain hiN : i = N := by omega
    intro z7 z8
    subst hiN
    refine J.iload dX6_drift_41 rfl ?_
    refine J.iload_n dX6_drift_43 rfl rfl ?_
    refine J.icmp_ge (tgt := 177) dX6_drift_44 (by decide) (fun c44 => ?_) (fun c44 => absurd c44 (fun h => h (Int32.le_refl _)))
    exact mX6_drift_e rs v q x n u c l tn z0 i hN wh hr i ⟨rfl, rfl⟩ _ _
  | succ k9 ih =>
    intro i hi
    have hiN : i < N := by omega
    intro z7 z8
    refine J.iload dX6_drift_41 rfl ?_
    refine J.iload_n dX6_drift_43 rfl rfl ?_
    refine J.icmp_ge (tgt := 177) dX6_drift_44 (by decide) (fun c44 => absurd c44 (nI_ge (by omega) (by omega))) (fun c44 => ?_)
    refine J.aload_n dX6_drift_47 rfl rfl ?_
    refine J.getfield dX6_drift_48 jFX6_16 rfl rfl ?_
    refine J.getfield dX6_drift_51 jFX6_111 rfl rfl ?_
    refine J.if_eq (tgt := 177) dX6_drift_54 (by decide) (fun c54 => ?_) (fun c54 => ?_)
    · exact mX6_drift_e rs v q x n u c l tn z0 N hN wh hr i (by obtain ⟨d9, rfl⟩ := Nat.le.dest (Nat.le_of_lt hiN); have z9 : (dO (oqR (rs 0)) (rs 0 6 0) z0 i).1 = 0 := (nI_eqi (b := 0) (by have := (show (dO (oqR (rs 0)) (rs 0 6 0) z0 i).1 < 8 from Nat.lt_of_le_of_lt (dO_le _ _ _ _).1 hr.w); omega) (by decide)).mp c54; have s9 := dO_stuck (oqR (rs 0)) (rs 0 6 0) z0 z9 d9; exact ⟨z9.trans s9.1.symm, s9.2.symm⟩) _ _
    · refine J.iconst (0) dX6_drift_57 (by decide) ?_
      refine J.istore dX6_drift_58 (by decide) rfl ?_
      try dsimp only [List.set]
      refine J.iconst (0) dX6_drift_60 (by decide) ?_
      refine J.istore dX6_drift_61 (by decide) rfl ?_
      try dsimp only [List.set]
      refine mX6_drift_i rs v q x n u c l tn z0 N hN wh hr i ?_ (rs 0 6 0) 0 (by omega)
      refine J.aload_n dX6_drift_142 rfl rfl ?_
      refine J.getfield dX6_drift_143 jFX6_16 rfl rfl ?_
      refine J.iload dX6_drift_146 rfl ?_
      refine J.cv (as := [.int _]) (is := [8, 9, 10, 11, 12, 13, 14]) (o := 0) okX2_passHour jcX6_224 (mX2_passHour (tr (rs 0) (dO (oqR (rs 0)) (rs 0 6 0) z0 i).1 i) (dB (oqR (rs 0)) i (dO (oqR (rs 0)) (rs 0 6 0) z0 i).1 (dO (oqR (rs 0)) (rs 0 6 0) z0 i).2.1 (rs 0 6 0)).2 hr.1 (fun j => by show (if j < rs 0 6 0 then min 9 (rs 0 1 j + i) else rs 0 1 j) ≤ 9; have := hr.2.2.2.2.2.2.2.2.2.1 j; split <;> omega) (show (dO (oqR (rs 0)) (rs 0 6 0) z0 i).1 < 8 from Nat.lt_of_le_of_lt (dO_le _ _ _ _).1 hr.w) (dB_8 _ _ _ _ hr.1)) dX6_drift_148 rfl rfl rfl rfl rfl rfl rfl (fun r9 B9 hq => ?_)
      obtain ⟨rfl, rfl⟩ := hq
      refine ⟨rfl, ?_⟩
      show J _ _ _ _ _ [] (wC (rsN rs 1 (rpass (tr (rs 0) (dO (oqR (rs 0)) (rs 0 6 0) z0 i).1 i) (dB (oqR (rs 0)) i (dO (oqR (rs 0)) (rs 0 6 0) z0 i).1 (dO (oqR (rs 0)) (rs 0 6 0) z0 i).2.1 (rs 0 6 0)).2)) v q x n u c l tn) _ _
      rw [tr_s]
      refine J.iload dX6_drift_151 rfl ?_
      refine J.aload_n dX6_drift_153 rfl rfl ?_
      refine J.getfield dX6_drift_154 jFX6_16 rfl rfl ?_
      refine J.getfield dX6_drift_157 jFX6_111 rfl rfl ?_
      refine J.if_eq (tgt := 167) dX6_drift_160 (by decide) (fun c160 => ?_) (fun c160 => ?_)
      · refine J.iconst (0) dX6_drift_167 (by decide) ?_
        refine J.iadd dX6_drift_168 ?_
        refine J.istore dX6_drift_169 (by decide) rfl ?_
        try dsimp only [List.set]
        refine J.iinc (1) dX6_drift_171 (by decide) rfl (by decide) rfl ?_
        try dsimp only [List.set]
        refine J.goto (tgt := 41) dX6_drift_174 (by decide) ?_
        first
        | (have e9 : (dO (oqR (rs 0)) (rs 0 6 0) z0 (i + 1)).2.2 = (dO (oqR (rs 0)) (rs 0 6 0) z0 i).2.2 + 0 := congrArg (fun z => (dO (oqR (rs 0)) (rs 0 6 0) z0 i).2.2 + z) (if_pos (show (dO (oqR (rs 0)) (rs 0 6 0) z0 i).1 &&& (7 - (dB (oqR (rs 0)) i (dO (oqR (rs 0)) (rs 0 6 0) z0 i).1 (dO (oqR (rs 0)) (rs 0 6 0) z0 i).2.1 (rs 0 6 0)).2) = 0 from (nI_eqi (b := 0) (Nat.lt_of_le_of_lt Nat.and_le_left (by have := (show (dO (oqR (rs 0)) (rs 0 6 0) z0 i).1 < 8 from Nat.lt_of_le_of_lt (dO_le _ _ _ _).1 hr.w); omega)) (by decide)).mp c160))
           exact J.at (ih (i + 1) (by omega) _ _) (by rw [e9, Nat.add_zero, ← nI_1 i, Int32.add_zero] <;> rfl) rfl rfl)
        | (have e9 : (dO (oqR (rs 0)) (rs 0 6 0) z0 (i + 1)).2.2 = (dO (oqR (rs 0)) (rs 0 6 0) z0 i).2.2 + 1 := congrArg (fun z => (dO (oqR (rs 0)) (rs 0 6 0) z0 i).2.2 + z) (if_neg (show ¬ (dO (oqR (rs 0)) (rs 0 6 0) z0 i).1 &&& (7 - (dB (oqR (rs 0)) i (dO (oqR (rs 0)) (rs 0 6 0) z0 i).1 (dO (oqR (rs 0)) (rs 0 6 0) z0 i).2.1 (rs 0 6 0)).2) = 0 from fun h9 => c160 (congrArg nI h9)))
           exact J.at (ih (i + 1) (by omega) _ _) (by rw [e9, ← nI_1 i, ← nI_1] <;> rfl) rfl rfl)
      · refine J.iconst (1) dX6_drift_163 (by decide) ?_
        refine J.goto (tgt := 168) dX6_drift_164 (by decide) ?_
        refine J.iadd dX6_drift_168 ?_
        refine J.istore dX6_drift_169 (by decide) rfl ?_
        try dsimp only [List.set]
        refine J.iinc (1) dX6_drift_171 (by decide) rfl (by decide) rfl ?_
        try dsimp only [List.set]
        refine J.goto (tgt := 41) dX6_drift_174 (by decide) ?_
        first
        | (have e9 : (dO (oqR (rs 0)) (rs 0 6 0) z0 (i + 1)).2.2 = (dO (oqR (rs 0)) (rs 0 6 0) z0 i).2.2 + 0 := congrArg (fun z => (dO (oqR (rs 0)) (rs 0 6 0) z0 i).2.2 + z) (if_pos (show (dO (oqR (rs 0)) (rs 0 6 0) z0 i).1 &&& (7 - (dB (oqR (rs 0)) i (dO (oqR (rs 0)) (rs 0 6 0) z0 i).1 (dO (oqR (rs 0)) (rs 0 6 0) z0 i).2.1 (rs 0 6 0)).2) = 0 from (nI_eqi (b := 0) (Nat.lt_of_le_of_lt Nat.and_le_left (by have := (show (dO (oqR (rs 0)) (rs 0 6 0) z0 i).1 < 8 from Nat.lt_of_le_of_lt (dO_le _ _ _ _).1 hr.w); omega)) (by decide)).mp c160))
           exact J.at (ih (i + 1) (by omega) _ _) (by rw [e9, Nat.add_zero, ← nI_1 i, Int32.add_zero] <;> rfl) rfl rfl)
        | (have e9 : (dO (oqR (rs 0)) (rs 0 6 0) z0 (i + 1)).2.2 = (dO (oqR (rs 0)) (rs 0 6 0) z0 i).2.2 + 1 := congrArg (fun z => (dO (oqR (rs 0)) (rs 0 6 0) z0 i).2.2 + z) (if_neg (show ¬ (dO (oqR (rs 0)) (rs 0 6 0) z0 i).1 &&& (7 - (dB (oqR (rs 0)) i (dO (oqR (rs 0)) (rs 0 6 0) z0 i).1 (dO (oqR (rs 0)) (rs 0 6 0) z0 i).2.1 (rs 0 6 0)).2) = 0 from fun h9 => c160 (congrArg nI h9)))
           exact J.at (ih (i + 1) (by omega) _ _) (by rw [e9, ← nI_1 i, ← nI_1] <;> rfl) rfl rfl)
set_option maxRecDepth 100000 in
set_option maxHeartbeats 4000000 in
theorem mX6_drift (rs : Nat → rT) (v : Nat → Nat → Nat) (q : rT) (x : Nat → Nat) (n : Nat → Int64) (u : uT) (c : Nat → Nat → Int32) (l : Nat → Int32) (tn : Int32) (z0 : Int32) (N : Nat) (h1 : 1 ≤ N) (hN : N ≤ 60) (wh : Int32) (hw : 0 ≤ wh ∧ wh ≤ 1) (hr : rOK (rs 0)) : J KX6_drift 62 (fun o B => o = some (.int (driftA (rs 0) z0 N wh)) ∧ ∃ r9, B = (wC (rsN rs 1 r9) v q x n u c l tn)) 0 [some (.ref 0), some (.int z0), some (.int (nI N)), some (.int wh), none, none, none, none, none] [] (wC rs v q x n u c l tn) 0 0 := by
  refine J.iload_n dX6_drift_0 rfl rfl ?_
  refine J.iconst (1) dX6_drift_1 (by decide) ?_
  refine J.bipush (60) dX6_drift_2 (by decide) ?_
  refine J.cs (as := [.int _, .int _, .int _]) (is := []) okX6_within jcX6_59 (mX6_within _ _ _) dX6_drift_4 rfl rfl rfl rfl rfl rfl (fun r9 B9 hq => ?_)
  obtain ⟨rfl, rfl⟩ := hq
  refine ⟨rfl, ?_⟩
  show J _ _ _ _ _ (.int _ :: _) (wC rs v q x n u c l tn) _ _
  refine J.if_eq (tgt := 19) dX6_drift_7 (by decide) (fun c7 => absurd c7 (fun h => (jB_0 _).mp h (jw (a := 1) (c := 60) (by decide) h1 hN))) (fun c7 => ?_)
  refine J.iload_n dX6_drift_10 rfl rfl ?_
  refine J.iconst (0) dX6_drift_11 (by decide) ?_
  refine J.iconst (1) dX6_drift_12 (by decide) ?_
  refine J.cs (as := [.int _, .int _, .int _]) (is := []) okX6_within jcX6_59 (mX6_within _ _ _) dX6_drift_13 rfl rfl rfl rfl rfl rfl (fun r9 B9 hq => ?_)
  obtain ⟨rfl, rfl⟩ := hq
  refine ⟨rfl, ?_⟩
  show J _ _ _ _ _ (.int _ :: _) (wC rs v q x n u c l tn) _ _
  refine J.if_ne (tgt := 21) dX6_drift_16 (by decide) (fun c16 => ?_) (fun c16 => absurd c16 (fun h => (jB_0 _).mp h hw))
  refine J.aload_n dX6_drift_21 rfl rfl ?_
  refine J.getfield dX6_drift_22 jFX6_16 rfl rfl ?_
  refine J.aload_n dX6_drift_25 rfl rfl ?_
  refine J.getfield dX6_drift_26 jFX6_12 rfl rfl ?_
  refine J.cv (as := [.ref 7]) (is := [8, 9, 10, 11, 12, 13, 14, 1, 2, 3, 4, 5, 6, 7]) (o := 0) okX2_copy jcX6_86 (mX2_copy (rs 1) (rs 0)) dX6_drift_29 rfl rfl rfl rfl rfl rfl rfl (fun r9 B9 hq => ?_)
  obtain ⟨rfl, rfl⟩ := hq
  refine ⟨rfl, ?_⟩
  show J _ _ _ _ _ [] (wC (rsN rs 1 (rs 0)) v q x n u c l tn) _ _
  refine J.iconst (0) dX6_drift_32 (by decide) ?_
  refine J.istore dX6_drift_33 (by decide) rfl ?_
  try dsimp only [List.set]
  refine J.iload_n dX6_drift_35 rfl rfl ?_
  refine J.istore dX6_drift_36 (by decide) rfl ?_
  try dsimp only [List.set]
  refine J.iconst (0) dX6_drift_38 (by decide) ?_
  refine J.istore dX6_drift_39 (by decide) rfl ?_
  try dsimp only [List.set]
  exact J.at (mX6_drift_o rs v q x n u c l tn z0 N hN wh hr N 0 (by omega) none none) rfl rfl (by rw [show tr (rs 0) (dO (oqR (rs 0)) (rs 0 6 0) z0 0).1 0 = rs 0 from tr_0 hr.2.2.2.2.2.2.2.2.2.1])
set_option maxRecDepth 100000 in
set_option maxHeartbeats 4000000 in
theorem mX6_drift_bad (rs : Nat → rT) (v : Nat → Nat → Nat) (q : rT) (x : Nat → Nat) (n : Nat → Int64) (u : uT) (c : Nat → Nat → Int32) (l : Nat → Int32) (tn : Int32) (z0 n0 wh : Int32) (hb : ¬ (1 ≤ n0 ∧ n0 ≤ 60) ∨ ¬ (0 ≤ wh ∧ wh ≤ 1)) : J KX6_drift 62 (fun o B => o = some (.int (-1)) ∧ B = (wC rs v q x n u c l tn)) 0 [some (.ref 0), some (.int z0), some (.int n0), some (.int wh), none, none, none, none, none] [] (wC rs v q x n u c l tn) 0 0 := by
  refine J.iload_n dX6_drift_0 rfl rfl ?_
  refine J.iconst (1) dX6_drift_1 (by decide) ?_
  refine J.bipush (60) dX6_drift_2 (by decide) ?_
  refine J.cs (as := [.int _, .int _, .int _]) (is := []) okX6_within jcX6_59 (mX6_within _ _ _) dX6_drift_4 rfl rfl rfl rfl rfl rfl (fun r9 B9 hq => ?_)
  obtain ⟨rfl, rfl⟩ := hq
  refine ⟨rfl, ?_⟩
  show J _ _ _ _ _ (.int _ :: _) (wC rs v q x n u c l tn) _ _
  refine J.if_eq (tgt := 19) dX6_drift_7 (by decide) (fun c7 => ?_) (fun c7 => ?_)
  · refine J.iconst (-1) dX6_drift_19 (by decide) ?_
    exact J.iret dX6_drift_20 rfl rfl (Nat.le_refl _) (Nat.le_refl _) ⟨rfl, rfl⟩
  · refine J.iload_n dX6_drift_10 rfl rfl ?_
    refine J.iconst (0) dX6_drift_11 (by decide) ?_
    refine J.iconst (1) dX6_drift_12 (by decide) ?_
    refine J.cs (as := [.int _, .int _, .int _]) (is := []) okX6_within jcX6_59 (mX6_within _ _ _) dX6_drift_13 rfl rfl rfl rfl rfl rfl (fun r9 B9 hq => ?_)
    obtain ⟨rfl, rfl⟩ := hq
    refine ⟨rfl, ?_⟩
    show J _ _ _ _ _ (.int _ :: _) (wC rs v q x n u c l tn) _ _
    refine J.if_ne (tgt := 21) dX6_drift_16 (by decide) (fun c16 => absurd c16 (fun h => h ((jB_0 _).mpr (fun hC => (fun h => h.elim (fun h => h (Decidable.not_not.mp (fun h9 => c7 ((jB_0 _).mpr h9)))) (fun h => h hC)) hb)))) (fun c16 => ?_)
    refine J.iconst (-1) dX6_drift_19 (by decide) ?_
    exact J.iret dX6_drift_20 rfl rfl (Nat.le_refl _) (Nat.le_refl _) ⟨rfl, rfl⟩
def rdO (ln : Int32) (len : Nat) (c : Nat → Int32) (la f : Int32) : Nat → Nat → rT → Int32 × Option (rT × Int32)
  | 0, i, T => (nI i, some (T, 0))
  | k + 1, i, T => if ¬ fas ln len la (f + nI i) = 0 then (nI i, some (T, fas ln len la (f + nI i))) else if 0 ≤ tryA T (c (f + nI i).toNatClampNeg) then rdO ln len c la f k (i + 1) (tryR T (c (f + nI i).toNatClampNeg)) else (-20 - nI i, none)
def rdT (o : Option (rT × Int32)) (r : rT) : rT := match o with
  | some p => p.1
  | none => r
def rdF (o : Option (rT × Int32)) (z : Int32) : Int32 := match o with
  | some p => p.2
  | none => z
theorem rsN_n (rs : Nat → rT) (r : rT) : rsN (rsN rs 1 r) 0 (rs 0) = rsN rs 1 r := by
  funext k
  by_cases h : k = 0
  · subst h; rfl
  · exact if_neg h
theorem and_lt8 {w b : Nat} (h : w < 8) : w &&& b < 8 := Nat.lt_of_le_of_lt Nat.and_le_left h
theorem rOK_pass {r : rT} (h : rOK r) (b : Nat) (h6 : ¬ 99 ≤ r 6 6) : rOK (rpass r b) := by
  obtain ⟨a0, a1, a2, a3, a4, a5, a6, a7, a8, a9, b0, b1, b2, b3⟩ := h
  refine ⟨a0, a1, a2, Nat.lt_of_le_of_lt (Nat.and_le_left (n := r 6 3) (m := 7 - b)) a3, a4, a5, a6, ?_, a8, fun i => ?_, b0, b1, b2, b3⟩
  · show r 6 6 + 1 ≤ 99
    omega
  · show (if i < r 6 0 then min 9 (r 1 i + 1) else r 1 i) ≤ 9
    have := a9 i
    split <;> omega
theorem rOK_try {r : rT} (h : rOK r) (x : Int32) : rOK (tryR r x) := by
  unfold tryR
  split
  · exact h
  · split
    · exact h
    · split
      · exact h
      · next h9 => exact rOK_pass h _ h9
theorem fas_in {ln : Int32} {len : Nat} {la i : Int32} (hl : len ≤ 40) (h : fas ln len la i = 0) : ∃ j, j < len ∧ i = nI j := by
  unfold fas at h
  split at h
  · unfold fat at h
    split at h
    · exact absurd h (by decide)
    · split at h
      · next h9 => exact jin_lt (by omega) h9.1 h9.2
      · exact absurd h (by decide)
  · exact absurd h (by decide)
set_option maxRecDepth 100000 in
set_option maxHeartbeats 4000000 in
theorem mX6_read0_e (rs : Nat → rT) (v : Nat → Nat → Nat) (q : rT) (x : Nat → Nat) (n : Nat → Int64) (u : uT) (c : Nat → Nat → Int32) (l : Nat → Int32) (tn : Int32) (la f : Int32) (N : Nat) (hN : N ≤ 20) (hl : v 4 2 ≤ 40) (R9 : Int32 × Option (rT × Int32)) (T : rT) (F : Int32) (i j : Nat) (h9 : (nI i, some (T, F)) = R9) : J KX6_read 62 (fun o B => o = some (.int R9.1) ∧ ∃ r9, B = (wC (rsN (rsN rs 1 r9) 0 (rdT R9.2 (rs 0))) v q x n u c l (rdF R9.2 tn))) 123 [some (.ref 0), some (.int 0), some (.int la), some (.int f), some (.int (nI N)), some (.ref 54), some (.int F), some (.int (nI i)), some (.int (nI j))] [] (wC (rsN rs 1 T) v q x n u c l tn) 0 0 := by
  refine J.aload_n dX6_read_123 rfl rfl ?_
  refine J.getfield dX6_read_124 jFX6_12 rfl rfl ?_
  refine J.aload_n dX6_read_127 rfl rfl ?_
  refine J.getfield dX6_read_128 jFX6_16 rfl rfl ?_
  refine J.cv (as := [.ref 7]) (is := [1, 2, 3, 4, 5, 6, 7, 8, 9, 10, 11, 12, 13, 14]) (o := 0) okX2_copy jcX6_86 (mX2_copy (rs 0) T) dX6_read_131 rfl rfl rfl rfl rfl rfl rfl (fun r9 B9 hq => ?_)
  obtain ⟨rfl, rfl⟩ := hq
  refine ⟨rfl, ?_⟩
  show J _ _ _ _ _ [] (wC (rsN (rsN rs 1 T) 0 T) v q x n u c l tn) _ _
  refine J.aload_n dX6_read_134 rfl rfl ?_
  refine J.iload dX6_read_135 rfl ?_
  refine J.putfield dX6_read_137 jFX6_54 jP6_8 rfl rfl rfl (Nat.le_of_ble_eq_true rfl) ?_
  try dsimp only [List.set]
  refine J.iload dX6_read_140 rfl ?_
  exact J.iret dX6_read_142 rfl rfl (Nat.le_refl _) (Nat.le_refl _) ⟨by rw [← h9], T, by rw [← h9] <;> rfl⟩
set_option maxRecDepth 100000 in
set_option maxHeartbeats 4000000 in
theorem mX6_read0_l (rs : Nat → rT) (v : Nat → Nat → Nat) (q : rT) (x : Nat → Nat) (n : Nat → Int64) (u : uT) (c : Nat → Nat → Int32) (l : Nat → Int32) (tn : Int32) (la f : Int32) (N : Nat) (hN : N ≤ 20) (hl : v 4 2 ≤ 40) (R9 : Int32 × Option (rT × Int32)) : ∀ (k9 i : Nat), i + k9 = N → ∀ (T : rT), (rOK T ∧ rdO (l 0) (v 4 2) (c 0) la f (k9) i T = R9) → J KX6_read 62 (fun o B => o = some (.int R9.1) ∧ ∃ r9, B = (wC (rsN (rsN rs 1 r9) 0 (rdT R9.2 (rs 0))) v q x n u c l (rdF R9.2 tn))) 59 [some (.ref 0), some (.int 0), some (.int la), some (.int f), some (.int (nI N)), some (.ref 54), some (.int 0), some (.int (nI i)), some (.int (nI i))] [] (wC (rsN rs 1 T) v q x n u c l tn) 0 0 := by
  intro k9
  induction k9 with
  | zero =>
    intro i hi
    obtain hiN : i = N := by omega
    intro T hh
    subst hiN
    refine J.iload dX6_read_59 rfl ?_
    refine J.iload dX6_read_61 rfl ?_
    refine J.icmp_ge (tgt := 123) dX6_read_63 (by decide) (fun c63 => ?_) (fun c63 => absurd c63 (fun h => h (Int32.le_refl _)))
    exact mX6_read0_e rs v q x n u c l tn la f i hN hl R9 T 0 i i hh.2
  | succ k9 ih =>
    intro i hi
    have hiN : i < N := by omega
    intro T hh
    refine J.iload dX6_read_59 rfl ?_
    refine J.iload dX6_read_61 rfl ?_
    refine J.icmp_ge (tgt := 123) dX6_read_63 (by decide) (fun c63 => absurd c63 (nI_ge (by omega) (by omega))) (fun c63 => ?_)
    refine J.iload dX6_read_66 rfl ?_
    refine J.if_ne (tgt := 123) dX6_read_68 (by decide) (fun c68 => absurd c68 (fun h => h rfl)) (fun c68 => ?_)
    refine J.aload dX6_read_71 rfl ?_
    refine J.iload_n dX6_read_73 rfl rfl ?_
    refine J.iload_n dX6_read_74 rfl rfl ?_
    refine J.iload dX6_read_75 rfl ?_
    refine J.iadd dX6_read_77 ?_
    refine J.cv (as := [.int _, .int _]) (is := [54, 55]) (o := 0) okX4_faultAs jcX6_234 (mX4_faultAs (c 0) (l 0) (v 4 2) la (f + nI i)) dX6_read_78 rfl rfl rfl rfl rfl rfl rfl (fun r9 B9 hq => ?_)
    obtain ⟨rfl, rfl⟩ := hq
    refine ⟨rfl, ?_⟩
    show J _ _ _ _ _ (.int _ :: _) (wC (rsN rs 1 T) v q x n u c l tn) _ _
    refine J.istore dX6_read_81 (by decide) rfl ?_
    try dsimp only [List.set]
    refine J.iload dX6_read_83 rfl ?_
    refine J.if_ne (tgt := 117) dX6_read_85 (by decide) (fun c85 => ?_) (fun c85 => ?_)
    · refine J.iinc (1) dX6_read_117 (by decide) rfl (by decide) rfl ?_
      try dsimp only [List.set]
      refine J.goto (tgt := 59) dX6_read_120 (by decide) ?_
      first
      | (refine J.at (ih (i + 1) (by omega) (tryR T (c 0 (f + nI i).toNatClampNeg)) ⟨rOK_try hh.1 _, ?_⟩) (by rw [c85, ← nI_1 i] <;> rfl) rfl rfl
         rw [← hh.2, rdO, if_neg (fun h9 => h9 c85), if_pos c105])
      | (have e9 : (nI i, some (T, fas (l 0) (v 4 2) la (f + nI i))) = R9 := by rw [← hh.2, rdO, if_pos c85]
         by_cases hz : i + 1 = N
         · refine J.iload dX6_read_59 rfl ?_
           refine J.iload dX6_read_61 rfl ?_
           refine J.icmp_ge (tgt := 123) dX6_read_63 (by decide) (fun c63 => ?_) (fun c63 => absurd c63 (fun h => h (by rw [← hz, ← nI_1 i] <;> exact Int32.le_refl _)))
           exact J.at (mX6_read0_e rs v q x n u c l tn la f N hN hl R9 T _ i (i + 1) e9) (by rw [← nI_1 i] <;> rfl) rfl rfl
         · refine J.iload dX6_read_59 rfl ?_
           refine J.iload dX6_read_61 rfl ?_
           refine J.icmp_ge (tgt := 123) dX6_read_63 (by decide) (fun c63 => absurd c63 (by rw [nI_1]; exact nI_ge (by omega) (by omega))) (fun c63 => ?_)
           refine J.iload dX6_read_66 rfl ?_
           refine J.if_ne (tgt := 123) dX6_read_68 (by decide) (fun c68 => ?_) (fun c68 => absurd c68 (fun h => c85 h))
           exact J.at (mX6_read0_e rs v q x n u c l tn la f N hN hl R9 T _ i (i + 1) e9) (by rw [← nI_1 i] <;> rfl) rfl rfl)
    · refine J.aload_n dX6_read_88 rfl rfl ?_
      refine J.getfield dX6_read_89 jFX6_16 rfl rfl ?_
      refine J.aload dX6_read_92 rfl ?_
      refine J.getfield dX6_read_94 jFX6_238 rfl rfl ?_
      refine J.iload_n dX6_read_97 rfl rfl ?_
      refine J.iload dX6_read_98 rfl ?_
      refine J.iadd dX6_read_100 ?_
      obtain ⟨j9, hj9, ej9⟩ := fas_in hl c85
      refine J.iaload dX6_read_101 rfl (by rw [ej9]; exact vp_in_nI (by omega) (by decide)) ?_
      refine J.cv (as := [.int _]) (is := [8, 9, 10, 11, 12, 13, 14]) (o := 0) okX2_tryHour jcX6_140 (mX2_tryHour T (c 0 (f + nI i).toNatClampNeg) hh.1) dX6_read_102 rfl rfl rfl rfl rfl rfl rfl (fun r9 B9 hq => ?_)
      obtain ⟨rfl, rfl⟩ := hq
      refine ⟨rfl, ?_⟩
      show J _ _ _ _ _ (.int _ :: _) (wC (rsN rs 1 (tryR T (c 0 (f + nI i).toNatClampNeg))) v q x n u c l tn) _ _
      refine J.if_ge (tgt := 114) dX6_read_105 (by decide) (fun c105 => ?_) (fun c105 => ?_)
      · refine J.iinc (1) dX6_read_114 (by decide) rfl (by decide) rfl ?_
        try dsimp only [List.set]
        refine J.iinc (1) dX6_read_117 (by decide) rfl (by decide) rfl ?_
        try dsimp only [List.set]
        refine J.goto (tgt := 59) dX6_read_120 (by decide) ?_
        first
        | (refine J.at (ih (i + 1) (by omega) (tryR T (c 0 (f + nI i).toNatClampNeg)) ⟨rOK_try hh.1 _, ?_⟩) (by rw [c85, ← nI_1 i] <;> rfl) rfl rfl
           rw [← hh.2, rdO, if_neg (fun h9 => h9 c85), if_pos c105])
        | (have e9 : (nI i, some (T, fas (l 0) (v 4 2) la (f + nI i))) = R9 := by rw [← hh.2, rdO, if_pos c85]
           by_cases hz : i + 1 = N
           · refine J.iload dX6_read_59 rfl ?_
             refine J.iload dX6_read_61 rfl ?_
             refine J.icmp_ge (tgt := 123) dX6_read_63 (by decide) (fun c63 => ?_) (fun c63 => absurd c63 (fun h => h (by rw [← hz, ← nI_1 i] <;> exact Int32.le_refl _)))
             exact J.at (mX6_read0_e rs v q x n u c l tn la f N hN hl R9 T _ i (i + 1) e9) (by rw [← nI_1 i] <;> rfl) rfl rfl
           · refine J.iload dX6_read_59 rfl ?_
             refine J.iload dX6_read_61 rfl ?_
             refine J.icmp_ge (tgt := 123) dX6_read_63 (by decide) (fun c63 => absurd c63 (by rw [nI_1]; exact nI_ge (by omega) (by omega))) (fun c63 => ?_)
             refine J.iload dX6_read_66 rfl ?_
             refine J.if_ne (tgt := 123) dX6_read_68 (by decide) (fun c68 => ?_) (fun c68 => absurd c68 (fun h => c85 h))
             exact J.at (mX6_read0_e rs v q x n u c l tn la f N hN hl R9 T _ i (i + 1) e9) (by rw [← nI_1 i] <;> rfl) rfl rfl)
      · refine J.bipush (-20) dX6_read_108 (by decide) ?_
        refine J.iload dX6_read_110 rfl ?_
        refine J.isub dX6_read_112 ?_
        exact J.iret dX6_read_113 rfl rfl (Nat.le_refl _) (Nat.le_refl _) ⟨by rw [← hh.2, rdO, if_neg (fun h9 => h9 c85), if_neg c105], _, by rw [← hh.2, rdO, if_neg (fun h9 => h9 c85), if_neg c105]; show _ = (wC (rsN (rsN rs 1 _) 0 (rs 0)) v q x n u c l tn); rw [rsN_n] <;> rfl⟩
set_option maxRecDepth 100000 in
set_option maxHeartbeats 4000000 in
theorem mX6_read0 (rs : Nat → rT) (v : Nat → Nat → Nat) (q : rT) (x : Nat → Nat) (n : Nat → Int64) (u : uT) (c : Nat → Nat → Int32) (l : Nat → Int32) (tn : Int32) (la f : Int32) (N : Nat) (hw : 0 ≤ la ∧ la ≤ 2) (hN : N ≤ 20) (hl : v 4 2 ≤ 40) (hr : rOK (rs 0)) : J KX6_read 62 (fun o B => o = some (.int (rdO (l 0) (v 4 2) (c 0) la f N 0 (rs 0)).1) ∧ ∃ r9, B = (wC (rsN (rsN rs 1 r9) 0 (rdT (rdO (l 0) (v 4 2) (c 0) la f N 0 (rs 0)).2 (rs 0))) v q x n u c l (rdF (rdO (l 0) (v 4 2) (c 0) la f N 0 (rs 0)).2 tn))) 0 [some (.ref 0), some (.int 0), some (.int la), some (.int f), some (.int (nI N)), none, none, none, none] [] (wC rs v q x n u c l tn) 0 0 := by
  refine J.iload_n dX6_read_0 rfl rfl ?_
  refine J.iconst (0) dX6_read_1 (by decide) ?_
  refine J.iconst (3) dX6_read_2 (by decide) ?_
  refine J.cs (as := [.int _, .int _, .int _]) (is := []) okX6_within jcX6_59 (mX6_within _ _ _) dX6_read_3 rfl rfl rfl rfl rfl rfl (fun r9 B9 hq => ?_)
  obtain ⟨rfl, rfl⟩ := hq
  refine ⟨rfl, ?_⟩
  show J _ _ _ _ _ (.int _ :: _) (wC rs v q x n u c l tn) _ _
  refine J.if_eq (tgt := 29) dX6_read_6 (by decide) (fun c6 => absurd c6 (fun h => (jB_0 _).mp h (by decide))) (fun c6 => ?_)
  refine J.iload_n dX6_read_9 rfl rfl ?_
  refine J.iconst (0) dX6_read_10 (by decide) ?_
  refine J.iconst (2) dX6_read_11 (by decide) ?_
  refine J.cs (as := [.int _, .int _, .int _]) (is := []) okX6_within jcX6_59 (mX6_within _ _ _) dX6_read_12 rfl rfl rfl rfl rfl rfl (fun r9 B9 hq => ?_)
  obtain ⟨rfl, rfl⟩ := hq
  refine ⟨rfl, ?_⟩
  show J _ _ _ _ _ (.int _ :: _) (wC rs v q x n u c l tn) _ _
  refine J.if_eq (tgt := 29) dX6_read_15 (by decide) (fun c15 => absurd c15 (fun h => (jB_0 _).mp h hw)) (fun c15 => ?_)
  refine J.iload dX6_read_18 rfl ?_
  refine J.iconst (0) dX6_read_20 (by decide) ?_
  refine J.bipush (20) dX6_read_21 (by decide) ?_
  refine J.cs (as := [.int _, .int _, .int _]) (is := []) okX6_within jcX6_59 (mX6_within _ _ _) dX6_read_23 rfl rfl rfl rfl rfl rfl (fun r9 B9 hq => ?_)
  obtain ⟨rfl, rfl⟩ := hq
  refine ⟨rfl, ?_⟩
  show J _ _ _ _ _ (.int _ :: _) (wC rs v q x n u c l tn) _ _
  refine J.if_ne (tgt := 31) dX6_read_26 (by decide) (fun c26 => ?_) (fun c26 => absurd c26 (fun h => (jB_0 _).mp h (jw (a := 0) (c := 20) (by decide) (Nat.zero_le _) hN)))
  refine J.aload_n dX6_read_31 rfl rfl ?_
  refine J.getfield dX6_read_32 jFX6_50 rfl rfl ?_
  refine J.iload_n dX6_read_35 rfl rfl ?_
  refine J.aaload5 (q := 54) dX6_read_36 rfl (vp_in_nI (n := 0) (by decide) (by decide)) rfl ?_
  refine J.astore dX6_read_37 (by decide) rfl ?_
  try dsimp only [List.set]
  refine J.aload_n dX6_read_39 rfl rfl ?_
  refine J.getfield dX6_read_40 jFX6_16 rfl rfl ?_
  refine J.aload_n dX6_read_43 rfl rfl ?_
  refine J.getfield dX6_read_44 jFX6_12 rfl rfl ?_
  refine J.cv (as := [.ref 7]) (is := [8, 9, 10, 11, 12, 13, 14, 1, 2, 3, 4, 5, 6, 7]) (o := 0) okX2_copy jcX6_86 (mX2_copy (rs 1) (rs 0)) dX6_read_47 rfl rfl rfl rfl rfl rfl rfl (fun r9 B9 hq => ?_)
  obtain ⟨rfl, rfl⟩ := hq
  refine ⟨rfl, ?_⟩
  show J _ _ _ _ _ [] (wC (rsN rs 1 (rs 0)) v q x n u c l tn) _ _
  refine J.iconst (0) dX6_read_50 (by decide) ?_
  refine J.istore dX6_read_51 (by decide) rfl ?_
  try dsimp only [List.set]
  refine J.iconst (0) dX6_read_53 (by decide) ?_
  refine J.istore dX6_read_54 (by decide) rfl ?_
  try dsimp only [List.set]
  refine J.iconst (0) dX6_read_56 (by decide) ?_
  refine J.istore dX6_read_57 (by decide) rfl ?_
  try dsimp only [List.set]
  exact J.at (mX6_read0_l rs v q x n u c l tn la f N hN hl _ N 0 (by omega) (rs 0) ⟨hr, rfl⟩) rfl rfl rfl
set_option maxRecDepth 100000 in
set_option maxHeartbeats 4000000 in
theorem mX6_read1_e (rs : Nat → rT) (v : Nat → Nat → Nat) (q : rT) (x : Nat → Nat) (n : Nat → Int64) (u : uT) (c : Nat → Nat → Int32) (l : Nat → Int32) (tn : Int32) (la f : Int32) (N : Nat) (hN : N ≤ 20) (hl : v 4 3 ≤ 40) (R9 : Int32 × Option (rT × Int32)) (T : rT) (F : Int32) (i j : Nat) (h9 : (nI i, some (T, F)) = R9) : J KX6_read 62 (fun o B => o = some (.int R9.1) ∧ ∃ r9, B = (wC (rsN (rsN rs 1 r9) 0 (rdT R9.2 (rs 0))) v q x n u c l (rdF R9.2 tn))) 123 [some (.ref 0), some (.int 1), some (.int la), some (.int f), some (.int (nI N)), some (.ref 56), some (.int F), some (.int (nI i)), some (.int (nI j))] [] (wC (rsN rs 1 T) v q x n u c l tn) 0 0 := by
  refine J.aload_n dX6_read_123 rfl rfl ?_
  refine J.getfield dX6_read_124 jFX6_12 rfl rfl ?_
  refine J.aload_n dX6_read_127 rfl rfl ?_
  refine J.getfield dX6_read_128 jFX6_16 rfl rfl ?_
  refine J.cv (as := [.ref 7]) (is := [1, 2, 3, 4, 5, 6, 7, 8, 9, 10, 11, 12, 13, 14]) (o := 0) okX2_copy jcX6_86 (mX2_copy (rs 0) T) dX6_read_131 rfl rfl rfl rfl rfl rfl rfl (fun r9 B9 hq => ?_)
  obtain ⟨rfl, rfl⟩ := hq
  refine ⟨rfl, ?_⟩
  show J _ _ _ _ _ [] (wC (rsN (rsN rs 1 T) 0 T) v q x n u c l tn) _ _
  refine J.aload_n dX6_read_134 rfl rfl ?_
  refine J.iload dX6_read_135 rfl ?_
  refine J.putfield dX6_read_137 jFX6_54 jP6_8 rfl rfl rfl (Nat.le_of_ble_eq_true rfl) ?_
  try dsimp only [List.set]
  refine J.iload dX6_read_140 rfl ?_
  exact J.iret dX6_read_142 rfl rfl (Nat.le_refl _) (Nat.le_refl _) ⟨by rw [← h9], T, by rw [← h9] <;> rfl⟩
set_option maxRecDepth 100000 in
set_option maxHeartbeats 4000000 in
theorem mX6_read1_l (rs : Nat → rT) (v : Nat → Nat → Nat) (q : rT) (x : Nat → Nat) (n : Nat → Int64) (u : uT) (c : Nat → Nat → Int32) (l : Nat → Int32) (tn : Int32) (la f : Int32) (N : Nat) (hN : N ≤ 20) (hl : v 4 3 ≤ 40) (R9 : Int32 × Option (rT × Int32)) : ∀ (k9 i : Nat), i + k9 = N → ∀ (T : rT), (rOK T ∧ rdO (l 1) (v 4 3) (c 1) la f (k9) i T = R9) → J KX6_read 62 (fun o B => o = some (.int R9.1) ∧ ∃ r9, B = (wC (rsN (rsN rs 1 r9) 0 (rdT R9.2 (rs 0))) v q x n u c l (rdF R9.2 tn))) 59 [some (.ref 0), some (.int 1), some (.int la), some (.int f), some (.int (nI N)), some (.ref 56), some (.int 0), some (.int (nI i)), some (.int (nI i))] [] (wC (rsN rs 1 T) v q x n u c l tn) 0 0 := by
  intro k9
  induction k9 with
  | zero =>
    intro i hi
    obtain hiN : i = N := by omega
    intro T hh
    subst hiN
    refine J.iload dX6_read_59 rfl ?_
    refine J.iload dX6_read_61 rfl ?_
    refine J.icmp_ge (tgt := 123) dX6_read_63 (by decide) (fun c63 => ?_) (fun c63 => absurd c63 (fun h => h (Int32.le_refl _)))
    exact mX6_read1_e rs v q x n u c l tn la f i hN hl R9 T 0 i i hh.2
  | succ k9 ih =>
    intro i hi
    have hiN : i < N := by omega
    intro T hh
    refine J.iload dX6_read_59 rfl ?_
    refine J.iload dX6_read_61 rfl ?_
    refine J.icmp_ge (tgt := 123) dX6_read_63 (by decide) (fun c63 => absurd c63 (nI_ge (by omega) (by omega))) (fun c63 => ?_)
    refine J.iload dX6_read_66 rfl ?_
    refine J.if_ne (tgt := 123) dX6_read_68 (by decide) (fun c68 => absurd c68 (fun h => h rfl)) (fun c68 => ?_)
    refine J.aload dX6_read_71 rfl ?_
    refine J.iload_n dX6_read_73 rfl rfl ?_
    refine J.iload_n dX6_read_74 rfl rfl ?_
    refine J.iload dX6_read_75 rfl ?_
    refine J.iadd dX6_read_77 ?_
    refine J.cv (as := [.int _, .int _]) (is := [56, 57]) (o := 0) okX4_faultAs jcX6_234 (mX4_faultAs (c 1) (l 1) (v 4 3) la (f + nI i)) dX6_read_78 rfl rfl rfl rfl rfl rfl rfl (fun r9 B9 hq => ?_)
    obtain ⟨rfl, rfl⟩ := hq
    refine ⟨rfl, ?_⟩
    show J _ _ _ _ _ (.int _ :: _) (wC (rsN rs 1 T) v q x n u c l tn) _ _
    refine J.istore dX6_read_81 (by decide) rfl ?_
    try dsimp only [List.set]
    refine J.iload dX6_read_83 rfl ?_
    refine J.if_ne (tgt := 117) dX6_read_85 (by decide) (fun c85 => ?_) (fun c85 => ?_)
    · refine J.iinc (1) dX6_read_117 (by decide) rfl (by decide) rfl ?_
      try dsimp only [List.set]
      refine J.goto (tgt := 59) dX6_read_120 (by decide) ?_
      first
      | (refine J.at (ih (i + 1) (by omega) (tryR T (c 1 (f + nI i).toNatClampNeg)) ⟨rOK_try hh.1 _, ?_⟩) (by rw [c85, ← nI_1 i] <;> rfl) rfl rfl
         rw [← hh.2, rdO, if_neg (fun h9 => h9 c85), if_pos c105])
      | (have e9 : (nI i, some (T, fas (l 1) (v 4 3) la (f + nI i))) = R9 := by rw [← hh.2, rdO, if_pos c85]
         by_cases hz : i + 1 = N
         · refine J.iload dX6_read_59 rfl ?_
           refine J.iload dX6_read_61 rfl ?_
           refine J.icmp_ge (tgt := 123) dX6_read_63 (by decide) (fun c63 => ?_) (fun c63 => absurd c63 (fun h => h (by rw [← hz, ← nI_1 i] <;> exact Int32.le_refl _)))
           exact J.at (mX6_read1_e rs v q x n u c l tn la f N hN hl R9 T _ i (i + 1) e9) (by rw [← nI_1 i] <;> rfl) rfl rfl
         · refine J.iload dX6_read_59 rfl ?_
           refine J.iload dX6_read_61 rfl ?_
           refine J.icmp_ge (tgt := 123) dX6_read_63 (by decide) (fun c63 => absurd c63 (by rw [nI_1]; exact nI_ge (by omega) (by omega))) (fun c63 => ?_)
           refine J.iload dX6_read_66 rfl ?_
           refine J.if_ne (tgt := 123) dX6_read_68 (by decide) (fun c68 => ?_) (fun c68 => absurd c68 (fun h => c85 h))
           exact J.at (mX6_read1_e rs v q x n u c l tn la f N hN hl R9 T _ i (i + 1) e9) (by rw [← nI_1 i] <;> rfl) rfl rfl)
    · refine J.aload_n dX6_read_88 rfl rfl ?_
      refine J.getfield dX6_read_89 jFX6_16 rfl rfl ?_
      refine J.aload dX6_read_92 rfl ?_
      refine J.getfield dX6_read_94 jFX6_238 rfl rfl ?_
      refine J.iload_n dX6_read_97 rfl rfl ?_
      refine J.iload dX6_read_98 rfl ?_
      refine J.iadd dX6_read_100 ?_
      obtain ⟨j9, hj9, ej9⟩ := fas_in hl c85
      refine J.iaload dX6_read_101 rfl (by rw [ej9]; exact vp_in_nI (by omega) (by decide)) ?_
      refine J.cv (as := [.int _]) (is := [8, 9, 10, 11, 12, 13, 14]) (o := 0) okX2_tryHour jcX6_140 (mX2_tryHour T (c 1 (f + nI i).toNatClampNeg) hh.1) dX6_read_102 rfl rfl rfl rfl rfl rfl rfl (fun r9 B9 hq => ?_)
      obtain ⟨rfl, rfl⟩ := hq
      refine ⟨rfl, ?_⟩
      show J _ _ _ _ _ (.int _ :: _) (wC (rsN rs 1 (tryR T (c 1 (f + nI i).toNatClampNeg))) v q x n u c l tn) _ _
      refine J.if_ge (tgt := 114) dX6_read_105 (by decide) (fun c105 => ?_) (fun c105 => ?_)
      · refine J.iinc (1) dX6_read_114 (by decide) rfl (by decide) rfl ?_
        try dsimp only [List.set]
        refine J.iinc (1) dX6_read_117 (by decide) rfl (by decide) rfl ?_
        try dsimp only [List.set]
        refine J.goto (tgt := 59) dX6_read_120 (by decide) ?_
        first
        | (refine J.at (ih (i + 1) (by omega) (tryR T (c 1 (f + nI i).toNatClampNeg)) ⟨rOK_try hh.1 _, ?_⟩) (by rw [c85, ← nI_1 i] <;> rfl) rfl rfl
           rw [← hh.2, rdO, if_neg (fun h9 => h9 c85), if_pos c105])
        | (have e9 : (nI i, some (T, fas (l 1) (v 4 3) la (f + nI i))) = R9 := by rw [← hh.2, rdO, if_pos c85]
           by_cases hz : i + 1 = N
           · refine J.iload dX6_read_59 rfl ?_
             refine J.iload dX6_read_61 rfl ?_
             refine J.icmp_ge (tgt := 123) dX6_read_63 (by decide) (fun c63 => ?_) (fun c63 => absurd c63 (fun h => h (by rw [← hz, ← nI_1 i] <;> exact Int32.le_refl _)))
             exact J.at (mX6_read1_e rs v q x n u c l tn la f N hN hl R9 T _ i (i + 1) e9) (by rw [← nI_1 i] <;> rfl) rfl rfl
           · refine J.iload dX6_read_59 rfl ?_
             refine J.iload dX6_read_61 rfl ?_
             refine J.icmp_ge (tgt := 123) dX6_read_63 (by decide) (fun c63 => absurd c63 (by rw [nI_1]; exact nI_ge (by omega) (by omega))) (fun c63 => ?_)
             refine J.iload dX6_read_66 rfl ?_
             refine J.if_ne (tgt := 123) dX6_read_68 (by decide) (fun c68 => ?_) (fun c68 => absurd c68 (fun h => c85 h))
             exact J.at (mX6_read1_e rs v q x n u c l tn la f N hN hl R9 T _ i (i + 1) e9) (by rw [← nI_1 i] <;> rfl) rfl rfl)
      · refine J.bipush (-20) dX6_read_108 (by decide) ?_
        refine J.iload dX6_read_110 rfl ?_
        refine J.isub dX6_read_112 ?_
        exact J.iret dX6_read_113 rfl rfl (Nat.le_refl _) (Nat.le_refl _) ⟨by rw [← hh.2, rdO, if_neg (fun h9 => h9 c85), if_neg c105], _, by rw [← hh.2, rdO, if_neg (fun h9 => h9 c85), if_neg c105]; show _ = (wC (rsN (rsN rs 1 _) 0 (rs 0)) v q x n u c l tn); rw [rsN_n] <;> rfl⟩
set_option maxRecDepth 100000 in
set_option maxHeartbeats 4000000 in
theorem mX6_read1 (rs : Nat → rT) (v : Nat → Nat → Nat) (q : rT) (x : Nat → Nat) (n : Nat → Int64) (u : uT) (c : Nat → Nat → Int32) (l : Nat → Int32) (tn : Int32) (la f : Int32) (N : Nat) (hw : 0 ≤ la ∧ la ≤ 2) (hN : N ≤ 20) (hl : v 4 3 ≤ 40) (hr : rOK (rs 0)) : J KX6_read 62 (fun o B => o = some (.int (rdO (l 1) (v 4 3) (c 1) la f N 0 (rs 0)).1) ∧ ∃ r9, B = (wC (rsN (rsN rs 1 r9) 0 (rdT (rdO (l 1) (v 4 3) (c 1) la f N 0 (rs 0)).2 (rs 0))) v q x n u c l (rdF (rdO (l 1) (v 4 3) (c 1) la f N 0 (rs 0)).2 tn))) 0 [some (.ref 0), some (.int 1), some (.int la), some (.int f), some (.int (nI N)), none, none, none, none] [] (wC rs v q x n u c l tn) 0 0 := by
  refine J.iload_n dX6_read_0 rfl rfl ?_
  refine J.iconst (0) dX6_read_1 (by decide) ?_
  refine J.iconst (3) dX6_read_2 (by decide) ?_
  refine J.cs (as := [.int _, .int _, .int _]) (is := []) okX6_within jcX6_59 (mX6_within _ _ _) dX6_read_3 rfl rfl rfl rfl rfl rfl (fun r9 B9 hq => ?_)
  obtain ⟨rfl, rfl⟩ := hq
  refine ⟨rfl, ?_⟩
  show J _ _ _ _ _ (.int _ :: _) (wC rs v q x n u c l tn) _ _
  refine J.if_eq (tgt := 29) dX6_read_6 (by decide) (fun c6 => absurd c6 (fun h => (jB_0 _).mp h (by decide))) (fun c6 => ?_)
  refine J.iload_n dX6_read_9 rfl rfl ?_
  refine J.iconst (0) dX6_read_10 (by decide) ?_
  refine J.iconst (2) dX6_read_11 (by decide) ?_
  refine J.cs (as := [.int _, .int _, .int _]) (is := []) okX6_within jcX6_59 (mX6_within _ _ _) dX6_read_12 rfl rfl rfl rfl rfl rfl (fun r9 B9 hq => ?_)
  obtain ⟨rfl, rfl⟩ := hq
  refine ⟨rfl, ?_⟩
  show J _ _ _ _ _ (.int _ :: _) (wC rs v q x n u c l tn) _ _
  refine J.if_eq (tgt := 29) dX6_read_15 (by decide) (fun c15 => absurd c15 (fun h => (jB_0 _).mp h hw)) (fun c15 => ?_)
  refine J.iload dX6_read_18 rfl ?_
  refine J.iconst (0) dX6_read_20 (by decide) ?_
  refine J.bipush (20) dX6_read_21 (by decide) ?_
  refine J.cs (as := [.int _, .int _, .int _]) (is := []) okX6_within jcX6_59 (mX6_within _ _ _) dX6_read_23 rfl rfl rfl rfl rfl rfl (fun r9 B9 hq => ?_)
  obtain ⟨rfl, rfl⟩ := hq
  refine ⟨rfl, ?_⟩
  show J _ _ _ _ _ (.int _ :: _) (wC rs v q x n u c l tn) _ _
  refine J.if_ne (tgt := 31) dX6_read_26 (by decide) (fun c26 => ?_) (fun c26 => absurd c26 (fun h => (jB_0 _).mp h (jw (a := 0) (c := 20) (by decide) (Nat.zero_le _) hN)))
  refine J.aload_n dX6_read_31 rfl rfl ?_
  refine J.getfield dX6_read_32 jFX6_50 rfl rfl ?_
  refine J.iload_n dX6_read_35 rfl rfl ?_
  refine J.aaload5 (q := 56) dX6_read_36 rfl (vp_in_nI (n := 1) (by decide) (by decide)) rfl ?_
  refine J.astore dX6_read_37 (by decide) rfl ?_
  try dsimp only [List.set]
  refine J.aload_n dX6_read_39 rfl rfl ?_
  refine J.getfield dX6_read_40 jFX6_16 rfl rfl ?_
  refine J.aload_n dX6_read_43 rfl rfl ?_
  refine J.getfield dX6_read_44 jFX6_12 rfl rfl ?_
  refine J.cv (as := [.ref 7]) (is := [8, 9, 10, 11, 12, 13, 14, 1, 2, 3, 4, 5, 6, 7]) (o := 0) okX2_copy jcX6_86 (mX2_copy (rs 1) (rs 0)) dX6_read_47 rfl rfl rfl rfl rfl rfl rfl (fun r9 B9 hq => ?_)
  obtain ⟨rfl, rfl⟩ := hq
  refine ⟨rfl, ?_⟩
  show J _ _ _ _ _ [] (wC (rsN rs 1 (rs 0)) v q x n u c l tn) _ _
  refine J.iconst (0) dX6_read_50 (by decide) ?_
  refine J.istore dX6_read_51 (by decide) rfl ?_
  try dsimp only [List.set]
  refine J.iconst (0) dX6_read_53 (by decide) ?_
  refine J.istore dX6_read_54 (by decide) rfl ?_
  try dsimp only [List.set]
  refine J.iconst (0) dX6_read_56 (by decide) ?_
  refine J.istore dX6_read_57 (by decide) rfl ?_
  try dsimp only [List.set]
  exact J.at (mX6_read1_l rs v q x n u c l tn la f N hN hl _ N 0 (by omega) (rs 0) ⟨hr, rfl⟩) rfl rfl rfl
set_option maxRecDepth 100000 in
set_option maxHeartbeats 4000000 in
theorem mX6_read2_e (rs : Nat → rT) (v : Nat → Nat → Nat) (q : rT) (x : Nat → Nat) (n : Nat → Int64) (u : uT) (c : Nat → Nat → Int32) (l : Nat → Int32) (tn : Int32) (la f : Int32) (N : Nat) (hN : N ≤ 20) (hl : v 4 4 ≤ 40) (R9 : Int32 × Option (rT × Int32)) (T : rT) (F : Int32) (i j : Nat) (h9 : (nI i, some (T, F)) = R9) : J KX6_read 62 (fun o B => o = some (.int R9.1) ∧ ∃ r9, B = (wC (rsN (rsN rs 1 r9) 0 (rdT R9.2 (rs 0))) v q x n u c l (rdF R9.2 tn))) 123 [some (.ref 0), some (.int 2), some (.int la), some (.int f), some (.int (nI N)), some (.ref 58), some (.int F), some (.int (nI i)), some (.int (nI j))] [] (wC (rsN rs 1 T) v q x n u c l tn) 0 0 := by
  refine J.aload_n dX6_read_123 rfl rfl ?_
  refine J.getfield dX6_read_124 jFX6_12 rfl rfl ?_
  refine J.aload_n dX6_read_127 rfl rfl ?_
  refine J.getfield dX6_read_128 jFX6_16 rfl rfl ?_
  refine J.cv (as := [.ref 7]) (is := [1, 2, 3, 4, 5, 6, 7, 8, 9, 10, 11, 12, 13, 14]) (o := 0) okX2_copy jcX6_86 (mX2_copy (rs 0) T) dX6_read_131 rfl rfl rfl rfl rfl rfl rfl (fun r9 B9 hq => ?_)
  obtain ⟨rfl, rfl⟩ := hq
  refine ⟨rfl, ?_⟩
  show J _ _ _ _ _ [] (wC (rsN (rsN rs 1 T) 0 T) v q x n u c l tn) _ _
  refine J.aload_n dX6_read_134 rfl rfl ?_
  refine J.iload dX6_read_135 rfl ?_
  refine J.putfield dX6_read_137 jFX6_54 jP6_8 rfl rfl rfl (Nat.le_of_ble_eq_true rfl) ?_
  try dsimp only [List.set]
  refine J.iload dX6_read_140 rfl ?_
  exact J.iret dX6_read_142 rfl rfl (Nat.le_refl _) (Nat.le_refl _) ⟨by rw [← h9], T, by rw [← h9] <;> rfl⟩
set_option maxRecDepth 100000 in
set_option maxHeartbeats 4000000 in
theorem mX6_read2_l (rs : Nat → rT) (v : Nat → Nat → Nat) (q : rT) (x : Nat → Nat) (n : Nat → Int64) (u : uT) (c : Nat → Nat → Int32) (l : Nat → Int32) (tn : Int32) (la f : Int32) (N : Nat) (hN : N ≤ 20) (hl : v 4 4 ≤ 40) (R9 : Int32 × Option (rT × Int32)) : ∀ (k9 i : Nat), i + k9 = N → ∀ (T : rT), (rOK T ∧ rdO (l 2) (v 4 4) (c 2) la f (k9) i T = R9) → J KX6_read 62 (fun o B => o = some (.int R9.1) ∧ ∃ r9, B = (wC (rsN (rsN rs 1 r9) 0 (rdT R9.2 (rs 0))) v q x n u c l (rdF R9.2 tn))) 59 [some (.ref 0), some (.int 2), some (.int la), some (.int f), some (.int (nI N)), some (.ref 58), some (.int 0), some (.int (nI i)), some (.int (nI i))] [] (wC (rsN rs 1 T) v q x n u c l tn) 0 0 := by
  intro k9
  induction k9 with
  | zero =>
    intro i hi
    obtain hiN : i = N := by omega
    intro T hh
    subst hiN
    refine J.iload dX6_read_59 rfl ?_
    refine J.iload dX6_read_61 rfl ?_
    refine J.icmp_ge (tgt := 123) dX6_read_63 (by decide) (fun c63 => ?_) (fun c63 => absurd c63 (fun h => h (Int32.le_refl _)))
    exact mX6_read2_e rs v q x n u c l tn la f i hN hl R9 T 0 i i hh.2
  | succ k9 ih =>
    intro i hi
    have hiN : i < N := by omega
    intro T hh
    refine J.iload dX6_read_59 rfl ?_
    refine J.iload dX6_read_61 rfl ?_
    refine J.icmp_ge (tgt := 123) dX6_read_63 (by decide) (fun c63 => absurd c63 (nI_ge (by omega) (by omega))) (fun c63 => ?_)
    refine J.iload dX6_read_66 rfl ?_
    refine J.if_ne (tgt := 123) dX6_read_68 (by decide) (fun c68 => absurd c68 (fun h => h rfl)) (fun c68 => ?_)
    refine J.aload dX6_read_71 rfl ?_
    refine J.iload_n dX6_read_73 rfl rfl ?_
    refine J.iload_n dX6_read_74 rfl rfl ?_
    refine J.iload dX6_read_75 rfl ?_
    refine J.iadd dX6_read_77 ?_
    refine J.cv (as := [.int _, .int _]) (is := [58, 59]) (o := 0) okX4_faultAs jcX6_234 (mX4_faultAs (c 2) (l 2) (v 4 4) la (f + nI i)) dX6_read_78 rfl rfl rfl rfl rfl rfl rfl (fun r9 B9 hq => ?_)
    obtain ⟨rfl, rfl⟩ := hq
    refine ⟨rfl, ?_⟩
    show J _ _ _ _ _ (.int _ :: _) (wC (rsN rs 1 T) v q x n u c l tn) _ _
    refine J.istore dX6_read_81 (by decide) rfl ?_
    try dsimp only [List.set]
    refine J.iload dX6_read_83 rfl ?_
    refine J.if_ne (tgt := 117) dX6_read_85 (by decide) (fun c85 => ?_) (fun c85 => ?_)
    · refine J.iinc (1) dX6_read_117 (by decide) rfl (by decide) rfl ?_
      try dsimp only [List.set]
      refine J.goto (tgt := 59) dX6_read_120 (by decide) ?_
      first
      | (refine J.at (ih (i + 1) (by omega) (tryR T (c 2 (f + nI i).toNatClampNeg)) ⟨rOK_try hh.1 _, ?_⟩) (by rw [c85, ← nI_1 i] <;> rfl) rfl rfl
         rw [← hh.2, rdO, if_neg (fun h9 => h9 c85), if_pos c105])
      | (have e9 : (nI i, some (T, fas (l 2) (v 4 4) la (f + nI i))) = R9 := by rw [← hh.2, rdO, if_pos c85]
         by_cases hz : i + 1 = N
         · refine J.iload dX6_read_59 rfl ?_
           refine J.iload dX6_read_61 rfl ?_
           refine J.icmp_ge (tgt := 123) dX6_read_63 (by decide) (fun c63 => ?_) (fun c63 => absurd c63 (fun h => h (by rw [← hz, ← nI_1 i] <;> exact Int32.le_refl _)))
           exact J.at (mX6_read2_e rs v q x n u c l tn la f N hN hl R9 T _ i (i + 1) e9) (by rw [← nI_1 i] <;> rfl) rfl rfl
         · refine J.iload dX6_read_59 rfl ?_
           refine J.iload dX6_read_61 rfl ?_
           refine J.icmp_ge (tgt := 123) dX6_read_63 (by decide) (fun c63 => absurd c63 (by rw [nI_1]; exact nI_ge (by omega) (by omega))) (fun c63 => ?_)
           refine J.iload dX6_read_66 rfl ?_
           refine J.if_ne (tgt := 123) dX6_read_68 (by decide) (fun c68 => ?_) (fun c68 => absurd c68 (fun h => c85 h))
           exact J.at (mX6_read2_e rs v q x n u c l tn la f N hN hl R9 T _ i (i + 1) e9) (by rw [← nI_1 i] <;> rfl) rfl rfl)
    · refine J.aload_n dX6_read_88 rfl rfl ?_
      refine J.getfield dX6_read_89 jFX6_16 rfl rfl ?_
      refine J.aload dX6_read_92 rfl ?_
      refine J.getfield dX6_read_94 jFX6_238 rfl rfl ?_
      refine J.iload_n dX6_read_97 rfl rfl ?_
      refine J.iload dX6_read_98 rfl ?_
      refine J.iadd dX6_read_100 ?_
      obtain ⟨j9, hj9, ej9⟩ := fas_in hl c85
      refine J.iaload dX6_read_101 rfl (by rw [ej9]; exact vp_in_nI (by omega) (by decide)) ?_
      refine J.cv (as := [.int _]) (is := [8, 9, 10, 11, 12, 13, 14]) (o := 0) okX2_tryHour jcX6_140 (mX2_tryHour T (c 2 (f + nI i).toNatClampNeg) hh.1) dX6_read_102 rfl rfl rfl rfl rfl rfl rfl (fun r9 B9 hq => ?_)
      obtain ⟨rfl, rfl⟩ := hq
      refine ⟨rfl, ?_⟩
      show J _ _ _ _ _ (.int _ :: _) (wC (rsN rs 1 (tryR T (c 2 (f + nI i).toNatClampNeg))) v q x n u c l tn) _ _
      refine J.if_ge (tgt := 114) dX6_read_105 (by decide) (fun c105 => ?_) (fun c105 => ?_)
      · refine J.iinc (1) dX6_read_114 (by decide) rfl (by decide) rfl ?_
        try dsimp only [List.set]
        refine J.iinc (1) dX6_read_117 (by decide) rfl (by decide) rfl ?_
        try dsimp only [List.set]
        refine J.goto (tgt := 59) dX6_read_120 (by decide) ?_
        first
        | (refine J.at (ih (i + 1) (by omega) (tryR T (c 2 (f + nI i).toNatClampNeg)) ⟨rOK_try hh.1 _, ?_⟩) (by rw [c85, ← nI_1 i] <;> rfl) rfl rfl
           rw [← hh.2, rdO, if_neg (fun h9 => h9 c85), if_pos c105])
        | (have e9 : (nI i, some (T, fas (l 2) (v 4 4) la (f + nI i))) = R9 := by rw [← hh.2, rdO, if_pos c85]
           by_cases hz : i + 1 = N
           · refine J.iload dX6_read_59 rfl ?_
             refine J.iload dX6_read_61 rfl ?_
             refine J.icmp_ge (tgt := 123) dX6_read_63 (by decide) (fun c63 => ?_) (fun c63 => absurd c63 (fun h => h (by rw [← hz, ← nI_1 i] <;> exact Int32.le_refl _)))
             exact J.at (mX6_read2_e rs v q x n u c l tn la f N hN hl R9 T _ i (i + 1) e9) (by rw [← nI_1 i] <;> rfl) rfl rfl
           · refine J.iload dX6_read_59 rfl ?_
             refine J.iload dX6_read_61 rfl ?_
             refine J.icmp_ge (tgt := 123) dX6_read_63 (by decide) (fun c63 => absurd c63 (by rw [nI_1]; exact nI_ge (by omega) (by omega))) (fun c63 => ?_)
             refine J.iload dX6_read_66 rfl ?_
             refine J.if_ne (tgt := 123) dX6_read_68 (by decide) (fun c68 => ?_) (fun c68 => absurd c68 (fun h => c85 h))
             exact J.at (mX6_read2_e rs v q x n u c l tn la f N hN hl R9 T _ i (i + 1) e9) (by rw [← nI_1 i] <;> rfl) rfl rfl)
      · refine J.bipush (-20) dX6_read_108 (by decide) ?_
        refine J.iload dX6_read_110 rfl ?_
        refine J.isub dX6_read_112 ?_
        exact J.iret dX6_read_113 rfl rfl (Nat.le_refl _) (Nat.le_refl _) ⟨by rw [← hh.2, rdO, if_neg (fun h9 => h9 c85), if_neg c105], _, by rw [← hh.2, rdO, if_neg (fun h9 => h9 c85), if_neg c105]; show _ = (wC (rsN (rsN rs 1 _) 0 (rs 0)) v q x n u c l tn); rw [rsN_n] <;> rfl⟩
set_option maxRecDepth 100000 in
set_option maxHeartbeats 4000000 in
theorem mX6_read2 (rs : Nat → rT) (v : Nat → Nat → Nat) (q : rT) (x : Nat → Nat) (n : Nat → Int64) (u : uT) (c : Nat → Nat → Int32) (l : Nat → Int32) (tn : Int32) (la f : Int32) (N : Nat) (hw : 0 ≤ la ∧ la ≤ 2) (hN : N ≤ 20) (hl : v 4 4 ≤ 40) (hr : rOK (rs 0)) : J KX6_read 62 (fun o B => o = some (.int (rdO (l 2) (v 4 4) (c 2) la f N 0 (rs 0)).1) ∧ ∃ r9, B = (wC (rsN (rsN rs 1 r9) 0 (rdT (rdO (l 2) (v 4 4) (c 2) la f N 0 (rs 0)).2 (rs 0))) v q x n u c l (rdF (rdO (l 2) (v 4 4) (c 2) la f N 0 (rs 0)).2 tn))) 0 [some (.ref 0), some (.int 2), some (.int la), some (.int f), some (.int (nI N)), none, none, none, none] [] (wC rs v q x n u c l tn) 0 0 := by
  refine J.iload_n dX6_read_0 rfl rfl ?_
  refine J.iconst (0) dX6_read_1 (by decide) ?_
  refine J.iconst (3) dX6_read_2 (by decide) ?_
  refine J.cs (as := [.int _, .int _, .int _]) (is := []) okX6_within jcX6_59 (mX6_within _ _ _) dX6_read_3 rfl rfl rfl rfl rfl rfl (fun r9 B9 hq => ?_)
  obtain ⟨rfl, rfl⟩ := hq
  refine ⟨rfl, ?_⟩
  show J _ _ _ _ _ (.int _ :: _) (wC rs v q x n u c l tn) _ _
  refine J.if_eq (tgt := 29) dX6_read_6 (by decide) (fun c6 => absurd c6 (fun h => (jB_0 _).mp h (by decide))) (fun c6 => ?_)
  refine J.iload_n dX6_read_9 rfl rfl ?_
  refine J.iconst (0) dX6_read_10 (by decide) ?_
  refine J.iconst (2) dX6_read_11 (by decide) ?_
  refine J.cs (as := [.int _, .int _, .int _]) (is := []) okX6_within jcX6_59 (mX6_within _ _ _) dX6_read_12 rfl rfl rfl rfl rfl rfl (fun r9 B9 hq => ?_)
  obtain ⟨rfl, rfl⟩ := hq
  refine ⟨rfl, ?_⟩
  show J _ _ _ _ _ (.int _ :: _) (wC rs v q x n u c l tn) _ _
  refine J.if_eq (tgt := 29) dX6_read_15 (by decide) (fun c15 => absurd c15 (fun h => (jB_0 _).mp h hw)) (fun c15 => ?_)
  refine J.iload dX6_read_18 rfl ?_
  refine J.iconst (0) dX6_read_20 (by decide) ?_
  refine J.bipush (20) dX6_read_21 (by decide) ?_
  refine J.cs (as := [.int _, .int _, .int _]) (is := []) okX6_within jcX6_59 (mX6_within _ _ _) dX6_read_23 rfl rfl rfl rfl rfl rfl (fun r9 B9 hq => ?_)
  obtain ⟨rfl, rfl⟩ := hq
  refine ⟨rfl, ?_⟩
  show J _ _ _ _ _ (.int _ :: _) (wC rs v q x n u c l tn) _ _
  refine J.if_ne (tgt := 31) dX6_read_26 (by decide) (fun c26 => ?_) (fun c26 => absurd c26 (fun h => (jB_0 _).mp h (jw (a := 0) (c := 20) (by decide) (Nat.zero_le _) hN)))
  refine J.aload_n dX6_read_31 rfl rfl ?_
  refine J.getfield dX6_read_32 jFX6_50 rfl rfl ?_
  refine J.iload_n dX6_read_35 rfl rfl ?_
  refine J.aaload5 (q := 58) dX6_read_36 rfl (vp_in_nI (n := 2) (by decide) (by decide)) rfl ?_
  refine J.astore dX6_read_37 (by decide) rfl ?_
  try dsimp only [List.set]
  refine J.aload_n dX6_read_39 rfl rfl ?_
  refine J.getfield dX6_read_40 jFX6_16 rfl rfl ?_
  refine J.aload_n dX6_read_43 rfl rfl ?_
  refine J.getfield dX6_read_44 jFX6_12 rfl rfl ?_
  refine J.cv (as := [.ref 7]) (is := [8, 9, 10, 11, 12, 13, 14, 1, 2, 3, 4, 5, 6, 7]) (o := 0) okX2_copy jcX6_86 (mX2_copy (rs 1) (rs 0)) dX6_read_47 rfl rfl rfl rfl rfl rfl rfl (fun r9 B9 hq => ?_)
  obtain ⟨rfl, rfl⟩ := hq
  refine ⟨rfl, ?_⟩
  show J _ _ _ _ _ [] (wC (rsN rs 1 (rs 0)) v q x n u c l tn) _ _
  refine J.iconst (0) dX6_read_50 (by decide) ?_
  refine J.istore dX6_read_51 (by decide) rfl ?_
  try dsimp only [List.set]
  refine J.iconst (0) dX6_read_53 (by decide) ?_
  refine J.istore dX6_read_54 (by decide) rfl ?_
  try dsimp only [List.set]
  refine J.iconst (0) dX6_read_56 (by decide) ?_
  refine J.istore dX6_read_57 (by decide) rfl ?_
  try dsimp only [List.set]
  exact J.at (mX6_read2_l rs v q x n u c l tn la f N hN hl _ N 0 (by omega) (rs 0) ⟨hr, rfl⟩) rfl rfl rfl
set_option maxRecDepth 100000 in
set_option maxHeartbeats 4000000 in
theorem mX6_read3_e (rs : Nat → rT) (v : Nat → Nat → Nat) (q : rT) (x : Nat → Nat) (n : Nat → Int64) (u : uT) (c : Nat → Nat → Int32) (l : Nat → Int32) (tn : Int32) (la f : Int32) (N : Nat) (hN : N ≤ 20) (hl : v 4 5 ≤ 40) (R9 : Int32 × Option (rT × Int32)) (T : rT) (F : Int32) (i j : Nat) (h9 : (nI i, some (T, F)) = R9) : J KX6_read 62 (fun o B => o = some (.int R9.1) ∧ ∃ r9, B = (wC (rsN (rsN rs 1 r9) 0 (rdT R9.2 (rs 0))) v q x n u c l (rdF R9.2 tn))) 123 [some (.ref 0), some (.int 3), some (.int la), some (.int f), some (.int (nI N)), some (.ref 60), some (.int F), some (.int (nI i)), some (.int (nI j))] [] (wC (rsN rs 1 T) v q x n u c l tn) 0 0 := by
  refine J.aload_n dX6_read_123 rfl rfl ?_
  refine J.getfield dX6_read_124 jFX6_12 rfl rfl ?_
  refine J.aload_n dX6_read_127 rfl rfl ?_
  refine J.getfield dX6_read_128 jFX6_16 rfl rfl ?_
  refine J.cv (as := [.ref 7]) (is := [1, 2, 3, 4, 5, 6, 7, 8, 9, 10, 11, 12, 13, 14]) (o := 0) okX2_copy jcX6_86 (mX2_copy (rs 0) T) dX6_read_131 rfl rfl rfl rfl rfl rfl rfl (fun r9 B9 hq => ?_)
  obtain ⟨rfl, rfl⟩ := hq
  refine ⟨rfl, ?_⟩
  show J _ _ _ _ _ [] (wC (rsN (rsN rs 1 T) 0 T) v q x n u c l tn) _ _
  refine J.aload_n dX6_read_134 rfl rfl ?_
  refine J.iload dX6_read_135 rfl ?_
  refine J.putfield dX6_read_137 jFX6_54 jP6_8 rfl rfl rfl (Nat.le_of_ble_eq_true rfl) ?_
  try dsimp only [List.set]
  refine J.iload dX6_read_140 rfl ?_
  exact J.iret dX6_read_142 rfl rfl (Nat.le_refl _) (Nat.le_refl _) ⟨by rw [← h9], T, by rw [← h9] <;> rfl⟩
set_option maxRecDepth 100000 in
set_option maxHeartbeats 4000000 in
theorem mX6_read3_l (rs : Nat → rT) (v : Nat → Nat → Nat) (q : rT) (x : Nat → Nat) (n : Nat → Int64) (u : uT) (c : Nat → Nat → Int32) (l : Nat → Int32) (tn : Int32) (la f : Int32) (N : Nat) (hN : N ≤ 20) (hl : v 4 5 ≤ 40) (R9 : Int32 × Option (rT × Int32)) : ∀ (k9 i : Nat), i + k9 = N → ∀ (T : rT), (rOK T ∧ rdO (l 3) (v 4 5) (c 3) la f (k9) i T = R9) → J KX6_read 62 (fun o B => o = some (.int R9.1) ∧ ∃ r9, B = (wC (rsN (rsN rs 1 r9) 0 (rdT R9.2 (rs 0))) v q x n u c l (rdF R9.2 tn))) 59 [some (.ref 0), some (.int 3), some (.int la), some (.int f), some (.int (nI N)), some (.ref 60), some (.int 0), some (.int (nI i)), some (.int (nI i))] [] (wC (rsN rs 1 T) v q x n u c l tn) 0 0 := by
  intro k9
  induction k9 with
  | zero =>
    intro i hi
    obtain hiN : i = N := by omega
    intro T hh
    subst hiN
    refine J.iload dX6_read_59 rfl ?_
    refine J.iload dX6_read_61 rfl ?_
    refine J.icmp_ge (tgt := 123) dX6_read_63 (by decide) (fun c63 => ?_) (fun c63 => absurd c63 (fun h => h (Int32.le_refl _)))
    exact mX6_read3_e rs v q x n u c l tn la f i hN hl R9 T 0 i i hh.2
  | succ k9 ih =>
    intro i hi
    have hiN : i < N := by omega
    intro T hh
    refine J.iload dX6_read_59 rfl ?_
    refine J.iload dX6_read_61 rfl ?_
    refine J.icmp_ge (tgt := 123) dX6_read_63 (by decide) (fun c63 => absurd c63 (nI_ge (by omega) (by omega))) (fun c63 => ?_)
    refine J.iload dX6_read_66 rfl ?_
    refine J.if_ne (tgt := 123) dX6_read_68 (by decide) (fun c68 => absurd c68 (fun h => h rfl)) (fun c68 => ?_)
    refine J.aload dX6_read_71 rfl ?_
    refine J.iload_n dX6_read_73 rfl rfl ?_
    refine J.iload_n dX6_read_74 rfl rfl ?_
    refine J.iload dX6_read_75 rfl ?_
    refine J.iadd dX6_read_77 ?_
    refine J.cv (as := [.int _, .int _]) (is := [60, 61]) (o := 0) okX4_faultAs jcX6_234 (mX4_faultAs (c 3) (l 3) (v 4 5) la (f + nI i)) dX6_read_78 rfl rfl rfl rfl rfl rfl rfl (fun r9 B9 hq => ?_)
    obtain ⟨rfl, rfl⟩ := hq
    refine ⟨rfl, ?_⟩
    show J _ _ _ _ _ (.int _ :: _) (wC (rsN rs 1 T) v q x n u c l tn) _ _
    refine J.istore dX6_read_81 (by decide) rfl ?_
    try dsimp only [List.set]
    refine J.iload dX6_read_83 rfl ?_
    refine J.if_ne (tgt := 117) dX6_read_85 (by decide) (fun c85 => ?_) (fun c85 => ?_)
    · refine J.iinc (1) dX6_read_117 (by decide) rfl (by decide) rfl ?_
      try dsimp only [List.set]
      refine J.goto (tgt := 59) dX6_read_120 (by decide) ?_
      first
      | (refine J.at (ih (i + 1) (by omega) (tryR T (c 3 (f + nI i).toNatClampNeg)) ⟨rOK_try hh.1 _, ?_⟩) (by rw [c85, ← nI_1 i] <;> rfl) rfl rfl
         rw [← hh.2, rdO, if_neg (fun h9 => h9 c85), if_pos c105])
      | (have e9 : (nI i, some (T, fas (l 3) (v 4 5) la (f + nI i))) = R9 := by rw [← hh.2, rdO, if_pos c85]
         by_cases hz : i + 1 = N
         · refine J.iload dX6_read_59 rfl ?_
           refine J.iload dX6_read_61 rfl ?_
           refine J.icmp_ge (tgt := 123) dX6_read_63 (by decide) (fun c63 => ?_) (fun c63 => absurd c63 (fun h => h (by rw [← hz, ← nI_1 i] <;> exact Int32.le_refl _)))
           exact J.at (mX6_read3_e rs v q x n u c l tn la f N hN hl R9 T _ i (i + 1) e9) (by rw [← nI_1 i] <;> rfl) rfl rfl
         · refine J.iload dX6_read_59 rfl ?_
           refine J.iload dX6_read_61 rfl ?_
           refine J.icmp_ge (tgt := 123) dX6_read_63 (by decide) (fun c63 => absurd c63 (by rw [nI_1]; exact nI_ge (by omega) (by omega))) (fun c63 => ?_)
           refine J.iload dX6_read_66 rfl ?_
           refine J.if_ne (tgt := 123) dX6_read_68 (by decide) (fun c68 => ?_) (fun c68 => absurd c68 (fun h => c85 h))
           exact J.at (mX6_read3_e rs v q x n u c l tn la f N hN hl R9 T _ i (i + 1) e9) (by rw [← nI_1 i] <;> rfl) rfl rfl)
    · refine J.aload_n dX6_read_88 rfl rfl ?_
      refine J.getfield dX6_read_89 jFX6_16 rfl rfl ?_
      refine J.aload dX6_read_92 rfl ?_
      refine J.getfield dX6_read_94 jFX6_238 rfl rfl ?_
      refine J.iload_n dX6_read_97 rfl rfl ?_
      refine J.iload dX6_read_98 rfl ?_
      refine J.iadd dX6_read_100 ?_
      obtain ⟨j9, hj9, ej9⟩ := fas_in hl c85
      refine J.iaload dX6_read_101 rfl (by rw [ej9]; exact vp_in_nI (by omega) (by decide)) ?_
      refine J.cv (as := [.int _]) (is := [8, 9, 10, 11, 12, 13, 14]) (o := 0) okX2_tryHour jcX6_140 (mX2_tryHour T (c 3 (f + nI i).toNatClampNeg) hh.1) dX6_read_102 rfl rfl rfl rfl rfl rfl rfl (fun r9 B9 hq => ?_)
      obtain ⟨rfl, rfl⟩ := hq
      refine ⟨rfl, ?_⟩
      show J _ _ _ _ _ (.int _ :: _) (wC (rsN rs 1 (tryR T (c 3 (f + nI i).toNatClampNeg))) v q x n u c l tn) _ _
      refine J.if_ge (tgt := 114) dX6_read_105 (by decide) (fun c105 => ?_) (fun c105 => ?_)
      · refine J.iinc (1) dX6_read_114 (by decide) rfl (by decide) rfl ?_
        try dsimp only [List.set]
        refine J.iinc (1) dX6_read_117 (by decide) rfl (by decide) rfl ?_
        try dsimp only [List.set]
        refine J.goto (tgt := 59) dX6_read_120 (by decide) ?_
        first
        | (refine J.at (ih (i + 1) (by omega) (tryR T (c 3 (f + nI i).toNatClampNeg)) ⟨rOK_try hh.1 _, ?_⟩) (by rw [c85, ← nI_1 i] <;> rfl) rfl rfl
           rw [← hh.2, rdO, if_neg (fun h9 => h9 c85), if_pos c105])
        | (have e9 : (nI i, some (T, fas (l 3) (v 4 5) la (f + nI i))) = R9 := by rw [← hh.2, rdO, if_pos c85]
           by_cases hz : i + 1 = N
           · refine J.iload dX6_read_59 rfl ?_
             refine J.iload dX6_read_61 rfl ?_
             refine J.icmp_ge (tgt := 123) dX6_read_63 (by decide) (fun c63 => ?_) (fun c63 => absurd c63 (fun h => h (by rw [← hz, ← nI_1 i] <;> exact Int32.le_refl _)))
             exact J.at (mX6_read3_e rs v q x n u c l tn la f N hN hl R9 T _ i (i + 1) e9) (by rw [← nI_1 i] <;> rfl) rfl rfl
           · refine J.iload dX6_read_59 rfl ?_
             refine J.iload dX6_read_61 rfl ?_
             refine J.icmp_ge (tgt := 123) dX6_read_63 (by decide) (fun c63 => absurd c63 (by rw [nI_1]; exact nI_ge (by omega) (by omega))) (fun c63 => ?_)
             refine J.iload dX6_read_66 rfl ?_
             refine J.if_ne (tgt := 123) dX6_read_68 (by decide) (fun c68 => ?_) (fun c68 => absurd c68 (fun h => c85 h))
             exact J.at (mX6_read3_e rs v q x n u c l tn la f N hN hl R9 T _ i (i + 1) e9) (by rw [← nI_1 i] <;> rfl) rfl rfl)
      · refine J.bipush (-20) dX6_read_108 (by decide) ?_
        refine J.iload dX6_read_110 rfl ?_
        refine J.isub dX6_read_112 ?_
        exact J.iret dX6_read_113 rfl rfl (Nat.le_refl _) (Nat.le_refl _) ⟨by rw [← hh.2, rdO, if_neg (fun h9 => h9 c85), if_neg c105], _, by rw [← hh.2, rdO, if_neg (fun h9 => h9 c85), if_neg c105]; show _ = (wC (rsN (rsN rs 1 _) 0 (rs 0)) v q x n u c l tn); rw [rsN_n] <;> rfl⟩
set_option maxRecDepth 100000 in
set_option maxHeartbeats 4000000 in
theorem mX6_read3 (rs : Nat → rT) (v : Nat → Nat → Nat) (q : rT) (x : Nat → Nat) (n : Nat → Int64) (u : uT) (c : Nat → Nat → Int32) (l : Nat → Int32) (tn : Int32) (la f : Int32) (N : Nat) (hw : 0 ≤ la ∧ la ≤ 2) (hN : N ≤ 20) (hl : v 4 5 ≤ 40) (hr : rOK (rs 0)) : J KX6_read 62 (fun o B => o = some (.int (rdO (l 3) (v 4 5) (c 3) la f N 0 (rs 0)).1) ∧ ∃ r9, B = (wC (rsN (rsN rs 1 r9) 0 (rdT (rdO (l 3) (v 4 5) (c 3) la f N 0 (rs 0)).2 (rs 0))) v q x n u c l (rdF (rdO (l 3) (v 4 5) (c 3) la f N 0 (rs 0)).2 tn))) 0 [some (.ref 0), some (.int 3), some (.int la), some (.int f), some (.int (nI N)), none, none, none, none] [] (wC rs v q x n u c l tn) 0 0 := by
  refine J.iload_n dX6_read_0 rfl rfl ?_
  refine J.iconst (0) dX6_read_1 (by decide) ?_
  refine J.iconst (3) dX6_read_2 (by decide) ?_
  refine J.cs (as := [.int _, .int _, .int _]) (is := []) okX6_within jcX6_59 (mX6_within _ _ _) dX6_read_3 rfl rfl rfl rfl rfl rfl (fun r9 B9 hq => ?_)
  obtain ⟨rfl, rfl⟩ := hq
  refine ⟨rfl, ?_⟩
  show J _ _ _ _ _ (.int _ :: _) (wC rs v q x n u c l tn) _ _
  refine J.if_eq (tgt := 29) dX6_read_6 (by decide) (fun c6 => absurd c6 (fun h => (jB_0 _).mp h (by decide))) (fun c6 => ?_)
  refine J.iload_n dX6_read_9 rfl rfl ?_
  refine J.iconst (0) dX6_read_10 (by decide) ?_
  refine J.iconst (2) dX6_read_11 (by decide) ?_
  refine J.cs (as := [.int _, .int _, .int _]) (is := []) okX6_within jcX6_59 (mX6_within _ _ _) dX6_read_12 rfl rfl rfl rfl rfl rfl (fun r9 B9 hq => ?_)
  obtain ⟨rfl, rfl⟩ := hq
  refine ⟨rfl, ?_⟩
  show J _ _ _ _ _ (.int _ :: _) (wC rs v q x n u c l tn) _ _
  refine J.if_eq (tgt := 29) dX6_read_15 (by decide) (fun c15 => absurd c15 (fun h => (jB_0 _).mp h hw)) (fun c15 => ?_)
  refine J.iload dX6_read_18 rfl ?_
  refine J.iconst (0) dX6_read_20 (by decide) ?_
  refine J.bipush (20) dX6_read_21 (by decide) ?_
  refine J.cs (as := [.int _, .int _, .int _]) (is := []) okX6_within jcX6_59 (mX6_within _ _ _) dX6_read_23 rfl rfl rfl rfl rfl rfl (fun r9 B9 hq => ?_)
  obtain ⟨rfl, rfl⟩ := hq
  refine ⟨rfl, ?_⟩
  show J _ _ _ _ _ (.int _ :: _) (wC rs v q x n u c l tn) _ _
  refine J.if_ne (tgt := 31) dX6_read_26 (by decide) (fun c26 => ?_) (fun c26 => absurd c26 (fun h => (jB_0 _).mp h (jw (a := 0) (c := 20) (by decide) (Nat.zero_le _) hN)))
  refine J.aload_n dX6_read_31 rfl rfl ?_
  refine J.getfield dX6_read_32 jFX6_50 rfl rfl ?_
  refine J.iload_n dX6_read_35 rfl rfl ?_
  refine J.aaload5 (q := 60) dX6_read_36 rfl (vp_in_nI (n := 3) (by decide) (by decide)) rfl ?_
  refine J.astore dX6_read_37 (by decide) rfl ?_
  try dsimp only [List.set]
  refine J.aload_n dX6_read_39 rfl rfl ?_
  refine J.getfield dX6_read_40 jFX6_16 rfl rfl ?_
  refine J.aload_n dX6_read_43 rfl rfl ?_
  refine J.getfield dX6_read_44 jFX6_12 rfl rfl ?_
  refine J.cv (as := [.ref 7]) (is := [8, 9, 10, 11, 12, 13, 14, 1, 2, 3, 4, 5, 6, 7]) (o := 0) okX2_copy jcX6_86 (mX2_copy (rs 1) (rs 0)) dX6_read_47 rfl rfl rfl rfl rfl rfl rfl (fun r9 B9 hq => ?_)
  obtain ⟨rfl, rfl⟩ := hq
  refine ⟨rfl, ?_⟩
  show J _ _ _ _ _ [] (wC (rsN rs 1 (rs 0)) v q x n u c l tn) _ _
  refine J.iconst (0) dX6_read_50 (by decide) ?_
  refine J.istore dX6_read_51 (by decide) rfl ?_
  try dsimp only [List.set]
  refine J.iconst (0) dX6_read_53 (by decide) ?_
  refine J.istore dX6_read_54 (by decide) rfl ?_
  try dsimp only [List.set]
  refine J.iconst (0) dX6_read_56 (by decide) ?_
  refine J.istore dX6_read_57 (by decide) rfl ?_
  try dsimp only [List.set]
  exact J.at (mX6_read3_l rs v q x n u c l tn la f N hN hl _ N 0 (by omega) (rs 0) ⟨hr, rfl⟩) rfl rfl rfl
set_option maxRecDepth 100000 in
set_option maxHeartbeats 4000000 in
theorem mX6_read_bad (rs : Nat → rT) (v : Nat → Nat → Nat) (q : rT) (x : Nat → Nat) (n : Nat → Int64) (u : uT) (c : Nat → Nat → Int32) (l : Nat → Int32) (tn : Int32) (k la f n0 : Int32) (hb : ¬ (0 ≤ k ∧ k ≤ 3) ∨ ¬ (0 ≤ la ∧ la ≤ 2) ∨ ¬ (0 ≤ n0 ∧ n0 ≤ 20)) : J KX6_read 62 (fun o B => o = some (.int (-1)) ∧ B = (wC rs v q x n u c l tn)) 0 [some (.ref 0), some (.int k), some (.int la), some (.int f), some (.int n0), none, none, none, none] [] (wC rs v q x n u c l tn) 0 0 := by
  refine J.iload_n dX6_read_0 rfl rfl ?_
  refine J.iconst (0) dX6_read_1 (by decide) ?_
  refine J.iconst (3) dX6_read_2 (by decide) ?_
  refine J.cs (as := [.int _, .int _, .int _]) (is := []) okX6_within jcX6_59 (mX6_within _ _ _) dX6_read_3 rfl rfl rfl rfl rfl rfl (fun r9 B9 hq => ?_)
  obtain ⟨rfl, rfl⟩ := hq
  refine ⟨rfl, ?_⟩
  show J _ _ _ _ _ (.int _ :: _) (wC rs v q x n u c l tn) _ _
  refine J.if_eq (tgt := 29) dX6_read_6 (by decide) (fun c6 => ?_) (fun c6 => ?_)
  · refine J.iconst (-1) dX6_read_29 (by decide) ?_
    exact J.iret dX6_read_30 rfl rfl (Nat.le_refl _) (Nat.le_refl _) ⟨rfl, rfl⟩
  · refine J.iload_n dX6_read_9 rfl rfl ?_
    refine J.iconst (0) dX6_read_10 (by decide) ?_
    refine J.iconst (2) dX6_read_11 (by decide) ?_
    refine J.cs (as := [.int _, .int _, .int _]) (is := []) okX6_within jcX6_59 (mX6_within _ _ _) dX6_read_12 rfl rfl rfl rfl rfl rfl (fun r9 B9 hq => ?_)
    obtain ⟨rfl, rfl⟩ := hq
    refine ⟨rfl, ?_⟩
    show J _ _ _ _ _ (.int _ :: _) (wC rs v q x n u c l tn) _ _
    refine J.if_eq (tgt := 29) dX6_read_15 (by decide) (fun c15 => ?_) (fun c15 => ?_)
    · refine J.iconst (-1) dX6_read_29 (by decide) ?_
      exact J.iret dX6_read_30 rfl rfl (Nat.le_refl _) (Nat.le_refl _) ⟨rfl, rfl⟩
    · refine J.iload dX6_read_18 rfl ?_
      refine J.iconst (0) dX6_read_20 (by decide) ?_
      refine J.bipush (20) dX6_read_21 (by decide) ?_
      refine J.cs (as := [.int _, .int _, .int _]) (is := []) okX6_within jcX6_59 (mX6_within _ _ _) dX6_read_23 rfl rfl rfl rfl rfl rfl (fun r9 B9 hq => ?_)
      obtain ⟨rfl, rfl⟩ := hq
      refine ⟨rfl, ?_⟩
      show J _ _ _ _ _ (.int _ :: _) (wC rs v q x n u c l tn) _ _
      refine J.if_ne (tgt := 31) dX6_read_26 (by decide) (fun c26 => absurd c26 (fun h => h ((jB_0 _).mpr (fun hC => (fun h => h.elim (fun h => h (Decidable.not_not.mp (fun h9 => c6 ((jB_0 _).mpr h9)))) (fun h => h.elim (fun h => h (Decidable.not_not.mp (fun h9 => c15 ((jB_0 _).mpr h9)))) (fun h => h hC))) hb)))) (fun c26 => ?_)
      refine J.iconst (-1) dX6_read_29 (by decide) ?_
      exact J.iret dX6_read_30 rfl rfl (Nat.le_refl _) (Nat.le_refl _) ⟨rfl, rfl⟩
