theorem dX6_common_0 : decode cX6_common 0 = .ok (.lload_n 0, 1) := by decide +kernel
theorem dX6_common_1 : decode cX6_common 1 = .ok (.lstore 4, 2) := by decide +kernel
theorem dX6_common_3 : decode cX6_common 3 = .ok (.lload_n 2, 1) := by decide +kernel
theorem dX6_common_4 : decode cX6_common 4 = .ok (.lstore 6, 2) := by decide +kernel
theorem dX6_common_6 : decode cX6_common 6 = .ok (.iconst 0, 1) := by decide +kernel
theorem dX6_common_7 : decode cX6_common 7 = .ok (.istore 8, 2) := by decide +kernel
theorem dX6_common_9 : decode cX6_common 9 = .ok (.iload 8, 2) := by decide +kernel
theorem dX6_common_11 : decode cX6_common 11 = .ok (.sipush 200, 3) := by decide +kernel
theorem dX6_common_14 : decode cX6_common 14 = .ok (.if_icmp .ge 31, 3) := by decide +kernel
theorem dX6_common_17 : decode cX6_common 17 = .ok (.lload 6, 2) := by decide +kernel
theorem dX6_common_19 : decode cX6_common 19 = .ok (.lconst 0, 1) := by decide +kernel
theorem dX6_common_20 : decode cX6_common 20 = .ok (.lcmp, 1) := by decide +kernel
theorem dX6_common_21 : decode cX6_common 21 = .ok (.ifCond .eq 24, 3) := by decide +kernel
theorem dX6_common_24 : decode cX6_common 24 = .ok (.lload 4, 2) := by decide +kernel
theorem dX6_common_26 : decode cX6_common 26 = .ok (.lload 6, 2) := by decide +kernel
theorem dX6_common_28 : decode cX6_common 28 = .ok (.lrem, 1) := by decide +kernel
theorem dX6_common_29 : decode cX6_common 29 = .ok (.lstore 9, 2) := by decide +kernel
theorem dX6_common_31 : decode cX6_common 31 = .ok (.lload 6, 2) := by decide +kernel
theorem dX6_common_33 : decode cX6_common 33 = .ok (.lstore 4, 2) := by decide +kernel
theorem dX6_common_35 : decode cX6_common 35 = .ok (.lload 9, 2) := by decide +kernel
theorem dX6_common_37 : decode cX6_common 37 = .ok (.lstore 6, 2) := by decide +kernel
theorem dX6_common_39 : decode cX6_common 39 = .ok (.iinc 8 1, 3) := by decide +kernel
theorem dX6_common_42 : decode cX6_common 42 = .ok (.goto (-33), 3) := by decide +kernel
theorem dX6_common_45 : decode cX6_common 45 = .ok (.lload 4, 2) := by decide +kernel
theorem dX6_common_47 : decode cX6_common 47 = .ok (.lreturn, 1) := by decide +kernel
theorem dX6_part_0 : decode cX6_part 0 = .ok (.lload_n 0, 1) := by decide +kernel
theorem dX6_part_1 : decode cX6_part 1 = .ok (.invokestatic 255, 3) := by decide +kernel
theorem dX6_part_4 : decode cX6_part 4 = .ok (.lload_n 2, 1) := by decide +kernel
theorem dX6_part_5 : decode cX6_part 5 = .ok (.invokestatic 261, 3) := by decide +kernel
theorem dX6_part_8 : decode cX6_part 8 = .ok (.lstore 5, 2) := by decide +kernel
theorem dX6_part_10 : decode cX6_part 10 = .ok (.lload 5, 2) := by decide +kernel
theorem dX6_part_12 : decode cX6_part 12 = .ok (.lconst 0, 1) := by decide +kernel
theorem dX6_part_13 : decode cX6_part 13 = .ok (.lcmp, 1) := by decide +kernel
theorem dX6_part_14 : decode cX6_part 14 = .ok (.ifCond .gt 7, 3) := by decide +kernel
theorem dX6_part_17 : decode cX6_part 17 = .ok (.iload 4, 2) := by decide +kernel
theorem dX6_part_19 : decode cX6_part 19 = .ok (.i2l, 1) := by decide +kernel
theorem dX6_part_20 : decode cX6_part 20 = .ok (.lreturn, 1) := by decide +kernel
theorem dX6_part_21 : decode cX6_part 21 = .ok (.iload 4, 2) := by decide +kernel
theorem dX6_part_23 : decode cX6_part 23 = .ok (.ifCond .ne 10, 3) := by decide +kernel
theorem dX6_part_26 : decode cX6_part 26 = .ok (.lload_n 0, 1) := by decide +kernel
theorem dX6_part_27 : decode cX6_part 27 = .ok (.lload 5, 2) := by decide +kernel
theorem dX6_part_29 : decode cX6_part 29 = .ok (.ldiv, 1) := by decide +kernel
theorem dX6_part_30 : decode cX6_part 30 = .ok (.goto 7, 3) := by decide +kernel
theorem dX6_part_33 : decode cX6_part 33 = .ok (.lload_n 2, 1) := by decide +kernel
theorem dX6_part_34 : decode cX6_part 34 = .ok (.lload 5, 2) := by decide +kernel
theorem dX6_part_36 : decode cX6_part 36 = .ok (.ldiv, 1) := by decide +kernel
theorem dX6_part_37 : decode cX6_part 37 = .ok (.lreturn, 1) := by decide +kernel
/-! ===== the lowest terms ===== -/
def lI (z : Int) : Int64 := Int64.ofInt z
theorem lI_toInt {z : Int} (h1 : -(2 ^ 63) ≤ z) (h2 : z < 2 ^ 63) : (lI z).toInt = z := by
  unfold lI
  rw [Int64.toInt_ofInt, show Int64.size = 18446744073709551616 from rfl]
  exact Int.bmod_eq_of_le (by omega) (by omega)
theorem lI_nat (n : Nat) : lI (n : Int) = lN n := by
  apply Int64.toInt_inj.mp
  unfold lI lN
  rw [Int64.toInt_ofInt, Int64.toInt_ofNat']
theorem lI_add (a b : Int) : lI a + lI b = lI (a + b) := by
  apply Int64.toInt_inj.mp
  unfold lI
  rw [Int64.toInt_add, Int64.toInt_ofInt, Int64.toInt_ofInt, Int64.toInt_ofInt]
  simp
theorem lI_mul (a b : Int) : lI a * lI b = lI (a * b) := by
  apply Int64.toInt_inj.mp
  unfold lI
  rw [Int64.toInt_mul, Int64.toInt_ofInt, Int64.toInt_ofInt, Int64.toInt_ofInt]
  simp
theorem lI_neg (a : Int) : -lI a = lI (-a) := by
  apply Int64.toInt_inj.mp
  unfold lI
  rw [Int64.toInt_neg, Int64.toInt_ofInt, Int64.toInt_ofInt]
  simp
theorem half_mod {x y : Nat} (h0 : 0 < y) (h : y ≤ x) : 2 * (x % y) ≤ x := by
  have h1 := Nat.mod_lt x h0
  by_cases h2 : 2 * y ≤ x
  · omega
  · have h3 : x / y = 1 := Nat.div_eq_of_lt_le (by omega) (by omega)
    have h4 := Nat.div_add_mod x y
    rw [h3] at h4
    omega
theorem pow_pred {a e : Nat} (h : 2 * a < 2 ^ e) : a < 2 ^ (e - 1) := by
  cases e with
  | zero => simp at h; omega
  | succ e => rw [Nat.pow_succ] at h; simp only [Nat.add_sub_cancel]; omega
theorem pow_pos1 {a e : Nat} (h : a < 2 ^ e) (h1 : 1 ≤ a) : 1 ≤ e := by
  cases e with
  | zero => simp at h; omega
  | succ e => omega
theorem fb_y0 {y : Nat} (h : y < 2 ^ 63) (h1 : lN y = 0) : y = 0 := by
  have := lN_ti63 h
  rw [h1] at this
  have h2 : (0 : Int64).toInt = 0 := rfl
  omega
theorem gcd_swap (x y : Nat) : Nat.gcd y (x % y) = Nat.gcd y x := by
  rw [Nat.gcd_comm y (x % y), Nat.gcd_comm y x, Nat.gcd_comm x y]
  exact (Nat.gcd_rec y x).symm
set_option maxRecDepth 100000 in
set_option maxHeartbeats 4000000 in
theorem mX6_common_l (a0 b0 : Nat) (A B : Int64) : ∀ (m i x y e : Nat) (r : Option Value), e + (if x < y then 1 else 0) ≤ m → i + m ≤ 198 → x * y < 2 ^ e → x < 2 ^ 63 → y < 2 ^ 63 → Nat.gcd x y = Nat.gcd a0 b0 → J KX6_common 0 (fun o B => o = some (.long (lN (Nat.gcd a0 b0))) ∧ B = []) 9 [some (.long A), none, some (.long B), none, some (.long (lN x)), none, some (.long (lN y)), none, some (.int (nI i)), r, none] [] [] 0 0 := by
  intro m
  induction m with
  | zero =>
    intro i x y e r he hi hxy hx hy hg
    have hy0 : y = 0 := by
      by_cases h : x < y
      · rw [if_pos h] at he; omega
      · rw [if_neg h] at he
        obtain rfl : e = 0 := by omega
        have h1 : x * y = 0 := by simpa using hxy
        rcases Nat.mul_eq_zero.mp h1 with h2 | h2 <;> omega
    refine J.iload dX6_common_9 rfl ?_
    refine J.sipush (200) dX6_common_11 (by decide) ?_
    refine J.icmp_ge (tgt := 45) dX6_common_14 (by decide) (fun c14 => absurd c14 (fun h => absurd ((nI_lei (a := 200) (by decide) (by omega)).mp h) (by omega))) (fun c14 => ?_)
    refine J.lload dX6_common_17 rfl ?_
    refine J.lconst 0 dX6_common_19 (by decide) ?_
    refine J.lcmp dX6_common_20 ?_
    refine J.if_eq (tgt := 45) dX6_common_21 (by decide) (fun c21 => ?_) (fun c21 => absurd c21 (fun h => h ((lg_cmp_eq _ _).mpr (by rw [hy0]; rfl))))
    refine J.lload dX6_common_45 rfl ?_
    exact J.lret dX6_common_47 rfl (Nat.le_refl _) (Nat.le_refl _) ⟨by rw [← hg, show y = 0 from hy0, Nat.gcd_zero_right], rfl⟩
  | succ m ih =>
    intro i x y e r he hi hxy hx hy hg
    refine J.iload dX6_common_9 rfl ?_
    refine J.sipush (200) dX6_common_11 (by decide) ?_
    refine J.icmp_ge (tgt := 45) dX6_common_14 (by decide) (fun c14 => absurd c14 (fun h => absurd ((nI_lei (a := 200) (by decide) (by omega)).mp h) (by omega))) (fun c14 => ?_)
    refine J.lload dX6_common_17 rfl ?_
    refine J.lconst 0 dX6_common_19 (by decide) ?_
    refine J.lcmp dX6_common_20 ?_
    refine J.if_eq (tgt := 45) dX6_common_21 (by decide) (fun c21 => ?_) (fun c21 => ?_)
    · refine J.lload dX6_common_45 rfl ?_
      exact J.lret dX6_common_47 rfl (Nat.le_refl _) (Nat.le_refl _) ⟨by rw [← hg, show y = 0 from (fb_y0 hy ((lg_cmp_eq _ _).mp c21)), Nat.gcd_zero_right], rfl⟩
    · have hy0 : 0 < y := Nat.pos_of_ne_zero (fun h => c21 ((lg_cmp_eq _ _).mpr (by rw [h]; rfl)))
      refine J.lload dX6_common_24 rfl ?_
      refine J.lload dX6_common_26 rfl ?_
      refine J.lrem dX6_common_28 (fun h => c21 ((lg_cmp_eq _ _).mpr h)) ?_
      rw [pk_lRem hx hy0 hy]
      refine J.lstore dX6_common_29 (by decide) rfl ?_
      dsimp only [List.set]
      refine J.lload dX6_common_31 rfl ?_
      refine J.lstore dX6_common_33 (by decide) rfl ?_
      dsimp only [List.set]
      refine J.lload dX6_common_35 rfl ?_
      refine J.lstore dX6_common_37 (by decide) rfl ?_
      dsimp only [List.set]
      refine J.iinc (1) dX6_common_39 (by decide) rfl (by decide) rfl ?_
      dsimp only [List.set]
      refine J.goto (tgt := 9) dX6_common_42 (by decide) ?_
      have h9 := Nat.mod_lt x hy0
      refine J.at (ih (i + 1) y (x % y) (if x < y then e else e - 1) (some (.long (lN (x % y)))) ?_ (by omega) ?_ hy (by omega) ?_) (by rw [← nI_1]) rfl rfl
      · rw [if_neg (show ¬ y < x % y by omega)]
        by_cases h8 : x < y
        · rw [if_pos h8] at he ⊢; omega
        · rw [if_neg h8] at he ⊢; have := pow_pos1 hxy (Nat.mul_pos (by omega) hy0); omega
      · by_cases h8 : x < y
        · rw [if_pos h8, Nat.mod_eq_of_lt h8, Nat.mul_comm]; exact hxy
        · rw [if_neg h8]; refine pow_pred (Nat.lt_of_le_of_lt ?_ hxy); rw [← Nat.mul_assoc, Nat.mul_comm 2 y, Nat.mul_assoc, Nat.mul_comm x y]; exact Nat.mul_le_mul_left y (half_mod hy0 (by omega))
      · rw [← hg, Nat.gcd_comm x y, gcd_swap x y]
set_option maxRecDepth 100000 in
set_option maxHeartbeats 4000000 in
theorem mX6_common (a0 b0 : Nat) (ha : a0 < 2 ^ 63) (hb : b0 < 2 ^ 63) : J KX6_common 0 (fun o B => o = some (.long (lN (Nat.gcd a0 b0))) ∧ B = []) 0 [some (.long (lN a0)), none, some (.long (lN b0)), none, none, none, none, none, none, none, none] [] [] 0 0 := by
  refine J.lload_n dX6_common_0 rfl rfl ?_
  refine J.lstore dX6_common_1 (by decide) rfl ?_
  dsimp only [List.set]
  refine J.lload_n dX6_common_3 rfl rfl ?_
  refine J.lstore dX6_common_4 (by decide) rfl ?_
  dsimp only [List.set]
  refine J.iconst (0) dX6_common_6 (by decide) ?_
  refine J.istore dX6_common_7 (by decide) rfl ?_
  dsimp only [List.set]
  refine mX6_common_l a0 b0 _ _ 127 0 a0 b0 126 none (by split <;> omega) (by omega) ?_ ha hb rfl
  rw [show (2 : Nat) ^ 126 = 2 ^ 63 * 2 ^ 63 from by decide]
  exact Nat.mul_lt_mul'' ha hb
/-- the numerator (0) or denominator of z / m in lowest terms -/
def lowT (z : Int) (m : Nat) (which : Int32) : Int64 := if which = 0 then lI (z.tdiv (Nat.gcd z.natAbs m : Nat)) else lN (m / Nat.gcd z.natAbs m)
theorem abs_lI {z : Int} (h1 : -(2 ^ 63) < z) (h2 : z < 2 ^ 63) : (if 0 < lI z then lI z else -lI z) = lN z.natAbs := by
  have h0 : (0 : Int64).toInt = 0 := rfl
  by_cases h : 0 < lI z
  · rw [if_pos h, ← lI_nat]
    rw [Int64.lt_iff_toInt_lt, lI_toInt (by omega) h2, h0] at h
    congr 1
    omega
  · rw [if_neg h, lI_neg, ← lI_nat]
    rw [Int64.lt_iff_toInt_lt, lI_toInt (by omega) h2, h0] at h
    congr 1
    omega
theorem div_lI {z : Int} {g : Nat} (h1 : -(2 ^ 63) < z) (h2 : z < 2 ^ 63) (h0 : 0 < g) (hg : g < 2 ^ 63) : lI z / lN g = lI (z.tdiv g) := by
  apply Int64.toInt_inj.mp
  rw [Int64.toInt_div, lI_toInt (by omega) h2, lN_ti63 hg]
  unfold lI
  rw [Int64.toInt_ofInt]
set_option maxRecDepth 100000 in
set_option maxHeartbeats 4000000 in
theorem mX6_part (z : Int) (m : Nat) (wh : Int32) (h1 : -(2 ^ 63) < z) (h2 : z < 2 ^ 63) (hm0 : 0 < m) (hm : m < 2 ^ 63) : J KX6_part 0 (fun o B => o = some (.long (lowT z m wh)) ∧ B = []) 0 [some (.long (lI z)), none, some (.long (lN m)), none, some (.int wh), none, none] [] [] 0 0 := by
  refine J.lload_n dX6_part_0 rfl rfl ?_
  refine J.mabsL dX6_part_1 (jt 571 rfl rfl) rfl ?_
  rw [abs_lI h1 h2]
  refine J.lload_n dX6_part_4 rfl rfl ?_
  refine J.cs (as := [.long _, .long _]) (is := []) okX6_common jcX6_261 (mX6_common z.natAbs m (by omega) hm) dX6_part_5 rfl rfl rfl rfl rfl rfl (fun r9 B9 hq => ?_)
  obtain ⟨rfl, rfl⟩ := hq
  refine ⟨rfl, ?_⟩
  show J _ _ _ _ _ (.long _ :: _) [] _ _
  refine J.lstore dX6_part_8 (by decide) rfl ?_
  dsimp only [List.set]
  refine J.lload dX6_part_10 rfl ?_
  refine J.lconst 0 dX6_part_12 (by decide) ?_
  refine J.lcmp dX6_part_13 ?_
  refine J.if_gt (tgt := 21) dX6_part_14 (by decide) (fun c14 => ?_) (fun c14 => absurd c14 (fun h => h ((lg_cmp_gt _ _).mpr ((lN_lt63 (a := 0) (by decide) (Nat.lt_of_le_of_lt (Nat.le_of_dvd hm0 (Nat.gcd_dvd_right _ _)) hm)).mpr (Nat.gcd_pos_of_pos_right _ hm0)))))
  have hne : ¬ lN (Nat.gcd z.natAbs m) = 0 := fun h => absurd (fb_y0 (Nat.lt_of_le_of_lt (Nat.le_of_dvd hm0 (Nat.gcd_dvd_right _ _)) hm) h) (Nat.ne_of_gt (Nat.gcd_pos_of_pos_right _ hm0))
  refine J.iload dX6_part_21 rfl ?_
  refine J.if_ne (tgt := 33) dX6_part_23 (by decide) (fun c23 => ?_) (fun c23 => ?_)
  · refine J.lload_n dX6_part_33 rfl rfl ?_
    refine J.lload dX6_part_34 rfl ?_
    refine J.ldiv dX6_part_36 (hne) ?_
    first | exact J.lret dX6_part_37 rfl (Nat.le_refl _) (Nat.le_refl _) ⟨congrArg (fun x => some (Value.long x)) (by rw [lowT, if_pos c23, div_lI h1 h2 (Nat.gcd_pos_of_pos_right _ hm0) (Nat.lt_of_le_of_lt (Nat.le_of_dvd hm0 (Nat.gcd_dvd_right _ _)) hm)]), rfl⟩ | exact J.lret dX6_part_37 rfl (Nat.le_refl _) (Nat.le_refl _) ⟨congrArg (fun x => some (Value.long x)) (by rw [lowT, if_neg c23, pk_lDiv hm (Nat.gcd_pos_of_pos_right _ hm0) (Nat.lt_of_le_of_lt (Nat.le_of_dvd hm0 (Nat.gcd_dvd_right _ _)) hm)]), rfl⟩
  · refine J.lload_n dX6_part_26 rfl rfl ?_
    refine J.lload dX6_part_27 rfl ?_
    refine J.ldiv dX6_part_29 (hne) ?_
    refine J.goto (tgt := 37) dX6_part_30 (by decide) ?_
    first | exact J.lret dX6_part_37 rfl (Nat.le_refl _) (Nat.le_refl _) ⟨congrArg (fun x => some (Value.long x)) (by rw [lowT, if_pos c23, div_lI h1 h2 (Nat.gcd_pos_of_pos_right _ hm0) (Nat.lt_of_le_of_lt (Nat.le_of_dvd hm0 (Nat.gcd_dvd_right _ _)) hm)]), rfl⟩ | exact J.lret dX6_part_37 rfl (Nat.le_refl _) (Nat.le_refl _) ⟨congrArg (fun x => some (Value.long x)) (by rw [lowT, if_neg c23, pk_lDiv hm (Nat.gcd_pos_of_pos_right _ hm0) (Nat.lt_of_le_of_lt (Nat.le_of_dvd hm0 (Nat.gcd_dvd_right _ _)) hm)]), rfl⟩
theorem sub_of {x : Int32} {w : Nat} (hw : w < 8) (h : x &&& (nI w ^^^ -1) = 0) : ∃ b, b < 8 ∧ x = nI b := by
  have h1 : x.toBitVec &&& ~~~(nI w).toBitVec = 0#32 := by
    have := congrArg Int32.toBitVec h
    simpa using this
  refine ⟨x.toBitVec.toNat, ?_, ?_⟩
  · have h2 : x.toBitVec &&& (nI w).toBitVec = x.toBitVec := by
      apply BitVec.eq_of_getElem_eq
      intro i hi
      have h3 := congrArg (fun v => v[i]'hi) h1
      simp only [BitVec.getElem_and, BitVec.getElem_not, BitVec.getElem_zero] at h3
      rw [BitVec.getElem_and]
      revert h3
      cases x.toBitVec[i] <;> cases (nI w).toBitVec[i] <;> simp
    have h5 := congrArg BitVec.toNat h2
    rw [BitVec.toNat_and] at h5
    have h6 : (nI w).toBitVec.toNat = w := by
      show (BitVec.ofNat 32 w).toNat = w
      rw [BitVec.toNat_ofNat]
      exact Nat.mod_eq_of_lt (by omega)
    rw [h6] at h5
    have : x.toBitVec.toNat &&& w ≤ w := Nat.and_le_right
    omega
  · apply Int32.toBitVec_inj.mp
    show _ = BitVec.ofNat 32 _
    simp
/-- an HOUR told: what it answers, what it leaves -/
def tryB (r : rT) (x : Int32) : Prop := x < 0 ∨ ¬ x &&& (nI (r 6 3) ^^^ -1) = 0
def tryA (r : rT) (x : Int32) : Int32 := if x < 0 ∨ ¬ x &&& (nI (r 6 3) ^^^ -1) = 0 then -1 else if r 6 3 = 0 then -2 else if 99 ≤ r 6 6 then -3 else nI (pc3 (r 6 3 &&& (7 - x.toNatClampNeg)))
def tryR (r : rT) (x : Int32) : rT := if x < 0 ∨ ¬ x &&& (nI (r 6 3) ^^^ -1) = 0 then r else if r 6 3 = 0 then r else if 99 ≤ r 6 6 then r else rpass r x.toNatClampNeg
set_option maxRecDepth 100000 in
set_option maxHeartbeats 4000000 in
theorem mX2_tryHour (r : rT) (x : Int32) (hr : rOK r) : J KX2_tryHour 7 (fun o B => o = some (.int (tryA r x)) ∧ B = wR (tryR r x)) 0 [some (.ref 0), some (.int x)] [] (wR r) 0 0 := by
  refine J.iload_n dX2_tryHour_0 rfl rfl ?_
  refine J.if_lt (tgt := 15) dX2_tryHour_1 (by decide) (fun c1 => ?_) (fun c1 => ?_)
  · refine J.iconst (-1) dX2_tryHour_15 (by decide) ?_
    first | (have e8 : tryA r x = _ := (if_pos (Or.inl c1)); have e9 : tryR r x = _ := (if_pos (Or.inl c1)); exact J.iret dX2_tryHour_16 rfl (by first | decide | rfl) (Nat.le_refl _) (Nat.le_refl _) ⟨by rw [e8] <;> rfl, by rw [e9] <;> rfl⟩) | (have e8 : tryA r x = _ := (if_pos (Or.inr c12)); have e9 : tryR r x = _ := (if_pos (Or.inr c12)); exact J.iret dX2_tryHour_16 rfl (by first | decide | rfl) (Nat.le_refl _) (Nat.le_refl _) ⟨by rw [e8] <;> rfl, by rw [e9] <;> rfl⟩)
  · refine J.iload_n dX2_tryHour_4 rfl rfl ?_
    refine J.aload_n dX2_tryHour_5 rfl rfl ?_
    refine J.getfield dX2_tryHour_6 jFX2_43 rfl rfl ?_
    refine J.iconst (-1) dX2_tryHour_9 (by decide) ?_
    refine J.ixor dX2_tryHour_10 ?_
    refine J.iand dX2_tryHour_11 ?_
    refine J.if_eq (tgt := 17) dX2_tryHour_12 (by decide) (fun c12 => ?_) (fun c12 => ?_)
    · refine J.aload_n dX2_tryHour_17 rfl rfl ?_
      refine J.getfield dX2_tryHour_18 jFX2_43 rfl rfl ?_
      refine J.if_ne (tgt := 27) dX2_tryHour_21 (by decide) (fun c21 => ?_) (fun c21 => ?_)
      · refine J.aload_n dX2_tryHour_27 rfl rfl ?_
        refine J.getfield dX2_tryHour_28 jFX2_52 rfl rfl ?_
        refine J.bipush (99) dX2_tryHour_31 (by decide) ?_
        refine J.icmp_lt (tgt := 39) dX2_tryHour_33 (by decide) (fun c33 => ?_) (fun c33 => ?_)
        · refine J.aload_n dX2_tryHour_39 rfl rfl ?_
          refine J.iload_n dX2_tryHour_40 rfl rfl ?_
          obtain ⟨b9, hb9, rfl⟩ := sub_of hr.w c12
          refine J.cv (as := [.int _]) (is := [0, 1, 2, 3, 4, 5, 6]) (o := 0) okX2_passHour jcX2_72 (mX2_passHour r b9 hr.1 hr.2.2.2.2.2.2.2.2.2.1 hr.w hb9) dX2_tryHour_41 rfl rfl rfl rfl rfl rfl rfl (fun r9 B9 hq => ?_)
          obtain ⟨rfl, rfl⟩ := hq
          refine ⟨rfl, ?_⟩
          show J _ _ _ _ _ [] (wR (rpass r b9)) _ _
          refine J.aload_n dX2_tryHour_44 rfl rfl ?_
          refine J.getfield dX2_tryHour_45 jFX2_43 rfl rfl ?_
          refine J.cs (as := [.int _]) (is := []) okJ6_bitCount_0f7a4 jcX2_63 (mJ6_bitCount_0f7a4 (r 6 3 &&& (7 - b9)) wo_7) dX2_tryHour_48 rfl rfl rfl rfl rfl rfl (fun r9 B9 hq => ?_)
          obtain ⟨rfl, rfl⟩ := hq
          refine ⟨rfl, ?_⟩
          show J _ _ _ _ _ (.int _ :: _) (wR (rpass r b9)) _ _
          have h99 : ¬ 99 ≤ r 6 6 := fun h => absurd ((nI_lti (b := 99) (by have := hr.2.2.2.2.2.2.2.1; omega) (by decide)).mp c33) (by omega)
          have e8 : tryA r (nI b9) = _ := (if_neg (fun h => h.elim c1 (fun h9 => h9 c12))).trans ((if_neg (fun h => c21 (congrArg nI h))).trans ((if_neg h99).trans (by rw [nI_clamp (show b9 < 2 ^ 31 by omega)])))
          have e9 : tryR r (nI b9) = _ := (if_neg (fun h => h.elim c1 (fun h9 => h9 c12))).trans ((if_neg (fun h => c21 (congrArg nI h))).trans ((if_neg h99).trans (by rw [nI_clamp (show b9 < 2 ^ 31 by omega)])))
          exact J.iret dX2_tryHour_51 rfl (by first | decide | rfl) (Nat.le_refl _) (Nat.le_refl _) ⟨by rw [e8] <;> rfl, by rw [e9] <;> rfl⟩
        · have h99 : 99 ≤ r 6 6 := Nat.not_lt.mp (fun h => c33 ((nI_lti (b := 99) (by omega) (by decide)).mpr h))
          refine J.bipush (-3) dX2_tryHour_36 (by decide) ?_
          have e8 : tryA r x = _ := (if_neg (fun h => h.elim c1 (fun h9 => h9 c12))).trans ((if_neg (fun h => c21 (congrArg nI h))).trans (if_pos h99))
          have e9 : tryR r x = _ := (if_neg (fun h => h.elim c1 (fun h9 => h9 c12))).trans ((if_neg (fun h => c21 (congrArg nI h))).trans (if_pos h99))
          exact J.iret dX2_tryHour_38 rfl (by first | decide | rfl) (Nat.le_refl _) (Nat.le_refl _) ⟨by rw [e8] <;> rfl, by rw [e9] <;> rfl⟩
      · refine J.bipush (-2) dX2_tryHour_24 (by decide) ?_
        have e8 : tryA r x = _ := (if_neg (fun h => h.elim c1 (fun h9 => h9 c12))).trans (if_pos ((nI_eqi (b := 0) (by have := hr.w; omega) (by decide)).mp c21))
        have e9 : tryR r x = _ := (if_neg (fun h => h.elim c1 (fun h9 => h9 c12))).trans (if_pos ((nI_eqi (b := 0) (by have := hr.w; omega) (by decide)).mp c21))
        exact J.iret dX2_tryHour_26 rfl (by first | decide | rfl) (Nat.le_refl _) (Nat.le_refl _) ⟨by rw [e8] <;> rfl, by rw [e9] <;> rfl⟩
    · refine J.iconst (-1) dX2_tryHour_15 (by decide) ?_
      first | (have e8 : tryA r x = _ := (if_pos (Or.inl c1)); have e9 : tryR r x = _ := (if_pos (Or.inl c1)); exact J.iret dX2_tryHour_16 rfl (by first | decide | rfl) (Nat.le_refl _) (Nat.le_refl _) ⟨by rw [e8] <;> rfl, by rw [e9] <;> rfl⟩) | (have e8 : tryA r x = _ := (if_pos (Or.inr c12)); have e9 : tryR r x = _ := (if_pos (Or.inr c12)); exact J.iret dX2_tryHour_16 rfl (by first | decide | rfl) (Nat.le_refl _) (Nat.le_refl _) ⟨by rw [e8] <;> rfl, by rw [e9] <;> rfl⟩)
