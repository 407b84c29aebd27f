/-! ===== the reference's odds ===== -/
def wy (T : Nat → Nat) (m s u : Nat) : Nat := if u &&& (7 - s) = 0 then pw T s u m else 0
def mhv (qc : rT) (m t : Nat) (x : Nat → Nat) (u : Nat) : Nat := sm (fun f => x f * wy (ten qc f t) m f u) (2 ^ m)
def mh (qc : rT) (m t : Nat) (x : Nat → Nat) : Nat → Nat := fun j => if j < 2 ^ m then mhv qc m t x j else x j
def mhs (qc : rT) (m : Nat) (x : Nat → Nat) : Nat → Nat → Nat
  | 0 => x
  | t + 1 => mh qc m t (mhs qc m x t)
theorem pw_10 (T : Nat → Nat) (s u m : Nat) (h : ∀ i, m ≤ i → bit s i = 0) : ∀ k, pw T s u (m + k) = pw T s u m * 10 ^ k
  | 0 => by simp
  | k + 1 => by
    rw [← Nat.add_assoc, pw, pw_10 T s u m h k, fac, if_pos (h _ (Nat.le_add_right _ _)), Nat.pow_succ, Nat.mul_assoc]
theorem bit_hi {s m i : Nat} (hs : s < 2 ^ m) (hi : m ≤ i) : bit s i = 0 := by
  unfold bit
  rw [Nat.div_eq_of_lt (Nat.lt_of_lt_of_le hs (Nat.pow_le_pow_right (by decide) hi))]
theorem p2_8 {m : Nat} (hm : m ≤ 3) : 2 ^ m ≤ 8 := Nat.pow_le_pow_right (by decide) hm
theorem wtn_wy (T : Nat → Nat) {m s u : Nat} (hm : m ≤ 3) (hs : s < 2 ^ m) (hu : u < 8) : wtn T s u = if u < 2 ^ m then 10 ^ (3 - m) * wy T m s u else 0 := by
  have h8 := p2_8 hm
  unfold wtn wy
  by_cases h0 : u &&& (7 - s) = 0
  · have := sub_le s (by omega) u hu h0
    rw [if_pos h0, if_pos h0, if_pos (by omega)]
    have e := pw_10 T s u m (fun i hi => bit_hi hs hi) (3 - m)
    rw [show m + (3 - m) = 3 by omega] at e
    rw [e, Nat.mul_comm]
  · rw [if_neg h0, if_neg h0]
    simp
theorem sm_cut (f : Nat → Nat) (n : Nat) : ∀ N, n ≤ N → (∀ j, n ≤ j → j < N → f j = 0) → sm f N = sm f n
  | 0, h, _ => by rw [show n = 0 by omega]
  | N + 1, h, hz => by
    by_cases e : n = N + 1
    · rw [e]
    · rw [sm, sm_cut f n N (by omega) (fun j h1 h2 => hz j h1 (by omega)), hz N (by omega) (by omega), Nat.add_zero]
theorem acc_sm (q : rT) (x : Nat → Nat) (t : Nat) : ∀ S u, acc q x t S u = sm (fun s => x s * wtn (ten q s t) s u) S
  | 0, _ => rfl
  | S + 1, u => by rw [acc, sm, acc_sm q x t S u]
/-- the class's shares X are c times the reference's x, of m HAIRS -/
def sc (c m : Nat) (X x : Nat → Nat) : Prop := ∀ s, s < 8 → X s = if s < 2 ^ m then c * x s else 0
theorem sc.step {c m : Nat} {X x : Nat → Nat} (h : sc c m X x) (hm : m ≤ 3) (qc : rT) (t : Nat) : sc (c * 10 ^ (3 - m)) m (acc qc X t 8) (mh qc m t x) := by
  intro u hu
  have h8 := p2_8 hm
  rw [acc_sm, sm_cut _ (2 ^ m) 8 h8 (fun j h1 h2 => by rw [h j h2, if_neg (by omega), Nat.zero_mul])]
  by_cases hu2 : u < 2 ^ m
  · rw [if_pos hu2, mh, if_pos hu2, mhv, ← sm_mul]
    refine sm_congr (fun s hs => ?_)
    rw [h s (by omega), if_pos hs, wtn_wy _ hm hs hu, if_pos hu2]
    simp only [Nat.mul_assoc, Nat.mul_comm, Nat.mul_left_comm]
  · rw [if_neg hu2, ← sm_zero (2 ^ m)]
    refine sm_congr (fun s hs => ?_)
    rw [wtn_wy _ hm hs hu, if_neg hu2, Nat.mul_zero]
theorem sc.one1 {w m : Nat} (hw : w < 2 ^ m) : sc 1 m (one w) (one w) := by
  intro s _
  by_cases h : s < 2 ^ m
  · rw [if_pos h, Nat.one_mul]
  · rw [if_neg h, one, if_neg (by omega)]
theorem sc.shs {c m : Nat} {X x : Nat → Nat} (h : sc c m X x) (hm : m ≤ 3) (qc : rT) : ∀ n, sc (c * (10 ^ (3 - m)) ^ n) m (sh qc X n) (mhs qc m x n)
  | 0 => by simpa [sh, mhs] using h
  | n + 1 => by
    have := (sc.shs h hm qc n).step hm qc n
    rw [Nat.mul_assoc, ← Nat.pow_succ] at this
    exact this
theorem sc.sum {c m : Nat} {X x : Nat → Nat} (h : sc c m X x) (hm : m ≤ 3) (f g : Nat → Nat → Nat) (hf : ∀ s, s < 2 ^ m → f s (c * x s) = c * g s (x s)) (hz : ∀ s, f s 0 = 0) : sm (fun s => f s (X s)) 8 = c * sm (fun s => g s (x s)) (2 ^ m) := by
  have h8 := p2_8 hm
  rw [sm_cut _ (2 ^ m) 8 h8 (fun j h1 h2 => by rw [h j h2, if_neg (by omega), hz]), ← sm_mul]
  refine sm_congr (fun s hs => ?_)
  rw [h s (by omega), if_pos hs]
  exact hf s hs
theorem sc.all {c m : Nat} {X x : Nat → Nat} (h : sc c m X x) (hm : m ≤ 3) : sm X 8 = c * sm x (2 ^ m) := h.sum hm (fun _ y => y) (fun _ y => y) (fun _ _ => rfl) (fun _ => rfl)
theorem sc.zero {c m : Nat} {X x : Nat → Nat} (h : sc c m X x) : X 0 = c * x 0 := by
  rw [h 0 (by decide), if_pos (Nat.two_pow_pos m)]
theorem sc.held {c m : Nat} {X x : Nat → Nat} (h : sc c m X x) (hm : m ≤ 3) : sm (not0 X) 8 = c * sm (not0 x) (2 ^ m) := h.sum hm (fun s y => if s = 0 then 0 else y) (fun s y => if s = 0 then 0 else y) (fun s _ => by split <;> simp) (fun s => by split <;> rfl)
theorem sc.only {c m : Nat} {X x : Nat → Nat} (h : sc c m X x) (hm : m ≤ 3) (k : Nat) : sm (only k X) 8 = c * sm (only k x) (2 ^ m) := h.sum hm (fun s y => if pc3 s = k then y else 0) (fun s y => if pc3 s = k then y else 0) (fun s _ => by split <;> simp) (fun s => by split <;> rfl)
theorem sc.wt {c m : Nat} {X x : Nat → Nat} (h : sc c m X x) (hm : m ≤ 3) : sm (fun s => X s * pc3 s) 8 = c * sm (fun s => x s * pc3 s) (2 ^ m) := h.sum hm (fun s y => y * pc3 s) (fun s y => y * pc3 s) (fun s _ => Nat.mul_assoc _ _ _) (fun s => Nat.zero_mul _)
theorem mn_wt (X : Nat → Nat) : mn X 4 = sm (fun s => X s * pc3 s) 8 := by
  have p : pc3 0 = 0 ∧ pc3 1 = 1 ∧ pc3 2 = 1 ∧ pc3 3 = 2 ∧ pc3 4 = 1 ∧ pc3 5 = 2 ∧ pc3 6 = 2 ∧ pc3 7 = 3 := by decide
  obtain ⟨p0, p1, p2, p3, p4, p5, p6, p7⟩ := p
  simp only [mn, sm, only, p0, p1, p2, p3, p4, p5, p6, p7]
  simp
  omega
theorem not0_sumN (x : Nat → Nat) : ∀ n, 0 < n → sm (not0 x) n + x 0 = sm x n
  | 0, h => absurd h (by decide)
  | 1, _ => by simp [sm, not0]
  | n + 2, _ => by
    have := not0_sumN x (n + 1) (by omega)
    show sm (not0 x) (n + 1) + not0 x (n + 1) + x 0 = sm x (n + 1) + x (n + 1)
    have e : not0 x (n + 1) = x (n + 1) := if_neg (by omega)
    rw [← this, e]
    omega
theorem p10_c {m : Nat} (hm : m ≤ 3) (n : Nat) : (10 ^ (3 - m)) ^ n * 10 ^ (m * n) = 1000 ^ n := by
  rw [← Nat.pow_mul, ← Nat.pow_add, ← Nat.add_mul, show 3 - m + m = 3 by omega, Nat.pow_mul]
theorem c_pos (m n : Nat) : 0 < (10 ^ (3 - m)) ^ n := Nat.pow_pos (Nat.pow_pos (by decide))
/-- the reference's odds behind n HOURS from now on -/
def mho (qc : rT) (m n : Nat) : Nat → Nat := mhs qc m (one (qc 6 0)) n
theorem mho_sc {qc : rT} {m : Nat} (hM : mOK qc m) (n : Nat) : sc ((10 ^ (3 - m)) ^ n) m (sh qc (one (qc 6 0)) n) (mho qc m n) := by
  have := (sc.one1 hM.2.1).shs hM.2.2 qc n
  rw [Nat.one_mul] at this
  exact this
theorem mho_sum {qc : rT} {m : Nat} (hM : mOK qc m) (n : Nat) : sm (mho qc m n) (2 ^ m) = 10 ^ (m * n) := by
  have h1 := (mho_sc hM n).all hM.2.2
  rw [sh1_sum qc hM.1.2.2.2, ← p10_c hM.2.2 n] at h1
  exact (Nat.eq_of_mul_eq_mul_left (c_pos m n) h1).symm
theorem mho_0 {qc : rT} {m : Nat} (hM : mOK qc m) (n : Nat) : mho qc m n 0 ≤ 10 ^ (m * n) := by
  rw [← mho_sum hM n]
  exact sm_get (Nat.two_pow_pos m)
theorem mho_h {qc : rT} {m : Nat} (hM : mOK qc m) (n : Nat) : sm (not0 (mho qc m n)) (2 ^ m) = 10 ^ (m * n) - mho qc m n 0 := by
  have := not0_sumN (mho qc m n) (2 ^ m) (Nat.two_pow_pos m)
  rw [mho_sum hM] at this
  omega
theorem lowT_s {c : Nat} (hc : 0 < c) (z : Int) (n : Nat) (wh : Int32) : lowT ((c : Int) * z) (c * n) wh = lowT z n wh := by
  unfold lowT
  rw [Int.natAbs_mul, Int.natAbs_natCast, Nat.gcd_mul_left]
  by_cases h : wh = 0
  · rw [if_pos h, if_pos h, Int.natCast_mul, Int.mul_tdiv_mul_of_pos _ _ (by omega)]
  · rw [if_neg h, if_neg h, Nat.mul_div_mul_left _ _ hc]
theorem lowT_n {c : Nat} (hc : 0 < c) (a n : Nat) (wh : Int32) : lowT ((c * a : Nat) : Int) (c * n) wh = lowT (a : Int) n wh := by
  rw [Int.natCast_mul]
  exact lowT_s hc a n wh
theorem ten_10 {m n : Nat} (hm : m ≤ 3) (hn : n ≤ 5) : 1 ≤ 10 ^ (m * n) ∧ 10 ^ (m * n) ≤ 1000000000000000 := by
  refine ⟨Nat.pow_pos (by decide), ?_⟩
  have h : m * n ≤ 15 := Nat.mul_le_mul hm hn
  exact Nat.pow_le_pow_right (by decide) h
theorem dX7_wayOf_0 : decode cX7_wayOf 0 = .ok (.iload_n 2, 1) := by decide +kernel
theorem dX7_wayOf_1 : decode cX7_wayOf 1 = .ok (.iload_n 1, 1) := by decide +kernel
theorem dX7_wayOf_2 : decode cX7_wayOf 2 = .ok (.iconst (-1), 1) := by decide +kernel
theorem dX7_wayOf_3 : decode cX7_wayOf 3 = .ok (.ixor, 1) := by decide +kernel
theorem dX7_wayOf_4 : decode cX7_wayOf 4 = .ok (.iand, 1) := by decide +kernel
theorem dX7_wayOf_5 : decode cX7_wayOf 5 = .ok (.ifCond .eq 5, 3) := by decide +kernel
theorem dX7_wayOf_8 : decode cX7_wayOf 8 = .ok (.lconst 0, 1) := by decide +kernel
theorem dX7_wayOf_9 : decode cX7_wayOf 9 = .ok (.lreturn, 1) := by decide +kernel
theorem dX7_wayOf_10 : decode cX7_wayOf 10 = .ok (.lconst 1, 1) := by decide +kernel
theorem dX7_wayOf_11 : decode cX7_wayOf 11 = .ok (.lstore 4, 2) := by decide +kernel
theorem dX7_wayOf_13 : decode cX7_wayOf 13 = .ok (.iconst 0, 1) := by decide +kernel
theorem dX7_wayOf_14 : decode cX7_wayOf 14 = .ok (.istore 6, 2) := by decide +kernel
theorem dX7_wayOf_16 : decode cX7_wayOf 16 = .ok (.iload 6, 2) := by decide +kernel
theorem dX7_wayOf_18 : decode cX7_wayOf 18 = .ok (.aload_n 0, 1) := by decide +kernel
theorem dX7_wayOf_19 : decode cX7_wayOf 19 = .ok (.getfield 180, 3) := by decide +kernel
theorem dX7_wayOf_22 : decode cX7_wayOf 22 = .ok (.if_icmp .ge 83, 3) := by decide +kernel
theorem dX7_wayOf_25 : decode cX7_wayOf 25 = .ok (.iload_n 1, 1) := by decide +kernel
theorem dX7_wayOf_26 : decode cX7_wayOf 26 = .ok (.iload 6, 2) := by decide +kernel
theorem dX7_wayOf_28 : decode cX7_wayOf 28 = .ok (.ishr, 1) := by decide +kernel
theorem dX7_wayOf_29 : decode cX7_wayOf 29 = .ok (.iconst 1, 1) := by decide +kernel
theorem dX7_wayOf_30 : decode cX7_wayOf 30 = .ok (.iand, 1) := by decide +kernel
theorem dX7_wayOf_31 : decode cX7_wayOf 31 = .ok (.iconst 1, 1) := by decide +kernel
theorem dX7_wayOf_32 : decode cX7_wayOf 32 = .ok (.if_icmp .ne 7, 3) := by decide +kernel
theorem dX7_wayOf_35 : decode cX7_wayOf 35 = .ok (.iconst 1, 1) := by decide +kernel
theorem dX7_wayOf_36 : decode cX7_wayOf 36 = .ok (.goto 4, 3) := by decide +kernel
theorem dX7_wayOf_39 : decode cX7_wayOf 39 = .ok (.iconst 0, 1) := by decide +kernel
theorem dX7_wayOf_40 : decode cX7_wayOf 40 = .ok (.istore 7, 2) := by decide +kernel
theorem dX7_wayOf_42 : decode cX7_wayOf 42 = .ok (.iload 7, 2) := by decide +kernel
theorem dX7_wayOf_44 : decode cX7_wayOf 44 = .ok (.ifCond .eq 14, 3) := by decide +kernel
theorem dX7_wayOf_47 : decode cX7_wayOf 47 = .ok (.aload_n 0, 1) := by decide +kernel
theorem dX7_wayOf_48 : decode cX7_wayOf 48 = .ok (.iload 6, 2) := by decide +kernel
theorem dX7_wayOf_50 : decode cX7_wayOf 50 = .ok (.iload_n 3, 1) := by decide +kernel
theorem dX7_wayOf_51 : decode cX7_wayOf 51 = .ok (.iload_n 1, 1) := by decide +kernel
theorem dX7_wayOf_52 : decode cX7_wayOf 52 = .ok (.invokevirtual 199, 3) := by decide +kernel
theorem dX7_wayOf_55 : decode cX7_wayOf 55 = .ok (.goto 4, 3) := by decide +kernel
theorem dX7_wayOf_58 : decode cX7_wayOf 58 = .ok (.iconst 0, 1) := by decide +kernel
theorem dX7_wayOf_59 : decode cX7_wayOf 59 = .ok (.istore 8, 2) := by decide +kernel
theorem dX7_wayOf_61 : decode cX7_wayOf 61 = .ok (.lload 4, 2) := by decide +kernel
theorem dX7_wayOf_63 : decode cX7_wayOf 63 = .ok (.iload 7, 2) := by decide +kernel
theorem dX7_wayOf_65 : decode cX7_wayOf 65 = .ok (.ifCond .ne 9, 3) := by decide +kernel
theorem dX7_wayOf_68 : decode cX7_wayOf 68 = .ok (.ldc2_w 217, 3) := by decide +kernel
theorem dX7_wayOf_71 : decode cX7_wayOf 71 = .ok (.goto 25, 3) := by decide +kernel
theorem dX7_wayOf_74 : decode cX7_wayOf 74 = .ok (.iload_n 2, 1) := by decide +kernel
theorem dX7_wayOf_75 : decode cX7_wayOf 75 = .ok (.iload 6, 2) := by decide +kernel
theorem dX7_wayOf_77 : decode cX7_wayOf 77 = .ok (.ishr, 1) := by decide +kernel
theorem dX7_wayOf_78 : decode cX7_wayOf 78 = .ok (.iconst 1, 1) := by decide +kernel
theorem dX7_wayOf_79 : decode cX7_wayOf 79 = .ok (.iand, 1) := by decide +kernel
theorem dX7_wayOf_80 : decode cX7_wayOf 80 = .ok (.iconst 1, 1) := by decide +kernel
theorem dX7_wayOf_81 : decode cX7_wayOf 81 = .ok (.if_icmp .ne 12, 3) := by decide +kernel
theorem dX7_wayOf_84 : decode cX7_wayOf 84 = .ok (.bipush 10, 2) := by decide +kernel
theorem dX7_wayOf_86 : decode cX7_wayOf 86 = .ok (.iload 8, 2) := by decide +kernel
theorem dX7_wayOf_88 : decode cX7_wayOf 88 = .ok (.isub, 1) := by decide +kernel
theorem dX7_wayOf_89 : decode cX7_wayOf 89 = .ok (.i2l, 1) := by decide +kernel
theorem dX7_wayOf_90 : decode cX7_wayOf 90 = .ok (.goto 6, 3) := by decide +kernel
theorem dX7_wayOf_93 : decode cX7_wayOf 93 = .ok (.iload 8, 2) := by decide +kernel
theorem dX7_wayOf_95 : decode cX7_wayOf 95 = .ok (.i2l, 1) := by decide +kernel
theorem dX7_wayOf_96 : decode cX7_wayOf 96 = .ok (.lmul, 1) := by decide +kernel
theorem dX7_wayOf_97 : decode cX7_wayOf 97 = .ok (.lstore 4, 2) := by decide +kernel
theorem dX7_wayOf_99 : decode cX7_wayOf 99 = .ok (.iinc 6 1, 3) := by decide +kernel
theorem dX7_wayOf_102 : decode cX7_wayOf 102 = .ok (.goto (-86), 3) := by decide +kernel
theorem dX7_wayOf_105 : decode cX7_wayOf 105 = .ok (.lload 4, 2) := by decide +kernel
theorem dX7_wayOf_107 : decode cX7_wayOf 107 = .ok (.lreturn, 1) := by decide +kernel
theorem dX7_begins_0 : decode cX7_begins 0 = .ok (.iconst 0, 1) := by decide +kernel
theorem dX7_begins_1 : decode cX7_begins 1 = .ok (.istore_n 1, 1) := by decide +kernel
theorem dX7_begins_2 : decode cX7_begins 2 = .ok (.iload_n 1, 1) := by decide +kernel
theorem dX7_begins_3 : decode cX7_begins 3 = .ok (.bipush 8, 2) := by decide +kernel
theorem dX7_begins_5 : decode cX7_begins 5 = .ok (.if_icmp .ge 28, 3) := by decide +kernel
theorem dX7_begins_8 : decode cX7_begins 8 = .ok (.aload_n 0, 1) := by decide +kernel
theorem dX7_begins_9 : decode cX7_begins 9 = .ok (.getfield 37, 3) := by decide +kernel
theorem dX7_begins_12 : decode cX7_begins 12 = .ok (.iload_n 1, 1) := by decide +kernel
theorem dX7_begins_13 : decode cX7_begins 13 = .ok (.iload_n 1, 1) := by decide +kernel
theorem dX7_begins_14 : decode cX7_begins 14 = .ok (.aload_n 0, 1) := by decide +kernel
theorem dX7_begins_15 : decode cX7_begins 15 = .ok (.getfield 183, 3) := by decide +kernel
theorem dX7_begins_18 : decode cX7_begins 18 = .ok (.if_icmp .ne 7, 3) := by decide +kernel
theorem dX7_begins_21 : decode cX7_begins 21 = .ok (.lconst 1, 1) := by decide +kernel
theorem dX7_begins_22 : decode cX7_begins 22 = .ok (.goto 4, 3) := by decide +kernel
theorem dX7_begins_25 : decode cX7_begins 25 = .ok (.lconst 0, 1) := by decide +kernel
theorem dX7_begins_26 : decode cX7_begins 26 = .ok (.lastore, 1) := by decide +kernel
theorem dX7_begins_27 : decode cX7_begins 27 = .ok (.iinc 1 1, 3) := by decide +kernel
theorem dX7_begins_30 : decode cX7_begins 30 = .ok (.goto (-28), 3) := by decide +kernel
theorem dX7_begins_33 : decode cX7_begins 33 = .ok (.return_, 1) := by decide +kernel
theorem dX7_hourOn_0 : decode cX7_hourOn 0 = .ok (.iconst 0, 1) := by decide +kernel
theorem dX7_hourOn_1 : decode cX7_hourOn 1 = .ok (.istore_n 2, 1) := by decide +kernel
theorem dX7_hourOn_2 : decode cX7_hourOn 2 = .ok (.iload_n 2, 1) := by decide +kernel
theorem dX7_hourOn_3 : decode cX7_hourOn 3 = .ok (.iconst 1, 1) := by decide +kernel
theorem dX7_hourOn_4 : decode cX7_hourOn 4 = .ok (.aload_n 0, 1) := by decide +kernel
theorem dX7_hourOn_5 : decode cX7_hourOn 5 = .ok (.getfield 180, 3) := by decide +kernel
theorem dX7_hourOn_8 : decode cX7_hourOn 8 = .ok (.ishl, 1) := by decide +kernel
theorem dX7_hourOn_9 : decode cX7_hourOn 9 = .ok (.if_icmp .ge 57, 3) := by decide +kernel
theorem dX7_hourOn_12 : decode cX7_hourOn 12 = .ok (.aload_n 0, 1) := by decide +kernel
theorem dX7_hourOn_13 : decode cX7_hourOn 13 = .ok (.getfield 41, 3) := by decide +kernel
theorem dX7_hourOn_16 : decode cX7_hourOn 16 = .ok (.iload_n 2, 1) := by decide +kernel
theorem dX7_hourOn_17 : decode cX7_hourOn 17 = .ok (.lconst 0, 1) := by decide +kernel
theorem dX7_hourOn_18 : decode cX7_hourOn 18 = .ok (.lastore, 1) := by decide +kernel
theorem dX7_hourOn_19 : decode cX7_hourOn 19 = .ok (.iconst 0, 1) := by decide +kernel
theorem dX7_hourOn_20 : decode cX7_hourOn 20 = .ok (.istore_n 3, 1) := by decide +kernel
theorem dX7_hourOn_21 : decode cX7_hourOn 21 = .ok (.iload_n 3, 1) := by decide +kernel
theorem dX7_hourOn_22 : decode cX7_hourOn 22 = .ok (.iconst 1, 1) := by decide +kernel
theorem dX7_hourOn_23 : decode cX7_hourOn 23 = .ok (.aload_n 0, 1) := by decide +kernel
theorem dX7_hourOn_24 : decode cX7_hourOn 24 = .ok (.getfield 180, 3) := by decide +kernel
theorem dX7_hourOn_27 : decode cX7_hourOn 27 = .ok (.ishl, 1) := by decide +kernel
theorem dX7_hourOn_28 : decode cX7_hourOn 28 = .ok (.if_icmp .ge 32, 3) := by decide +kernel
theorem dX7_hourOn_31 : decode cX7_hourOn 31 = .ok (.aload_n 0, 1) := by decide +kernel
theorem dX7_hourOn_32 : decode cX7_hourOn 32 = .ok (.getfield 41, 3) := by decide +kernel
theorem dX7_hourOn_35 : decode cX7_hourOn 35 = .ok (.iload_n 2, 1) := by decide +kernel
theorem dX7_hourOn_36 : decode cX7_hourOn 36 = .ok (.dup2, 1) := by decide +kernel
theorem dX7_hourOn_37 : decode cX7_hourOn 37 = .ok (.laload, 1) := by decide +kernel
theorem dX7_hourOn_38 : decode cX7_hourOn 38 = .ok (.aload_n 0, 1) := by decide +kernel
theorem dX7_hourOn_39 : decode cX7_hourOn 39 = .ok (.getfield 37, 3) := by decide +kernel
theorem dX7_hourOn_42 : decode cX7_hourOn 42 = .ok (.iload_n 3, 1) := by decide +kernel
theorem dX7_hourOn_43 : decode cX7_hourOn 43 = .ok (.laload, 1) := by decide +kernel
theorem dX7_hourOn_44 : decode cX7_hourOn 44 = .ok (.aload_n 0, 1) := by decide +kernel
theorem dX7_hourOn_45 : decode cX7_hourOn 45 = .ok (.iload_n 3, 1) := by decide +kernel
theorem dX7_hourOn_46 : decode cX7_hourOn 46 = .ok (.iload_n 2, 1) := by decide +kernel
theorem dX7_hourOn_47 : decode cX7_hourOn 47 = .ok (.iload_n 1, 1) := by decide +kernel
theorem dX7_hourOn_48 : decode cX7_hourOn 48 = .ok (.invokevirtual 219, 3) := by decide +kernel
theorem dX7_hourOn_51 : decode cX7_hourOn 51 = .ok (.lmul, 1) := by decide +kernel
theorem dX7_hourOn_52 : decode cX7_hourOn 52 = .ok (.ladd, 1) := by decide +kernel
theorem dX7_hourOn_53 : decode cX7_hourOn 53 = .ok (.lastore, 1) := by decide +kernel
theorem dX7_hourOn_54 : decode cX7_hourOn 54 = .ok (.iinc 3 1, 3) := by decide +kernel
theorem dX7_hourOn_57 : decode cX7_hourOn 57 = .ok (.goto (-36), 3) := by decide +kernel
theorem dX7_hourOn_60 : decode cX7_hourOn 60 = .ok (.iinc 2 1, 3) := by decide +kernel
theorem dX7_hourOn_63 : decode cX7_hourOn 63 = .ok (.goto (-61), 3) := by decide +kernel
theorem dX7_hourOn_66 : decode cX7_hourOn 66 = .ok (.iconst 0, 1) := by decide +kernel
theorem dX7_hourOn_67 : decode cX7_hourOn 67 = .ok (.istore_n 2, 1) := by decide +kernel
theorem dX7_hourOn_68 : decode cX7_hourOn 68 = .ok (.iload_n 2, 1) := by decide +kernel
theorem dX7_hourOn_69 : decode cX7_hourOn 69 = .ok (.iconst 1, 1) := by decide +kernel
theorem dX7_hourOn_70 : decode cX7_hourOn 70 = .ok (.aload_n 0, 1) := by decide +kernel
theorem dX7_hourOn_71 : decode cX7_hourOn 71 = .ok (.getfield 180, 3) := by decide +kernel
theorem dX7_hourOn_74 : decode cX7_hourOn 74 = .ok (.ishl, 1) := by decide +kernel
theorem dX7_hourOn_75 : decode cX7_hourOn 75 = .ok (.if_icmp .ge 21, 3) := by decide +kernel
theorem dX7_hourOn_78 : decode cX7_hourOn 78 = .ok (.aload_n 0, 1) := by decide +kernel
theorem dX7_hourOn_79 : decode cX7_hourOn 79 = .ok (.getfield 37, 3) := by decide +kernel
theorem dX7_hourOn_82 : decode cX7_hourOn 82 = .ok (.iload_n 2, 1) := by decide +kernel
theorem dX7_hourOn_83 : decode cX7_hourOn 83 = .ok (.aload_n 0, 1) := by decide +kernel
theorem dX7_hourOn_84 : decode cX7_hourOn 84 = .ok (.getfield 41, 3) := by decide +kernel
theorem dX7_hourOn_87 : decode cX7_hourOn 87 = .ok (.iload_n 2, 1) := by decide +kernel
theorem dX7_hourOn_88 : decode cX7_hourOn 88 = .ok (.laload, 1) := by decide +kernel
theorem dX7_hourOn_89 : decode cX7_hourOn 89 = .ok (.lastore, 1) := by decide +kernel
theorem dX7_hourOn_90 : decode cX7_hourOn 90 = .ok (.iinc 2 1, 3) := by decide +kernel
theorem dX7_hourOn_93 : decode cX7_hourOn 93 = .ok (.goto (-25), 3) := by decide +kernel
theorem dX7_hourOn_96 : decode cX7_hourOn 96 = .ok (.return_, 1) := by decide +kernel
theorem dX7_hoursOn_0 : decode cX7_hoursOn 0 = .ok (.aload_n 0, 1) := by decide +kernel
theorem dX7_hoursOn_1 : decode cX7_hoursOn 1 = .ok (.invokevirtual 223, 3) := by decide +kernel
theorem dX7_hoursOn_4 : decode cX7_hoursOn 4 = .ok (.iconst 0, 1) := by decide +kernel
theorem dX7_hoursOn_5 : decode cX7_hoursOn 5 = .ok (.istore_n 2, 1) := by decide +kernel
theorem dX7_hoursOn_6 : decode cX7_hoursOn 6 = .ok (.iload_n 2, 1) := by decide +kernel
theorem dX7_hoursOn_7 : decode cX7_hoursOn 7 = .ok (.iload_n 1, 1) := by decide +kernel
theorem dX7_hoursOn_8 : decode cX7_hoursOn 8 = .ok (.if_icmp .ge 14, 3) := by decide +kernel
theorem dX7_hoursOn_11 : decode cX7_hoursOn 11 = .ok (.aload_n 0, 1) := by decide +kernel
theorem dX7_hoursOn_12 : decode cX7_hoursOn 12 = .ok (.iload_n 2, 1) := by decide +kernel
theorem dX7_hoursOn_13 : decode cX7_hoursOn 13 = .ok (.invokevirtual 226, 3) := by decide +kernel
theorem dX7_hoursOn_16 : decode cX7_hoursOn 16 = .ok (.iinc 2 1, 3) := by decide +kernel
theorem dX7_hoursOn_19 : decode cX7_hoursOn 19 = .ok (.goto (-13), 3) := by decide +kernel
theorem dX7_hoursOn_22 : decode cX7_hoursOn 22 = .ok (.return_, 1) := by decide +kernel
theorem dX7_holds_0 : decode cX7_holds 0 = .ok (.aload_n 0, 1) := by decide +kernel
theorem dX7_holds_1 : decode cX7_holds 1 = .ok (.iload_n 1, 1) := by decide +kernel
theorem dX7_holds_2 : decode cX7_holds 2 = .ok (.invokevirtual 229, 3) := by decide +kernel
theorem dX7_holds_5 : decode cX7_holds 5 = .ok (.aload_n 0, 1) := by decide +kernel
theorem dX7_holds_6 : decode cX7_holds 6 = .ok (.getfield 180, 3) := by decide +kernel
theorem dX7_holds_9 : decode cX7_holds 9 = .ok (.iload_n 1, 1) := by decide +kernel
theorem dX7_holds_10 : decode cX7_holds 10 = .ok (.imul, 1) := by decide +kernel
theorem dX7_holds_11 : decode cX7_holds 11 = .ok (.invokestatic 232, 3) := by decide +kernel
theorem dX7_holds_14 : decode cX7_holds 14 = .ok (.aload_n 0, 1) := by decide +kernel
theorem dX7_holds_15 : decode cX7_holds 15 = .ok (.getfield 37, 3) := by decide +kernel
theorem dX7_holds_18 : decode cX7_holds 18 = .ok (.iconst 0, 1) := by decide +kernel
theorem dX7_holds_19 : decode cX7_holds 19 = .ok (.laload, 1) := by decide +kernel
theorem dX7_holds_20 : decode cX7_holds 20 = .ok (.lsub, 1) := by decide +kernel
theorem dX7_holds_21 : decode cX7_holds 21 = .ok (.lreturn, 1) := by decide +kernel
theorem bit_pos {z i : Nat} (h : bit z i = 1) : 0 < z := by
  cases z with
  | zero => rw [bit, Nat.zero_div] at h; exact absurd h (by decide)
  | succ z => exact Nat.succ_pos z
set_option maxRecDepth 100000 in
set_option maxHeartbeats 4000000 in
theorem mX7_wayOf_l (s : Nat → Int32) (la : Nat → Int32) (r : rT) (v : vT) (c : Nat → Nat → Int32) (l : Nat → Int32) (tn : Int32) (p : Nat → Int32) (pa : Nat → Nat → Int32) (m : Nat) (q : rT) (b : Int32) (x : Nat → Nat) (h : Nat → Nat → Int64) (qc : rT) (hE : qE q qc m) (hM : mOK qc m) (z u t : Nat) (hz : z < 8) (hu : u < 8) (ht : t < 100) (h0 : u &&& (7 - z) = 0) : ∀ (k9 i : Nat), i + k9 = m → ∀ (z7 z8 : Option Value), J KX7_wayOf 21 (fun o B => o = some (.long (lN (wy (ten qc z t) m z u))) ∧ B = (wM s la r v c l tn p pa m q b x h)) 16 [some (.ref 0), some (.int (nI z)), some (.int (nI u)), some (.int (nI t)), some (.long (lN (pw (ten qc z t) z u i))), none, some (.int (nI i)), z7, z8] [] (wM s la r v c l tn p pa m q b x h) 0 0 := by
  intro k9
  induction k9 with
  | zero =>
    intro i hi
    obtain hiN : i = m := by omega
    intro z7 z8
    subst hiN
    refine J.iload dX7_wayOf_16 rfl ?_
    refine J.aload_n dX7_wayOf_18 rfl rfl ?_
    refine J.mg25 dX7_wayOf_19 rfl ?_
    refine J.icmp_ge (tgt := 105) dX7_wayOf_22 (by decide) (fun c22 => ?_) (fun c22 => absurd c22 (fun h => h (Int32.le_refl _)))
    refine J.lload dX7_wayOf_105 rfl ?_
    exact J.lret dX7_wayOf_107 rfl (Nat.le_refl _) (Nat.le_refl _) ⟨congrArg (fun y => some (Value.long (lN y))) (if_pos h0).symm, rfl⟩
  | succ k9 ih =>
    intro i hi
    have hiN : i < m := by omega
    intro z7 z8
    by_cases hb : bit z i = 1
    · by_cases hv : bit u i = 1
      · skip
        refine J.iload dX7_wayOf_16 rfl ?_
        refine J.aload_n dX7_wayOf_18 rfl rfl ?_
        refine J.mg25 dX7_wayOf_19 rfl ?_
        refine J.icmp_ge (tgt := 105) dX7_wayOf_22 (by decide) (fun c22 => absurd c22 (nI_ge (by omega) (by have := hM.2.2; omega))) (fun c22 => ?_)
        refine J.iload_n dX7_wayOf_25 rfl rfl ?_
        refine J.iload dX7_wayOf_26 rfl ?_
        refine J.ishr dX7_wayOf_28 ?_
        refine J.iconst (1) dX7_wayOf_29 (by decide) ?_
        refine J.iand dX7_wayOf_30 ?_
        refine J.iconst (1) dX7_wayOf_31 (by decide) ?_
        rw [bit_eval z hz i (by have := hM.2.2; omega)]
        refine J.icmp_ne (tgt := 39) dX7_wayOf_32 (by decide) (fun c32 => absurd c32 (fun h9 => h9 (by rw [hb] <;> rfl))) (fun c32 => ?_)
        refine J.iconst (1) dX7_wayOf_35 (by decide) ?_
        refine J.goto (tgt := 40) dX7_wayOf_36 (by decide) ?_
        refine J.istore dX7_wayOf_40 (by decide) rfl ?_
        try dsimp only [List.set]
        refine J.iload dX7_wayOf_42 rfl ?_
        refine J.if_eq (tgt := 58) dX7_wayOf_44 (by decide) (fun c44 => absurd c44 (by decide)) (fun c44 => ?_)
        refine J.aload_n dX7_wayOf_47 rfl rfl ?_
        refine J.iload dX7_wayOf_48 rfl ?_
        refine J.iload_n dX7_wayOf_50 rfl rfl ?_
        refine J.iload_n dX7_wayOf_51 rfl rfl ?_
        refine J.cvM (as := [.int _, .int _, .int _]) s la r v c l tn p pa m q b x h okX7_breaksOf jcX7_199 (mX7_breaksOf s la r v c l tn p pa m q b x h qc i t z hE hM hiN ht hz (bit_pos hb)) dX7_wayOf_52 rfl rfl rfl rfl (fun r9 B9 hq9 => ?_)
        obtain ⟨rfl, rfl⟩ := hq9
        refine ⟨_, _, _, _, _, _, _, _, _, _, _, _, _, _, rfl, ?_⟩
        show J _ _ _ _ _ (.int _ :: _) (wM s la r v c l tn p pa m q b x h) _ _
        refine J.goto (tgt := 59) dX7_wayOf_55 (by decide) ?_
        refine J.istore dX7_wayOf_59 (by decide) rfl ?_
        try dsimp only [List.set]
        refine J.lload dX7_wayOf_61 rfl ?_
        refine J.iload dX7_wayOf_63 rfl ?_
        refine J.if_ne (tgt := 74) dX7_wayOf_65 (by decide) (fun c65 => ?_) (fun c65 => absurd c65 (by decide))
        refine J.iload_n dX7_wayOf_74 rfl rfl ?_
        refine J.iload dX7_wayOf_75 rfl ?_
        refine J.ishr dX7_wayOf_77 ?_
        refine J.iconst (1) dX7_wayOf_78 (by decide) ?_
        refine J.iand dX7_wayOf_79 ?_
        refine J.iconst (1) dX7_wayOf_80 (by decide) ?_
        rw [bit_eval u hu i (by have := hM.2.2; omega)]
        refine J.icmp_ne (tgt := 93) dX7_wayOf_81 (by decide) (fun c81 => absurd c81 (fun h9 => h9 (by rw [hv] <;> rfl))) (fun c81 => ?_)
        refine J.bipush (10) dX7_wayOf_84 (by decide) ?_
        refine J.iload dX7_wayOf_86 rfl ?_
        refine J.isub dX7_wayOf_88 ?_
        refine J.i2l dX7_wayOf_89 ?_
        refine J.goto (tgt := 96) dX7_wayOf_90 (by decide) ?_
        refine J.lmul dX7_wayOf_96 ?_
        refine J.lstore dX7_wayOf_97 (by decide) rfl ?_
        try dsimp only [List.set]
        refine J.iinc (1) dX7_wayOf_99 (by decide) rfl (by decide) rfl ?_
        try dsimp only [List.set]
        refine J.goto (tgt := 16) dX7_wayOf_102 (by decide) ?_
        exact J.at (ih (i + 1) (by omega) _ _) (by rw [← nI_1 i, ← pw_c (ten_le qc z t i) (by rw [hb]; decide) (by rw [hv]; decide)] <;> rfl) rfl rfl
      · have hv : bit u i = 0 := by have := bit_le u i; omega
        refine J.iload dX7_wayOf_16 rfl ?_
        refine J.aload_n dX7_wayOf_18 rfl rfl ?_
        refine J.mg25 dX7_wayOf_19 rfl ?_
        refine J.icmp_ge (tgt := 105) dX7_wayOf_22 (by decide) (fun c22 => absurd c22 (nI_ge (by omega) (by have := hM.2.2; omega))) (fun c22 => ?_)
        refine J.iload_n dX7_wayOf_25 rfl rfl ?_
        refine J.iload dX7_wayOf_26 rfl ?_
        refine J.ishr dX7_wayOf_28 ?_
        refine J.iconst (1) dX7_wayOf_29 (by decide) ?_
        refine J.iand dX7_wayOf_30 ?_
        refine J.iconst (1) dX7_wayOf_31 (by decide) ?_
        rw [bit_eval z hz i (by have := hM.2.2; omega)]
        refine J.icmp_ne (tgt := 39) dX7_wayOf_32 (by decide) (fun c32 => absurd c32 (fun h9 => h9 (by rw [hb] <;> rfl))) (fun c32 => ?_)
        refine J.iconst (1) dX7_wayOf_35 (by decide) ?_
        refine J.goto (tgt := 40) dX7_wayOf_36 (by decide) ?_
        refine J.istore dX7_wayOf_40 (by decide) rfl ?_
        try dsimp only [List.set]
        refine J.iload dX7_wayOf_42 rfl ?_
        refine J.if_eq (tgt := 58) dX7_wayOf_44 (by decide) (fun c44 => absurd c44 (by decide)) (fun c44 => ?_)
        refine J.aload_n dX7_wayOf_47 rfl rfl ?_
        refine J.iload dX7_wayOf_48 rfl ?_
        refine J.iload_n dX7_wayOf_50 rfl rfl ?_
        refine J.iload_n dX7_wayOf_51 rfl rfl ?_
        refine J.cvM (as := [.int _, .int _, .int _]) s la r v c l tn p pa m q b x h okX7_breaksOf jcX7_199 (mX7_breaksOf s la r v c l tn p pa m q b x h qc i t z hE hM hiN ht hz (bit_pos hb)) dX7_wayOf_52 rfl rfl rfl rfl (fun r9 B9 hq9 => ?_)
        obtain ⟨rfl, rfl⟩ := hq9
        refine ⟨_, _, _, _, _, _, _, _, _, _, _, _, _, _, rfl, ?_⟩
        show J _ _ _ _ _ (.int _ :: _) (wM s la r v c l tn p pa m q b x h) _ _
        refine J.goto (tgt := 59) dX7_wayOf_55 (by decide) ?_
        refine J.istore dX7_wayOf_59 (by decide) rfl ?_
        try dsimp only [List.set]
        refine J.lload dX7_wayOf_61 rfl ?_
        refine J.iload dX7_wayOf_63 rfl ?_
        refine J.if_ne (tgt := 74) dX7_wayOf_65 (by decide) (fun c65 => ?_) (fun c65 => absurd c65 (by decide))
        refine J.iload_n dX7_wayOf_74 rfl rfl ?_
        refine J.iload dX7_wayOf_75 rfl ?_
        refine J.ishr dX7_wayOf_77 ?_
        refine J.iconst (1) dX7_wayOf_78 (by decide) ?_
        refine J.iand dX7_wayOf_79 ?_
        refine J.iconst (1) dX7_wayOf_80 (by decide) ?_
        rw [bit_eval u hu i (by have := hM.2.2; omega)]
        refine J.icmp_ne (tgt := 93) dX7_wayOf_81 (by decide) (fun c81 => ?_) (fun c81 => absurd c81 (by rw [hv]; decide))
        refine J.iload dX7_wayOf_93 rfl ?_
        refine J.i2l dX7_wayOf_95 ?_
        refine J.lmul dX7_wayOf_96 ?_
        refine J.lstore dX7_wayOf_97 (by decide) rfl ?_
        try dsimp only [List.set]
        refine J.iinc (1) dX7_wayOf_99 (by decide) rfl (by decide) rfl ?_
        try dsimp only [List.set]
        refine J.goto (tgt := 16) dX7_wayOf_102 (by decide) ?_
        exact J.at (ih (i + 1) (by omega) _ _) (by rw [← nI_1 i, ← pw_b (ten_le qc z t i) (by rw [hb]; decide) (by rw [hv] <;> rfl)] <;> rfl) rfl rfl
    · have hb0 : bit z i = 0 := by have := bit_le z i; omega
      have hb1 : ¬ nI (bit z i) = 1 := by rw [hb0]; decide
      refine J.iload dX7_wayOf_16 rfl ?_
      refine J.aload_n dX7_wayOf_18 rfl rfl ?_
      refine J.mg25 dX7_wayOf_19 rfl ?_
      refine J.icmp_ge (tgt := 105) dX7_wayOf_22 (by decide) (fun c22 => absurd c22 (nI_ge (by omega) (by have := hM.2.2; omega))) (fun c22 => ?_)
      refine J.iload_n dX7_wayOf_25 rfl rfl ?_
      refine J.iload dX7_wayOf_26 rfl ?_
      refine J.ishr dX7_wayOf_28 ?_
      refine J.iconst (1) dX7_wayOf_29 (by decide) ?_
      refine J.iand dX7_wayOf_30 ?_
      refine J.iconst (1) dX7_wayOf_31 (by decide) ?_
      rw [bit_eval z hz i (by have := hM.2.2; omega)]
      refine J.icmp_ne (tgt := 39) dX7_wayOf_32 (by decide) (fun c32 => ?_) (fun c32 => absurd c32 hb1)
      refine J.iconst (0) dX7_wayOf_39 (by decide) ?_
      refine J.istore dX7_wayOf_40 (by decide) rfl ?_
      try dsimp only [List.set]
      refine J.iload dX7_wayOf_42 rfl ?_
      refine J.if_eq (tgt := 58) dX7_wayOf_44 (by decide) (fun c44 => ?_) (fun c44 => absurd c44 (fun h9 => h9 rfl))
      refine J.iconst (0) dX7_wayOf_58 (by decide) ?_
      refine J.istore dX7_wayOf_59 (by decide) rfl ?_
      try dsimp only [List.set]
      refine J.lload dX7_wayOf_61 rfl ?_
      refine J.iload dX7_wayOf_63 rfl ?_
      refine J.if_ne (tgt := 74) dX7_wayOf_65 (by decide) (fun c65 => absurd c65 (fun h9 => h9 rfl)) (fun c65 => ?_)
      refine J.ldc2 (v := 10) dX7_wayOf_68 (jt 1053 rfl rfl) ?_
      refine J.goto (tgt := 96) dX7_wayOf_71 (by decide) ?_
      refine J.lmul dX7_wayOf_96 ?_
      refine J.lstore dX7_wayOf_97 (by decide) rfl ?_
      try dsimp only [List.set]
      refine J.iinc (1) dX7_wayOf_99 (by decide) rfl (by decide) rfl ?_
      try dsimp only [List.set]
      refine J.goto (tgt := 16) dX7_wayOf_102 (by decide) ?_
      exact J.at (ih (i + 1) (by omega) _ _) (by rw [← nI_1 i, ← pw_a (by rw [hb0] <;> rfl)] <;> rfl) rfl rfl
set_option maxRecDepth 100000 in
set_option maxHeartbeats 4000000 in
theorem mX7_wayOf (s : Nat → Int32) (la : Nat → Int32) (r : rT) (v : vT) (c : Nat → Nat → Int32) (l : Nat → Int32) (tn : Int32) (p : Nat → Int32) (pa : Nat → Nat → Int32) (m : Nat) (q : rT) (b : Int32) (x : Nat → Nat) (h : Nat → Nat → Int64) (qc : rT) (hE : qE q qc m) (hM : mOK qc m) (z u t : Nat) (hz : z < 8) (hu : u < 8) (ht : t < 100) : J KX7_wayOf 21 (fun o B => o = some (.long (lN (wy (ten qc z t) m z u))) ∧ B = (wM s la r v c l tn p pa m q b x h)) 0 [some (.ref 0), some (.int (nI z)), some (.int (nI u)), some (.int (nI t)), none, none, none, none, none] [] (wM s la r v c l tn p pa m q b x h) 0 0 := by
  refine J.iload_n dX7_wayOf_0 rfl rfl ?_
  refine J.iload_n dX7_wayOf_1 rfl rfl ?_
  refine J.iconst (-1) dX7_wayOf_2 (by decide) ?_
  refine J.ixor dX7_wayOf_3 ?_
  refine J.iand dX7_wayOf_4 ?_
  rw [sub_eval z hz u hu]
  refine J.if_eq (tgt := 10) dX7_wayOf_5 (by decide) (fun c5 => ?_) (fun c5 => ?_)
  · refine J.lconst 1 dX7_wayOf_10 (by decide) ?_
    refine J.lstore dX7_wayOf_11 (by decide) rfl ?_
    try dsimp only [List.set]
    refine J.iconst (0) dX7_wayOf_13 (by decide) ?_
    refine J.istore dX7_wayOf_14 (by decide) rfl ?_
    try dsimp only [List.set]
    exact J.at (mX7_wayOf_l s la r v c l tn p pa m q b x h qc hE hM z u t hz hu ht ((nI_eqi (b := 0) (by have : u &&& (7 - z) ≤ u := Nat.and_le_left; omega) (by decide)).mp c5) m 0 (by omega) none none) rfl rfl rfl
  · refine J.lconst 0 dX7_wayOf_8 (by decide) ?_
    exact J.lret dX7_wayOf_9 rfl (Nat.le_refl _) (Nat.le_refl _) ⟨congrArg (fun y => some (Value.long (lN y))) (if_neg (fun h9 => c5 (congrArg nI h9))).symm, rfl⟩
set_option maxRecDepth 100000 in
set_option maxHeartbeats 4000000 in
theorem mX7_begins_l (s : Nat → Int32) (la : Nat → Int32) (r : rT) (v : vT) (c : Nat → Nat → Int32) (l : Nat → Int32) (tn : Int32) (p : Nat → Int32) (pa : Nat → Nat → Int32) (m : Nat) (q : rT) (b : Int32) (x : Nat → Nat) (h : Nat → Nat → Int64) (hw : q 6 0 < 8) : ∀ (k9 i : Nat), i + k9 = 8 → J KX7_begins 21 (fun o B => o = none ∧ B = (wM s la r v c l tn p pa m q b (one (q 6 0)) h)) 2 [some (.ref 0), some (.int (nI i))] [] (wM s la r v c l tn p pa m q b (fun j => if j < i then one (q 6 0) j else x j) h) 0 0 := by
  intro k9
  induction k9 with
  | zero =>
    intro i hi
    obtain hiN : i = 8 := by omega
    subst hiN
    refine J.iload_n dX7_begins_2 rfl rfl ?_
    refine J.bipush (8) dX7_begins_3 (by decide) ?_
    refine J.icmp_ge (tgt := 33) dX7_begins_5 (by decide) (fun c5 => ?_) (fun c5 => absurd c5 (fun h => h (by decide)))
    refine J.arrL 10 1 (fun j => lN (one (q 6 0) j)) rfl (fun j hj => congrArg lN (if_pos hj)) ?_
    exact J.vret dX7_begins_33 rfl (Nat.le_refl _) (Nat.le_refl _) ⟨rfl, rfl⟩
  | succ k9 ih =>
    intro i hi
    have hiN : i < 8 := by omega
    refine J.iload_n dX7_begins_2 rfl rfl ?_
    refine J.bipush (8) dX7_begins_3 (by decide) ?_
    refine J.icmp_ge (tgt := 33) dX7_begins_5 (by decide) (fun c5 => absurd c5 (nI_ge (b := 8) (by omega) (by omega))) (fun c5 => ?_)
    refine J.aload_n dX7_begins_8 rfl rfl ?_
    refine J.mg28 dX7_begins_9 rfl ?_
    refine J.iload_n dX7_begins_12 rfl rfl ?_
    refine J.iload_n dX7_begins_13 rfl rfl ?_
    refine J.aload_n dX7_begins_14 rfl rfl ?_
    refine J.mg26 dX7_begins_15 rfl ?_
    refine J.icmp_ne (tgt := 25) dX7_begins_18 (by decide) (fun c18 => ?_) (fun c18 => ?_)
    · refine J.lconst 0 dX7_begins_25 (by decide) ?_
      first | (rw [show (1 : Int64) = lN 1 from rfl]; refine J.ms10 i dX7_begins_26 rfl (by omega) ?_) | (rw [show (0 : Int64) = lN 0 from rfl]; refine J.ms10 i dX7_begins_26 rfl (by omega) ?_)
      try dsimp only [List.set]
      refine J.iinc (1) dX7_begins_27 (by decide) rfl (by decide) rfl ?_
      try dsimp only [List.set]
      refine J.goto (tgt := 2) dX7_begins_30 (by decide) ?_
      first
      | (have e9 : one (q 6 0) i = 1 := if_pos ((nI_eqi (by omega) (by omega)).mp c18)
         exact J.at (ih (i + 1) (by omega)) (by rw [← nI_1 i] <;> rfl) rfl (by rw [← jlt_s (one (q 6 0)) x i, e9]))
      | (have e9 : one (q 6 0) i = 0 := if_neg (fun h9 => c18 (congrArg nI h9))
         exact J.at (ih (i + 1) (by omega)) (by rw [← nI_1 i] <;> rfl) rfl (by rw [← jlt_s (one (q 6 0)) x i, e9]))
    · refine J.lconst 1 dX7_begins_21 (by decide) ?_
      refine J.goto (tgt := 26) dX7_begins_22 (by decide) ?_
      first | (rw [show (1 : Int64) = lN 1 from rfl]; refine J.ms10 i dX7_begins_26 rfl (by omega) ?_) | (rw [show (0 : Int64) = lN 0 from rfl]; refine J.ms10 i dX7_begins_26 rfl (by omega) ?_)
      try dsimp only [List.set]
      refine J.iinc (1) dX7_begins_27 (by decide) rfl (by decide) rfl ?_
      try dsimp only [List.set]
      refine J.goto (tgt := 2) dX7_begins_30 (by decide) ?_
      first
      | (have e9 : one (q 6 0) i = 1 := if_pos ((nI_eqi (by omega) (by omega)).mp c18)
         exact J.at (ih (i + 1) (by omega)) (by rw [← nI_1 i] <;> rfl) rfl (by rw [← jlt_s (one (q 6 0)) x i, e9]))
      | (have e9 : one (q 6 0) i = 0 := if_neg (fun h9 => c18 (congrArg nI h9))
         exact J.at (ih (i + 1) (by omega)) (by rw [← nI_1 i] <;> rfl) rfl (by rw [← jlt_s (one (q 6 0)) x i, e9]))
set_option maxRecDepth 100000 in
set_option maxHeartbeats 4000000 in
theorem mX7_begins (s : Nat → Int32) (la : Nat → Int32) (r : rT) (v : vT) (c : Nat → Nat → Int32) (l : Nat → Int32) (tn : Int32) (p : Nat → Int32) (pa : Nat → Nat → Int32) (m : Nat) (q : rT) (b : Int32) (x : Nat → Nat) (h : Nat → Nat → Int64) (hw : q 6 0 < 8) : J KX7_begins 21 (fun o B => o = none ∧ B = (wM s la r v c l tn p pa m q b (one (q 6 0)) h)) 0 [some (.ref 0), none] [] (wM s la r v c l tn p pa m q b x h) 0 0 := by
  refine J.iconst (0) dX7_begins_0 (by decide) ?_
  refine J.istore_n dX7_begins_1 rfl (by decide) rfl ?_
  try dsimp only [List.set]
  exact J.at (mX7_begins_l s la r v c l tn p pa m q b x h hw 8 0 (by omega)) rfl rfl (by rw [jlt_0])
set_option maxRecDepth 100000 in
set_option maxHeartbeats 4000000 in
theorem mX7_hourOn_c (s : Nat → Int32) (la : Nat → Int32) (r : rT) (v : vT) (c : Nat → Nat → Int32) (l : Nat → Int32) (tn : Int32) (p : Nat → Int32) (pa : Nat → Nat → Int32) (m : Nat) (q : rT) (b : Int32) (x : Nat → Nat) (h : Nat → Nat → Int64) (qc : rT) (hE : qE q qc m) (hM : mOK qc m) (t : Nat) (ht : t < 100) (z3 : Option Value) (hh : ∀ j, j < 2 ^ m → h 0 j = lN (mhv qc m t x j)) : ∀ (k9 i : Nat), i + k9 = 2 ^ m → J KX7_hourOn 21 (fun o B => o = none ∧ ∃ h9, B = (wM s la r v c l tn p pa m q b (mh qc m t x) h9)) 68 [some (.ref 0), some (.int (nI t)), some (.int (nI i)), z3] [] (wM s la r v c l tn p pa m q b (fun j => if j < i then mhv qc m t x j else x j) h) 0 0 := by
  intro k9
  induction k9 with
  | zero =>
    intro i hi
    obtain hiN : i = 2 ^ m := by omega
    subst hiN
    refine J.iload_n dX7_hourOn_68 rfl rfl ?_
    refine J.iconst (1) dX7_hourOn_69 (by decide) ?_
    refine J.aload_n dX7_hourOn_70 rfl rfl ?_
    refine J.mg25 dX7_hourOn_71 rfl ?_
    refine J.ishl dX7_hourOn_74 ?_
    rw [shl_eval m (by have := hM.2.2; omega)]
    refine J.icmp_ge (tgt := 96) dX7_hourOn_75 (by decide) (fun c75 => ?_) (fun c75 => absurd c75 (fun h => h (Int32.le_refl _)))
    exact J.vret dX7_hourOn_96 rfl (Nat.le_refl _) (Nat.le_refl _) ⟨rfl, h, rfl⟩
  | succ k9 ih =>
    intro i hi
    have hiN : i < 2 ^ m := by omega
    refine J.iload_n dX7_hourOn_68 rfl rfl ?_
    refine J.iconst (1) dX7_hourOn_69 (by decide) ?_
    refine J.aload_n dX7_hourOn_70 rfl rfl ?_
    refine J.mg25 dX7_hourOn_71 rfl ?_
    refine J.ishl dX7_hourOn_74 ?_
    rw [shl_eval m (by have := hM.2.2; omega)]
    refine J.icmp_ge (tgt := 96) dX7_hourOn_75 (by decide) (fun c75 => absurd c75 (nI_ge (by omega) (by have := p2_8 hM.2.2; omega))) (fun c75 => ?_)
    refine J.aload_n dX7_hourOn_78 rfl rfl ?_
    refine J.mg28 dX7_hourOn_79 rfl ?_
    refine J.iload_n dX7_hourOn_82 rfl rfl ?_
    refine J.aload_n dX7_hourOn_83 rfl rfl ?_
    refine J.mg29 dX7_hourOn_84 rfl ?_
    refine J.iload_n dX7_hourOn_87 rfl rfl ?_
    refine J.ml11 (i) dX7_hourOn_88 rfl (by have := p2_8 hM.2.2; omega) ?_
    rw [hh i (by omega)]
    refine J.ms10 (i) dX7_hourOn_89 rfl (by have := p2_8 hM.2.2; omega) ?_
    try dsimp only [List.set]
    refine J.iinc (1) dX7_hourOn_90 (by decide) rfl (by decide) rfl ?_
    try dsimp only [List.set]
    refine J.goto (tgt := 68) dX7_hourOn_93 (by decide) ?_
    exact J.at (ih (i + 1) (by omega)) (by rw [← nI_1 i] <;> rfl) rfl (by rw [← jlt_s (mhv qc m t x) x i])
set_option maxRecDepth 100000 in
set_option maxHeartbeats 4000000 in
theorem mX7_hourOn_b (s : Nat → Int32) (la : Nat → Int32) (r : rT) (v : vT) (c : Nat → Nat → Int32) (l : Nat → Int32) (tn : Int32) (p : Nat → Int32) (pa : Nat → Nat → Int32) (m : Nat) (q : rT) (b : Int32) (x : Nat → Nat) (qc : rT) (hE : qE q qc m) (hM : mOK qc m) (t : Nat) (ht : t < 100) (u : Nat) (hu : u < 2 ^ m) (hk : ∀ (h : Nat → Nat → Int64), (h 0 u = lN (sm (fun f => x f * wy (ten qc f t) m f u) (2 ^ m)) ∧ ∀ j, j < u → h 0 j = lN (mhv qc m t x j)) → ∀ z3 : Option Value, J KX7_hourOn 21 (fun o B => o = none ∧ ∃ h9, B = (wM s la r v c l tn p pa m q b (mh qc m t x) h9)) 2 [some (.ref 0), some (.int (nI t)), some (.int (nI (u + 1))), z3] [] (wM s la r v c l tn p pa m q b x h) 0 0) : ∀ (k9 i : Nat), i + k9 = 2 ^ m → ∀ (h : Nat → Nat → Int64), (h 0 u = lN (sm (fun f => x f * wy (ten qc f t) m f u) i) ∧ ∀ j, j < u → h 0 j = lN (mhv qc m t x j)) → J KX7_hourOn 21 (fun o B => o = none ∧ ∃ h9, B = (wM s la r v c l tn p pa m q b (mh qc m t x) h9)) 21 [some (.ref 0), some (.int (nI t)), some (.int (nI u)), some (.int (nI i))] [] (wM s la r v c l tn p pa m q b x h) 0 0 := by
  intro k9
  induction k9 with
  | zero =>
    intro i hi
    obtain hiN : i = 2 ^ m := by omega
    intro h hh
    subst hiN
    refine J.iload_n dX7_hourOn_21 rfl rfl ?_
    refine J.iconst (1) dX7_hourOn_22 (by decide) ?_
    refine J.aload_n dX7_hourOn_23 rfl rfl ?_
    refine J.mg25 dX7_hourOn_24 rfl ?_
    refine J.ishl dX7_hourOn_27 ?_
    rw [shl_eval m (by have := hM.2.2; omega)]
    refine J.icmp_ge (tgt := 60) dX7_hourOn_28 (by decide) (fun c28 => ?_) (fun c28 => absurd c28 (fun h => h (Int32.le_refl _)))
    refine J.iinc (1) dX7_hourOn_60 (by decide) rfl (by decide) rfl ?_
    try dsimp only [List.set]
    refine J.goto (tgt := 2) dX7_hourOn_63 (by decide) ?_
    exact J.at (hk _ hh _) (by rw [← nI_1 u] <;> rfl) rfl rfl
  | succ k9 ih =>
    intro i hi
    have hiN : i < 2 ^ m := by omega
    intro h hh
    refine J.iload_n dX7_hourOn_21 rfl rfl ?_
    refine J.iconst (1) dX7_hourOn_22 (by decide) ?_
    refine J.aload_n dX7_hourOn_23 rfl rfl ?_
    refine J.mg25 dX7_hourOn_24 rfl ?_
    refine J.ishl dX7_hourOn_27 ?_
    rw [shl_eval m (by have := hM.2.2; omega)]
    refine J.icmp_ge (tgt := 60) dX7_hourOn_28 (by decide) (fun c28 => absurd c28 (nI_ge (by omega) (by have := p2_8 hM.2.2; omega))) (fun c28 => ?_)
    refine J.aload_n dX7_hourOn_31 rfl rfl ?_
    refine J.mg29 dX7_hourOn_32 rfl ?_
    refine J.iload_n dX7_hourOn_35 rfl rfl ?_
    refine J.dup2 dX7_hourOn_36 rfl rfl ?_
    refine J.ml11 (u) dX7_hourOn_37 rfl (by have := p2_8 hM.2.2; omega) ?_
    rw [hh.1]
    refine J.aload_n dX7_hourOn_38 rfl rfl ?_
    refine J.mg28 dX7_hourOn_39 rfl ?_
    refine J.iload_n dX7_hourOn_42 rfl rfl ?_
    refine J.ml10 (i) dX7_hourOn_43 rfl (by have := p2_8 hM.2.2; omega) ?_
    refine J.aload_n dX7_hourOn_44 rfl rfl ?_
    refine J.iload_n dX7_hourOn_45 rfl rfl ?_
    refine J.iload_n dX7_hourOn_46 rfl rfl ?_
    refine J.iload_n dX7_hourOn_47 rfl rfl ?_
    refine J.cvM (as := [.int _, .int _, .int _]) s la r v c l tn p pa m q b x h okX7_wayOf jcX7_219 (mX7_wayOf s la r v c l tn p pa m q b x h qc hE hM i u t (by have := p2_8 hM.2.2; omega) (by have := p2_8 hM.2.2; omega) ht) dX7_hourOn_48 rfl rfl rfl rfl (fun r9 B9 hq9 => ?_)
    obtain ⟨rfl, rfl⟩ := hq9
    refine ⟨_, _, _, _, _, _, _, _, _, _, _, _, _, _, rfl, ?_⟩
    show J _ _ _ _ _ (.long _ :: _) (wM s la r v c l tn p pa m q b x h) _ _
    refine J.lmul dX7_hourOn_51 ?_
    refine J.ladd dX7_hourOn_52 ?_
    rw [lN_mul, lN_add]
    refine J.ms11 (u) dX7_hourOn_53 rfl (by have := p2_8 hM.2.2; omega) ?_
    try dsimp only [List.set]
    refine J.iinc (1) dX7_hourOn_54 (by decide) rfl (by decide) rfl ?_
    try dsimp only [List.set]
    refine J.goto (tgt := 21) dX7_hourOn_57 (by decide) ?_
    refine J.at (ih (i + 1) (by omega) _ ⟨?_, ?_⟩) (by rw [← nI_1 i] <;> rfl) rfl rfl
    · exact pk_uLs
    · exact fun j hj => (pk_uLn (show j ≠ u by omega)).trans (hh.2 j hj)
set_option maxRecDepth 100000 in
set_option maxHeartbeats 4000000 in
theorem mX7_hourOn_a (s : Nat → Int32) (la : Nat → Int32) (r : rT) (v : vT) (c : Nat → Nat → Int32) (l : Nat → Int32) (tn : Int32) (p : Nat → Int32) (pa : Nat → Nat → Int32) (m : Nat) (q : rT) (b : Int32) (x : Nat → Nat) (qc : rT) (hE : qE q qc m) (hM : mOK qc m) (t : Nat) (ht : t < 100) : ∀ (k9 i : Nat), i + k9 = 2 ^ m → ∀ (h : Nat → Nat → Int64), (∀ j, j < i → h 0 j = lN (mhv qc m t x j)) → ∀ (z3 : Option Value), True → J KX7_hourOn 21 (fun o B => o = none ∧ ∃ h9, B = (wM s la r v c l tn p pa m q b (mh qc m t x) h9)) 2 [some (.ref 0), some (.int (nI t)), some (.int (nI i)), z3] [] (wM s la r v c l tn p pa m q b x h) 0 0 := by
  intro k9
  induction k9 with
  | zero =>
    intro i hi
    obtain hiN : i = 2 ^ m := by omega
    intro h hh z3 _
    subst hiN
    refine J.iload_n dX7_hourOn_2 rfl rfl ?_
    refine J.iconst (1) dX7_hourOn_3 (by decide) ?_
    refine J.aload_n dX7_hourOn_4 rfl rfl ?_
    refine J.mg25 dX7_hourOn_5 rfl ?_
    refine J.ishl dX7_hourOn_8 ?_
    rw [shl_eval m (by have := hM.2.2; omega)]
    refine J.icmp_ge (tgt := 66) dX7_hourOn_9 (by decide) (fun c9 => ?_) (fun c9 => absurd c9 (fun h => h (Int32.le_refl _)))
    refine J.iconst (0) dX7_hourOn_66 (by decide) ?_
    refine J.istore_n dX7_hourOn_67 rfl (by decide) rfl ?_
    try dsimp only [List.set]
    exact J.at (mX7_hourOn_c s la r v c l tn p pa m q b x h qc hE hM t ht z3 hh (2 ^ m) 0 (by omega)) rfl rfl (by rw [jlt_0])
  | succ k9 ih =>
    intro i hi
    have hiN : i < 2 ^ m := by omega
    intro h hh z3 _
    refine J.iload_n dX7_hourOn_2 rfl rfl ?_
    refine J.iconst (1) dX7_hourOn_3 (by decide) ?_
    refine J.aload_n dX7_hourOn_4 rfl rfl ?_
    refine J.mg25 dX7_hourOn_5 rfl ?_
    refine J.ishl dX7_hourOn_8 ?_
    rw [shl_eval m (by have := hM.2.2; omega)]
    refine J.icmp_ge (tgt := 66) dX7_hourOn_9 (by decide) (fun c9 => absurd c9 (nI_ge (by omega) (by have := p2_8 hM.2.2; omega))) (fun c9 => ?_)
    refine J.aload_n dX7_hourOn_12 rfl rfl ?_
    refine J.mg29 dX7_hourOn_13 rfl ?_
    refine J.iload_n dX7_hourOn_16 rfl rfl ?_
    refine J.lconst 0 dX7_hourOn_17 (by decide) ?_
    rw [show (0 : Int64) = lN 0 from rfl]
    refine J.ms11 (i) dX7_hourOn_18 rfl (by have := p2_8 hM.2.2; omega) ?_
    try dsimp only [List.set]
    refine J.iconst (0) dX7_hourOn_19 (by decide) ?_
    refine J.istore_n dX7_hourOn_20 rfl (by decide) rfl ?_
    try dsimp only [List.set]
    refine J.at (mX7_hourOn_b s la r v c l tn p pa m q b x qc hE hM t ht i hiN (fun h9 hh9 z9 => ih (i + 1) (by omega) h9 (fun j hj => ?_) z9 trivial) (2 ^ m) 0 (by omega) (hset h 0 i (lN 0)) ⟨pk_uLs, fun j hj => (pk_uLn (show j ≠ i by omega)).trans (hh j hj)⟩) rfl rfl rfl
    by_cases e : j = i
    · subst e; exact hh9.1
    · exact hh9.2 j (by omega)
set_option maxRecDepth 100000 in
set_option maxHeartbeats 4000000 in
theorem mX7_hourOn (s : Nat → Int32) (la : Nat → Int32) (r : rT) (v : vT) (c : Nat → Nat → Int32) (l : Nat → Int32) (tn : Int32) (p : Nat → Int32) (pa : Nat → Nat → Int32) (m : Nat) (q : rT) (b : Int32) (x : Nat → Nat) (h : Nat → Nat → Int64) (qc : rT) (hE : qE q qc m) (hM : mOK qc m) (t : Nat) (ht : t < 100) : J KX7_hourOn 21 (fun o B => o = none ∧ ∃ h9, B = (wM s la r v c l tn p pa m q b (mh qc m t x) h9)) 0 [some (.ref 0), some (.int (nI t)), none, none] [] (wM s la r v c l tn p pa m q b x h) 0 0 := by
  refine J.iconst (0) dX7_hourOn_0 (by decide) ?_
  refine J.istore_n dX7_hourOn_1 rfl (by decide) rfl ?_
  try dsimp only [List.set]
  exact J.at (mX7_hourOn_a s la r v c l tn p pa m q b x qc hE hM t ht (2 ^ m) 0 (by omega) h (fun j hj => absurd hj (Nat.not_lt_zero j)) none trivial) rfl rfl rfl
set_option maxRecDepth 100000 in
set_option maxHeartbeats 4000000 in
theorem mX7_hoursOn_l (s : Nat → Int32) (la : Nat → Int32) (r : rT) (v : vT) (c : Nat → Nat → Int32) (l : Nat → Int32) (tn : Int32) (p : Nat → Int32) (pa : Nat → Nat → Int32) (m : Nat) (q : rT) (b : Int32) (qc : rT) (hE : qE q qc m) (hM : mOK qc m) (N : Nat) (hN : N ≤ 5) : ∀ (k9 i : Nat), i + k9 = N → ∀ (h : Nat → Nat → Int64), J KX7_hoursOn 21 (fun o B => o = none ∧ ∃ h9, B = (wM s la r v c l tn p pa m q b (mho qc m N) h9)) 6 [some (.ref 0), some (.int (nI N)), some (.int (nI i))] [] (wM s la r v c l tn p pa m q b (mho qc m i) h) 0 0 := by
  intro k9
  induction k9 with
  | zero =>
    intro i hi
    obtain hiN : i = N := by omega
    intro h
    subst hiN
    refine J.iload_n dX7_hoursOn_6 rfl rfl ?_
    refine J.iload_n dX7_hoursOn_7 rfl rfl ?_
    refine J.icmp_ge (tgt := 22) dX7_hoursOn_8 (by decide) (fun c8 => ?_) (fun c8 => absurd c8 (fun h => h (Int32.le_refl _)))
    exact J.vret dX7_hoursOn_22 rfl (Nat.le_refl _) (Nat.le_refl _) ⟨rfl, h, rfl⟩
  | succ k9 ih =>
    intro i hi
    have hiN : i < N := by omega
    intro h
    refine J.iload_n dX7_hoursOn_6 rfl rfl ?_
    refine J.iload_n dX7_hoursOn_7 rfl rfl ?_
    refine J.icmp_ge (tgt := 22) dX7_hoursOn_8 (by decide) (fun c8 => absurd c8 (nI_ge (by omega) (by omega))) (fun c8 => ?_)
    refine J.aload_n dX7_hoursOn_11 rfl rfl ?_
    refine J.iload_n dX7_hoursOn_12 rfl rfl ?_
    refine J.cvM (as := [.int _]) s la r v c l tn p pa m q b (mho qc m i) h okX7_hourOn jcX7_226 (mX7_hourOn s la r v c l tn p pa m q b (mho qc m i) h qc hE hM i (by omega)) dX7_hoursOn_13 rfl rfl rfl rfl (fun r9 B9 hq9 => ?_)
    obtain ⟨rfl, h9, rfl⟩ := hq9
    refine ⟨_, _, _, _, _, _, _, _, _, _, _, _, _, _, rfl, ?_⟩
    show J _ _ _ _ _ [] (wM s la r v c l tn p pa m q b (mh qc m i (mho qc m i)) h9) _ _
    refine J.iinc (1) dX7_hoursOn_16 (by decide) rfl (by decide) rfl ?_
    try dsimp only [List.set]
    refine J.goto (tgt := 6) dX7_hoursOn_19 (by decide) ?_
    exact J.at (ih (i + 1) (by omega) h9) (by rw [← nI_1 i] <;> rfl) rfl rfl
set_option maxRecDepth 100000 in
set_option maxHeartbeats 4000000 in
theorem mX7_hoursOn (s : Nat → Int32) (la : Nat → Int32) (r : rT) (v : vT) (c : Nat → Nat → Int32) (l : Nat → Int32) (tn : Int32) (p : Nat → Int32) (pa : Nat → Nat → Int32) (m : Nat) (q : rT) (b : Int32) (x : Nat → Nat) (h : Nat → Nat → Int64) (qc : rT) (hE : qE q qc m) (hM : mOK qc m) (N : Nat) (hN : N ≤ 5) : J KX7_hoursOn 21 (fun o B => o = none ∧ ∃ h9, B = (wM s la r v c l tn p pa m q b (mho qc m N) h9)) 0 [some (.ref 0), some (.int (nI N)), none] [] (wM s la r v c l tn p pa m q b x h) 0 0 := by
  refine J.aload_n dX7_hoursOn_0 rfl rfl ?_
  refine J.cvM (as := []) s la r v c l tn p pa m q b x h okX7_begins jcX7_223 (mX7_begins s la r v c l tn p pa m q b x h (by rw [hE.2.1]; exact hM.1.2.2.2)) dX7_hoursOn_1 rfl rfl rfl rfl (fun r9 B9 hq9 => ?_)
  obtain ⟨rfl, rfl⟩ := hq9
  refine ⟨_, _, _, _, _, _, _, _, _, _, _, _, _, _, rfl, ?_⟩
  show J _ _ _ _ _ [] (wM s la r v c l tn p pa m q b (one (q 6 0)) h) _ _
  rw [hE.2.1]
  refine J.iconst (0) dX7_hoursOn_4 (by decide) ?_
  refine J.istore_n dX7_hoursOn_5 rfl (by decide) rfl ?_
  try dsimp only [List.set]
  exact J.at (mX7_hoursOn_l s la r v c l tn p pa m q b qc hE hM N hN N 0 (by omega) h) rfl rfl rfl
set_option maxRecDepth 100000 in
set_option maxHeartbeats 4000000 in
theorem mX7_holds (s : Nat → Int32) (la : Nat → Int32) (r : rT) (v : vT) (c : Nat → Nat → Int32) (l : Nat → Int32) (tn : Int32) (p : Nat → Int32) (pa : Nat → Nat → Int32) (m : Nat) (q : rT) (b : Int32) (x : Nat → Nat) (h : Nat → Nat → Int64) (qc : rT) (hE : qE q qc m) (hM : mOK qc m) (N : Nat) (hN : N ≤ 5) : J KX7_holds 21 (fun o B => o = some (.long (lN (10 ^ (m * N) - mho qc m N 0))) ∧ ∃ h9, B = (wM s la r v c l tn p pa m q b (mho qc m N) h9)) 0 [some (.ref 0), some (.int (nI N))] [] (wM s la r v c l tn p pa m q b x h) 0 0 := by
  refine J.aload_n dX7_holds_0 rfl rfl ?_
  refine J.iload_n dX7_holds_1 rfl rfl ?_
  refine J.cvM (as := [.int _]) s la r v c l tn p pa m q b x h okX7_hoursOn jcX7_229 (mX7_hoursOn s la r v c l tn p pa m q b x h qc hE hM N hN) dX7_holds_2 rfl rfl rfl rfl (fun r9 B9 hq9 => ?_)
  obtain ⟨rfl, h9, rfl⟩ := hq9
  refine ⟨_, _, _, _, _, _, _, _, _, _, _, _, _, _, rfl, ?_⟩
  show J _ _ _ _ _ [] (wM s la r v c l tn p pa m q b (mho qc m N) h9) _ _
  refine J.aload_n dX7_holds_5 rfl rfl ?_
  refine J.mg25 dX7_holds_6 rfl ?_
  refine J.iload_n dX7_holds_9 rfl rfl ?_
  refine J.imul dX7_holds_10 ?_
  rw [ix0 m N]
  refine J.cs (as := [.int _]) (is := []) okX7_tens jcX7_232 (mX7_tens (m * N) (by have := Nat.mul_le_mul hM.2.2 hN; omega)) dX7_holds_11 rfl rfl rfl rfl rfl rfl (fun r9 B9 hq => ?_)
  obtain ⟨rfl, rfl⟩ := hq
  refine ⟨rfl, ?_⟩
  show J _ _ _ _ _ (.long _ :: _) (wM s la r v c l tn p pa m q b (mho qc m N) h9) _ _
  refine J.aload_n dX7_holds_14 rfl rfl ?_
  refine J.mg28 dX7_holds_15 rfl ?_
  refine J.iconst (0) dX7_holds_18 (by decide) ?_
  refine J.ml10 (0) dX7_holds_19 rfl (by decide) ?_
  refine J.lsub dX7_holds_20 ?_
  rw [lN_sub (mho_0 hM N)]
  exact J.lret dX7_holds_21 rfl (Nat.le_refl _) (Nat.le_refl _) ⟨rfl, h9, rfl⟩
