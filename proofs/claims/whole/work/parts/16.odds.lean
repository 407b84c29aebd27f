def urow (u : uT) (a : Nat) (f : Nat → Int64) : uT := fun y => if y = a then f else u y
theorem lN_ti63 {n : Nat} (h : n < 2 ^ 63) : (lN n).toInt = (n : Int) := lg_ofNat_toInt h
theorem lN_lt63 {a b : Nat} (ha : a < 2 ^ 63) (hb : b < 2 ^ 63) : lN a < lN b ↔ a < b := by
  rw [Int64.lt_iff_toInt_lt, lN_ti63 ha, lN_ti63 hb]
  omega
theorem lN_le63 {a b : Nat} (ha : a < 2 ^ 63) (hb : b < 2 ^ 63) : lN a ≤ lN b ↔ a ≤ b := by
  rw [Int64.le_iff_toInt_le, lN_ti63 ha, lN_ti63 hb]
  omega
/-- passHour, whatever the tenths were -/
theorem mX0_passHour9 (q : rT) (g : Nat → Nat) (x : Nat → Nat) (n : Nat → Int64) (u : uT) (t : Nat) (hq : oOK q) (ht : t < 100) : J KX0_passHour 9 (fun o B => o = none ∧ ∃ g9 n9, B = wO (rrow q 2 g9) (acc q x t 8) n9 u) 0 [some (.ref 0), some (.int (nI t)), none, none] [] (wO (rrow q 2 g) x n u) 0 0 := by
  refine (mX0_passHour (rrow q 2 g) x n u t hq ht).weaken (fun o B h => ?_)
  obtain ⟨h1, g9, n9, h2⟩ := h
  refine ⟨h1, g9, n9, ?_⟩
  rw [h2, show acc (rrow q 2 g) x t 8 = acc q x t 8 from funext (acc_row q g x t 8)]
  rfl
set_option maxRecDepth 100000 in
set_option maxHeartbeats 4000000 in
theorem mX0_passHours_l (q : rT) (x : Nat → Nat) (u : uT) (N : Nat) (hq : oOK q) (hN : N < 100) : ∀ (k9 i : Nat), i + k9 = N → ∀ (g : Nat → Nat) (n : Nat → Int64), J KX0_passHours 9 (fun o B => o = none ∧ ∃ g9 n9, B = wO (rrow q 2 g9) (sh q x N) n9 u) 2 [some (.ref 0), some (.int (nI N)), some (.int (nI i))] [] (wO (rrow q 2 g) (sh q x i) n u) 0 0 := by
  intro k9
  induction k9 with
  | zero =>
    intro i hi
    obtain hiN : i = N := by omega
    intro g n
    subst hiN
    refine J.iload_n dX0_passHours_2 rfl rfl ?_
    refine J.iload_n dX0_passHours_3 rfl rfl ?_
    refine J.icmp_ge (tgt := 18) dX0_passHours_4 (by decide) (fun c4 => ?_) (fun c4 => absurd c4 (fun h => h (Int32.le_refl _)))
    exact J.vret dX0_passHours_18 rfl (Nat.le_refl _) (Nat.le_refl _) ⟨rfl, g, n, rfl⟩
  | succ k9 ih =>
    intro i hi
    have hiN : i < N := by omega
    intro g n
    refine J.iload_n dX0_passHours_2 rfl rfl ?_
    refine J.iload_n dX0_passHours_3 rfl rfl ?_
    refine J.icmp_ge (tgt := 18) dX0_passHours_4 (by decide) (fun c4 => absurd c4 (nI_ge hiN (by omega))) (fun c4 => ?_)
    refine J.aload_n dX0_passHours_7 rfl rfl ?_
    refine J.iload_n dX0_passHours_8 rfl rfl ?_
    refine J.cv (as := [.int _]) (is := [0, 1, 2, 3, 4, 5, 6, 7, 8]) (o := 0) okX0_passHour jcX0_58 (mX0_passHour9 q g (sh q x i) n u i hq (by omega)) dX0_passHours_9 rfl rfl rfl rfl rfl rfl rfl (fun r9 B9 hq9 => ?_)
    obtain ⟨rfl, g9, n9, rfl⟩ := hq9
    refine ⟨rfl, ?_⟩
    show J _ _ _ _ _ [] (wO (rrow q 2 g9) (sh q x (i + 1)) n9 u) _ _
    refine J.iinc (1) dX0_passHours_12 (by decide) rfl (by decide) rfl ?_
    try dsimp only [List.set, wO, wR]
    refine J.goto (tgt := 2) dX0_passHours_15 (by decide) ?_
    exact J.at (ih (i + 1) (by omega) g9 n9) (by rw [← nI_1]) rfl rfl
set_option maxRecDepth 100000 in
set_option maxHeartbeats 4000000 in
theorem mX0_passHours (q : rT) (x : Nat → Nat) (n : Nat → Int64) (u : uT) (N : Nat) (hq : oOK q) (hN : N < 100) : J KX0_passHours 9 (fun o B => o = none ∧ ∃ g9 n9, B = wO (rrow q 2 g9) (sh q x N) n9 u) 0 [some (.ref 0), some (.int (nI N)), none] [] (wO q x n u) 0 0 := by
  refine J.iconst (0) dX0_passHours_0 (by decide) ?_
  refine J.istore_n dX0_passHours_1 rfl (by decide) rfl ?_
  try dsimp only [List.set, wO, wR]
  exact J.at (mX0_passHours_l q x u N hq hN N 0 (by omega) (q 2) n) rfl rfl rfl
set_option maxRecDepth 100000 in
set_option maxHeartbeats 4000000 in
theorem mX0_holdsBy (q : rT) (x : Nat → Nat) (n : Nat → Int64) (u : uT) (k N : Nat) (hN : N < 100) (hk : k < 100) (h1 : sm (not0 x) 8 * 10 < 2 ^ 63) (h2 : k * 1000 ^ N < 2 ^ 63) : J KX0_holdsBy 9 (fun o B => o = some (.int (jB (k * 1000 ^ N ≤ sm (not0 x) 8 * 10))) ∧ B = wO q x n u) 0 [some (.ref 0), some (.int (nI k)), some (.int (nI N))] [] (wO q x n u) 0 0 := by
  refine J.aload_n dX0_holdsBy_0 rfl rfl ?_
  refine J.cv (as := []) (is := [0, 1, 2, 3, 4, 5, 6, 7, 8]) (o := 0) okX0_held jcX0_87 (mX0_held q x n u) dX0_holdsBy_1 rfl rfl rfl rfl rfl rfl rfl (fun r9 B9 hq => ?_)
  obtain ⟨rfl, rfl⟩ := hq
  refine ⟨rfl, ?_⟩
  show J _ _ _ _ _ (.long _ :: _) (wO q x n u) _ _
  refine J.ldc2 (v := 10) dX0_holdsBy_4 (jt 563 rfl rfl) ?_
  refine J.lmul dX0_holdsBy_7 ?_
  refine J.iload_n dX0_holdsBy_8 rfl rfl ?_
  refine J.i2l dX0_holdsBy_9 ?_
  refine J.iload_n dX0_holdsBy_10 rfl rfl ?_
  refine J.cs (as := [.int _]) (is := []) okX6_thousands jcX0_91 (mX6_thousands N (by omega)) dX0_holdsBy_11 rfl rfl rfl rfl rfl rfl (fun r9 B9 hq => ?_)
  obtain ⟨rfl, rfl⟩ := hq
  refine ⟨rfl, ?_⟩
  show J _ _ _ _ _ (.long _ :: .long _ :: .long _ :: _) (wO q x n u) _ _
  refine J.lmul dX0_holdsBy_14 ?_
  refine J.lcmp dX0_holdsBy_15 ?_
  refine J.if_lt (tgt := 23) dX0_holdsBy_16 (by decide) (fun c16 => ?_) (fun c16 => ?_)
  · refine J.iconst (0) dX0_holdsBy_23 (by decide) ?_
    refine J.iret dX0_holdsBy_24 rfl (by decide) (Nat.le_refl _) (Nat.le_refl _) ⟨congrArg (fun x => some (Value.int x)) ?_, rfl⟩
    rw [nI_l (by omega), lg_cmp_lt, show (10 : Int64) = lN 10 from rfl, lN_mul, lN_mul, lN_lt63 h1 h2] at c16
    first | exact (jB_f _ (by omega)).symm | exact (jB_t _ (by omega)).symm
  · refine J.iconst (1) dX0_holdsBy_19 (by decide) ?_
    refine J.goto (tgt := 24) dX0_holdsBy_20 (by decide) ?_
    refine J.iret dX0_holdsBy_24 rfl (by decide) (Nat.le_refl _) (Nat.le_refl _) ⟨congrArg (fun x => some (Value.int x)) ?_, rfl⟩
    rw [nI_l (by omega), lg_cmp_lt, show (10 : Int64) = lN 10 from rfl, lN_mul, lN_mul, lN_lt63 h1 h2] at c16
    first | exact (jB_f _ (by omega)).symm | exact (jB_t _ (by omega)).symm
set_option maxRecDepth 100000 in
set_option maxHeartbeats 4000000 in
theorem mX0_clearGains_l (n : Nat) (f : Nat → Int64) (hn : n < 2147483648) : ∀ (k9 i : Nat), i + k9 = n → J KX0_clearGains 1 (fun o B => o = none ∧ B = [.inl (1, n, .inr (.inl (fun _ => 0)))]) 2 [some (.ref 0), some (.int (nI i))] [] [.inl (1, n, .inr (.inl (fun j => if j < i then 0 else f j)))] 0 0 := by
  intro k9
  induction k9 with
  | zero =>
    intro i hi
    obtain hiN : i = n := by omega
    subst hiN
    refine J.iload_n dX0_clearGains_2 rfl rfl ?_
    refine J.aload_n dX0_clearGains_3 rfl rfl ?_
    refine J.arraylength dX0_clearGains_4 rfl (by decide) ?_
    refine J.icmp_ge (tgt := 18) dX0_clearGains_5 (by decide) (fun c5 => ?_) (fun c5 => absurd c5 (fun h => h (Int32.le_refl _)))
    refine J.arrL 0 1 (fun _ => 0) rfl (fun j hj => if_pos hj) ?_
    exact J.vret dX0_clearGains_18 rfl (Nat.le_refl _) (Nat.le_refl _) ⟨rfl, rfl⟩
  | succ k9 ih =>
    intro i hi
    have hiN : i < n := by omega
    refine J.iload_n dX0_clearGains_2 rfl rfl ?_
    refine J.aload_n dX0_clearGains_3 rfl rfl ?_
    refine J.arraylength dX0_clearGains_4 rfl (by decide) ?_
    refine J.icmp_ge (tgt := 18) dX0_clearGains_5 (by decide) (fun c5 => absurd c5 (nI_ge hiN hn)) (fun c5 => ?_)
    refine J.aload_n dX0_clearGains_8 rfl rfl ?_
    refine J.iload_n dX0_clearGains_9 rfl rfl ?_
    refine J.lconst 0 dX0_clearGains_10 (by decide) ?_
    refine J.lastoreN dX0_clearGains_11 rfl hiN ?_ hn
    try dsimp only [List.set, wO, wR]
    refine J.iinc (1) dX0_clearGains_12 (by decide) rfl (by decide) rfl ?_
    try dsimp only [List.set, wO, wR]
    refine J.goto (tgt := 2) dX0_clearGains_15 (by decide) ?_
    refine J.at (ih (i + 1) (by omega)) (by rw [← nI_1]) rfl ?_
    have e9 : vp_updL (fun j => if j < i then 0 else f j) i 0 = fun j => if j < i + 1 then 0 else f j := (jlt_s (fun _ => (0 : Int64)) f i)
    rw [e9]
set_option maxRecDepth 100000 in
set_option maxHeartbeats 4000000 in
theorem mX0_clearGains (n : Nat) (f : Nat → Int64) (hn : n < 2147483648) : J KX0_clearGains 1 (fun o B => o = none ∧ B = [.inl (1, n, .inr (.inl (fun _ => 0)))]) 0 [some (.ref 0), none] [] [.inl (1, n, .inr (.inl f))] 0 0 := by
  refine J.iconst (0) dX0_clearGains_0 (by decide) ?_
  refine J.istore_n dX0_clearGains_1 rfl (by decide) rfl ?_
  try dsimp only [List.set, wO, wR]
  exact J.at (mX0_clearGains_l n f hn n 0 (by omega)) rfl rfl (by simp only [Nat.not_lt_zero, if_false] <;> rfl)
/-- how much holds behind t HOURS, of 1000 ^ 5 -/
def hbe (q : rT) (x : Nat → Nat) (t : Nat) : Nat := sm (not0 (sh q x t)) 8 * 1000 ^ (5 - t)
set_option maxRecDepth 100000 in
set_option maxHeartbeats 4000000 in
theorem mX0_foresee_l (q : rT) (x : Nat → Nat) (u : uT) (hq : oOK q) : ∀ (k9 i : Nat), i + k9 = 5 → ∀ (g : Nat → Nat) (n : Nat → Int64), J KX0_foresee 9 (fun o B => o = none ∧ ∃ g9 n9 x9, B = wO (rrow q 2 g9) x9 n9 (urow u 2 (fun t => lN (hbe q x t)))) 2 [some (.ref 0), some (.int (nI i))] [] (wO (rrow q 2 g) (sh q x i) n (urow u 2 (fun j => if j < i then lN (hbe q x j) else u 2 j))) 0 0 := by
  intro k9
  induction k9 with
  | zero =>
    intro i hi g n
    have h5 : i = 5 := by omega
    refine J.iload_n dX0_foresee_2 rfl rfl ?_
    refine J.iconst (5) dX0_foresee_3 (by decide) ?_
    refine J.icmp_gt (tgt := 40) dX0_foresee_4 (by decide) (fun c4 => absurd c4 (fun h => absurd ((nI_lti (a := 5) (by decide) (by omega)).mp h) (by omega))) (fun c4 => ?_)
    refine J.aload_n dX0_foresee_7 rfl rfl ?_
    refine J.getfield dX0_foresee_8 jFX0_34 rfl rfl ?_
    refine J.iload_n dX0_foresee_11 rfl rfl ?_
    refine J.aload_n dX0_foresee_12 rfl rfl ?_
    refine J.cv (as := []) (is := [0, 1, 2, 3, 4, 5, 6, 7, 8]) (o := 0) okX0_held jcX0_87 (mX0_held (rrow q 2 g) (sh q x i) n (urow u 2 (fun j => if j < i then lN (hbe q x j) else u 2 j))) dX0_foresee_13 rfl rfl rfl rfl rfl rfl rfl (fun r9 B9 hq => ?_)
    obtain ⟨rfl, rfl⟩ := hq
    refine ⟨rfl, ?_⟩
    show J _ _ _ _ _ (.long _ :: .int _ :: .ref 8 :: _) (wO (rrow q 2 g) (sh q x i) n (urow u 2 (fun j => if j < i then lN (hbe q x j) else u 2 j))) _ _
    refine J.iconst (5) dX0_foresee_16 (by decide) ?_
    refine J.iload_n dX0_foresee_17 rfl rfl ?_
    refine J.isub dX0_foresee_18 ?_
    rw [show (5 : Int32) = nI 5 from rfl, pk_sub (by omega)]
    refine J.cs (as := [.int _]) (is := []) okX6_thousands jcX0_91 (mX6_thousands (5 - i) (by omega)) dX0_foresee_19 rfl rfl rfl rfl rfl rfl (fun r9 B9 hq => ?_)
    obtain ⟨rfl, rfl⟩ := hq
    refine ⟨rfl, ?_⟩
    show J _ _ _ _ _ (.long _ :: .long _ :: .int _ :: .ref 8 :: _) (wO (rrow q 2 g) (sh q x i) n (urow u 2 (fun j => if j < i then lN (hbe q x j) else u 2 j))) _ _
    refine J.lmul dX0_foresee_22 ?_
    rw [lN_mul]
    refine J.lastoreN dX0_foresee_23 rfl (show i < 6 by omega) ?_
    have e9 : vp_updL (fun j => if j < i then lN (hbe q x j) else u 2 j) i (lN (sm (not0 (sh q x i)) 8 * 1000 ^ (5 - i))) = fun j => if j < i + 1 then lN (hbe q x j) else u 2 j := jlt_s (fun j => lN (hbe q x j)) (u 2) i
    rw [show urow u 2 (fun j => if j < i then lN (hbe q x j) else u 2 j) 2 = (fun j => if j < i then lN (hbe q x j) else u 2 j) from rfl] at *
    first | rw [e9] | skip
    refine J.at (A := (wO (rrow q 2 g) (sh q x i) n (urow u 2 (fun j => if j < i + 1 then lN (hbe q x j) else u 2 j)))) ?_ rfl rfl (by first | rfl | (rw [← e9]; rfl))
    try dsimp only [List.set, wO, wR]
    refine J.iload_n dX0_foresee_24 rfl rfl ?_
    refine J.iconst (5) dX0_foresee_25 (by decide) ?_
    refine J.icmp_ge (tgt := 34) dX0_foresee_26 (by decide) (fun c26 => ?_) (fun c26 => absurd c26 (fun h => h (by rw [h5]; decide)))
    refine J.iinc (1) dX0_foresee_34 (by decide) rfl (by decide) rfl ?_
    try dsimp only [List.set, wO, wR]
    refine J.goto (tgt := 2) dX0_foresee_37 (by decide) ?_
    rw [nI_1]
    refine J.iload_n dX0_foresee_2 rfl rfl ?_
    refine J.iconst (5) dX0_foresee_3 (by decide) ?_
    refine J.icmp_gt (tgt := 40) dX0_foresee_4 (by decide) (fun c9 => ?_) (fun c9 => absurd ((nI_lti (a := 5) (by decide) (by omega)).mpr (by omega)) c9)
    refine J.arrL 8 1 (fun t => lN (hbe q x t)) rfl (fun j hj => if_pos (by omega)) ?_
    exact J.vret dX0_foresee_40 rfl (Nat.le_refl _) (Nat.le_refl _) ⟨rfl, g, n, sh q x i, rfl⟩
  | succ k9 ih =>
    intro i hi g n
    refine J.iload_n dX0_foresee_2 rfl rfl ?_
    refine J.iconst (5) dX0_foresee_3 (by decide) ?_
    refine J.icmp_gt (tgt := 40) dX0_foresee_4 (by decide) (fun c4 => absurd c4 (fun h => absurd ((nI_lti (a := 5) (by decide) (by omega)).mp h) (by omega))) (fun c4 => ?_)
    refine J.aload_n dX0_foresee_7 rfl rfl ?_
    refine J.getfield dX0_foresee_8 jFX0_34 rfl rfl ?_
    refine J.iload_n dX0_foresee_11 rfl rfl ?_
    refine J.aload_n dX0_foresee_12 rfl rfl ?_
    refine J.cv (as := []) (is := [0, 1, 2, 3, 4, 5, 6, 7, 8]) (o := 0) okX0_held jcX0_87 (mX0_held (rrow q 2 g) (sh q x i) n (urow u 2 (fun j => if j < i then lN (hbe q x j) else u 2 j))) dX0_foresee_13 rfl rfl rfl rfl rfl rfl rfl (fun r9 B9 hq => ?_)
    obtain ⟨rfl, rfl⟩ := hq
    refine ⟨rfl, ?_⟩
    show J _ _ _ _ _ (.long _ :: .int _ :: .ref 8 :: _) (wO (rrow q 2 g) (sh q x i) n (urow u 2 (fun j => if j < i then lN (hbe q x j) else u 2 j))) _ _
    refine J.iconst (5) dX0_foresee_16 (by decide) ?_
    refine J.iload_n dX0_foresee_17 rfl rfl ?_
    refine J.isub dX0_foresee_18 ?_
    rw [show (5 : Int32) = nI 5 from rfl, pk_sub (by omega)]
    refine J.cs (as := [.int _]) (is := []) okX6_thousands jcX0_91 (mX6_thousands (5 - i) (by omega)) dX0_foresee_19 rfl rfl rfl rfl rfl rfl (fun r9 B9 hq => ?_)
    obtain ⟨rfl, rfl⟩ := hq
    refine ⟨rfl, ?_⟩
    show J _ _ _ _ _ (.long _ :: .long _ :: .int _ :: .ref 8 :: _) (wO (rrow q 2 g) (sh q x i) n (urow u 2 (fun j => if j < i then lN (hbe q x j) else u 2 j))) _ _
    refine J.lmul dX0_foresee_22 ?_
    rw [lN_mul]
    refine J.lastoreN dX0_foresee_23 rfl (show i < 6 by omega) ?_
    have e9 : vp_updL (fun j => if j < i then lN (hbe q x j) else u 2 j) i (lN (sm (not0 (sh q x i)) 8 * 1000 ^ (5 - i))) = fun j => if j < i + 1 then lN (hbe q x j) else u 2 j := jlt_s (fun j => lN (hbe q x j)) (u 2) i
    rw [show urow u 2 (fun j => if j < i then lN (hbe q x j) else u 2 j) 2 = (fun j => if j < i then lN (hbe q x j) else u 2 j) from rfl] at *
    first | rw [e9] | skip
    refine J.at (A := (wO (rrow q 2 g) (sh q x i) n (urow u 2 (fun j => if j < i + 1 then lN (hbe q x j) else u 2 j)))) ?_ rfl rfl (by first | rfl | (rw [← e9]; rfl))
    try dsimp only [List.set, wO, wR]
    refine J.iload_n dX0_foresee_24 rfl rfl ?_
    refine J.iconst (5) dX0_foresee_25 (by decide) ?_
    refine J.icmp_ge (tgt := 34) dX0_foresee_26 (by decide) (fun c26 => absurd c26 (nI_ge (b := 5) (by omega) (by decide))) (fun c26 => ?_)
    refine J.aload_n dX0_foresee_29 rfl rfl ?_
    refine J.iload_n dX0_foresee_30 rfl rfl ?_
    refine J.cv (as := [.int _]) (is := [0, 1, 2, 3, 4, 5, 6, 7, 8]) (o := 0) okX0_passHour jcX0_58 (mX0_passHour9 q g (sh q x i) n (urow u 2 (fun j => if j < i + 1 then lN (hbe q x j) else u 2 j)) i hq (by omega)) dX0_foresee_31 rfl rfl rfl rfl rfl rfl rfl (fun r9 B9 hq9 => ?_)
    obtain ⟨rfl, g9, n9, rfl⟩ := hq9
    refine ⟨rfl, ?_⟩
    show J _ _ _ _ _ [] (wO (rrow q 2 g9) (sh q x (i + 1)) n9 (urow u 2 (fun j => if j < i + 1 then lN (hbe q x j) else u 2 j))) _ _
    refine J.iinc (1) dX0_foresee_34 (by decide) rfl (by decide) rfl ?_
    try dsimp only [List.set, wO, wR]
    refine J.goto (tgt := 2) dX0_foresee_37 (by decide) ?_
    first | exact J.at (ih (i + 1) (by omega) g9 n9) (by rw [← nI_1]) rfl rfl | exact absurd c26 (nI_ge (b := 5) (by omega) (by decide))
set_option maxRecDepth 100000 in
set_option maxHeartbeats 4000000 in
theorem mX0_foresee (q : rT) (x : Nat → Nat) (n : Nat → Int64) (u : uT) (hq : oOK q) : J KX0_foresee 9 (fun o B => o = none ∧ ∃ g9 n9 x9, B = wO (rrow q 2 g9) x9 n9 (urow u 2 (fun t => lN (hbe q x t)))) 0 [some (.ref 0), none] [] (wO q x n u) 0 0 := by
  refine J.iconst (0) dX0_foresee_0 (by decide) ?_
  refine J.istore_n dX0_foresee_1 rfl (by decide) rfl ?_
  try dsimp only [List.set, wO, wR]
  exact J.at (mX0_foresee_l q x u hq 5 0 (by omega) (q 2) n) rfl rfl (by simp only [Nat.not_lt_zero, if_false] <;> rfl)
