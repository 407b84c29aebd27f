theorem mX6_partN (a m : Nat) (wh : Int32) (ha : a < 2 ^ 63) (hm0 : 0 < m) (hm : m < 2 ^ 63) : J KX6_part 0 (fun o B => o = some (.long (lowT (a : Int) m wh)) ∧ B = []) 0 [some (.long (lN a)), none, some (.long (lN m)), none, some (.int wh), none, none] [] [] 0 0 := by
  have h := mX6_part (a : Int) m wh (by omega) (by omega) hm0 hm
  rw [lI_nat] at h
  exact h
theorem cmpN {a b : Int64} (h : lg_cmp a b ≤ 0) : ¬ b < a := Int64.not_lt.mpr ((lg_cmp_le _ _).mp h)
theorem cmpP {a b : Int64} (h : ¬ lg_cmp a b ≤ 0) : b < a := Int64.not_le.mp (fun h9 => h ((lg_cmp_le _ _).mpr h9))
/-- KINGS' gains sum: k times the shares that have just k -/
def mn (x : Nat → Nat) : Nat → Nat
  | 0 => 0
  | k + 1 => mn x k + k * sm (only k x) 8
theorem mn_le (x : Nat → Nat) (M : Nat) (h : sm x 8 = M) : mn x 4 ≤ 6 * M := by
  have h1 := only_le 1 x
  have h2 := only_le 2 x
  have h3 := only_le 3 x
  have e : mn x 4 = 0 + 0 * sm (only 0 x) 8 + 1 * sm (only 1 x) 8 + 2 * sm (only 2 x) 8 + 3 * sm (only 3 x) 8 := rfl
  rw [e]
  omega
set_option maxRecDepth 100000 in
set_option maxHeartbeats 4000000 in
theorem mX6_falls (rs : Nat → rT) (v : Nat → Nat → Nat) (q : rT) (x : Nat → Nat) (n : Nat → Int64) (u : uT) (c : Nat → Nat → Int32) (l : Nat → Int32) (tn : Int32) (N : Nat) (hN : N ≤ 5) (wh : Int32) (hw : 0 ≤ wh ∧ wh ≤ 1) (hr : rOK (rs 0)) : J KX6_falls 62 (fun o B => o = some (.long (lowT ((1000 ^ N - hdR (rs 0) N : Nat) : Int) (1000 ^ N) wh)) ∧ ∃ q9 x9 n9 u9, B = wC rs v q9 x9 n9 u9 c l tn) 0 [some (.ref 0), some (.int (nI N)), some (.int wh), none, none] [] (wC rs v q x n u c l tn) 0 0 := by
  refine J.iload_n dX6_falls_0 rfl rfl ?_
  refine J.cs (as := [.int _]) (is := []) okX6_foreseen jcX6_143 (mX6_foreseen _) dX6_falls_1 rfl rfl rfl rfl rfl rfl (fun r9 B9 hq => ?_)
  obtain ⟨rfl, rfl⟩ := hq
  refine ⟨rfl, ?_⟩
  show J _ _ _ _ _ (.int _ :: _) (wC rs v q x n u c l tn) _ _
  refine J.if_eq (tgt := 16) dX6_falls_4 (by decide) (fun c4 => absurd c4 (fun h => (jB_0 _).mp h (jw (a := 0) (c := 5) (by decide) (Nat.zero_le _) hN))) (fun c4 => ?_)
  refine J.iload_n dX6_falls_7 rfl rfl ?_
  refine J.iconst (0) dX6_falls_8 (by decide) ?_
  refine J.iconst (1) dX6_falls_9 (by decide) ?_
  refine J.cs (as := [.int _, .int _, .int _]) (is := []) okX6_within jcX6_59 (mX6_within _ _ _) dX6_falls_10 rfl rfl rfl rfl rfl rfl (fun r9 B9 hq => ?_)
  obtain ⟨rfl, rfl⟩ := hq
  refine ⟨rfl, ?_⟩
  show J _ _ _ _ _ (.int _ :: _) (wC rs v q x n u c l tn) _ _
  refine J.if_ne (tgt := 20) dX6_falls_13 (by decide) (fun c13 => ?_) (fun c13 => absurd c13 (fun h => (jB_0 _).mp h hw))
  refine J.iload_n dX6_falls_20 rfl rfl ?_
  refine J.cs (as := [.int _]) (is := []) okX6_thousands jcX6_148 (mX6_thousands N (by omega)) dX6_falls_21 rfl rfl rfl rfl rfl rfl (fun r9 B9 hq => ?_)
  obtain ⟨rfl, rfl⟩ := hq
  refine ⟨rfl, ?_⟩
  show J _ _ _ _ _ (.long _ :: _) (wC rs v q x n u c l tn) _ _
  refine J.lstore_n dX6_falls_24 rfl (by decide) rfl ?_
  try dsimp only [List.set]
  refine J.lload_n dX6_falls_25 rfl rfl ?_
  refine J.aload_n dX6_falls_26 rfl rfl ?_
  refine J.iload_n dX6_falls_27 rfl rfl ?_
  refine J.cvC (as := [.int _]) rs v q x n u c l tn [] okX6_heldFromNow jcX6_152 (mX6_heldFromNow rs v q x n u c l tn N hN hr) dX6_falls_28 rfl rfl rfl rfl rfl (fun r9 B9 hq9 => ?_)
  obtain ⟨rfl, q9, x9, n9, u9, rfl⟩ := hq9
  refine ⟨_, _, _, _, _, _, _, _, _, rfl, ?_⟩
  show J _ _ _ _ _ (.long _ :: .long _ :: _) (wC rs v q9 x9 n9 u9 c l tn) _ _
  refine J.lsub dX6_falls_31 ?_
  rw [lN_sub (by have := hdR_le hr N; omega)]
  refine J.lload_n dX6_falls_32 rfl rfl ?_
  refine J.iload_n dX6_falls_33 rfl rfl ?_
  refine J.cs (as := [.long _, .long _, .int _]) (is := []) okX6_part jcX6_155 (mX6_partN (1000 ^ N - hdR (rs 0) N) (1000 ^ N) wh (by have := p1000 N hN; omega) (by have := p1000 N hN; omega) (by have := p1000 N hN; omega)) dX6_falls_34 rfl rfl rfl rfl rfl rfl (fun r9 B9 hq => ?_)
  obtain ⟨rfl, rfl⟩ := hq
  refine ⟨rfl, ?_⟩
  show J _ _ _ _ _ (.long _ :: _) (wC rs v q9 x9 n9 u9 c l tn) _ _
  exact J.lret dX6_falls_37 rfl (Nat.le_refl _) (Nat.le_refl _) ⟨rfl, _, _, _, _, rfl⟩
set_option maxRecDepth 100000 in
set_option maxHeartbeats 4000000 in
theorem mX6_falls_bad (rs : Nat → rT) (v : Nat → Nat → Nat) (q : rT) (x : Nat → Nat) (n : Nat → Int64) (u : uT) (c : Nat → Nat → Int32) (l : Nat → Int32) (tn : Int32) (N wh : Int32) (hb : ¬ (0 ≤ N ∧ N ≤ 5) ∨ ¬ (0 ≤ wh ∧ wh ≤ 1)) : J KX6_falls 62 (fun o B => o = some (.long (-1)) ∧ B = (wC rs v q x n u c l tn)) 0 [some (.ref 0), some (.int N), some (.int wh), none, none] [] (wC rs v q x n u c l tn) 0 0 := by
  refine J.iload_n dX6_falls_0 rfl rfl ?_
  refine J.cs (as := [.int _]) (is := []) okX6_foreseen jcX6_143 (mX6_foreseen _) dX6_falls_1 rfl rfl rfl rfl rfl rfl (fun r9 B9 hq => ?_)
  obtain ⟨rfl, rfl⟩ := hq
  refine ⟨rfl, ?_⟩
  show J _ _ _ _ _ (.int _ :: _) (wC rs v q x n u c l tn) _ _
  refine J.if_eq (tgt := 16) dX6_falls_4 (by decide) (fun c4 => ?_) (fun c4 => ?_)
  · refine J.ldc2 (v := -1) dX6_falls_16 (jt 527 rfl rfl) ?_
    exact J.lret dX6_falls_19 rfl (Nat.le_refl _) (Nat.le_refl _) ⟨rfl, rfl⟩
  · refine J.iload_n dX6_falls_7 rfl rfl ?_
    refine J.iconst (0) dX6_falls_8 (by decide) ?_
    refine J.iconst (1) dX6_falls_9 (by decide) ?_
    refine J.cs (as := [.int _, .int _, .int _]) (is := []) okX6_within jcX6_59 (mX6_within _ _ _) dX6_falls_10 rfl rfl rfl rfl rfl rfl (fun r9 B9 hq => ?_)
    obtain ⟨rfl, rfl⟩ := hq
    refine ⟨rfl, ?_⟩
    show J _ _ _ _ _ (.int _ :: _) (wC rs v q x n u c l tn) _ _
    refine J.if_ne (tgt := 20) dX6_falls_13 (by decide) (fun c13 => absurd c13 (fun h => h ((jB_0 _).mpr (fun hC => (fun h => h.elim (fun h => h (Decidable.not_not.mp (fun h9 => c4 ((jB_0 _).mpr h9)))) (fun h => h hC)) hb)))) (fun c13 => ?_)
    refine J.ldc2 (v := -1) dX6_falls_16 (jt 527 rfl rfl) ?_
    exact J.lret dX6_falls_19 rfl (Nat.le_refl _) (Nat.le_refl _) ⟨rfl, rfl⟩
set_option maxRecDepth 100000 in
set_option maxHeartbeats 4000000 in
theorem mX6_left (rs : Nat → rT) (v : Nat → Nat → Nat) (q : rT) (x : Nat → Nat) (n : Nat → Int64) (u : uT) (c : Nat → Nat → Int32) (l : Nat → Int32) (tn : Int32) (N k : Nat) (hN : N ≤ 5) (hk : k ≤ 3) (wh : Int32) (hw : 0 ≤ wh ∧ wh ≤ 1) (hr : rOK (rs 0)) : J KX6_left 62 (fun o B => o = some (.long (lowT ((sm (only k (sh (oqR (rs 0)) (one (rs 0 6 3)) N)) 8 : Nat) : Int) (1000 ^ N) wh)) ∧ ∃ q9 x9 n9 u9, B = wC rs v q9 x9 n9 u9 c l tn) 0 [some (.ref 0), some (.int (nI N)), some (.int (nI k)), some (.int wh)] [] (wC rs v q x n u c l tn) 0 0 := by
  refine J.iload_n dX6_left_0 rfl rfl ?_
  refine J.cs (as := [.int _]) (is := []) okX6_foreseen jcX6_143 (mX6_foreseen _) dX6_left_1 rfl rfl rfl rfl rfl rfl (fun r9 B9 hq => ?_)
  obtain ⟨rfl, rfl⟩ := hq
  refine ⟨rfl, ?_⟩
  show J _ _ _ _ _ (.int _ :: _) (wC rs v q x n u c l tn) _ _
  refine J.if_eq (tgt := 25) dX6_left_4 (by decide) (fun c4 => absurd c4 (fun h => (jB_0 _).mp h (jw (a := 0) (c := 5) (by decide) (Nat.zero_le _) hN))) (fun c4 => ?_)
  refine J.iload_n dX6_left_7 rfl rfl ?_
  refine J.iconst (0) dX6_left_8 (by decide) ?_
  refine J.iconst (3) dX6_left_9 (by decide) ?_
  refine J.cs (as := [.int _, .int _, .int _]) (is := []) okX6_within jcX6_59 (mX6_within _ _ _) dX6_left_10 rfl rfl rfl rfl rfl rfl (fun r9 B9 hq => ?_)
  obtain ⟨rfl, rfl⟩ := hq
  refine ⟨rfl, ?_⟩
  show J _ _ _ _ _ (.int _ :: _) (wC rs v q x n u c l tn) _ _
  refine J.if_eq (tgt := 25) dX6_left_13 (by decide) (fun c13 => absurd c13 (fun h => (jB_0 _).mp h (jw (a := 0) (c := 3) (by decide) (Nat.zero_le _) hk))) (fun c13 => ?_)
  refine J.iload_n dX6_left_16 rfl rfl ?_
  refine J.iconst (0) dX6_left_17 (by decide) ?_
  refine J.iconst (1) dX6_left_18 (by decide) ?_
  refine J.cs (as := [.int _, .int _, .int _]) (is := []) okX6_within jcX6_59 (mX6_within _ _ _) dX6_left_19 rfl rfl rfl rfl rfl rfl (fun r9 B9 hq => ?_)
  obtain ⟨rfl, rfl⟩ := hq
  refine ⟨rfl, ?_⟩
  show J _ _ _ _ _ (.int _ :: _) (wC rs v q x n u c l tn) _ _
  refine J.if_ne (tgt := 29) dX6_left_22 (by decide) (fun c22 => ?_) (fun c22 => absurd c22 (fun h => (jB_0 _).mp h hw))
  refine J.aload_n dX6_left_29 rfl rfl ?_
  refine J.getfield dX6_left_30 jFX6_37 rfl rfl ?_
  refine J.aload_n dX6_left_33 rfl rfl ?_
  refine J.getfield dX6_left_34 jFX6_12 rfl rfl ?_
  refine J.cv (as := [.ref 9]) (is := [27, 28, 29, 30, 31, 32, 33, 34, 35, 1, 2, 3, 4, 5, 6, 7]) (o := 0) okX0_take jcX6_159 (mX0_take q x n u (rs 0) hr.w) dX6_left_37 rfl rfl rfl rfl rfl rfl rfl (fun r9 B9 hq => ?_)
  obtain ⟨rfl, rfl⟩ := hq
  refine ⟨rfl, ?_⟩
  show J _ _ _ _ _ [] (wC rs v (otake q (rs 0)) (one (rs 0 6 3)) n u c l tn) _ _
  refine J.aload_n dX6_left_40 rfl rfl ?_
  refine J.getfield dX6_left_41 jFX6_37 rfl rfl ?_
  refine J.iload_n dX6_left_44 rfl rfl ?_
  refine J.cv (as := [.int _]) (is := [27, 28, 29, 30, 31, 32, 33, 34, 35]) (o := 0) okX0_passHours jcX6_162 (mX0_passHours (otake q (rs 0)) (one (rs 0 6 3)) n u N (hr.o q) (by omega)) dX6_left_45 rfl rfl rfl rfl rfl rfl rfl (fun r9 B9 hq9 => ?_)
  obtain ⟨rfl, g9, n9, rfl⟩ := hq9
  refine ⟨rfl, ?_⟩
  show J _ _ _ _ _ [] (wC rs v (rrow (otake q (rs 0)) 2 g9) (sh (otake q (rs 0)) (one (rs 0 6 3)) N) n9 u c l tn) _ _
  refine J.aload_n dX6_left_48 rfl rfl ?_
  refine J.getfield dX6_left_49 jFX6_37 rfl rfl ?_
  refine J.iload_n dX6_left_52 rfl rfl ?_
  refine J.cv (as := [.int _]) (is := [27, 28, 29, 30, 31, 32, 33, 34, 35]) (o := 0) okX0_justWhole jcX6_166 (mX0_justWhole (rrow (otake q (rs 0)) 2 g9) (sh (otake q (rs 0)) (one (rs 0 6 3)) N) n9 u k (by omega)) dX6_left_53 rfl rfl rfl rfl rfl rfl rfl (fun r9 B9 hq => ?_)
  obtain ⟨rfl, rfl⟩ := hq
  refine ⟨rfl, ?_⟩
  show J _ _ _ _ _ (.long _ :: _) (wC rs v (rrow (otake q (rs 0)) 2 g9) (sh (otake q (rs 0)) (one (rs 0 6 3)) N) n9 u c l tn) _ _
  refine J.iload_n dX6_left_56 rfl rfl ?_
  refine J.cs (as := [.int _]) (is := []) okX6_thousands jcX6_148 (mX6_thousands N (by omega)) dX6_left_57 rfl rfl rfl rfl rfl rfl (fun r9 B9 hq => ?_)
  obtain ⟨rfl, rfl⟩ := hq
  refine ⟨rfl, ?_⟩
  show J _ _ _ _ _ (.long _ :: .long _ :: _) (wC rs v (rrow (otake q (rs 0)) 2 g9) (sh (otake q (rs 0)) (one (rs 0 6 3)) N) n9 u c l tn) _ _
  refine J.iload_n dX6_left_60 rfl rfl ?_
  refine J.cs (as := [.long _, .long _, .int _]) (is := []) okX6_part jcX6_155 (mX6_partN (sm (only k (sh (otake q (rs 0)) (one (rs 0 6 3)) N)) 8) (1000 ^ N) wh (by have := p1000 N hN; have := only_le k (sh (otake q (rs 0)) (one (rs 0 6 3)) N); have := sh1_sum (otake q (rs 0)) hr.w N; omega) (by have := p1000 N hN; omega) (by have := p1000 N hN; omega)) dX6_left_61 rfl rfl rfl rfl rfl rfl (fun r9 B9 hq => ?_)
  obtain ⟨rfl, rfl⟩ := hq
  refine ⟨rfl, ?_⟩
  show J _ _ _ _ _ (.long _ :: _) (wC rs v (rrow (otake q (rs 0)) 2 g9) (sh (otake q (rs 0)) (one (rs 0 6 3)) N) n9 u c l tn) _ _
  exact J.lret dX6_left_64 rfl (Nat.le_refl _) (Nat.le_refl _) ⟨congrArg (fun z => some (Value.long z)) (congrArg (fun z => lowT ((sm (only k z) 8 : Nat) : Int) (1000 ^ N) wh) (sh_c (ten_take q (rs 0)) _ N)), _, _, _, _, rfl⟩
set_option maxRecDepth 100000 in
set_option maxHeartbeats 4000000 in
theorem mX6_left_bad (rs : Nat → rT) (v : Nat → Nat → Nat) (q : rT) (x : Nat → Nat) (n : Nat → Int64) (u : uT) (c : Nat → Nat → Int32) (l : Nat → Int32) (tn : Int32) (N k wh : Int32) (hb : ¬ (0 ≤ N ∧ N ≤ 5) ∨ ¬ (0 ≤ k ∧ k ≤ 3) ∨ ¬ (0 ≤ wh ∧ wh ≤ 1)) : J KX6_left 62 (fun o B => o = some (.long (-1)) ∧ B = (wC rs v q x n u c l tn)) 0 [some (.ref 0), some (.int N), some (.int k), some (.int wh)] [] (wC rs v q x n u c l tn) 0 0 := by
  refine J.iload_n dX6_left_0 rfl rfl ?_
  refine J.cs (as := [.int _]) (is := []) okX6_foreseen jcX6_143 (mX6_foreseen _) dX6_left_1 rfl rfl rfl rfl rfl rfl (fun r9 B9 hq => ?_)
  obtain ⟨rfl, rfl⟩ := hq
  refine ⟨rfl, ?_⟩
  show J _ _ _ _ _ (.int _ :: _) (wC rs v q x n u c l tn) _ _
  refine J.if_eq (tgt := 25) dX6_left_4 (by decide) (fun c4 => ?_) (fun c4 => ?_)
  · refine J.ldc2 (v := -1) dX6_left_25 (jt 527 rfl rfl) ?_
    exact J.lret dX6_left_28 rfl (Nat.le_refl _) (Nat.le_refl _) ⟨rfl, rfl⟩
  · refine J.iload_n dX6_left_7 rfl rfl ?_
    refine J.iconst (0) dX6_left_8 (by decide) ?_
    refine J.iconst (3) dX6_left_9 (by decide) ?_
    refine J.cs (as := [.int _, .int _, .int _]) (is := []) okX6_within jcX6_59 (mX6_within _ _ _) dX6_left_10 rfl rfl rfl rfl rfl rfl (fun r9 B9 hq => ?_)
    obtain ⟨rfl, rfl⟩ := hq
    refine ⟨rfl, ?_⟩
    show J _ _ _ _ _ (.int _ :: _) (wC rs v q x n u c l tn) _ _
    refine J.if_eq (tgt := 25) dX6_left_13 (by decide) (fun c13 => ?_) (fun c13 => ?_)
    · refine J.ldc2 (v := -1) dX6_left_25 (jt 527 rfl rfl) ?_
      exact J.lret dX6_left_28 rfl (Nat.le_refl _) (Nat.le_refl _) ⟨rfl, rfl⟩
    · refine J.iload_n dX6_left_16 rfl rfl ?_
      refine J.iconst (0) dX6_left_17 (by decide) ?_
      refine J.iconst (1) dX6_left_18 (by decide) ?_
      refine J.cs (as := [.int _, .int _, .int _]) (is := []) okX6_within jcX6_59 (mX6_within _ _ _) dX6_left_19 rfl rfl rfl rfl rfl rfl (fun r9 B9 hq => ?_)
      obtain ⟨rfl, rfl⟩ := hq
      refine ⟨rfl, ?_⟩
      show J _ _ _ _ _ (.int _ :: _) (wC rs v q x n u c l tn) _ _
      refine J.if_ne (tgt := 29) dX6_left_22 (by decide) (fun c22 => absurd c22 (fun h => h ((jB_0 _).mpr (fun hC => (fun h => h.elim (fun h => h (Decidable.not_not.mp (fun h9 => c4 ((jB_0 _).mpr h9)))) (fun h => h.elim (fun h => h (Decidable.not_not.mp (fun h9 => c13 ((jB_0 _).mpr h9)))) (fun h => h hC))) hb)))) (fun c22 => ?_)
      refine J.ldc2 (v := -1) dX6_left_25 (jt 527 rfl rfl) ?_
      exact J.lret dX6_left_28 rfl (Nat.le_refl _) (Nat.le_refl _) ⟨rfl, rfl⟩
set_option maxRecDepth 100000 in
set_option maxHeartbeats 4000000 in
theorem mX6_mean_l (rs : Nat → rT) (v : Nat → Nat → Nat) (q : rT) (x : Nat → Nat) (n : Nat → Int64) (u : uT) (c : Nat → Nat → Int32) (l : Nat → Int32) (tn : Int32) (N : Nat) (hN : N ≤ 5) (wh : Int32) (hw : 0 ≤ wh ∧ wh ≤ 1) (hr : rOK (rs 0)) (g9 : Nat → Nat) (n9 : Nat → Int64) : ∀ (k9 i : Nat), i + k9 = 4 → 1 ≤ i → J KX6_mean 62 (fun o B => o = some (.long (lowT ((mn (sh (oqR (rs 0)) (one (rs 0 6 3)) N) 4 : Nat) : Int) (1000 ^ N) wh)) ∧ ∃ q9 x9 n9 u9, B = wC rs v q9 x9 n9 u9 c l tn) 44 [some (.ref 0), some (.int (nI N)), some (.int wh), some (.long (lN (mn (sh (otake q (rs 0)) (one (rs 0 6 3)) N) i))), none, some (.int (nI i))] [] (wC rs v (rrow (otake q (rs 0)) 2 g9) (sh (otake q (rs 0)) (one (rs 0 6 3)) N) n9 u c l tn) 0 0 := by
  intro k9
  induction k9 with
  | zero =>
    intro i hi
    obtain hiN : i = 4 := by omega
    intro hst
    subst hiN
    refine J.iload dX6_mean_44 rfl ?_
    refine J.iconst (3) dX6_mean_46 (by decide) ?_
    refine J.icmp_gt (tgt := 72) dX6_mean_47 (by decide) (fun c47 => ?_) (fun c47 => absurd c47 (by decide))
    refine J.lload_n dX6_mean_72 rfl rfl ?_
    refine J.iload_n dX6_mean_73 rfl rfl ?_
    refine J.cs (as := [.int _]) (is := []) okX6_thousands jcX6_148 (mX6_thousands N (by omega)) dX6_mean_74 rfl rfl rfl rfl rfl rfl (fun r9 B9 hq => ?_)
    obtain ⟨rfl, rfl⟩ := hq
    refine ⟨rfl, ?_⟩
    show J _ _ _ _ _ (.long _ :: .long _ :: _) (wC rs v (rrow (otake q (rs 0)) 2 g9) (sh (otake q (rs 0)) (one (rs 0 6 3)) N) n9 u c l tn) _ _
    refine J.iload_n dX6_mean_77 rfl rfl ?_
    refine J.cs (as := [.long _, .long _, .int _]) (is := []) okX6_part jcX6_155 (mX6_partN (mn (sh (otake q (rs 0)) (one (rs 0 6 3)) N) 4) (1000 ^ N) wh (by have := p1000 N hN; have := mn_le (sh (otake q (rs 0)) (one (rs 0 6 3)) N) _ (sh1_sum (otake q (rs 0)) hr.w N); omega) (by have := p1000 N hN; omega) (by have := p1000 N hN; omega)) dX6_mean_78 rfl rfl rfl rfl rfl rfl (fun r9 B9 hq => ?_)
    obtain ⟨rfl, rfl⟩ := hq
    refine ⟨rfl, ?_⟩
    show J _ _ _ _ _ (.long _ :: _) (wC rs v (rrow (otake q (rs 0)) 2 g9) (sh (otake q (rs 0)) (one (rs 0 6 3)) N) n9 u c l tn) _ _
    exact J.lret dX6_mean_81 rfl (Nat.le_refl _) (Nat.le_refl _) ⟨congrArg (fun z => some (Value.long z)) (congrArg (fun z => lowT ((mn z 4 : Nat) : Int) (1000 ^ N) wh) (sh_c (ten_take q (rs 0)) _ N)), _, _, _, _, rfl⟩
  | succ k9 ih =>
    intro i hi
    have hiN : i < 4 := by omega
    intro hst
    refine J.iload dX6_mean_44 rfl ?_
    refine J.iconst (3) dX6_mean_46 (by decide) ?_
    refine J.icmp_gt (tgt := 72) dX6_mean_47 (by decide) (fun c47 => absurd c47 (fun h => absurd ((nI_lti (a := 3) (by decide) (by omega)).mp h) (by omega))) (fun c47 => ?_)
    refine J.lload_n dX6_mean_50 rfl rfl ?_
    refine J.iload dX6_mean_51 rfl ?_
    refine J.i2l dX6_mean_53 ?_
    refine J.aload_n dX6_mean_54 rfl rfl ?_
    refine J.getfield dX6_mean_55 jFX6_37 rfl rfl ?_
    refine J.iload dX6_mean_58 rfl ?_
    refine J.cv (as := [.int _]) (is := [27, 28, 29, 30, 31, 32, 33, 34, 35]) (o := 0) okX0_justWhole jcX6_166 (mX0_justWhole (rrow (otake q (rs 0)) 2 g9) (sh (otake q (rs 0)) (one (rs 0 6 3)) N) n9 u i (by omega)) dX6_mean_60 rfl rfl rfl rfl rfl rfl rfl (fun r9 B9 hq => ?_)
    obtain ⟨rfl, rfl⟩ := hq
    refine ⟨rfl, ?_⟩
    show J _ _ _ _ _ (.long _ :: .long _ :: .long _ :: _) (wC rs v (rrow (otake q (rs 0)) 2 g9) (sh (otake q (rs 0)) (one (rs 0 6 3)) N) n9 u c l tn) _ _
    rw [nI_l (by omega)]
    refine J.lmul dX6_mean_63 ?_
    refine J.ladd dX6_mean_64 ?_
    rw [lN_mul, lN_add]
    refine J.lstore_n dX6_mean_65 rfl (by decide) rfl ?_
    try dsimp only [List.set]
    refine J.iinc (1) dX6_mean_66 (by decide) rfl (by decide) rfl ?_
    try dsimp only [List.set]
    refine J.goto (tgt := 44) dX6_mean_69 (by decide) ?_
    exact J.at (ih (i + 1) (by omega) (by omega)) (by rw [← nI_1]; rfl) rfl rfl
set_option maxRecDepth 100000 in
set_option maxHeartbeats 4000000 in
theorem mX6_mean (rs : Nat → rT) (v : Nat → Nat → Nat) (q : rT) (x : Nat → Nat) (n : Nat → Int64) (u : uT) (c : Nat → Nat → Int32) (l : Nat → Int32) (tn : Int32) (N : Nat) (hN : N ≤ 5) (wh : Int32) (hw : 0 ≤ wh ∧ wh ≤ 1) (hr : rOK (rs 0)) : J KX6_mean 62 (fun o B => o = some (.long (lowT ((mn (sh (oqR (rs 0)) (one (rs 0 6 3)) N) 4 : Nat) : Int) (1000 ^ N) wh)) ∧ ∃ q9 x9 n9 u9, B = wC rs v q9 x9 n9 u9 c l tn) 0 [some (.ref 0), some (.int (nI N)), some (.int wh), none, none, none] [] (wC rs v q x n u c l tn) 0 0 := by
  refine J.iload_n dX6_mean_0 rfl rfl ?_
  refine J.cs (as := [.int _]) (is := []) okX6_foreseen jcX6_143 (mX6_foreseen _) dX6_mean_1 rfl rfl rfl rfl rfl rfl (fun r9 B9 hq => ?_)
  obtain ⟨rfl, rfl⟩ := hq
  refine ⟨rfl, ?_⟩
  show J _ _ _ _ _ (.int _ :: _) (wC rs v q x n u c l tn) _ _
  refine J.if_eq (tgt := 16) dX6_mean_4 (by decide) (fun c4 => absurd c4 (fun h => (jB_0 _).mp h (jw (a := 0) (c := 5) (by decide) (Nat.zero_le _) hN))) (fun c4 => ?_)
  refine J.iload_n dX6_mean_7 rfl rfl ?_
  refine J.iconst (0) dX6_mean_8 (by decide) ?_
  refine J.iconst (1) dX6_mean_9 (by decide) ?_
  refine J.cs (as := [.int _, .int _, .int _]) (is := []) okX6_within jcX6_59 (mX6_within _ _ _) dX6_mean_10 rfl rfl rfl rfl rfl rfl (fun r9 B9 hq => ?_)
  obtain ⟨rfl, rfl⟩ := hq
  refine ⟨rfl, ?_⟩
  show J _ _ _ _ _ (.int _ :: _) (wC rs v q x n u c l tn) _ _
  refine J.if_ne (tgt := 20) dX6_mean_13 (by decide) (fun c13 => ?_) (fun c13 => absurd c13 (fun h => (jB_0 _).mp h hw))
  refine J.aload_n dX6_mean_20 rfl rfl ?_
  refine J.getfield dX6_mean_21 jFX6_37 rfl rfl ?_
  refine J.aload_n dX6_mean_24 rfl rfl ?_
  refine J.getfield dX6_mean_25 jFX6_12 rfl rfl ?_
  refine J.cv (as := [.ref 9]) (is := [27, 28, 29, 30, 31, 32, 33, 34, 35, 1, 2, 3, 4, 5, 6, 7]) (o := 0) okX0_take jcX6_159 (mX0_take q x n u (rs 0) hr.w) dX6_mean_28 rfl rfl rfl rfl rfl rfl rfl (fun r9 B9 hq => ?_)
  obtain ⟨rfl, rfl⟩ := hq
  refine ⟨rfl, ?_⟩
  show J _ _ _ _ _ [] (wC rs v (otake q (rs 0)) (one (rs 0 6 3)) n u c l tn) _ _
  refine J.aload_n dX6_mean_31 rfl rfl ?_
  refine J.getfield dX6_mean_32 jFX6_37 rfl rfl ?_
  refine J.iload_n dX6_mean_35 rfl rfl ?_
  refine J.cv (as := [.int _]) (is := [27, 28, 29, 30, 31, 32, 33, 34, 35]) (o := 0) okX0_passHours jcX6_162 (mX0_passHours (otake q (rs 0)) (one (rs 0 6 3)) n u N (hr.o q) (by omega)) dX6_mean_36 rfl rfl rfl rfl rfl rfl rfl (fun r9 B9 hq9 => ?_)
  obtain ⟨rfl, g9, n9, rfl⟩ := hq9
  refine ⟨rfl, ?_⟩
  show J _ _ _ _ _ [] (wC rs v (rrow (otake q (rs 0)) 2 g9) (sh (otake q (rs 0)) (one (rs 0 6 3)) N) n9 u c l tn) _ _
  refine J.lconst 0 dX6_mean_39 (by decide) ?_
  refine J.lstore_n dX6_mean_40 rfl (by decide) rfl ?_
  try dsimp only [List.set]
  refine J.iconst (1) dX6_mean_41 (by decide) ?_
  refine J.istore dX6_mean_42 (by decide) rfl ?_
  try dsimp only [List.set]
  exact J.at (mX6_mean_l rs v q x n u c l tn N hN wh hw hr g9 n9 3 1 (by omega) (by omega)) (by rw [show mn (sh (otake q (rs 0)) (one (rs 0 6 3)) N) 1 = 0 from by rw [mn, mn, Nat.zero_mul]] <;> rfl) rfl rfl
set_option maxRecDepth 100000 in
set_option maxHeartbeats 4000000 in
theorem mX6_mean_bad (rs : Nat → rT) (v : Nat → Nat → Nat) (q : rT) (x : Nat → Nat) (n : Nat → Int64) (u : uT) (c : Nat → Nat → Int32) (l : Nat → Int32) (tn : Int32) (N wh : Int32) (hb : ¬ (0 ≤ N ∧ N ≤ 5) ∨ ¬ (0 ≤ wh ∧ wh ≤ 1)) : J KX6_mean 62 (fun o B => o = some (.long (-1)) ∧ B = (wC rs v q x n u c l tn)) 0 [some (.ref 0), some (.int N), some (.int wh), none, none, none] [] (wC rs v q x n u c l tn) 0 0 := by
  refine J.iload_n dX6_mean_0 rfl rfl ?_
  refine J.cs (as := [.int _]) (is := []) okX6_foreseen jcX6_143 (mX6_foreseen _) dX6_mean_1 rfl rfl rfl rfl rfl rfl (fun r9 B9 hq => ?_)
  obtain ⟨rfl, rfl⟩ := hq
  refine ⟨rfl, ?_⟩
  show J _ _ _ _ _ (.int _ :: _) (wC rs v q x n u c l tn) _ _
  refine J.if_eq (tgt := 16) dX6_mean_4 (by decide) (fun c4 => ?_) (fun c4 => ?_)
  · refine J.ldc2 (v := -1) dX6_mean_16 (jt 527 rfl rfl) ?_
    exact J.lret dX6_mean_19 rfl (Nat.le_refl _) (Nat.le_refl _) ⟨rfl, rfl⟩
  · refine J.iload_n dX6_mean_7 rfl rfl ?_
    refine J.iconst (0) dX6_mean_8 (by decide) ?_
    refine J.iconst (1) dX6_mean_9 (by decide) ?_
    refine J.cs (as := [.int _, .int _, .int _]) (is := []) okX6_within jcX6_59 (mX6_within _ _ _) dX6_mean_10 rfl rfl rfl rfl rfl rfl (fun r9 B9 hq => ?_)
    obtain ⟨rfl, rfl⟩ := hq
    refine ⟨rfl, ?_⟩
    show J _ _ _ _ _ (.int _ :: _) (wC rs v q x n u c l tn) _ _
    refine J.if_ne (tgt := 20) dX6_mean_13 (by decide) (fun c13 => absurd c13 (fun h => h ((jB_0 _).mpr (fun hC => (fun h => h.elim (fun h => h (Decidable.not_not.mp (fun h9 => c4 ((jB_0 _).mpr h9)))) (fun h => h hC)) hb)))) (fun c13 => ?_)
    refine J.ldc2 (v := -1) dX6_mean_16 (jt 527 rfl rfl) ?_
    exact J.lret dX6_mean_19 rfl (Nat.le_refl _) (Nat.le_refl _) ⟨rfl, rfl⟩
def gnZ (r : rT) (k N : Nat) (sees : Prop) [Decidable sees] : Int := ggZ (oqR r) (r 2 k : Nat) (-((r 3 k : Nat) : Int)) sees (r 6 3) N N (r 6 3)
theorem gnR_Z {r : rT} (h : rOK r) (k : Nat) {N : Nat} (hN : N ≤ 5) (sees : Prop) [Decidable sees] : gnR r k N sees = lI (gnZ r k N sees) := gg_Z (oqR r) (r 2 k) (r 3 k) (by have := h.2.2.2.2.2.2.2.2.2.2.1 k; omega) (h.2.2.2.2.2.2.2.2.2.2.2.1 k) sees (r 6 3) N h.w N hN _
theorem gnZ_le {r : rT} (h : rOK r) (k : Nat) {N : Nat} (hN : N ≤ 5) (sees : Prop) [Decidable sees] : (gnZ r k N sees).natAbs ≤ 1000000000000000000 := by
  have h1 := ggZ_le (oqR r) (r 2 k : Nat) (-((r 3 k : Nat) : Int)) sees (r 6 3) N h.w (by have := h.2.2.2.2.2.2.2.2.2.2.1 k; omega) (by have := h.2.2.2.2.2.2.2.2.2.2.2.1 k; omega) N hN (r 6 3)
  have := bG_s N (by omega)
  unfold gnZ
  omega
theorem gn_take {r : rT} (h : rOK r) (q : rT) (k : Nat) {N : Nat} (hN : N ≤ 5) (sees : Prop) [Decidable sees] : gg (otake q r) (nI (r 2 k)).toInt64 (-nI (r 3 k)).toInt64 sees (otake q r 6 0) N N (otake q r 6 0) = lI (gnZ r k N sees) := (gg_c (ten_take q r) _ _ _ _ N N _).trans (gnR_Z h k hN sees)
set_option maxRecDepth 100000 in
set_option maxHeartbeats 4000000 in
theorem mX6_sits (rs : Nat → rT) (v : Nat → Nat → Nat) (q : rT) (x : Nat → Nat) (n : Nat → Int64) (u : uT) (c : Nat → Nat → Int32) (l : Nat → Int32) (tn : Int32) (k N : Nat) (hk : k < rs 0 6 1) (hN : N ≤ 5) (wh : Int32) (hw : 0 ≤ wh ∧ wh ≤ 1) (hr : rOK (rs 0)) : J KX6_sits 62 (fun o B => o = some (.long (lowT (gnZ (rs 0) k N False) (1000 ^ N) wh)) ∧ ∃ q9 x9 n9 u9, B = wC rs v q9 x9 n9 u9 c l tn) 0 [some (.ref 0), some (.int (nI k)), some (.int (nI N)), some (.int wh)] [] (wC rs v q x n u c l tn) 0 0 := by
  refine J.iload_n dX6_sits_0 rfl rfl ?_
  refine J.iconst (0) dX6_sits_1 (by decide) ?_
  refine J.aload_n dX6_sits_2 rfl rfl ?_
  refine J.getfield dX6_sits_3 jFX6_12 rfl rfl ?_
  refine J.getfield dX6_sits_6 jFX6_96 rfl rfl ?_
  refine J.iconst (1) dX6_sits_9 (by decide) ?_
  refine J.isub dX6_sits_10 ?_
  refine J.cs (as := [.int _, .int _, .int _]) (is := []) okX6_within jcX6_59 (mX6_within _ _ _) dX6_sits_11 rfl rfl rfl rfl rfl rfl (fun r9 B9 hq => ?_)
  obtain ⟨rfl, rfl⟩ := hq
  refine ⟨rfl, ?_⟩
  show J _ _ _ _ _ (.int _ :: _) (wC rs v q x n u c l tn) _ _
  refine J.if_eq (tgt := 33) dX6_sits_14 (by decide) (fun c14 => absurd c14 (fun h => (jB_0 _).mp h (jin_ge (by have := hr.2.1; omega) hk))) (fun c14 => ?_)
  refine J.iload_n dX6_sits_17 rfl rfl ?_
  refine J.cs (as := [.int _]) (is := []) okX6_foreseen jcX6_143 (mX6_foreseen _) dX6_sits_18 rfl rfl rfl rfl rfl rfl (fun r9 B9 hq => ?_)
  obtain ⟨rfl, rfl⟩ := hq
  refine ⟨rfl, ?_⟩
  show J _ _ _ _ _ (.int _ :: _) (wC rs v q x n u c l tn) _ _
  refine J.if_eq (tgt := 33) dX6_sits_21 (by decide) (fun c21 => absurd c21 (fun h => (jB_0 _).mp h (jw (a := 0) (c := 5) (by decide) (Nat.zero_le _) hN))) (fun c21 => ?_)
  refine J.iload_n dX6_sits_24 rfl rfl ?_
  refine J.iconst (0) dX6_sits_25 (by decide) ?_
  refine J.iconst (1) dX6_sits_26 (by decide) ?_
  refine J.cs (as := [.int _, .int _, .int _]) (is := []) okX6_within jcX6_59 (mX6_within _ _ _) dX6_sits_27 rfl rfl rfl rfl rfl rfl (fun r9 B9 hq => ?_)
  obtain ⟨rfl, rfl⟩ := hq
  refine ⟨rfl, ?_⟩
  show J _ _ _ _ _ (.int _ :: _) (wC rs v q x n u c l tn) _ _
  refine J.if_ne (tgt := 37) dX6_sits_30 (by decide) (fun c30 => ?_) (fun c30 => absurd c30 (fun h => (jB_0 _).mp h hw))
  refine J.aload_n dX6_sits_37 rfl rfl ?_
  refine J.getfield dX6_sits_38 jFX6_37 rfl rfl ?_
  refine J.aload_n dX6_sits_41 rfl rfl ?_
  refine J.getfield dX6_sits_42 jFX6_12 rfl rfl ?_
  refine J.cv (as := [.ref 9]) (is := [27, 28, 29, 30, 31, 32, 33, 34, 35, 1, 2, 3, 4, 5, 6, 7]) (o := 0) okX0_take jcX6_159 (mX0_take q x n u (rs 0) hr.w) dX6_sits_45 rfl rfl rfl rfl rfl rfl rfl (fun r9 B9 hq => ?_)
  obtain ⟨rfl, rfl⟩ := hq
  refine ⟨rfl, ?_⟩
  show J _ _ _ _ _ [] (wC rs v (otake q (rs 0)) (one (rs 0 6 3)) n u c l tn) _ _
  refine J.aload_n dX6_sits_48 rfl rfl ?_
  refine J.getfield dX6_sits_49 jFX6_37 rfl rfl ?_
  refine J.aload_n dX6_sits_52 rfl rfl ?_
  refine J.getfield dX6_sits_53 jFX6_12 rfl rfl ?_
  refine J.getfield dX6_sits_56 jFX6_128 rfl rfl ?_
  refine J.iload_n dX6_sits_59 rfl rfl ?_
  refine J.ialoadN dX6_sits_60 rfl (show k < 4 by have := hr.2.1; omega) ?_
  refine J.aload_n dX6_sits_61 rfl rfl ?_
  refine J.getfield dX6_sits_62 jFX6_12 rfl rfl ?_
  refine J.getfield dX6_sits_65 jFX6_131 rfl rfl ?_
  refine J.iload_n dX6_sits_68 rfl rfl ?_
  refine J.ialoadN dX6_sits_69 rfl (show k < 4 by have := hr.2.1; omega) ?_
  refine J.iload_n dX6_sits_70 rfl rfl ?_
  refine J.iconst (0) dX6_sits_71 (by decide) ?_
  refine J.cv (as := [.int _, .int _, .int _, .int _]) (is := [27, 28, 29, 30, 31, 32, 33, 34, 35]) (o := 0) okX0_sitting jcX6_169 (mX0_sitting (otake q (rs 0)) (one (rs 0 6 3)) n u (rs 0 2 k) (rs 0 3 k) False inferInstance N (hr.o q) (by omega)) dX6_sits_72 rfl rfl rfl rfl rfl rfl rfl (fun r9 B9 hq9 => ?_)
  obtain ⟨rfl, g9, f9, rfl⟩ := hq9
  refine ⟨rfl, ?_⟩
  show J _ _ _ _ _ (.long _ :: _) (wC rs v (rrow (otake q (rs 0)) 2 g9) (one (rs 0 6 3)) n (urow u 0 f9) c l tn) _ _
  refine J.iload_n dX6_sits_75 rfl rfl ?_
  rw [gn_take hr q k hN False]
  refine J.cs (as := [.int _]) (is := []) okX6_thousands jcX6_148 (mX6_thousands N (by omega)) dX6_sits_76 rfl rfl rfl rfl rfl rfl (fun r9 B9 hq => ?_)
  obtain ⟨rfl, rfl⟩ := hq
  refine ⟨rfl, ?_⟩
  show J _ _ _ _ _ (.long _ :: .long _ :: _) (wC rs v (rrow (otake q (rs 0)) 2 g9) (one (rs 0 6 3)) n (urow u 0 f9) c l tn) _ _
  refine J.iload_n dX6_sits_79 rfl rfl ?_
  refine J.cs (as := [.long _, .long _, .int _]) (is := []) okX6_part jcX6_155 (mX6_part (gnZ (rs 0) k N False) (1000 ^ N) wh (by have := gnZ_le hr k hN False; omega) (by have := gnZ_le hr k hN False; omega) (by have := p1000 N hN; omega) (by have := p1000 N hN; omega)) dX6_sits_80 rfl rfl rfl rfl rfl rfl (fun r9 B9 hq => ?_)
  obtain ⟨rfl, rfl⟩ := hq
  refine ⟨rfl, ?_⟩
  show J _ _ _ _ _ (.long _ :: _) (wC rs v (rrow (otake q (rs 0)) 2 g9) (one (rs 0 6 3)) n (urow u 0 f9) c l tn) _ _
  exact J.lret dX6_sits_83 rfl (Nat.le_refl _) (Nat.le_refl _) ⟨rfl, _, _, _, _, rfl⟩
set_option maxRecDepth 100000 in
set_option maxHeartbeats 4000000 in
theorem mX6_sits_bad (rs : Nat → rT) (v : Nat → Nat → Nat) (q : rT) (x : Nat → Nat) (n : Nat → Int64) (u : uT) (c : Nat → Nat → Int32) (l : Nat → Int32) (tn : Int32) (k N wh : Int32) (hb : ¬ (0 ≤ k ∧ k ≤ nI (rs 0 6 1) - 1) ∨ ¬ (0 ≤ N ∧ N ≤ 5) ∨ ¬ (0 ≤ wh ∧ wh ≤ 1)) : J KX6_sits 62 (fun o B => o = some (.long (-1)) ∧ B = (wC rs v q x n u c l tn)) 0 [some (.ref 0), some (.int k), some (.int N), some (.int wh)] [] (wC rs v q x n u c l tn) 0 0 := by
  refine J.iload_n dX6_sits_0 rfl rfl ?_
  refine J.iconst (0) dX6_sits_1 (by decide) ?_
  refine J.aload_n dX6_sits_2 rfl rfl ?_
  refine J.getfield dX6_sits_3 jFX6_12 rfl rfl ?_
  refine J.getfield dX6_sits_6 jFX6_96 rfl rfl ?_
  refine J.iconst (1) dX6_sits_9 (by decide) ?_
  refine J.isub dX6_sits_10 ?_
  refine J.cs (as := [.int _, .int _, .int _]) (is := []) okX6_within jcX6_59 (mX6_within _ _ _) dX6_sits_11 rfl rfl rfl rfl rfl rfl (fun r9 B9 hq => ?_)
  obtain ⟨rfl, rfl⟩ := hq
  refine ⟨rfl, ?_⟩
  show J _ _ _ _ _ (.int _ :: _) (wC rs v q x n u c l tn) _ _
  refine J.if_eq (tgt := 33) dX6_sits_14 (by decide) (fun c14 => ?_) (fun c14 => ?_)
  · refine J.ldc2 (v := -1) dX6_sits_33 (jt 527 rfl rfl) ?_
    exact J.lret dX6_sits_36 rfl (Nat.le_refl _) (Nat.le_refl _) ⟨rfl, rfl⟩
  · refine J.iload_n dX6_sits_17 rfl rfl ?_
    refine J.cs (as := [.int _]) (is := []) okX6_foreseen jcX6_143 (mX6_foreseen _) dX6_sits_18 rfl rfl rfl rfl rfl rfl (fun r9 B9 hq => ?_)
    obtain ⟨rfl, rfl⟩ := hq
    refine ⟨rfl, ?_⟩
    show J _ _ _ _ _ (.int _ :: _) (wC rs v q x n u c l tn) _ _
    refine J.if_eq (tgt := 33) dX6_sits_21 (by decide) (fun c21 => ?_) (fun c21 => ?_)
    · refine J.ldc2 (v := -1) dX6_sits_33 (jt 527 rfl rfl) ?_
      exact J.lret dX6_sits_36 rfl (Nat.le_refl _) (Nat.le_refl _) ⟨rfl, rfl⟩
    · refine J.iload_n dX6_sits_24 rfl rfl ?_
      refine J.iconst (0) dX6_sits_25 (by decide) ?_
      refine J.iconst (1) dX6_sits_26 (by decide) ?_
      refine J.cs (as := [.int _, .int _, .int _]) (is := []) okX6_within jcX6_59 (mX6_within _ _ _) dX6_sits_27 rfl rfl rfl rfl rfl rfl (fun r9 B9 hq => ?_)
      obtain ⟨rfl, rfl⟩ := hq
      refine ⟨rfl, ?_⟩
      show J _ _ _ _ _ (.int _ :: _) (wC rs v q x n u c l tn) _ _
      refine J.if_ne (tgt := 37) dX6_sits_30 (by decide) (fun c30 => absurd c30 (fun h => h ((jB_0 _).mpr (fun hC => (fun h => h.elim (fun h => h (Decidable.not_not.mp (fun h9 => c14 ((jB_0 _).mpr h9)))) (fun h => h.elim (fun h => h (Decidable.not_not.mp (fun h9 => c21 ((jB_0 _).mpr h9)))) (fun h => h hC))) hb)))) (fun c30 => ?_)
      refine J.ldc2 (v := -1) dX6_sits_33 (jt 527 rfl rfl) ?_
      exact J.lret dX6_sits_36 rfl (Nat.le_refl _) (Nat.le_refl _) ⟨rfl, rfl⟩
set_option maxRecDepth 100000 in
set_option maxHeartbeats 4000000 in
theorem mX6_best (rs : Nat → rT) (v : Nat → Nat → Nat) (q : rT) (x : Nat → Nat) (n : Nat → Int64) (u : uT) (c : Nat → Nat → Int32) (l : Nat → Int32) (tn : Int32) (k N : Nat) (hk : k < rs 0 6 1) (hN : N ≤ 5) (wh : Int32) (hw : 0 ≤ wh ∧ wh ≤ 1) (hr : rOK (rs 0)) : J KX6_best 62 (fun o B => o = some (.long (lowT (gnZ (rs 0) k N True) (1000 ^ N) wh)) ∧ ∃ q9 x9 n9 u9, B = wC rs v q9 x9 n9 u9 c l tn) 0 [some (.ref 0), some (.int (nI k)), some (.int (nI N)), some (.int wh), none, none] [] (wC rs v q x n u c l tn) 0 0 := by
  refine J.iload_n dX6_best_0 rfl rfl ?_
  refine J.iconst (0) dX6_best_1 (by decide) ?_
  refine J.aload_n dX6_best_2 rfl rfl ?_
  refine J.getfield dX6_best_3 jFX6_12 rfl rfl ?_
  refine J.getfield dX6_best_6 jFX6_96 rfl rfl ?_
  refine J.iconst (1) dX6_best_9 (by decide) ?_
  refine J.isub dX6_best_10 ?_
  refine J.cs (as := [.int _, .int _, .int _]) (is := []) okX6_within jcX6_59 (mX6_within _ _ _) dX6_best_11 rfl rfl rfl rfl rfl rfl (fun r9 B9 hq => ?_)
  obtain ⟨rfl, rfl⟩ := hq
  refine ⟨rfl, ?_⟩
  show J _ _ _ _ _ (.int _ :: _) (wC rs v q x n u c l tn) _ _
  refine J.if_eq (tgt := 33) dX6_best_14 (by decide) (fun c14 => absurd c14 (fun h => (jB_0 _).mp h (jin_ge (by have := hr.2.1; omega) hk))) (fun c14 => ?_)
  refine J.iload_n dX6_best_17 rfl rfl ?_
  refine J.cs (as := [.int _]) (is := []) okX6_foreseen jcX6_143 (mX6_foreseen _) dX6_best_18 rfl rfl rfl rfl rfl rfl (fun r9 B9 hq => ?_)
  obtain ⟨rfl, rfl⟩ := hq
  refine ⟨rfl, ?_⟩
  show J _ _ _ _ _ (.int _ :: _) (wC rs v q x n u c l tn) _ _
  refine J.if_eq (tgt := 33) dX6_best_21 (by decide) (fun c21 => absurd c21 (fun h => (jB_0 _).mp h (jw (a := 0) (c := 5) (by decide) (Nat.zero_le _) hN))) (fun c21 => ?_)
  refine J.iload_n dX6_best_24 rfl rfl ?_
  refine J.iconst (0) dX6_best_25 (by decide) ?_
  refine J.iconst (2) dX6_best_26 (by decide) ?_
  refine J.cs (as := [.int _, .int _, .int _]) (is := []) okX6_within jcX6_59 (mX6_within _ _ _) dX6_best_27 rfl rfl rfl rfl rfl rfl (fun r9 B9 hq => ?_)
  obtain ⟨rfl, rfl⟩ := hq
  refine ⟨rfl, ?_⟩
  show J _ _ _ _ _ (.int _ :: _) (wC rs v q x n u c l tn) _ _
  refine J.if_ne (tgt := 37) dX6_best_30 (by decide) (fun c30 => ?_) (fun c30 => absurd c30 (fun h => (jB_0 _).mp h ⟨hw.1, Int32.le_trans hw.2 (by decide)⟩))
  refine J.aload_n dX6_best_37 rfl rfl ?_
  refine J.iload_n dX6_best_38 rfl rfl ?_
  refine J.iload_n dX6_best_39 rfl rfl ?_
  refine J.cvC (as := [.int _, .int _]) rs v q x n u c l tn [] okX6_seeingGain jcX6_173 (mX6_seeingGain rs v q x n u c l tn k N (by have := hr.2.1; omega) hN hr) dX6_best_40 rfl rfl rfl rfl rfl (fun r9 B9 hq9 => ?_)
  obtain ⟨rfl, q9, x9, n9, u9, rfl⟩ := hq9
  refine ⟨_, _, _, _, _, _, _, _, _, rfl, ?_⟩
  show J _ _ _ _ _ (.long _ :: _) (wC rs v q9 x9 n9 u9 c l tn) _ _
  rw [gnR_Z hr k hN True]
  refine J.lstore dX6_best_43 (by decide) rfl ?_
  try dsimp only [List.set]
  refine J.iload_n dX6_best_45 rfl rfl ?_
  refine J.iconst (2) dX6_best_46 (by decide) ?_
  refine J.icmp_ne (tgt := 63) dX6_best_47 (by decide) (fun c47 => ?_) (fun c47 => absurd c47 (fun h => absurd hw.2 (by rw [h]; decide)))
  refine J.lload dX6_best_63 rfl ?_
  refine J.iload_n dX6_best_65 rfl rfl ?_
  refine J.cs (as := [.int _]) (is := []) okX6_thousands jcX6_148 (mX6_thousands N (by omega)) dX6_best_66 rfl rfl rfl rfl rfl rfl (fun r9 B9 hq => ?_)
  obtain ⟨rfl, rfl⟩ := hq
  refine ⟨rfl, ?_⟩
  show J _ _ _ _ _ (.long _ :: .long _ :: _) (wC rs v q9 x9 n9 u9 c l tn) _ _
  refine J.iload_n dX6_best_69 rfl rfl ?_
  refine J.cs (as := [.long _, .long _, .int _]) (is := []) okX6_part jcX6_155 (mX6_part (gnZ (rs 0) k N True) (1000 ^ N) wh (by have := gnZ_le hr k hN True; omega) (by have := gnZ_le hr k hN True; omega) (by have := p1000 N hN; omega) (by have := p1000 N hN; omega)) dX6_best_70 rfl rfl rfl rfl rfl rfl (fun r9 B9 hq => ?_)
  obtain ⟨rfl, rfl⟩ := hq
  refine ⟨rfl, ?_⟩
  show J _ _ _ _ _ (.long _ :: _) (wC rs v q9 x9 n9 u9 c l tn) _ _
  exact J.lret dX6_best_73 rfl (Nat.le_refl _) (Nat.le_refl _) ⟨rfl, _, _, _, _, rfl⟩
set_option maxRecDepth 100000 in
set_option maxHeartbeats 4000000 in
theorem mX6_best2 (rs : Nat → rT) (v : Nat → Nat → Nat) (q : rT) (x : Nat → Nat) (n : Nat → Int64) (u : uT) (c : Nat → Nat → Int32) (l : Nat → Int32) (tn : Int32) (k N : Nat) (hk : k < rs 0 6 1) (hN : N ≤ 5)  (hr : rOK (rs 0)) : J KX6_best 62 (fun o B => o = some (.long (if 0 < gnZ (rs 0) k N True then 1 else 0)) ∧ ∃ q9 x9 n9 u9, B = wC rs v q9 x9 n9 u9 c l tn) 0 [some (.ref 0), some (.int (nI k)), some (.int (nI N)), some (.int 2), none, none] [] (wC rs v q x n u c l tn) 0 0 := by
  refine J.iload_n dX6_best_0 rfl rfl ?_
  refine J.iconst (0) dX6_best_1 (by decide) ?_
  refine J.aload_n dX6_best_2 rfl rfl ?_
  refine J.getfield dX6_best_3 jFX6_12 rfl rfl ?_
  refine J.getfield dX6_best_6 jFX6_96 rfl rfl ?_
  refine J.iconst (1) dX6_best_9 (by decide) ?_
  refine J.isub dX6_best_10 ?_
  refine J.cs (as := [.int _, .int _, .int _]) (is := []) okX6_within jcX6_59 (mX6_within _ _ _) dX6_best_11 rfl rfl rfl rfl rfl rfl (fun r9 B9 hq => ?_)
  obtain ⟨rfl, rfl⟩ := hq
  refine ⟨rfl, ?_⟩
  show J _ _ _ _ _ (.int _ :: _) (wC rs v q x n u c l tn) _ _
  refine J.if_eq (tgt := 33) dX6_best_14 (by decide) (fun c14 => absurd c14 (fun h => (jB_0 _).mp h (jin_ge (by have := hr.2.1; omega) hk))) (fun c14 => ?_)
  refine J.iload_n dX6_best_17 rfl rfl ?_
  refine J.cs (as := [.int _]) (is := []) okX6_foreseen jcX6_143 (mX6_foreseen _) dX6_best_18 rfl rfl rfl rfl rfl rfl (fun r9 B9 hq => ?_)
  obtain ⟨rfl, rfl⟩ := hq
  refine ⟨rfl, ?_⟩
  show J _ _ _ _ _ (.int _ :: _) (wC rs v q x n u c l tn) _ _
  refine J.if_eq (tgt := 33) dX6_best_21 (by decide) (fun c21 => absurd c21 (fun h => (jB_0 _).mp h (jw (a := 0) (c := 5) (by decide) (Nat.zero_le _) hN))) (fun c21 => ?_)
  refine J.iload_n dX6_best_24 rfl rfl ?_
  refine J.iconst (0) dX6_best_25 (by decide) ?_
  refine J.iconst (2) dX6_best_26 (by decide) ?_
  refine J.cs (as := [.int _, .int _, .int _]) (is := []) okX6_within jcX6_59 (mX6_within _ _ _) dX6_best_27 rfl rfl rfl rfl rfl rfl (fun r9 B9 hq => ?_)
  obtain ⟨rfl, rfl⟩ := hq
  refine ⟨rfl, ?_⟩
  show J _ _ _ _ _ (.int _ :: _) (wC rs v q x n u c l tn) _ _
  refine J.if_ne (tgt := 37) dX6_best_30 (by decide) (fun c30 => ?_) (fun c30 => absurd c30 (fun h => (jB_0 _).mp h (by decide)))
  refine J.aload_n dX6_best_37 rfl rfl ?_
  refine J.iload_n dX6_best_38 rfl rfl ?_
  refine J.iload_n dX6_best_39 rfl rfl ?_
  refine J.cvC (as := [.int _, .int _]) rs v q x n u c l tn [] okX6_seeingGain jcX6_173 (mX6_seeingGain rs v q x n u c l tn k N (by have := hr.2.1; omega) hN hr) dX6_best_40 rfl rfl rfl rfl rfl (fun r9 B9 hq9 => ?_)
  obtain ⟨rfl, q9, x9, n9, u9, rfl⟩ := hq9
  refine ⟨_, _, _, _, _, _, _, _, _, rfl, ?_⟩
  show J _ _ _ _ _ (.long _ :: _) (wC rs v q9 x9 n9 u9 c l tn) _ _
  rw [gnR_Z hr k hN True]
  refine J.lstore dX6_best_43 (by decide) rfl ?_
  try dsimp only [List.set]
  refine J.iload_n dX6_best_45 rfl rfl ?_
  refine J.iconst (2) dX6_best_46 (by decide) ?_
  refine J.icmp_ne (tgt := 63) dX6_best_47 (by decide) (fun c47 => absurd c47 (fun h => h rfl)) (fun c47 => ?_)
  refine J.lload dX6_best_50 rfl ?_
  refine J.lconst 0 dX6_best_52 (by decide) ?_
  refine J.lcmp dX6_best_53 ?_
  refine J.if_le (tgt := 61) dX6_best_54 (by decide) (fun c54 => ?_) (fun c54 => ?_)
  · refine J.lconst 0 dX6_best_61 (by decide) ?_
    first | exact J.lret dX6_best_62 rfl (Nat.le_refl _) (Nat.le_refl _) ⟨congrArg (fun z => some (Value.long z)) (if_pos ((lI_pos (gnZ_le hr k hN True)).mp (cmpP c54))).symm, _, _, _, _, rfl⟩ | exact J.lret dX6_best_62 rfl (Nat.le_refl _) (Nat.le_refl _) ⟨congrArg (fun z => some (Value.long z)) (if_neg (fun h9 => cmpN c54 ((lI_pos (gnZ_le hr k hN True)).mpr h9))).symm, _, _, _, _, rfl⟩
  · refine J.lconst 1 dX6_best_57 (by decide) ?_
    refine J.goto (tgt := 62) dX6_best_58 (by decide) ?_
    first | exact J.lret dX6_best_62 rfl (Nat.le_refl _) (Nat.le_refl _) ⟨congrArg (fun z => some (Value.long z)) (if_pos ((lI_pos (gnZ_le hr k hN True)).mp (cmpP c54))).symm, _, _, _, _, rfl⟩ | exact J.lret dX6_best_62 rfl (Nat.le_refl _) (Nat.le_refl _) ⟨congrArg (fun z => some (Value.long z)) (if_neg (fun h9 => cmpN c54 ((lI_pos (gnZ_le hr k hN True)).mpr h9))).symm, _, _, _, _, rfl⟩
set_option maxRecDepth 100000 in
set_option maxHeartbeats 4000000 in
theorem mX6_best_bad (rs : Nat → rT) (v : Nat → Nat → Nat) (q : rT) (x : Nat → Nat) (n : Nat → Int64) (u : uT) (c : Nat → Nat → Int32) (l : Nat → Int32) (tn : Int32) (k N wh : Int32) (hb : ¬ (0 ≤ k ∧ k ≤ nI (rs 0 6 1) - 1) ∨ ¬ (0 ≤ N ∧ N ≤ 5) ∨ ¬ (0 ≤ wh ∧ wh ≤ 2)) : J KX6_best 62 (fun o B => o = some (.long (-1)) ∧ B = (wC rs v q x n u c l tn)) 0 [some (.ref 0), some (.int k), some (.int N), some (.int wh), none, none] [] (wC rs v q x n u c l tn) 0 0 := by
  refine J.iload_n dX6_best_0 rfl rfl ?_
  refine J.iconst (0) dX6_best_1 (by decide) ?_
  refine J.aload_n dX6_best_2 rfl rfl ?_
  refine J.getfield dX6_best_3 jFX6_12 rfl rfl ?_
  refine J.getfield dX6_best_6 jFX6_96 rfl rfl ?_
  refine J.iconst (1) dX6_best_9 (by decide) ?_
  refine J.isub dX6_best_10 ?_
  refine J.cs (as := [.int _, .int _, .int _]) (is := []) okX6_within jcX6_59 (mX6_within _ _ _) dX6_best_11 rfl rfl rfl rfl rfl rfl (fun r9 B9 hq => ?_)
  obtain ⟨rfl, rfl⟩ := hq
  refine ⟨rfl, ?_⟩
  show J _ _ _ _ _ (.int _ :: _) (wC rs v q x n u c l tn) _ _
  refine J.if_eq (tgt := 33) dX6_best_14 (by decide) (fun c14 => ?_) (fun c14 => ?_)
  · refine J.ldc2 (v := -1) dX6_best_33 (jt 527 rfl rfl) ?_
    exact J.lret dX6_best_36 rfl (Nat.le_refl _) (Nat.le_refl _) ⟨rfl, rfl⟩
  · refine J.iload_n dX6_best_17 rfl rfl ?_
    refine J.cs (as := [.int _]) (is := []) okX6_foreseen jcX6_143 (mX6_foreseen _) dX6_best_18 rfl rfl rfl rfl rfl rfl (fun r9 B9 hq => ?_)
    obtain ⟨rfl, rfl⟩ := hq
    refine ⟨rfl, ?_⟩
    show J _ _ _ _ _ (.int _ :: _) (wC rs v q x n u c l tn) _ _
    refine J.if_eq (tgt := 33) dX6_best_21 (by decide) (fun c21 => ?_) (fun c21 => ?_)
    · refine J.ldc2 (v := -1) dX6_best_33 (jt 527 rfl rfl) ?_
      exact J.lret dX6_best_36 rfl (Nat.le_refl _) (Nat.le_refl _) ⟨rfl, rfl⟩
    · refine J.iload_n dX6_best_24 rfl rfl ?_
      refine J.iconst (0) dX6_best_25 (by decide) ?_
      refine J.iconst (2) dX6_best_26 (by decide) ?_
      refine J.cs (as := [.int _, .int _, .int _]) (is := []) okX6_within jcX6_59 (mX6_within _ _ _) dX6_best_27 rfl rfl rfl rfl rfl rfl (fun r9 B9 hq => ?_)
      obtain ⟨rfl, rfl⟩ := hq
      refine ⟨rfl, ?_⟩
      show J _ _ _ _ _ (.int _ :: _) (wC rs v q x n u c l tn) _ _
      refine J.if_ne (tgt := 37) dX6_best_30 (by decide) (fun c30 => absurd c30 (fun h => h ((jB_0 _).mpr (fun hC => (fun h => h.elim (fun h => h (Decidable.not_not.mp (fun h9 => c14 ((jB_0 _).mpr h9)))) (fun h => h.elim (fun h => h (Decidable.not_not.mp (fun h9 => c21 ((jB_0 _).mpr h9)))) (fun h => h hC))) hb)))) (fun c30 => ?_)
      refine J.ldc2 (v := -1) dX6_best_33 (jt 527 rfl rfl) ?_
      exact J.lret dX6_best_36 rfl (Nat.le_refl _) (Nat.le_refl _) ⟨rfl, rfl⟩
