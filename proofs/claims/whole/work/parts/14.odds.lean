def onew (q : rT) (k m l : Nat) : rT := fun y => if y = 6 then (fun j => if j = 0 then 2 ^ m - 1 else if j = 1 then l else q 6 j) else if y = 0 then (fun _ => k) else if y = 1 then (fun _ => 0) else q y
theorem full_eval : ∀ m, m < 4 → 1 <<< (nI m &&& 31) - 1 = nI (2 ^ m - 1) := by decide +kernel
theorem full_lt {m : Nat} (h : m < 4) : 2 ^ m - 1 < 8 := by
  rcases (show m = 0 ∨ m = 1 ∨ m = 2 ∨ m = 3 by omega) with rfl | rfl | rfl | rfl <;> decide
set_option maxRecDepth 100000 in
set_option maxHeartbeats 4000000 in
theorem mX0_takeNew_l (q : rT) (x : Nat → Nat) (n : Nat → Int64) (u : uT) (k m l : Nat) (hm : m < 4) : ∀ (k9 i : Nat), i + k9 = 3 → J KX0_takeNew 9 (fun o B => o = none ∧ B = wO (onew q k m l) (one (2 ^ m - 1)) n u) 3 [some (.ref 0), some (.int (nI k)), some (.int (nI m)), some (.int (nI l)), some (.int (nI i))] [] [.inr (0, [.ref 1, .ref 2, .ref 3, .int (nI (q 6 0)), .int (nI (q 6 1)), .ref 4, .ref 5, .ref 6, .ref 7, .ref 8, .long (u 3 0), .long (u 3 1)]), .inl (0, 3, .inl (fun j => nI (if j < i then k else q 0 j))), .inl (0, 3, .inl (fun j => nI (if j < i then 0 else q 1 j))), .inl (0, 3, .inl (fun j => nI (q 2 j))), .inl (1, 8, .inr (.inl (fun j => lN (x j)))), .inl (1, 8, .inr (.inl (n))), .inl (1, 8, .inr (.inl (u 0))), .inl (1, 8, .inr (.inl (u 1))), .inl (1, 6, .inr (.inl (u 2)))] 0 0 := by
  intro k9
  induction k9 with
  | zero =>
    intro i hi
    obtain hiN : i = 3 := by omega
    subst hiN
    refine J.iload dX0_takeNew_3 rfl ?_
    refine J.iconst (3) dX0_takeNew_5 (by decide) ?_
    refine J.icmp_ge (tgt := 31) dX0_takeNew_6 (by decide) (fun c6 => ?_) (fun c6 => absurd c6 (fun h => h (by decide)))
    refine J.arrI 1 0 (fun j => nI k) rfl (fun j hj => by rw [if_pos hj]) ?_
    refine J.arrI 2 0 (fun j => nI 0) rfl (fun j hj => by rw [if_pos hj]) ?_
    dsimp only [List.set]
    refine J.aload_n dX0_takeNew_31 rfl rfl ?_
    refine J.iload_n dX0_takeNew_32 rfl rfl ?_
    refine J.putfield dX0_takeNew_33 jFX0_45 jP0_4 rfl rfl rfl (Nat.le_of_ble_eq_true rfl) ?_
    dsimp only [List.set]
    refine J.aload_n dX0_takeNew_36 rfl rfl ?_
    refine J.iconst (1) dX0_takeNew_37 (by decide) ?_
    refine J.iload_n dX0_takeNew_38 rfl rfl ?_
    refine J.ishl dX0_takeNew_39 ?_
    refine J.iconst (1) dX0_takeNew_40 (by decide) ?_
    refine J.isub dX0_takeNew_41 ?_
    rw [full_eval _ hm]
    refine J.cv (as := [.int _]) (is := [0, 1, 2, 3, 4, 5, 6, 7, 8]) (o := 0) okX0_begin jcX0_49 (mX0_begin (rset (rrow (rrow q 0 (fun _ => k)) 1 (fun _ => 0)) 6 1 l) x n u (2 ^ m - 1) (full_lt hm)) dX0_takeNew_42 rfl rfl rfl rfl rfl rfl rfl (fun r9 B9 hq => ?_)
    obtain ⟨rfl, rfl⟩ := hq
    refine ⟨rfl, ?_⟩
    show J _ _ _ _ _ _ (wO (onew q k m l) (one (2 ^ m - 1)) n u) _ _
    exact J.vret dX0_takeNew_45 rfl (Nat.le_refl _) (Nat.le_refl _) ⟨rfl, rfl⟩
  | succ k9 ih =>
    intro i hi
    have hiN : i < 3 := by omega
    refine J.iload dX0_takeNew_3 rfl ?_
    refine J.iconst (3) dX0_takeNew_5 (by decide) ?_
    refine J.icmp_ge (tgt := 31) dX0_takeNew_6 (by decide) (fun c6 => absurd c6 (nI_ge (b := 3) hiN (by decide))) (fun c6 => ?_)
    refine J.aload_n dX0_takeNew_9 rfl rfl ?_
    refine J.getfield dX0_takeNew_10 jFX0_9 rfl rfl ?_
    refine J.iload dX0_takeNew_13 rfl ?_
    refine J.iload_n dX0_takeNew_15 rfl rfl ?_
    refine J.iastoreN dX0_takeNew_16 rfl hiN ?_
    rw [upd_nI]
    dsimp only [List.set]
    refine J.aload_n dX0_takeNew_17 rfl rfl ?_
    refine J.getfield dX0_takeNew_18 jFX0_15 rfl rfl ?_
    refine J.iload dX0_takeNew_21 rfl ?_
    refine J.iconst (0) dX0_takeNew_23 (by decide) ?_
    refine J.iastoreN dX0_takeNew_24 rfl hiN ?_
    rw [show (0 : Int32) = nI 0 from rfl, upd_nI]
    dsimp only [List.set]
    refine J.iinc (1) dX0_takeNew_25 (by decide) rfl (by decide) rfl ?_
    dsimp only [List.set]
    refine J.goto (tgt := 3) dX0_takeNew_28 (by decide) ?_
    refine J.at (ih (i + 1) (by omega)) (by rw [← nI_1]) rfl ?_
    simp only [jlt_e (fun j => k) (fun j => q 0 j), jlt_e (fun j => 0) (fun j => q 1 j)]
set_option maxRecDepth 100000 in
set_option maxHeartbeats 4000000 in
theorem mX0_takeNew (q : rT) (x : Nat → Nat) (n : Nat → Int64) (u : uT) (k m l : Nat) (hm : m < 4) : J KX0_takeNew 9 (fun o B => o = none ∧ B = wO (onew q k m l) (one (2 ^ m - 1)) n u) 0 [some (.ref 0), some (.int (nI k)), some (.int (nI m)), some (.int (nI l)), none] [] (wO q x n u) 0 0 := by
  unfold wO
  refine J.iconst (0) dX0_takeNew_0 (by decide) ?_
  refine J.istore dX0_takeNew_1 (by decide) rfl ?_
  dsimp only [List.set]
  exact J.at (mX0_takeNew_l q x n u k m l hm 3 0 (by omega)) rfl rfl (by simp only [Nat.not_lt_zero, if_false])
def orenew (q : rT) (i : Nat) : rT := rset (rset q 1 i 0) 6 0 (q 6 0 ||| 2 ^ i)
theorem ws_lt : ∀ w, w < 8 → ∀ i, i < 3 → w ||| 2 ^ i < 8 := by decide +kernel
set_option maxRecDepth 100000 in
set_option maxHeartbeats 4000000 in
theorem mX0_renew (q : rT) (x : Nat → Nat) (n : Nat → Int64) (u : uT) (i : Nat) (hi : i < 3) (hw : q 6 0 < 8) : J KX0_renew 9 (fun o B => o = none ∧ B = wO (orenew q i) (one (q 6 0 ||| 2 ^ i)) n u) 0 [some (.ref 0), some (.int (nI i))] [] (wO q x n u) 0 0 := by
  refine J.iload_n dX0_renew_0 rfl rfl ?_
  refine J.iconst (0) dX0_renew_1 (by decide) ?_
  refine J.iconst (2) dX0_renew_2 (by decide) ?_
  refine J.cs (as := [.int _, .int _, .int _]) (is := []) okX6_within jcX0_53 (mX6_within _ _ _) dX0_renew_3 rfl rfl rfl rfl rfl rfl (fun r9 B9 hq => ?_)
  obtain ⟨rfl, rfl⟩ := hq
  refine ⟨rfl, ?_⟩
  show J _ _ _ _ _ (.int _ :: _) (wO q x n u) _ _
  refine J.if_eq (tgt := 28) dX0_renew_6 (by decide) (fun c6 => absurd c6 (fun h => (jB_0 _).mp h ⟨nI_pos' (show i < 2 ^ 31 by omega), (nI_lei (b := 2) (by omega) (by decide)).mpr (by omega)⟩)) (fun c6 => ?_)
  refine J.aload_n dX0_renew_9 rfl rfl ?_
  refine J.getfield dX0_renew_10 jFX0_15 rfl rfl ?_
  refine J.iload_n dX0_renew_13 rfl rfl ?_
  refine J.iconst (0) dX0_renew_14 (by decide) ?_
  unfold wO
  refine J.iastoreN dX0_renew_15 rfl hi ?_
  rw [show (0 : Int32) = nI 0 from rfl, upd_nI]
  dsimp only [List.set]
  refine J.aload_n dX0_renew_16 rfl rfl ?_
  refine J.aload_n dX0_renew_17 rfl rfl ?_
  refine J.getfield dX0_renew_18 jFX0_57 rfl rfl ?_
  refine J.iconst (1) dX0_renew_21 (by decide) ?_
  refine J.iload_n dX0_renew_22 rfl rfl ?_
  refine J.ishl dX0_renew_23 ?_
  refine J.ior dX0_renew_24 ?_
  rw [ws_eval _ hw _ hi]
  refine J.cv (as := [.int _]) (is := [0, 1, 2, 3, 4, 5, 6, 7, 8]) (o := 0) okX0_begin jcX0_49 (mX0_begin (rset q 1 i 0) x n u (q 6 0 ||| 2 ^ i) (ws_lt _ hw _ hi)) dX0_renew_25 rfl rfl rfl rfl rfl rfl rfl (fun r9 B9 hq => ?_)
  obtain ⟨rfl, rfl⟩ := hq
  refine ⟨rfl, ?_⟩
  show J _ _ _ _ _ _ (wO (orenew q i) (one (q 6 0 ||| 2 ^ i)) n u) _ _
  exact J.vret dX0_renew_28 rfl (Nat.le_refl _) (Nat.le_refl _) ⟨rfl, rfl⟩
def oOK (q : rT) : Prop := (∀ i, q 0 i ≤ 4) ∧ (∀ i, q 1 i ≤ 9) ∧ q 6 1 ≤ 9 ∧ q 6 0 < 8
/-- what each HAIR breaks by, behind t HOURS, s being WHOLE -/
def ten (q : rT) (s t : Nat) (i : Nat) : Nat := brk (q 0 i) (min 9 (q 1 i + t)) (q 6 1) (pc3 s)
theorem ten_le (q : rT) (s t i : Nat) : ten q s t i ≤ 10 := brk_le _ _ _ _
set_option maxRecDepth 100000 in
set_option maxHeartbeats 4000000 in
theorem mX0_weigh_l (q : rT) (x : Nat → Nat) (n : Nat → Int64) (u : uT) (s t : Nat) (hq : oOK q) (hs : s < 8) (ht : t < 100) : ∀ (k9 i : Nat), i + k9 = 3 → J KX0_weigh 9 (fun o B => o = none ∧ B = wO (rrow q 2 (ten q s t)) x n u) 8 [some (.ref 0), some (.int (nI s)), some (.int (nI t)), some (.int (nI (pc3 s))), some (.int (nI i))] [] [.inr (0, [.ref 1, .ref 2, .ref 3, .int (nI (q 6 0)), .int (nI (q 6 1)), .ref 4, .ref 5, .ref 6, .ref 7, .ref 8, .long (u 3 0), .long (u 3 1)]), .inl (0, 3, .inl (fun j => nI (q 0 j))), .inl (0, 3, .inl (fun j => nI (q 1 j))), .inl (0, 3, .inl (fun j => nI (if j < i then ten q s t j else q 2 j))), .inl (1, 8, .inr (.inl (fun j => lN (x j)))), .inl (1, 8, .inr (.inl (n))), .inl (1, 8, .inr (.inl (u 0))), .inl (1, 8, .inr (.inl (u 1))), .inl (1, 6, .inr (.inl (u 2)))] 0 0 := by
  intro k9
  induction k9 with
  | zero =>
    intro i hi
    obtain hiN : i = 3 := by omega
    subst hiN
    refine J.iload dX0_weigh_8 rfl ?_
    refine J.iconst (3) dX0_weigh_10 (by decide) ?_
    refine J.icmp_ge (tgt := 56) dX0_weigh_11 (by decide) (fun c11 => ?_) (fun c11 => absurd c11 (fun h => h (by decide)))
    refine J.arrI 3 0 (fun j => nI (ten q s t j)) rfl (fun j hj => by rw [if_pos hj]) ?_
    exact J.vret dX0_weigh_56 rfl (Nat.le_refl _) (Nat.le_refl _) ⟨rfl, rfl⟩
  | succ k9 ih =>
    intro i hi
    have hiN : i < 3 := by omega
    refine J.iload dX0_weigh_8 rfl ?_
    refine J.iconst (3) dX0_weigh_10 (by decide) ?_
    refine J.icmp_ge (tgt := 56) dX0_weigh_11 (by decide) (fun c11 => absurd c11 (nI_ge (b := 3) hiN (by decide))) (fun c11 => ?_)
    refine J.aload_n dX0_weigh_14 rfl rfl ?_
    refine J.getfield dX0_weigh_15 jFX0_18 rfl rfl ?_
    refine J.iload dX0_weigh_18 rfl ?_
    refine J.aload_n dX0_weigh_20 rfl rfl ?_
    refine J.getfield dX0_weigh_21 jFX0_9 rfl rfl ?_
    refine J.iload dX0_weigh_24 rfl ?_
    refine J.ialoadN dX0_weigh_26 rfl hiN ?_
    refine J.bipush (9) dX0_weigh_27 (by decide) ?_
    refine J.aload_n dX0_weigh_29 rfl rfl ?_
    refine J.getfield dX0_weigh_30 jFX0_15 rfl rfl ?_
    refine J.iload dX0_weigh_33 rfl ?_
    refine J.ialoadN dX0_weigh_35 rfl hiN ?_
    refine J.iload_n dX0_weigh_36 rfl rfl ?_
    refine J.iadd dX0_weigh_37 ?_
    refine J.mmin dX0_weigh_38 (jt 557 rfl rfl) rfl ?_
    rw [nI_add, show (9 : Int32) = nI 9 from rfl, nI_min (by decide) (by have := hq.2.1 i; omega)]
    refine J.aload_n dX0_weigh_41 rfl rfl ?_
    refine J.getfield dX0_weigh_42 jFX0_45 rfl rfl ?_
    refine J.iload_n dX0_weigh_45 rfl rfl ?_
    refine J.cs (as := [.int _, .int _, .int _, .int _]) (is := []) okX6_breaksOf jcX0_81 (mX6_breaksOf (q 0 i) (min 9 (q 1 i + t)) (q 6 1) (pc3 s) (by have := hq.1 i; omega) (by omega) (by have := hq.2.2.1; omega) (by have := pc3_le s; omega)) dX0_weigh_46 rfl rfl rfl rfl rfl rfl (fun r9 B9 hq => ?_)
    obtain ⟨rfl, rfl⟩ := hq
    refine ⟨rfl, ?_⟩
    show J _ _ _ _ _ (.int _ :: _) [.inr (0, [.ref 1, .ref 2, .ref 3, .int (nI (q 6 0)), .int (nI (q 6 1)), .ref 4, .ref 5, .ref 6, .ref 7, .ref 8, .long (u 3 0), .long (u 3 1)]), .inl (0, 3, .inl (fun j => nI (q 0 j))), .inl (0, 3, .inl (fun j => nI (q 1 j))), .inl (0, 3, .inl (fun j => nI (if j < i then ten q s t j else q 2 j))), .inl (1, 8, .inr (.inl (fun j => lN (x j)))), .inl (1, 8, .inr (.inl (n))), .inl (1, 8, .inr (.inl (u 0))), .inl (1, 8, .inr (.inl (u 1))), .inl (1, 6, .inr (.inl (u 2)))] _ _
    refine J.iastoreN dX0_weigh_49 rfl hiN ?_
    rw [show nI (brk (q 0 i) (min 9 (q 1 i + t)) (q 6 1) (pc3 s)) = nI (ten q s t i) from rfl, upd_nI]
    dsimp only [List.set]
    refine J.iinc (1) dX0_weigh_50 (by decide) rfl (by decide) rfl ?_
    dsimp only [List.set]
    refine J.goto (tgt := 8) dX0_weigh_53 (by decide) ?_
    refine J.at (ih (i + 1) (by omega)) (by rw [← nI_1]) rfl ?_
    simp only [jlt_e (fun j => ten q s t j) (fun j => q 2 j)]
set_option maxRecDepth 100000 in
set_option maxHeartbeats 4000000 in
theorem mX0_weigh (q : rT) (x : Nat → Nat) (n : Nat → Int64) (u : uT) (s t : Nat) (hq : oOK q) (hs : s < 8) (ht : t < 100) : J KX0_weigh 9 (fun o B => o = none ∧ B = wO (rrow q 2 (ten q s t)) x n u) 0 [some (.ref 0), some (.int (nI s)), some (.int (nI t)), none, none] [] (wO q x n u) 0 0 := by
  refine J.iload_n dX0_weigh_0 rfl rfl ?_
  refine J.cs (as := [.int _]) (is := []) okJ6_bitCount_0f7a4 jcX0_69 (mJ6_bitCount_0f7a4 _ hs) dX0_weigh_1 rfl rfl rfl rfl rfl rfl (fun r9 B9 hq => ?_)
  obtain ⟨rfl, rfl⟩ := hq
  refine ⟨rfl, ?_⟩
  show J _ _ _ _ _ (.int _ :: _) (wO q x n u) _ _
  refine J.istore_n dX0_weigh_4 rfl (by decide) rfl ?_
  dsimp only [List.set]
  refine J.iconst (0) dX0_weigh_5 (by decide) ?_
  refine J.istore dX0_weigh_6 (by decide) rfl ?_
  dsimp only [List.set]
  exact J.at (mX0_weigh_l q x n u s t hq hs ht 3 0 (by omega)) rfl rfl (by simp only [Nat.not_lt_zero, if_false]; rfl)
/-- the part of a thousand by which of s just r are left, each HAIR breaking by t tenths -/
def fac (t : Nat → Nat) (s r i : Nat) : Nat := if bit s i = 0 then 10 else if bit r i = 0 then t i else 10 - t i
def pw (t : Nat → Nat) (s r : Nat) : Nat → Nat
  | 0 => 1
  | i + 1 => pw t s r i * fac t s r i
def wtn (t : Nat → Nat) (s r : Nat) : Nat := if r &&& (7 - s) = 0 then pw t s r 3 else 0
theorem sub_eval : ∀ s, s < 8 → ∀ r, r < 8 → nI r &&& (nI s ^^^ -1) = nI (r &&& (7 - s)) := by decide +kernel
theorem pw_a {t : Nat → Nat} {s r i : Nat} (h : nI (bit s i) = 0) : lN (pw t s r i) * 10 = lN (pw t s r (i + 1)) := by
  have h1 : bit s i = 0 := (nI_eqi (b := 0) (by have := bit_le s i; omega) (by decide)).mp h
  rw [pw, fac, if_pos h1, ← lN_mul]
  rfl
theorem pw_b {t : Nat → Nat} {s r i : Nat} (ht : t i ≤ 10) (h : ¬ nI (bit s i) = 0) (h2 : nI (bit r i) = 0) : lN (pw t s r i) * (nI (t i)).toInt64 = lN (pw t s r (i + 1)) := by
  have h1 : ¬ bit s i = 0 := fun e => h (by rw [e]; rfl)
  have h3 : bit r i = 0 := (nI_eqi (b := 0) (by have := bit_le r i; omega) (by decide)).mp h2
  rw [pw, fac, if_neg h1, if_pos h3, ← lN_mul, nI_l (by omega)]
theorem pw_c {t : Nat → Nat} {s r i : Nat} (ht : t i ≤ 10) (h : ¬ nI (bit s i) = 0) (h2 : ¬ nI (bit r i) = 0) : lN (pw t s r i) * (10 - nI (t i)).toInt64 = lN (pw t s r (i + 1)) := by
  have h1 : ¬ bit s i = 0 := fun e => h (by rw [e]; rfl)
  have h3 : ¬ bit r i = 0 := fun e => h2 (by rw [e]; rfl)
  rw [pw, fac, if_neg h1, if_neg h3, ← lN_mul, show (10 : Int32) = nI 10 from rfl, pk_sub ht, nI_l (by omega)]
set_option maxRecDepth 100000 in
set_option maxHeartbeats 4000000 in
theorem mX0_weight_l (q : rT) (x : Nat → Nat) (n : Nat → Int64) (u : uT) (s r : Nat) (hs : s < 8) (hr : r < 8) (ht : ∀ i, q 2 i ≤ 10) (h0 : r &&& (7 - s) = 0) : ∀ (k9 i : Nat), i + k9 = 3 → J KX0_weight 9 (fun o B => o = some (.long (lN (wtn (q 2) s r))) ∧ B = wO q x n u) 15 [some (.ref 0), some (.int (nI s)), some (.int (nI r)), some (.long (lN (pw (q 2) s r i))), none, some (.int (nI i))] [] (wO q x n u) 0 0 := by
  intro k9
  induction k9 with
  | zero =>
    intro i hi
    obtain hiN : i = 3 := by omega
    subst hiN
    refine J.iload dX0_weight_15 rfl ?_
    refine J.iconst (3) dX0_weight_17 (by decide) ?_
    refine J.icmp_ge (tgt := 79) dX0_weight_18 (by decide) (fun c18 => ?_) (fun c18 => absurd c18 (fun h => h (by decide)))
    refine J.lload_n dX0_weight_79 rfl rfl ?_
    exact J.lret dX0_weight_80 rfl (Nat.le_refl _) (Nat.le_refl _) ⟨by rw [wtn, if_pos h0], rfl⟩
  | succ k9 ih =>
    intro i hi
    have hiN : i < 3 := by omega
    refine J.iload dX0_weight_15 rfl ?_
    refine J.iconst (3) dX0_weight_17 (by decide) ?_
    refine J.icmp_ge (tgt := 79) dX0_weight_18 (by decide) (fun c18 => absurd c18 (nI_ge (b := 3) hiN (by decide))) (fun c18 => ?_)
    refine J.iload_n dX0_weight_21 rfl rfl ?_
    refine J.iload dX0_weight_22 rfl ?_
    refine J.ishr dX0_weight_24 ?_
    refine J.iconst (1) dX0_weight_25 (by decide) ?_
    refine J.iand dX0_weight_26 ?_
    rw [bit_eval _ hs _ hiN]
    refine J.if_ne (tgt := 39) dX0_weight_27 (by decide) (fun c27 => ?_) (fun c27 => ?_)
    · refine J.lload_n dX0_weight_39 rfl rfl ?_
      refine J.iload_n dX0_weight_40 rfl rfl ?_
      refine J.iload dX0_weight_41 rfl ?_
      refine J.ishr dX0_weight_43 ?_
      refine J.iconst (1) dX0_weight_44 (by decide) ?_
      refine J.iand dX0_weight_45 ?_
      rw [bit_eval _ hr _ hiN]
      refine J.if_ne (tgt := 60) dX0_weight_46 (by decide) (fun c46 => ?_) (fun c46 => ?_)
      · refine J.bipush (10) dX0_weight_60 (by decide) ?_
        refine J.aload_n dX0_weight_62 rfl rfl ?_
        refine J.getfield dX0_weight_63 jFX0_18 rfl rfl ?_
        refine J.iload dX0_weight_66 rfl ?_
        refine J.ialoadN dX0_weight_68 rfl hiN ?_
        refine J.isub dX0_weight_69 ?_
        refine J.i2l dX0_weight_70 ?_
        refine J.lmul dX0_weight_71 ?_
        refine J.lstore_n dX0_weight_72 rfl (by decide) rfl ?_
        dsimp only [List.set]
        refine J.iinc (1) dX0_weight_73 (by decide) rfl (by decide) rfl ?_
        dsimp only [List.set]
        refine J.goto (tgt := 15) dX0_weight_76 (by decide) ?_
        refine J.at (ih (i + 1) (by omega)) ?_ rfl rfl
        rw [← nI_1]
        first | rw [pw_a c27] | rw [pw_b (ht i) c27 c46] | rw [pw_c (ht i) c27 c46]
      · refine J.aload_n dX0_weight_49 rfl rfl ?_
        refine J.getfield dX0_weight_50 jFX0_18 rfl rfl ?_
        refine J.iload dX0_weight_53 rfl ?_
        refine J.ialoadN dX0_weight_55 rfl hiN ?_
        refine J.i2l dX0_weight_56 ?_
        refine J.goto (tgt := 71) dX0_weight_57 (by decide) ?_
        refine J.lmul dX0_weight_71 ?_
        refine J.lstore_n dX0_weight_72 rfl (by decide) rfl ?_
        dsimp only [List.set]
        refine J.iinc (1) dX0_weight_73 (by decide) rfl (by decide) rfl ?_
        dsimp only [List.set]
        refine J.goto (tgt := 15) dX0_weight_76 (by decide) ?_
        refine J.at (ih (i + 1) (by omega)) ?_ rfl rfl
        rw [← nI_1]
        first | rw [pw_a c27] | rw [pw_b (ht i) c27 c46] | rw [pw_c (ht i) c27 c46]
    · refine J.lload_n dX0_weight_30 rfl rfl ?_
      refine J.ldc2 (v := 10) dX0_weight_31 (jt 563 rfl rfl) ?_
      refine J.lmul dX0_weight_34 ?_
      refine J.lstore_n dX0_weight_35 rfl (by decide) rfl ?_
      dsimp only [List.set]
      refine J.goto (tgt := 73) dX0_weight_36 (by decide) ?_
      refine J.iinc (1) dX0_weight_73 (by decide) rfl (by decide) rfl ?_
      dsimp only [List.set]
      refine J.goto (tgt := 15) dX0_weight_76 (by decide) ?_
      refine J.at (ih (i + 1) (by omega)) ?_ rfl rfl
      rw [← nI_1]
      first | rw [pw_a c27] | rw [pw_b (ht i) c27 c46] | rw [pw_c (ht i) c27 c46]
set_option maxRecDepth 100000 in
set_option maxHeartbeats 4000000 in
theorem mX0_weight (q : rT) (x : Nat → Nat) (n : Nat → Int64) (u : uT) (s r : Nat) (hs : s < 8) (hr : r < 8) (ht : ∀ i, q 2 i ≤ 10) : J KX0_weight 9 (fun o B => o = some (.long (lN (wtn (q 2) s r))) ∧ B = wO q x n u) 0 [some (.ref 0), some (.int (nI s)), some (.int (nI r)), none, none, none] [] (wO q x n u) 0 0 := by
  refine J.iload_n dX0_weight_0 rfl rfl ?_
  refine J.iload_n dX0_weight_1 rfl rfl ?_
  refine J.iconst (-1) dX0_weight_2 (by decide) ?_
  refine J.ixor dX0_weight_3 ?_
  refine J.iand dX0_weight_4 ?_
  rw [sub_eval _ hs _ hr]
  refine J.if_eq (tgt := 10) dX0_weight_5 (by decide) (fun c5 => ?_) (fun c5 => ?_)
  · refine J.lconst 1 dX0_weight_10 (by decide) ?_
    refine J.lstore_n dX0_weight_11 rfl (by decide) rfl ?_
    dsimp only [List.set]
    refine J.iconst (0) dX0_weight_12 (by decide) ?_
    refine J.istore dX0_weight_13 (by decide) rfl ?_
    dsimp only [List.set]
    exact mX0_weight_l q x n u s r hs hr ht ((nI_eqi (b := 0) (by have : r &&& (7 - s) ≤ r := Nat.and_le_left; omega) (by decide)).mp c5) 3 0 (by omega)
  · refine J.lconst 0 dX0_weight_8 (by decide) ?_
    exact J.lret dX0_weight_9 rfl (Nat.le_refl _) (Nat.le_refl _) ⟨by rw [wtn, if_neg (fun h => c5 (by rw [h]; rfl))]; rfl, rfl⟩
