theorem wo_eval : ∀ w, w < 8 → ∀ b, b < 8 → nI w &&& (nI b ^^^ -1) = nI (w &&& (7 - b)) := by decide +kernel
theorem wo_le {w b : Nat} : w &&& (7 - b) ≤ w := Nat.and_le_left
theorem wo_7 {w b : Nat} : w &&& (7 - b) < 8 := by
  have : w &&& (7 - b) ≤ 7 - b := Nat.and_le_right
  omega
/-- what of a realm an HOUR leaves in which b breaks -/
def rpass (r : rT) (b : Nat) : rT := fun x => if x = 6 then (fun j => match j with
  | 3 => r 6 3 &&& (7 - b)
  | 6 => r 6 6 + 1
  | j => r 6 j) else if x = 1 then (fun j => if j < r 6 0 then min 9 (r 1 j + 1) else r 1 j) else r x
def rages (r : rT) : Nat → Nat
  | 0 => 0
  | n + 1 => rages r n + r 1 n
theorem rages_le {r : rT} (h : ∀ i, r 1 i ≤ 9) : ∀ n, rages r n ≤ 9 * n
  | 0 => Nat.le_refl _
  | n + 1 => by have := rages_le h n; have := h n; simp only [rages]; omega
/-- BREAKS of a HAIR that there is -/
def rbrk (r : rT) (i : Nat) : Nat := if bit (r 6 3) i = 0 then 0 else brk (r 0 i) (r 1 i) (r 6 4) (pc3 (r 6 3))
set_option maxRecDepth 100000 in
set_option maxHeartbeats 4000000 in
theorem mX2_breaks (r : rT) (i : Nat) (hr : rOK r) (hi : i < 3) : J KX2_breaks 7 (fun o B => o = some (.int (nI (rbrk r i))) ∧ B = wR r) 0 [some (.ref 0), some (.int (nI i))] [] (wR r) 0 0 := by
  refine J.aload_n dX2_breaks_0 rfl rfl ?_
  refine J.iload_n dX2_breaks_1 rfl rfl ?_
  refine J.cv (as := [.int _]) (is := [0, 1, 2, 3, 4, 5, 6]) (o := 0) okX2_wholeBit jcX2_59 (mX2_wholeBit r i hr.w hi) dX2_breaks_2 rfl rfl rfl rfl rfl rfl rfl (fun r9 B9 hq => ?_)
  obtain ⟨rfl, rfl⟩ := hq
  refine ⟨rfl, ?_⟩
  show J _ _ _ _ _ (.int _ :: _) (wR r) _ _
  refine J.if_ne (tgt := 10) dX2_breaks_5 (by decide) (fun c5 => ?_) (fun c5 => ?_)
  · refine J.aload_n dX2_breaks_10 rfl rfl ?_
    refine J.getfield dX2_breaks_11 jFX2_9 rfl rfl ?_
    refine J.iload_n dX2_breaks_14 rfl rfl ?_
    refine J.ialoadN dX2_breaks_15 rfl hi ?_
    refine J.aload_n dX2_breaks_16 rfl rfl ?_
    refine J.getfield dX2_breaks_17 jFX2_15 rfl rfl ?_
    refine J.iload_n dX2_breaks_20 rfl rfl ?_
    refine J.ialoadN dX2_breaks_21 rfl hi ?_
    refine J.aload_n dX2_breaks_22 rfl rfl ?_
    refine J.getfield dX2_breaks_23 jFX2_46 rfl rfl ?_
    refine J.aload_n dX2_breaks_26 rfl rfl ?_
    refine J.getfield dX2_breaks_27 jFX2_43 rfl rfl ?_
    refine J.cs (as := [.int _]) (is := []) okJ6_bitCount_0f7a4 jcX2_63 (mJ6_bitCount_0f7a4 _ hr.w) dX2_breaks_30 rfl rfl rfl rfl rfl rfl (fun r9 B9 hq => ?_)
    obtain ⟨rfl, rfl⟩ := hq
    refine ⟨rfl, ?_⟩
    show J _ _ _ _ _ (.int _ :: _) (wR r) _ _
    refine J.cs (as := [.int _, .int _, .int _, .int _]) (is := []) okX6_breaksOf jcX2_68 (mX6_breaksOf (r 0 i) (r 1 i) (r 6 4) (pc3 (r 6 3)) (by have := hr.2.2.2.2.2.2.2.2.1 i; omega) (by have := hr.2.2.2.2.2.2.2.2.2.1 i; omega) (by have := hr.2.2.2.2.2.1; omega) (by have := pc3_le (r 6 3); omega)) dX2_breaks_33 rfl rfl rfl rfl rfl rfl (fun r9 B9 hq => ?_)
    obtain ⟨rfl, rfl⟩ := hq
    refine ⟨rfl, ?_⟩
    show J _ _ _ _ _ (.int _ :: _) (wR r) _ _
    exact J.iret dX2_breaks_36 rfl rfl (Nat.le_refl _) (Nat.le_refl _) ⟨congrArg (fun x => some (Value.int x)) (by rw [rbrk, if_neg (fun h => c5 (by rw [h]; rfl))]), rfl⟩
  · refine J.iconst (0) dX2_breaks_8 (by decide) ?_
    exact J.iret dX2_breaks_9 rfl rfl (Nat.le_refl _) (Nat.le_refl _) ⟨congrArg (fun x => some (Value.int x)) (by rw [rbrk, if_pos ((nI_eqi (b := 0) (by have := bit_le (r 6 3) i; omega) (by decide)).mp c5)]; rfl), rfl⟩
set_option maxRecDepth 100000 in
set_option maxHeartbeats 4000000 in
theorem mX2_passHour_l (r : rT) (b : Nat) (h3 : r 6 0 ≤ 3) (h9 : ∀ i, r 1 i ≤ 9) : ∀ (k9 i : Nat), i + k9 = r 6 0 → J KX2_passHour 7 (fun o B => o = none ∧ B = wR (rpass r b)) 14 [some (.ref 0), some (.int (nI b)), some (.int (nI i))] [] [.inr (2, [.ref 1, .ref 2, .ref 3, .ref 4, .ref 5, .ref 6, .int (nI (r 6 0)), .int (nI (r 6 1)), .int (nI (r 6 2)), .int (nI (r 6 3 &&& (7 - b))), .int (nI (r 6 4)), .int (nI (r 6 5)), .int (nI (r 6 6))]), .inl (0, 3, .inl (fun j => nI (r 0 j))), .inl (0, 3, .inl (fun j => nI (if j < i then min 9 (r 1 j + 1) else r 1 j))), .inl (0, 4, .inl (fun j => nI (r 2 j))), .inl (0, 4, .inl (fun j => nI (r 3 j))), .inl (0, 3, .inl (fun j => nI (r 4 j))), .inl (0, 3, .inl (fun j => nI (r 5 j)))] 0 0 := by
  intro k9
  induction k9 with
  | zero =>
    intro i hi
    obtain hiN : i = r 6 0 := by omega
    subst hiN
    refine J.iload_n dX2_passHour_14 rfl rfl ?_
    refine J.aload_n dX2_passHour_15 rfl rfl ?_
    refine J.getfield dX2_passHour_16 jFX2_33 rfl rfl ?_
    refine J.icmp_ge (tgt := 47) dX2_passHour_19 (by decide) (fun c19 => ?_) (fun c19 => absurd c19 (fun h => h (Int32.le_refl _)))
    refine J.aload_n dX2_passHour_47 rfl rfl ?_
    refine J.dup dX2_passHour_48 rfl ?_
    refine J.getfield dX2_passHour_49 jFX2_52 rfl rfl ?_
    refine J.iconst (1) dX2_passHour_52 (by decide) ?_
    refine J.iadd dX2_passHour_53 ?_
    rw [nI_1]
    refine J.putfield dX2_passHour_54 jFX2_52 jP2_12 rfl rfl rfl (Nat.le_of_ble_eq_true rfl) ?_
    dsimp only [List.set]
    exact J.vret dX2_passHour_57 rfl (Nat.le_refl _) (Nat.le_refl _) ⟨rfl, rfl⟩
  | succ k9 ih =>
    intro i hi
    have hiN : i < r 6 0 := by omega
    refine J.iload_n dX2_passHour_14 rfl rfl ?_
    refine J.aload_n dX2_passHour_15 rfl rfl ?_
    refine J.getfield dX2_passHour_16 jFX2_33 rfl rfl ?_
    refine J.icmp_ge (tgt := 47) dX2_passHour_19 (by decide) (fun c19 => absurd c19 (nI_ge hiN (by omega))) (fun c19 => ?_)
    refine J.aload_n dX2_passHour_22 rfl rfl ?_
    refine J.getfield dX2_passHour_23 jFX2_15 rfl rfl ?_
    refine J.iload_n dX2_passHour_26 rfl rfl ?_
    refine J.bipush (9) dX2_passHour_27 (by decide) ?_
    refine J.aload_n dX2_passHour_29 rfl rfl ?_
    refine J.getfield dX2_passHour_30 jFX2_15 rfl rfl ?_
    refine J.iload_n dX2_passHour_33 rfl rfl ?_
    refine J.ialoadN dX2_passHour_34 rfl (show i < 3 by omega) ?_
    rw [if_neg (Nat.lt_irrefl i)]
    refine J.iconst (1) dX2_passHour_35 (by decide) ?_
    refine J.iadd dX2_passHour_36 ?_
    refine J.mmin dX2_passHour_37 (jt 519 rfl rfl) rfl ?_
    rw [nI_1, show (9 : Int32) = nI 9 from rfl, nI_min (by decide) (by have := h9 i; omega)]
    refine J.iastoreN dX2_passHour_40 rfl (show i < 3 by omega) ?_
    rw [upd_nI]
    dsimp only [List.set]
    refine J.iinc (1) dX2_passHour_41 (by decide) rfl (by decide) rfl ?_
    dsimp only [List.set]
    refine J.goto (tgt := 14) dX2_passHour_44 (by decide) ?_
    refine J.at (ih (i + 1) (by omega)) (by rw [← nI_1]) rfl ?_
    simp only [jlt_e (fun j => min 9 (r 1 j + 1)) (fun j => r 1 j)]
set_option maxRecDepth 100000 in
set_option maxHeartbeats 4000000 in
theorem mX2_passHour (r : rT) (b : Nat) (h3 : r 6 0 ≤ 3) (h9 : ∀ i, r 1 i ≤ 9) (hw : r 6 3 < 8) (hb : b < 8) : J KX2_passHour 7 (fun o B => o = none ∧ B = wR (rpass r b)) 0 [some (.ref 0), some (.int (nI b)), none] [] (wR r) 0 0 := by
  unfold wR
  refine J.aload_n dX2_passHour_0 rfl rfl ?_
  refine J.dup dX2_passHour_1 rfl ?_
  refine J.getfield dX2_passHour_2 jFX2_43 rfl rfl ?_
  refine J.iload_n dX2_passHour_5 rfl rfl ?_
  refine J.iconst (-1) dX2_passHour_6 (by decide) ?_
  refine J.ixor dX2_passHour_7 ?_
  refine J.iand dX2_passHour_8 ?_
  rw [wo_eval _ hw _ hb]
  refine J.putfield dX2_passHour_9 jFX2_43 jP2_9 rfl rfl rfl (Nat.le_of_ble_eq_true rfl) ?_
  dsimp only [List.set]
  refine J.iconst (0) dX2_passHour_12 (by decide) ?_
  refine J.istore_n dX2_passHour_13 rfl (by decide) rfl ?_
  dsimp only [List.set]
  exact J.at (mX2_passHour_l r b h3 h9 (r 6 0) 0 (by omega)) rfl rfl (by simp only [Nat.not_lt_zero, if_false])
set_option maxRecDepth 100000 in
set_option maxHeartbeats 4000000 in
theorem mX2_allAges_l (r : rT) (h3 : r 6 0 ≤ 3) : ∀ (k9 i : Nat), i + k9 = r 6 0 → J KX2_allAges 7 (fun o B => o = some (.int (nI (rages r (r 6 0)))) ∧ B = wR r) 4 [some (.ref 0), some (.int (nI (rages r i))), some (.int (nI i))] [] (wR r) 0 0 := by
  intro k9
  induction k9 with
  | zero =>
    intro i hi
    obtain hiN : i = r 6 0 := by omega
    subst hiN
    refine J.iload_n dX2_allAges_4 rfl rfl ?_
    refine J.aload_n dX2_allAges_5 rfl rfl ?_
    refine J.getfield dX2_allAges_6 jFX2_33 rfl rfl ?_
    refine J.icmp_ge (tgt := 27) dX2_allAges_9 (by decide) (fun c9 => ?_) (fun c9 => absurd c9 (fun h => h (Int32.le_refl _)))
    refine J.iload_n dX2_allAges_27 rfl rfl ?_
    exact J.iret dX2_allAges_28 rfl rfl (Nat.le_refl _) (Nat.le_refl _) ⟨rfl, rfl⟩
  | succ k9 ih =>
    intro i hi
    have hiN : i < r 6 0 := by omega
    refine J.iload_n dX2_allAges_4 rfl rfl ?_
    refine J.aload_n dX2_allAges_5 rfl rfl ?_
    refine J.getfield dX2_allAges_6 jFX2_33 rfl rfl ?_
    refine J.icmp_ge (tgt := 27) dX2_allAges_9 (by decide) (fun c9 => absurd c9 (nI_ge hiN (by omega))) (fun c9 => ?_)
    refine J.iload_n dX2_allAges_12 rfl rfl ?_
    refine J.aload_n dX2_allAges_13 rfl rfl ?_
    refine J.getfield dX2_allAges_14 jFX2_15 rfl rfl ?_
    refine J.iload_n dX2_allAges_17 rfl rfl ?_
    refine J.ialoadN dX2_allAges_18 rfl (show i < 3 by omega) ?_
    refine J.iadd dX2_allAges_19 ?_
    refine J.istore_n dX2_allAges_20 rfl (by decide) rfl ?_
    dsimp only [List.set]
    refine J.iinc (1) dX2_allAges_21 (by decide) rfl (by decide) rfl ?_
    dsimp only [List.set]
    refine J.goto (tgt := 4) dX2_allAges_24 (by decide) ?_
    exact J.at (ih (i + 1) (by omega)) (by rw [← nI_1, rages, nI_add]) rfl rfl
set_option maxRecDepth 100000 in
set_option maxHeartbeats 4000000 in
theorem mX2_allAges (r : rT) (h3 : r 6 0 ≤ 3) : J KX2_allAges 7 (fun o B => o = some (.int (nI (rages r (r 6 0)))) ∧ B = wR r) 0 [some (.ref 0), none, none] [] (wR r) 0 0 := by
  refine J.iconst (0) dX2_allAges_0 (by decide) ?_
  refine J.istore_n dX2_allAges_1 rfl (by decide) rfl ?_
  dsimp only [List.set]
  refine J.iconst (0) dX2_allAges_2 (by decide) ?_
  refine J.istore_n dX2_allAges_3 rfl (by decide) rfl ?_
  dsimp only [List.set]
  exact mX2_allAges_l r h3 (r 6 0) 0 (by omega)
theorem ws_eval : ∀ w, w < 8 → ∀ i, i < 3 → nI w ||| 1 <<< (nI i &&& 31) = nI (w ||| 2 ^ i) := by decide +kernel
def raddH (r : rT) (k a : Nat) : rT := fun x => if x = 6 then (fun j => match j with
  | 0 => r 6 0 + 1
  | 3 => r 6 3 ||| 2 ^ r 6 0
  | j => r 6 j) else if x = 0 then (fun j => if j = r 6 0 then k else r 0 j) else if x = 1 then (fun j => if j = r 6 0 then a else r 1 j) else r x
def raddK (r : rT) (k a : Nat) : rT := fun x => if x = 6 then (fun j => match j with
  | 1 => r 6 1 + 1
  | j => r 6 j) else if x = 2 then (fun j => if j = r 6 1 then k else r 2 j) else if x = 3 then (fun j => if j = r 6 1 then a else r 3 j) else r x
def raddL (r : rT) (k a : Nat) : rT := fun x => if x = 6 then (fun j => match j with
  | 2 => r 6 2 + 1
  | j => r 6 j) else if x = 4 then (fun j => if j = r 6 2 then k else r 4 j) else if x = 5 then (fun j => if j = r 6 2 then a else r 5 j) else r x
set_option maxRecDepth 100000 in
set_option maxHeartbeats 4000000 in
theorem mX2_addHair (r : rT) (k a : Nat) (hc : r 6 0 < 3) (hw : r 6 3 < 8) : J KX2_addHair 7 (fun o B => o = some (.int 1) ∧ B = wR (raddH r k a)) 0 [some (.ref 0), some (.int (nI k)), some (.int (nI a))] [] (wR r) 0 0 := by
  unfold wR
  refine J.aload_n dX2_addHair_0 rfl rfl ?_
  refine J.getfield dX2_addHair_1 jFX2_33 rfl rfl ?_
  refine J.iconst (3) dX2_addHair_4 (by decide) ?_
  refine J.icmp_lt (tgt := 10) dX2_addHair_5 (by decide) (fun c5 => ?_) (fun c5 => absurd c5 (fun h => h ((nI_lti (b := 3) (by omega) (by decide)).mpr hc)))
  refine J.aload_n dX2_addHair_10 rfl rfl ?_
  refine J.getfield dX2_addHair_11 jFX2_9 rfl rfl ?_
  refine J.aload_n dX2_addHair_14 rfl rfl ?_
  refine J.getfield dX2_addHair_15 jFX2_33 rfl rfl ?_
  refine J.iload_n dX2_addHair_18 rfl rfl ?_
  refine J.iastoreN dX2_addHair_19 rfl hc ?_
  rw [upd_nI]
  dsimp only [List.set]
  refine J.aload_n dX2_addHair_20 rfl rfl ?_
  refine J.getfield dX2_addHair_21 jFX2_15 rfl rfl ?_
  refine J.aload_n dX2_addHair_24 rfl rfl ?_
  refine J.getfield dX2_addHair_25 jFX2_33 rfl rfl ?_
  refine J.iload_n dX2_addHair_28 rfl rfl ?_
  refine J.iastoreN dX2_addHair_29 rfl hc ?_
  rw [upd_nI]
  dsimp only [List.set]
  refine J.aload_n dX2_addHair_30 rfl rfl ?_
  refine J.dup dX2_addHair_31 rfl ?_
  refine J.getfield dX2_addHair_32 jFX2_43 rfl rfl ?_
  refine J.iconst (1) dX2_addHair_35 (by decide) ?_
  refine J.aload_n dX2_addHair_36 rfl rfl ?_
  refine J.getfield dX2_addHair_37 jFX2_33 rfl rfl ?_
  refine J.ishl dX2_addHair_40 ?_
  refine J.ior dX2_addHair_41 ?_
  rw [ws_eval _ hw _ hc]
  refine J.putfield dX2_addHair_42 jFX2_43 jP2_9 rfl rfl rfl (Nat.le_of_ble_eq_true rfl) ?_
  dsimp only [List.set]
  refine J.aload_n dX2_addHair_45 rfl rfl ?_
  refine J.dup dX2_addHair_46 rfl ?_
  refine J.getfield dX2_addHair_47 jFX2_33 rfl rfl ?_
  refine J.iconst (1) dX2_addHair_50 (by decide) ?_
  refine J.iadd dX2_addHair_51 ?_
  rw [nI_1]
  refine J.putfield dX2_addHair_52 jFX2_33 jP2_6 rfl rfl rfl (Nat.le_of_ble_eq_true rfl) ?_
  dsimp only [List.set]
  refine J.iconst (1) dX2_addHair_55 (by decide) ?_
  exact J.iret dX2_addHair_56 rfl (by decide) (Nat.le_refl _) (Nat.le_refl _) ⟨rfl, rfl⟩
set_option maxRecDepth 100000 in
set_option maxHeartbeats 4000000 in
theorem mX2_addKing (r : rT) (k a : Nat) (hc : r 6 1 < 4) : J KX2_addKing 7 (fun o B => o = some (.int 1) ∧ B = wR (raddK r k a)) 0 [some (.ref 0), some (.int (nI k)), some (.int (nI a))] [] (wR r) 0 0 := by
  unfold wR
  refine J.aload_n dX2_addKing_0 rfl rfl ?_
  refine J.getfield dX2_addKing_1 jFX2_37 rfl rfl ?_
  refine J.iconst (4) dX2_addKing_4 (by decide) ?_
  refine J.icmp_lt (tgt := 10) dX2_addKing_5 (by decide) (fun c5 => ?_) (fun c5 => absurd c5 (fun h => h ((nI_lti (b := 4) (by omega) (by decide)).mpr hc)))
  refine J.aload_n dX2_addKing_10 rfl rfl ?_
  refine J.getfield dX2_addKing_11 jFX2_18 rfl rfl ?_
  refine J.aload_n dX2_addKing_14 rfl rfl ?_
  refine J.getfield dX2_addKing_15 jFX2_37 rfl rfl ?_
  refine J.iload_n dX2_addKing_18 rfl rfl ?_
  refine J.iastoreN dX2_addKing_19 rfl hc ?_
  rw [upd_nI]
  dsimp only [List.set]
  refine J.aload_n dX2_addKing_20 rfl rfl ?_
  refine J.getfield dX2_addKing_21 jFX2_21 rfl rfl ?_
  refine J.aload_n dX2_addKing_24 rfl rfl ?_
  refine J.getfield dX2_addKing_25 jFX2_37 rfl rfl ?_
  refine J.iload_n dX2_addKing_28 rfl rfl ?_
  refine J.iastoreN dX2_addKing_29 rfl hc ?_
  rw [upd_nI]
  dsimp only [List.set]
  refine J.aload_n dX2_addKing_30 rfl rfl ?_
  refine J.dup dX2_addKing_31 rfl ?_
  refine J.getfield dX2_addKing_32 jFX2_37 rfl rfl ?_
  refine J.iconst (1) dX2_addKing_35 (by decide) ?_
  refine J.iadd dX2_addKing_36 ?_
  rw [nI_1]
  refine J.putfield dX2_addKing_37 jFX2_37 jP2_7 rfl rfl rfl (Nat.le_of_ble_eq_true rfl) ?_
  dsimp only [List.set]
  refine J.iconst (1) dX2_addKing_40 (by decide) ?_
  exact J.iret dX2_addKing_41 rfl (by decide) (Nat.le_refl _) (Nat.le_refl _) ⟨rfl, rfl⟩
set_option maxRecDepth 100000 in
set_option maxHeartbeats 4000000 in
theorem mX2_addLaw (r : rT) (k a : Nat) (hc : r 6 2 < 3) : J KX2_addLaw 7 (fun o B => o = some (.int 1) ∧ B = wR (raddL r k a)) 0 [some (.ref 0), some (.int (nI k)), some (.int (nI a))] [] (wR r) 0 0 := by
  unfold wR
  refine J.aload_n dX2_addLaw_0 rfl rfl ?_
  refine J.getfield dX2_addLaw_1 jFX2_40 rfl rfl ?_
  refine J.iconst (3) dX2_addLaw_4 (by decide) ?_
  refine J.icmp_lt (tgt := 10) dX2_addLaw_5 (by decide) (fun c5 => ?_) (fun c5 => absurd c5 (fun h => h ((nI_lti (b := 3) (by omega) (by decide)).mpr hc)))
  refine J.aload_n dX2_addLaw_10 rfl rfl ?_
  refine J.getfield dX2_addLaw_11 jFX2_24 rfl rfl ?_
  refine J.aload_n dX2_addLaw_14 rfl rfl ?_
  refine J.getfield dX2_addLaw_15 jFX2_40 rfl rfl ?_
  refine J.iload_n dX2_addLaw_18 rfl rfl ?_
  refine J.iastoreN dX2_addLaw_19 rfl hc ?_
  rw [upd_nI]
  dsimp only [List.set]
  refine J.aload_n dX2_addLaw_20 rfl rfl ?_
  refine J.getfield dX2_addLaw_21 jFX2_27 rfl rfl ?_
  refine J.aload_n dX2_addLaw_24 rfl rfl ?_
  refine J.getfield dX2_addLaw_25 jFX2_40 rfl rfl ?_
  refine J.iload_n dX2_addLaw_28 rfl rfl ?_
  refine J.iastoreN dX2_addLaw_29 rfl hc ?_
  rw [upd_nI]
  dsimp only [List.set]
  refine J.aload_n dX2_addLaw_30 rfl rfl ?_
  refine J.dup dX2_addLaw_31 rfl ?_
  refine J.getfield dX2_addLaw_32 jFX2_40 rfl rfl ?_
  refine J.iconst (1) dX2_addLaw_35 (by decide) ?_
  refine J.iadd dX2_addLaw_36 ?_
  rw [nI_1]
  refine J.putfield dX2_addLaw_37 jFX2_40 jP2_8 rfl rfl rfl (Nat.le_of_ble_eq_true rfl) ?_
  dsimp only [List.set]
  refine J.iconst (1) dX2_addLaw_40 (by decide) ?_
  exact J.iret dX2_addLaw_41 rfl (by decide) (Nat.le_refl _) (Nat.le_refl _) ⟨rfl, rfl⟩
