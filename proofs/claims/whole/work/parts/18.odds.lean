/-! a DUEL's HOUR, as the longs have it: what the sitting one has, what the other -/
def dv (T : Nat → Nat) (wo li : Int64) (g : Nat → Int64) (s : Nat) : Nat → Int64
  | 0 => 0
  | r + 1 => if r = 0 then -li * lN (wtn T s 0) else dv T wo li g s r + lN (wtn T s r) * (wo + g r)
def ev (T : Nat → Nat) (pr : Int64) (g : Nat → Int64) (s : Nat) : Nat → Int64
  | 0 => 0
  | r + 1 => if r = 0 then pr * lN (wtn T s 0) else ev T pr g s r + lN (wtn T s r) * g r
def hvv (T : Nat → Nat) (wo li : Int64) (g : Nat → Int64) (s : Nat) : Int64 := if dv T wo li g s (s + 1) < 0 then 0 else dv T wo li g s (s + 1)
def ovv (T : Nat → Nat) (wo li pr : Int64) (g f : Nat → Int64) (s : Nat) : Int64 := if 0 < dv T wo li g s (s + 1) then ev T pr f s (s + 1) else 1000 * pr
set_option maxRecDepth 100000 in
set_option maxHeartbeats 4000000 in
theorem mX0_duelHour0_l (q : rT) (x : Nat → Nat) (n : Nat → Int64) (u : uT) (wo li pr : Int64) (s : Nat) (hs : s < 8) (ht : ∀ i, q 2 i ≤ 10) : ∀ (k9 i : Nat), i + k9 = s + 1 → 1 ≤ i → ∀ (z : Option Value), J KX0_duelHour 9 (fun o B => o = none ∧ B = wO q x n (urow (urow u 0 (fun j => if j = s then hvv (q 2) wo li (u 0) s else u 0 j)) 1 (fun j => if j = s then ovv (q 2) wo li pr (u 0) (u 1) s else u 1 j))) 26 [some (.ref 0), some (.int (nI s)), some (.long wo), none, some (.long li), none, some (.long pr), none, some (.ref 6), some (.ref 7), some (.long (dv (q 2) wo li (u 0) s i)), none, some (.long (ev (q 2) pr (u 1) s i)), none, some (.int (nI i)), z, none] [] (wO q x n u) 0 0 := by
  intro k9
  induction k9 with
  | zero =>
    intro i hi
    obtain hiN : i = s + 1 := by omega
    intro hst
    intro z
    subst hiN
    refine J.iload dX0_duelHour_26 rfl ?_
    refine J.iload_n dX0_duelHour_28 rfl rfl ?_
    refine J.icmp_gt (tgt := 75) dX0_duelHour_29 (by decide) (fun c29 => ?_) (fun c29 => absurd c29 (fun h => h ((nI_lti (by omega) (by omega)).mpr (Nat.lt_succ_self s))))
    refine J.aload dX0_duelHour_75 rfl ?_
    refine J.iload_n dX0_duelHour_77 rfl rfl ?_
    refine J.lconst 0 dX0_duelHour_78 (by decide) ?_
    refine J.lload dX0_duelHour_79 rfl ?_
    refine J.mmaxL dX0_duelHour_81 (jt 652 rfl rfl) rfl ?_
    refine J.lastoreN dX0_duelHour_84 rfl hs ?_
    try dsimp only [List.set, wO, wR, wRb, List.cons_append, List.nil_append]
    refine J.aload dX0_duelHour_85 rfl ?_
    refine J.iload_n dX0_duelHour_87 rfl rfl ?_
    refine J.lload dX0_duelHour_88 rfl ?_
    refine J.lconst 0 dX0_duelHour_90 (by decide) ?_
    refine J.lcmp dX0_duelHour_91 ?_
    refine J.if_le (tgt := 100) dX0_duelHour_92 (by decide) (fun c92 => ?_) (fun c92 => ?_)
    · refine J.ldc2 (v := 1000) dX0_duelHour_100 (jt 655 rfl rfl) ?_
      refine J.lload dX0_duelHour_103 rfl ?_
      refine J.lmul dX0_duelHour_105 ?_
      refine J.lastoreN dX0_duelHour_106 rfl hs ?_
      try dsimp only [List.set, wO, wR, wRb, List.cons_append, List.nil_append]
      exact J.vret dX0_duelHour_107 rfl (Nat.le_refl _) (Nat.le_refl _) ⟨rfl, by rw [show (fun j => if j = s then ovv (q 2) wo li pr (u 0) (u 1) s else u 1 j) = vp_updL (u 1) s (1000 * pr) from by (unfold ovv; rw [if_neg (fun h => absurd ((lg_cmp_le _ _).mp c92) (Int64.not_le.mpr h))]; rfl)]; rfl⟩
    · refine J.lload dX0_duelHour_95 rfl ?_
      refine J.goto (tgt := 106) dX0_duelHour_97 (by decide) ?_
      refine J.lastoreN dX0_duelHour_106 rfl hs ?_
      try dsimp only [List.set, wO, wR, wRb, List.cons_append, List.nil_append]
      exact J.vret dX0_duelHour_107 rfl (Nat.le_refl _) (Nat.le_refl _) ⟨rfl, by rw [show (fun j => if j = s then ovv (q 2) wo li pr (u 0) (u 1) s else u 1 j) = vp_updL (u 1) s (ev (q 2) pr (u 1) s (s + 1)) from by (unfold ovv; rw [if_pos (Int64.not_le.mp (fun h => c92 ((lg_cmp_le _ _).mpr h)))]; rfl)]; rfl⟩
  | succ k9 ih =>
    intro i hi
    have hiN : i < s + 1 := by omega
    intro hst
    intro z
    refine J.iload dX0_duelHour_26 rfl ?_
    refine J.iload_n dX0_duelHour_28 rfl rfl ?_
    refine J.icmp_gt (tgt := 75) dX0_duelHour_29 (by decide) (fun c29 => absurd c29 (fun h => absurd ((nI_lti (by omega) (by omega)).mp h) (by omega))) (fun c29 => ?_)
    refine J.aload_n dX0_duelHour_32 rfl rfl ?_
    refine J.iload_n dX0_duelHour_33 rfl rfl ?_
    refine J.iload dX0_duelHour_34 rfl ?_
    refine J.cv (as := [.int _, .int _]) (is := [0, 1, 2, 3, 4, 5, 6, 7, 8]) (o := 0) okX0_weight jcX0_65 (mX0_weight q x n u s i hs (by omega) ht) dX0_duelHour_36 rfl rfl rfl rfl rfl rfl rfl (fun r9 B9 hq => ?_)
    obtain ⟨rfl, rfl⟩ := hq
    refine ⟨rfl, ?_⟩
    show J _ _ _ _ _ (.long _ :: _) (wO q x n u) _ _
    refine J.lstore dX0_duelHour_39 (by decide) rfl ?_
    try dsimp only [List.set, wO, wR, wRb, List.cons_append, List.nil_append]
    refine J.lload dX0_duelHour_41 rfl ?_
    refine J.lload dX0_duelHour_43 rfl ?_
    refine J.lload_n dX0_duelHour_45 rfl rfl ?_
    refine J.aload dX0_duelHour_46 rfl ?_
    refine J.iload dX0_duelHour_48 rfl ?_
    refine J.laloadN dX0_duelHour_50 rfl (show i < 8 by omega) ?_
    refine J.ladd dX0_duelHour_51 ?_
    refine J.lmul dX0_duelHour_52 ?_
    refine J.ladd dX0_duelHour_53 ?_
    refine J.lstore dX0_duelHour_54 (by decide) rfl ?_
    try dsimp only [List.set, wO, wR, wRb, List.cons_append, List.nil_append]
    refine J.lload dX0_duelHour_56 rfl ?_
    refine J.lload dX0_duelHour_58 rfl ?_
    refine J.aload dX0_duelHour_60 rfl ?_
    refine J.iload dX0_duelHour_62 rfl ?_
    refine J.laloadN dX0_duelHour_64 rfl (show i < 8 by omega) ?_
    refine J.lmul dX0_duelHour_65 ?_
    refine J.ladd dX0_duelHour_66 ?_
    refine J.lstore dX0_duelHour_67 (by decide) rfl ?_
    try dsimp only [List.set, wO, wR, wRb, List.cons_append, List.nil_append]
    refine J.iinc (1) dX0_duelHour_69 (by decide) rfl (by decide) rfl ?_
    try dsimp only [List.set, wO, wR, wRb, List.cons_append, List.nil_append]
    refine J.goto (tgt := 26) dX0_duelHour_72 (by decide) ?_
    refine J.at (ih (i + 1) (by omega) (by omega) (some (.long (lN (wtn (q 2) s i))))) ?_ rfl rfl
    rw [← nI_1, show dv (q 2) wo li (u 0) s (i + 1) = _ from if_neg (show ¬ i = 0 by omega), show ev (q 2) pr (u 1) s (i + 1) = _ from if_neg (show ¬ i = 0 by omega)]
set_option maxRecDepth 100000 in
set_option maxHeartbeats 4000000 in
theorem mX0_duelHour0 (q : rT) (x : Nat → Nat) (n : Nat → Int64) (u : uT) (wo li pr : Int64) (s : Nat) (hs : s < 8) (ht : ∀ i, q 2 i ≤ 10) : J KX0_duelHour 9 (fun o B => o = none ∧ B = wO q x n (urow (urow u 0 (fun j => if j = s then hvv (q 2) wo li (u 0) s else u 0 j)) 1 (fun j => if j = s then ovv (q 2) wo li pr (u 0) (u 1) s else u 1 j))) 0 [some (.ref 0), some (.int (nI s)), some (.long wo), none, some (.long li), none, some (.long pr), none, some (.ref 6), some (.ref 7), none, none, none, none, none, none, none] [] (wO q x n u) 0 0 := by
  refine J.lload dX0_duelHour_0 rfl ?_
  refine J.lneg dX0_duelHour_2 ?_
  refine J.aload_n dX0_duelHour_3 rfl rfl ?_
  refine J.iload_n dX0_duelHour_4 rfl rfl ?_
  refine J.iconst (0) dX0_duelHour_5 (by decide) ?_
  refine J.cv (as := [.int _, .int _]) (is := [0, 1, 2, 3, 4, 5, 6, 7, 8]) (o := 0) okX0_weight jcX0_65 (mX0_weight q x n u s 0 hs (by decide) ht) dX0_duelHour_6 rfl rfl rfl rfl rfl rfl rfl (fun r9 B9 hq => ?_)
  obtain ⟨rfl, rfl⟩ := hq
  refine ⟨rfl, ?_⟩
  show J _ _ _ _ _ (.long _ :: .long _ :: _) (wO q x n u) _ _
  refine J.lmul dX0_duelHour_9 ?_
  refine J.lstore dX0_duelHour_10 (by decide) rfl ?_
  try dsimp only [List.set, wO, wR, wRb, List.cons_append, List.nil_append]
  refine J.lload dX0_duelHour_12 rfl ?_
  refine J.aload_n dX0_duelHour_14 rfl rfl ?_
  refine J.iload_n dX0_duelHour_15 rfl rfl ?_
  refine J.iconst (0) dX0_duelHour_16 (by decide) ?_
  refine J.cv (as := [.int _, .int _]) (is := [0, 1, 2, 3, 4, 5, 6, 7, 8]) (o := 0) okX0_weight jcX0_65 (mX0_weight q x n u s 0 hs (by decide) ht) dX0_duelHour_17 rfl rfl rfl rfl rfl rfl rfl (fun r9 B9 hq => ?_)
  obtain ⟨rfl, rfl⟩ := hq
  refine ⟨rfl, ?_⟩
  show J _ _ _ _ _ (.long _ :: .long _ :: _) (wO q x n u) _ _
  refine J.lmul dX0_duelHour_20 ?_
  refine J.lstore dX0_duelHour_21 (by decide) rfl ?_
  try dsimp only [List.set, wO, wR, wRb, List.cons_append, List.nil_append]
  refine J.iconst (1) dX0_duelHour_23 (by decide) ?_
  refine J.istore dX0_duelHour_24 (by decide) rfl ?_
  try dsimp only [List.set, wO, wR, wRb, List.cons_append, List.nil_append]
  exact J.at (mX0_duelHour0_l q x n u wo li pr s hs ht s 1 (by omega) (by omega) none) rfl rfl rfl
set_option maxRecDepth 100000 in
set_option maxHeartbeats 4000000 in
theorem mX0_duelHour1_l (q : rT) (x : Nat → Nat) (n : Nat → Int64) (u : uT) (wo li pr : Int64) (s : Nat) (hs : s < 8) (ht : ∀ i, q 2 i ≤ 10) : ∀ (k9 i : Nat), i + k9 = s + 1 → 1 ≤ i → ∀ (z : Option Value), J KX0_duelHour 9 (fun o B => o = none ∧ B = wO q x n (urow (urow u 1 (fun j => if j = s then hvv (q 2) wo li (u 1) s else u 1 j)) 0 (fun j => if j = s then ovv (q 2) wo li pr (u 1) (u 0) s else u 0 j))) 26 [some (.ref 0), some (.int (nI s)), some (.long wo), none, some (.long li), none, some (.long pr), none, some (.ref 7), some (.ref 6), some (.long (dv (q 2) wo li (u 1) s i)), none, some (.long (ev (q 2) pr (u 0) s i)), none, some (.int (nI i)), z, none] [] (wO q x n u) 0 0 := by
  intro k9
  induction k9 with
  | zero =>
    intro i hi
    obtain hiN : i = s + 1 := by omega
    intro hst
    intro z
    subst hiN
    refine J.iload dX0_duelHour_26 rfl ?_
    refine J.iload_n dX0_duelHour_28 rfl rfl ?_
    refine J.icmp_gt (tgt := 75) dX0_duelHour_29 (by decide) (fun c29 => ?_) (fun c29 => absurd c29 (fun h => h ((nI_lti (by omega) (by omega)).mpr (Nat.lt_succ_self s))))
    refine J.aload dX0_duelHour_75 rfl ?_
    refine J.iload_n dX0_duelHour_77 rfl rfl ?_
    refine J.lconst 0 dX0_duelHour_78 (by decide) ?_
    refine J.lload dX0_duelHour_79 rfl ?_
    refine J.mmaxL dX0_duelHour_81 (jt 652 rfl rfl) rfl ?_
    refine J.lastoreN dX0_duelHour_84 rfl hs ?_
    try dsimp only [List.set, wO, wR, wRb, List.cons_append, List.nil_append]
    refine J.aload dX0_duelHour_85 rfl ?_
    refine J.iload_n dX0_duelHour_87 rfl rfl ?_
    refine J.lload dX0_duelHour_88 rfl ?_
    refine J.lconst 0 dX0_duelHour_90 (by decide) ?_
    refine J.lcmp dX0_duelHour_91 ?_
    refine J.if_le (tgt := 100) dX0_duelHour_92 (by decide) (fun c92 => ?_) (fun c92 => ?_)
    · refine J.ldc2 (v := 1000) dX0_duelHour_100 (jt 655 rfl rfl) ?_
      refine J.lload dX0_duelHour_103 rfl ?_
      refine J.lmul dX0_duelHour_105 ?_
      refine J.lastoreN dX0_duelHour_106 rfl hs ?_
      try dsimp only [List.set, wO, wR, wRb, List.cons_append, List.nil_append]
      exact J.vret dX0_duelHour_107 rfl (Nat.le_refl _) (Nat.le_refl _) ⟨rfl, by rw [show (fun j => if j = s then ovv (q 2) wo li pr (u 1) (u 0) s else u 0 j) = vp_updL (u 0) s (1000 * pr) from by (unfold ovv; rw [if_neg (fun h => absurd ((lg_cmp_le _ _).mp c92) (Int64.not_le.mpr h))]; rfl)]; rfl⟩
    · refine J.lload dX0_duelHour_95 rfl ?_
      refine J.goto (tgt := 106) dX0_duelHour_97 (by decide) ?_
      refine J.lastoreN dX0_duelHour_106 rfl hs ?_
      try dsimp only [List.set, wO, wR, wRb, List.cons_append, List.nil_append]
      exact J.vret dX0_duelHour_107 rfl (Nat.le_refl _) (Nat.le_refl _) ⟨rfl, by rw [show (fun j => if j = s then ovv (q 2) wo li pr (u 1) (u 0) s else u 0 j) = vp_updL (u 0) s (ev (q 2) pr (u 0) s (s + 1)) from by (unfold ovv; rw [if_pos (Int64.not_le.mp (fun h => c92 ((lg_cmp_le _ _).mpr h)))]; rfl)]; rfl⟩
  | succ k9 ih =>
    intro i hi
    have hiN : i < s + 1 := by omega
    intro hst
    intro z
    refine J.iload dX0_duelHour_26 rfl ?_
    refine J.iload_n dX0_duelHour_28 rfl rfl ?_
    refine J.icmp_gt (tgt := 75) dX0_duelHour_29 (by decide) (fun c29 => absurd c29 (fun h => absurd ((nI_lti (by omega) (by omega)).mp h) (by omega))) (fun c29 => ?_)
    refine J.aload_n dX0_duelHour_32 rfl rfl ?_
    refine J.iload_n dX0_duelHour_33 rfl rfl ?_
    refine J.iload dX0_duelHour_34 rfl ?_
    refine J.cv (as := [.int _, .int _]) (is := [0, 1, 2, 3, 4, 5, 6, 7, 8]) (o := 0) okX0_weight jcX0_65 (mX0_weight q x n u s i hs (by omega) ht) dX0_duelHour_36 rfl rfl rfl rfl rfl rfl rfl (fun r9 B9 hq => ?_)
    obtain ⟨rfl, rfl⟩ := hq
    refine ⟨rfl, ?_⟩
    show J _ _ _ _ _ (.long _ :: _) (wO q x n u) _ _
    refine J.lstore dX0_duelHour_39 (by decide) rfl ?_
    try dsimp only [List.set, wO, wR, wRb, List.cons_append, List.nil_append]
    refine J.lload dX0_duelHour_41 rfl ?_
    refine J.lload dX0_duelHour_43 rfl ?_
    refine J.lload_n dX0_duelHour_45 rfl rfl ?_
    refine J.aload dX0_duelHour_46 rfl ?_
    refine J.iload dX0_duelHour_48 rfl ?_
    refine J.laloadN dX0_duelHour_50 rfl (show i < 8 by omega) ?_
    refine J.ladd dX0_duelHour_51 ?_
    refine J.lmul dX0_duelHour_52 ?_
    refine J.ladd dX0_duelHour_53 ?_
    refine J.lstore dX0_duelHour_54 (by decide) rfl ?_
    try dsimp only [List.set, wO, wR, wRb, List.cons_append, List.nil_append]
    refine J.lload dX0_duelHour_56 rfl ?_
    refine J.lload dX0_duelHour_58 rfl ?_
    refine J.aload dX0_duelHour_60 rfl ?_
    refine J.iload dX0_duelHour_62 rfl ?_
    refine J.laloadN dX0_duelHour_64 rfl (show i < 8 by omega) ?_
    refine J.lmul dX0_duelHour_65 ?_
    refine J.ladd dX0_duelHour_66 ?_
    refine J.lstore dX0_duelHour_67 (by decide) rfl ?_
    try dsimp only [List.set, wO, wR, wRb, List.cons_append, List.nil_append]
    refine J.iinc (1) dX0_duelHour_69 (by decide) rfl (by decide) rfl ?_
    try dsimp only [List.set, wO, wR, wRb, List.cons_append, List.nil_append]
    refine J.goto (tgt := 26) dX0_duelHour_72 (by decide) ?_
    refine J.at (ih (i + 1) (by omega) (by omega) (some (.long (lN (wtn (q 2) s i))))) ?_ rfl rfl
    rw [← nI_1, show dv (q 2) wo li (u 1) s (i + 1) = _ from if_neg (show ¬ i = 0 by omega), show ev (q 2) pr (u 0) s (i + 1) = _ from if_neg (show ¬ i = 0 by omega)]
set_option maxRecDepth 100000 in
set_option maxHeartbeats 4000000 in
theorem mX0_duelHour1 (q : rT) (x : Nat → Nat) (n : Nat → Int64) (u : uT) (wo li pr : Int64) (s : Nat) (hs : s < 8) (ht : ∀ i, q 2 i ≤ 10) : J KX0_duelHour 9 (fun o B => o = none ∧ B = wO q x n (urow (urow u 1 (fun j => if j = s then hvv (q 2) wo li (u 1) s else u 1 j)) 0 (fun j => if j = s then ovv (q 2) wo li pr (u 1) (u 0) s else u 0 j))) 0 [some (.ref 0), some (.int (nI s)), some (.long wo), none, some (.long li), none, some (.long pr), none, some (.ref 7), some (.ref 6), none, none, none, none, none, none, none] [] (wO q x n u) 0 0 := by
  refine J.lload dX0_duelHour_0 rfl ?_
  refine J.lneg dX0_duelHour_2 ?_
  refine J.aload_n dX0_duelHour_3 rfl rfl ?_
  refine J.iload_n dX0_duelHour_4 rfl rfl ?_
  refine J.iconst (0) dX0_duelHour_5 (by decide) ?_
  refine J.cv (as := [.int _, .int _]) (is := [0, 1, 2, 3, 4, 5, 6, 7, 8]) (o := 0) okX0_weight jcX0_65 (mX0_weight q x n u s 0 hs (by decide) ht) dX0_duelHour_6 rfl rfl rfl rfl rfl rfl rfl (fun r9 B9 hq => ?_)
  obtain ⟨rfl, rfl⟩ := hq
  refine ⟨rfl, ?_⟩
  show J _ _ _ _ _ (.long _ :: .long _ :: _) (wO q x n u) _ _
  refine J.lmul dX0_duelHour_9 ?_
  refine J.lstore dX0_duelHour_10 (by decide) rfl ?_
  try dsimp only [List.set, wO, wR, wRb, List.cons_append, List.nil_append]
  refine J.lload dX0_duelHour_12 rfl ?_
  refine J.aload_n dX0_duelHour_14 rfl rfl ?_
  refine J.iload_n dX0_duelHour_15 rfl rfl ?_
  refine J.iconst (0) dX0_duelHour_16 (by decide) ?_
  refine J.cv (as := [.int _, .int _]) (is := [0, 1, 2, 3, 4, 5, 6, 7, 8]) (o := 0) okX0_weight jcX0_65 (mX0_weight q x n u s 0 hs (by decide) ht) dX0_duelHour_17 rfl rfl rfl rfl rfl rfl rfl (fun r9 B9 hq => ?_)
  obtain ⟨rfl, rfl⟩ := hq
  refine ⟨rfl, ?_⟩
  show J _ _ _ _ _ (.long _ :: .long _ :: _) (wO q x n u) _ _
  refine J.lmul dX0_duelHour_20 ?_
  refine J.lstore dX0_duelHour_21 (by decide) rfl ?_
  try dsimp only [List.set, wO, wR, wRb, List.cons_append, List.nil_append]
  refine J.iconst (1) dX0_duelHour_23 (by decide) ?_
  refine J.istore dX0_duelHour_24 (by decide) rfl ?_
  try dsimp only [List.set, wO, wR, wRb, List.cons_append, List.nil_append]
  exact J.at (mX0_duelHour1_l q x n u wo li pr s hs ht s 1 (by omega) (by omega) none) rfl rfl rfl
/-- the one who sits in the HOUR behind t is the first one where t is even -/
def dg (q r : rT) (a b N : Nat) : Nat → Nat → Nat → Int64
  | 0, _, _ => 0
  | k + 1, c, s => if 1 ≤ s ∧ s ≤ q 6 0 then
      (if c = (N - 1 - k) % 2 then hvv (ten q s (N - 1 - k)) ((nI (r 2 (if (N - 1 - k) % 2 = 0 then a else b))).toInt64 * lN (1000 ^ k)) ((nI (r 3 (if (N - 1 - k) % 2 = 0 then a else b))).toInt64 * lN (1000 ^ k)) (dg q r a b N k ((N - 1 - k) % 2)) s
       else ovv (ten q s (N - 1 - k)) ((nI (r 2 (if (N - 1 - k) % 2 = 0 then a else b))).toInt64 * lN (1000 ^ k)) ((nI (r 3 (if (N - 1 - k) % 2 = 0 then a else b))).toInt64 * lN (1000 ^ k)) ((nI (r 6 5)).toInt64 * lN (1000 ^ k)) (dg q r a b N k ((N - 1 - k) % 2)) (dg q r a b N k (1 - (N - 1 - k) % 2)) s)
      else dg q r a b N k c s
theorem and1_eval : ∀ t, t < 100 → nI t &&& 1 = nI (t % 2) := by decide +kernel
theorem dn_z (q r : rT) (a b N k c : Nat) : (fun j => if 0 < j ∧ j ≤ q 6 0 then dg q r a b N (k + 1) c j else dg q r a b N k c j) = dg q r a b N (k + 1) c := by
  funext j
  by_cases h : 0 < j ∧ j ≤ q 6 0
  · rw [if_pos h]
  · rw [if_neg h]
    show _ = (if 1 ≤ j ∧ j ≤ q 6 0 then _ else _)
    rw [if_neg (fun h9 => h ⟨by omega, h9.2⟩)]
theorem dv_loc (T : Nat → Nat) (wo li : Int64) (g f : Nat → Int64) (s : Nat) (h : ∀ j, j ≤ s → g j = f j) : dv T wo li g s (s + 1) = dv T wo li f s (s + 1) := by
  have key : ∀ r, r ≤ s + 1 → dv T wo li g s r = dv T wo li f s r := by
    intro r
    induction r with
    | zero => intro _; rfl
    | succ r ih =>
      intro hr
      simp only [dv]
      rw [ih (by omega), h r (by omega)]
  exact key _ (Nat.le_refl _)
theorem ev_loc (T : Nat → Nat) (pr : Int64) (g f : Nat → Int64) (s : Nat) (h : ∀ j, j ≤ s → g j = f j) : ev T pr g s (s + 1) = ev T pr f s (s + 1) := by
  have key : ∀ r, r ≤ s + 1 → ev T pr g s r = ev T pr f s r := by
    intro r
    induction r with
    | zero => intro _; rfl
    | succ r ih =>
      intro hr
      simp only [ev]
      rw [ih (by omega), h r (by omega)]
  exact key _ (Nat.le_refl _)
set_option maxRecDepth 100000 in
set_option maxHeartbeats 4000000 in
theorem mX0_contest_s0 (q : rT) (x : Nat → Nat) (n : Nat → Int64) (u : uT) (r : rT) (a b N : Nat) (hq : oOK q) (ha : a < 4) (hb : b < 4) (hN : N < 100) (k t : Nat) (ht : t < 100) (ht2 : t = N - 1 - k) (hpar : t % 2 = 0) (hk : ∀ (g : Nat → Nat) (z : Option Value), J KX0_contest 16 (fun o B => o = none ∧ ∃ g9 f1 f2, B = wO (rrow q 2 g9) x n (urow (urow (urow u 0 f1) 1 f2) 3 (fun j => if j = 0 then dg q r a b N N 0 (q 6 0) else (if q 6 0 = 0 ∧ 0 < N then (nI (r 6 5)).toInt64 * lN (1000 ^ N) else dg q r a b N N 1 (q 6 0)))) ++ wRb 9 r) 164 [some (.ref 0), some (.ref 9), some (.int (nI a)), some (.int (nI b)), some (.int (nI N)), some (.int (nI t)), some (.int 1), some (.int (nI a)), some (.ref 6), some (.ref 7), some (.long (lN (1000 ^ k))), none, z] [] (wO (rrow q 2 g) x n (urow (urow u 0 (dg q r a b N (k + 1) 0)) 1 (dg q r a b N (k + 1) 1)) ++ wRb 9 r) 0 0) : ∀ (i : Nat), i ≤ q 6 0 → ∀ (g : Nat → Nat), J KX0_contest 16 (fun o B => o = none ∧ ∃ g9 f1 f2, B = wO (rrow q 2 g9) x n (urow (urow (urow u 0 f1) 1 f2) 3 (fun j => if j = 0 then dg q r a b N N 0 (q 6 0) else (if q 6 0 = 0 ∧ 0 < N then (nI (r 6 5)).toInt64 * lN (1000 ^ N) else dg q r a b N N 1 (q 6 0)))) ++ wRb 9 r) 105 [some (.ref 0), some (.ref 9), some (.int (nI a)), some (.int (nI b)), some (.int (nI N)), some (.int (nI t)), some (.int 1), some (.int (nI a)), some (.ref 6), some (.ref 7), some (.long (lN (1000 ^ k))), none, some (.int (nI i))] [] (wO (rrow q 2 g) x n (urow (urow u 0 (fun j => if i < j ∧ j ≤ q 6 0 then dg q r a b N (k + 1) 0 j else dg q r a b N k 0 j)) 1 (fun j => if i < j ∧ j ≤ q 6 0 then dg q r a b N (k + 1) 1 j else dg q r a b N k 1 j)) ++ wRb 9 r) 0 0 := by
  intro i
  induction i with
  | zero =>
    intro hi g
    refine J.iload dX0_contest_105 rfl ?_
    refine J.if_le (tgt := 164) dX0_contest_107 (by decide) (fun c107 => ?_) (fun c107 => absurd c107 (fun h => h (by decide)))
    have e0 : (fun j => if 0 < j ∧ j ≤ q 6 0 then dg q r a b N (k + 1) 0 j else dg q r a b N k 0 j) = dg q r a b N (k + 1) 0 := dn_z q r a b N k 0
    have e1 : (fun j => if 0 < j ∧ j ≤ q 6 0 then dg q r a b N (k + 1) 1 j else dg q r a b N k 1 j) = dg q r a b N (k + 1) 1 := dn_z q r a b N k 1
    rw [e0, e1]
    exact hk g _
  | succ i ih =>
    intro hi g
    refine J.iload dX0_contest_105 rfl ?_
    refine J.if_le (tgt := 164) dX0_contest_107 (by decide) (fun c107 => absurd c107 (fun h => absurd ((nI_lei (b := 0) (by have := hq.2.2.2; omega) (by decide)).mp h) (by omega))) (fun c107 => ?_)
    refine J.aload_n dX0_contest_110 rfl rfl ?_
    refine J.iload dX0_contest_111 rfl ?_
    refine J.iload dX0_contest_113 rfl ?_
    refine J.cv (as := [.int _, .int _]) (is := [0, 1, 2, 3, 4, 5, 6, 7, 8]) (o := 0) okX0_weigh jcX0_61 (mX0_weigh (rrow q 2 g) x n (urow (urow u 0 (fun j => if i + 1 < j ∧ j ≤ q 6 0 then dg q r a b N (k + 1) 0 j else dg q r a b N k 0 j)) 1 (fun j => if i + 1 < j ∧ j ≤ q 6 0 then dg q r a b N (k + 1) 1 j else dg q r a b N k 1 j)) (i + 1) t hq (by have := hq.2.2.2; omega) ht) dX0_contest_115 rfl rfl rfl rfl rfl rfl rfl (fun r9 B9 hq => ?_)
    obtain ⟨rfl, rfl⟩ := hq
    refine ⟨rfl, ?_⟩
    show J _ _ _ _ _ [] (wO (rrow q 2 (ten q (i + 1) t)) x n (urow (urow u 0 (fun j => if i + 1 < j ∧ j ≤ q 6 0 then dg q r a b N (k + 1) 0 j else dg q r a b N k 0 j)) 1 (fun j => if i + 1 < j ∧ j ≤ q 6 0 then dg q r a b N (k + 1) 1 j else dg q r a b N k 1 j)) ++ wRb 9 r) _ _
    refine J.aload_n dX0_contest_118 rfl rfl ?_
    refine J.iload dX0_contest_119 rfl ?_
    refine J.aload_n dX0_contest_121 rfl rfl ?_
    refine J.getfield dX0_contest_122 jFX0_99 rfl rfl ?_
    refine J.iload dX0_contest_125 rfl ?_
    refine J.ialoadN dX0_contest_127 rfl ha ?_
    refine J.i2l dX0_contest_128 ?_
    refine J.lload dX0_contest_129 rfl ?_
    refine J.lmul dX0_contest_131 ?_
    refine J.aload_n dX0_contest_132 rfl rfl ?_
    refine J.getfield dX0_contest_133 jFX0_102 rfl rfl ?_
    refine J.iload dX0_contest_136 rfl ?_
    refine J.ialoadN dX0_contest_138 rfl ha ?_
    refine J.i2l dX0_contest_139 ?_
    refine J.lload dX0_contest_140 rfl ?_
    refine J.lmul dX0_contest_142 ?_
    refine J.aload_n dX0_contest_143 rfl rfl ?_
    refine J.getfield dX0_contest_144 jFX0_105 rfl rfl ?_
    refine J.i2l dX0_contest_147 ?_
    refine J.lload dX0_contest_148 rfl ?_
    refine J.lmul dX0_contest_150 ?_
    refine J.aload dX0_contest_151 rfl ?_
    refine J.aload dX0_contest_153 rfl ?_
    refine J.cv (as := [.int _, .long _, .long _, .long _, .ref 6, .ref 7]) (is := [0, 1, 2, 3, 4, 5, 6, 7, 8]) (o := 0) okX0_duelHour jcX0_108 (mX0_duelHour0 (rrow q 2 (ten q (i + 1) t)) x n (urow (urow u 0 (fun j => if i + 1 < j ∧ j ≤ q 6 0 then dg q r a b N (k + 1) 0 j else dg q r a b N k 0 j)) 1 (fun j => if i + 1 < j ∧ j ≤ q 6 0 then dg q r a b N (k + 1) 1 j else dg q r a b N k 1 j)) ((nI (r 2 a)).toInt64 * lN (1000 ^ k)) ((nI (r 3 a)).toInt64 * lN (1000 ^ k)) ((nI (r 6 5)).toInt64 * lN (1000 ^ k)) (i + 1) (by have := hq.2.2.2; omega) (fun i9 => ten_le q (i + 1) t i9)) dX0_contest_155 rfl rfl rfl rfl rfl rfl rfl (fun r9 B9 hq => ?_)
    obtain ⟨rfl, rfl⟩ := hq
    refine ⟨rfl, ?_⟩
    show J _ _ _ _ _ [] (wO (rrow q 2 (ten q (i + 1) t)) x n (urow (urow u 0 (fun j => if j = i + 1 then hvv (ten q (i + 1) t) ((nI (r 2 a)).toInt64 * lN (1000 ^ k)) ((nI (r 3 a)).toInt64 * lN (1000 ^ k)) (fun j => if i + 1 < j ∧ j ≤ q 6 0 then dg q r a b N (k + 1) 0 j else dg q r a b N k 0 j) (i + 1) else (fun j => if i + 1 < j ∧ j ≤ q 6 0 then dg q r a b N (k + 1) 0 j else dg q r a b N k 0 j) j)) 1 (fun j => if j = i + 1 then ovv (ten q (i + 1) t) ((nI (r 2 a)).toInt64 * lN (1000 ^ k)) ((nI (r 3 a)).toInt64 * lN (1000 ^ k)) ((nI (r 6 5)).toInt64 * lN (1000 ^ k)) (fun j => if i + 1 < j ∧ j ≤ q 6 0 then dg q r a b N (k + 1) 0 j else dg q r a b N k 0 j) (fun j => if i + 1 < j ∧ j ≤ q 6 0 then dg q r a b N (k + 1) 1 j else dg q r a b N k 1 j) (i + 1) else (fun j => if i + 1 < j ∧ j ≤ q 6 0 then dg q r a b N (k + 1) 1 j else dg q r a b N k 1 j) j)) ++ wRb 9 r) _ _
    refine J.iinc (-1) dX0_contest_158 (by decide) rfl (by decide) rfl ?_
    try dsimp only [List.set, wO, wR, wRb, List.cons_append, List.nil_append]
    refine J.goto (tgt := 105) dX0_contest_161 (by decide) ?_
    have h0 := dv_loc (ten q (i + 1) t) ((nI (r 2 a)).toInt64 * lN (1000 ^ k)) ((nI (r 3 a)).toInt64 * lN (1000 ^ k)) (fun j => if i + 1 < j ∧ j ≤ q 6 0 then dg q r a b N (k + 1) 0 j else dg q r a b N k 0 j) (dg q r a b N k 0) (i + 1) (fun j hj => if_neg (by omega))
    have h1 := ev_loc (ten q (i + 1) t) ((nI (r 6 5)).toInt64 * lN (1000 ^ k)) (fun j => if i + 1 < j ∧ j ≤ q 6 0 then dg q r a b N (k + 1) 1 j else dg q r a b N k 1 j) (dg q r a b N k 1) (i + 1) (fun j hj => if_neg (by omega))
    have g1 : dg q r a b N (k + 1) 0 (i + 1) = hvv (ten q (i + 1) t) ((nI (r 2 a)).toInt64 * lN (1000 ^ k)) ((nI (r 3 a)).toInt64 * lN (1000 ^ k)) (fun j => if i + 1 < j ∧ j ≤ q 6 0 then dg q r a b N (k + 1) 0 j else dg q r a b N k 0 j) (i + 1) := by (unfold hvv; rw [h0]; show (if 1 ≤ i + 1 ∧ i + 1 ≤ q 6 0 then _ else _) = _; rw [if_pos ⟨by omega, hi⟩, ← ht2, hpar, if_pos rfl]; simp only [hvv, if_true])
    have g2 : dg q r a b N (k + 1) 1 (i + 1) = ovv (ten q (i + 1) t) ((nI (r 2 a)).toInt64 * lN (1000 ^ k)) ((nI (r 3 a)).toInt64 * lN (1000 ^ k)) ((nI (r 6 5)).toInt64 * lN (1000 ^ k)) (fun j => if i + 1 < j ∧ j ≤ q 6 0 then dg q r a b N (k + 1) 0 j else dg q r a b N k 0 j) (fun j => if i + 1 < j ∧ j ≤ q 6 0 then dg q r a b N (k + 1) 1 j else dg q r a b N k 1 j) (i + 1) := by (unfold ovv; rw [h0, h1]; show (if 1 ≤ i + 1 ∧ i + 1 ≤ q 6 0 then _ else _) = _; rw [if_pos ⟨by omega, hi⟩, ← ht2, hpar, if_neg (by decide)]; simp only [ovv, if_true, Nat.sub_zero])
    have e0 : (fun j => if j = i + 1 then hvv (ten q (i + 1) t) ((nI (r 2 a)).toInt64 * lN (1000 ^ k)) ((nI (r 3 a)).toInt64 * lN (1000 ^ k)) (fun j => if i + 1 < j ∧ j ≤ q 6 0 then dg q r a b N (k + 1) 0 j else dg q r a b N k 0 j) (i + 1) else (fun j => if i + 1 < j ∧ j ≤ q 6 0 then dg q r a b N (k + 1) 0 j else dg q r a b N k 0 j) j) = (fun j => if i < j ∧ j ≤ q 6 0 then dg q r a b N (k + 1) 0 j else dg q r a b N k 0 j) := by (rw [← g1]; exact dn_s (dg q r a b N (k + 1) 0) (dg q r a b N k 0) (q 6 0) i hi)
    have e1 : (fun j => if j = i + 1 then ovv (ten q (i + 1) t) ((nI (r 2 a)).toInt64 * lN (1000 ^ k)) ((nI (r 3 a)).toInt64 * lN (1000 ^ k)) ((nI (r 6 5)).toInt64 * lN (1000 ^ k)) (fun j => if i + 1 < j ∧ j ≤ q 6 0 then dg q r a b N (k + 1) 0 j else dg q r a b N k 0 j) (fun j => if i + 1 < j ∧ j ≤ q 6 0 then dg q r a b N (k + 1) 1 j else dg q r a b N k 1 j) (i + 1) else (fun j => if i + 1 < j ∧ j ≤ q 6 0 then dg q r a b N (k + 1) 1 j else dg q r a b N k 1 j) j) = (fun j => if i < j ∧ j ≤ q 6 0 then dg q r a b N (k + 1) 1 j else dg q r a b N k 1 j) := by (rw [← g2]; exact dn_s (dg q r a b N (k + 1) 1) (dg q r a b N k 1) (q 6 0) i hi)
    refine J.at (ih (by omega) (ten q (i + 1) t)) (by rw [nI_m1]) rfl ?_
    rw [← e0, ← e1]
    rfl
set_option maxRecDepth 100000 in
set_option maxHeartbeats 4000000 in
theorem mX0_contest_s1 (q : rT) (x : Nat → Nat) (n : Nat → Int64) (u : uT) (r : rT) (a b N : Nat) (hq : oOK q) (ha : a < 4) (hb : b < 4) (hN : N < 100) (k t : Nat) (ht : t < 100) (ht2 : t = N - 1 - k) (hpar : t % 2 = 1) (hk : ∀ (g : Nat → Nat) (z : Option Value), J KX0_contest 16 (fun o B => o = none ∧ ∃ g9 f1 f2, B = wO (rrow q 2 g9) x n (urow (urow (urow u 0 f1) 1 f2) 3 (fun j => if j = 0 then dg q r a b N N 0 (q 6 0) else (if q 6 0 = 0 ∧ 0 < N then (nI (r 6 5)).toInt64 * lN (1000 ^ N) else dg q r a b N N 1 (q 6 0)))) ++ wRb 9 r) 164 [some (.ref 0), some (.ref 9), some (.int (nI a)), some (.int (nI b)), some (.int (nI N)), some (.int (nI t)), some (.int 0), some (.int (nI b)), some (.ref 7), some (.ref 6), some (.long (lN (1000 ^ k))), none, z] [] (wO (rrow q 2 g) x n (urow (urow u 0 (dg q r a b N (k + 1) 0)) 1 (dg q r a b N (k + 1) 1)) ++ wRb 9 r) 0 0) : ∀ (i : Nat), i ≤ q 6 0 → ∀ (g : Nat → Nat), J KX0_contest 16 (fun o B => o = none ∧ ∃ g9 f1 f2, B = wO (rrow q 2 g9) x n (urow (urow (urow u 0 f1) 1 f2) 3 (fun j => if j = 0 then dg q r a b N N 0 (q 6 0) else (if q 6 0 = 0 ∧ 0 < N then (nI (r 6 5)).toInt64 * lN (1000 ^ N) else dg q r a b N N 1 (q 6 0)))) ++ wRb 9 r) 105 [some (.ref 0), some (.ref 9), some (.int (nI a)), some (.int (nI b)), some (.int (nI N)), some (.int (nI t)), some (.int 0), some (.int (nI b)), some (.ref 7), some (.ref 6), some (.long (lN (1000 ^ k))), none, some (.int (nI i))] [] (wO (rrow q 2 g) x n (urow (urow u 0 (fun j => if i < j ∧ j ≤ q 6 0 then dg q r a b N (k + 1) 0 j else dg q r a b N k 0 j)) 1 (fun j => if i < j ∧ j ≤ q 6 0 then dg q r a b N (k + 1) 1 j else dg q r a b N k 1 j)) ++ wRb 9 r) 0 0 := by
  intro i
  induction i with
  | zero =>
    intro hi g
    refine J.iload dX0_contest_105 rfl ?_
    refine J.if_le (tgt := 164) dX0_contest_107 (by decide) (fun c107 => ?_) (fun c107 => absurd c107 (fun h => h (by decide)))
    have e0 : (fun j => if 0 < j ∧ j ≤ q 6 0 then dg q r a b N (k + 1) 0 j else dg q r a b N k 0 j) = dg q r a b N (k + 1) 0 := dn_z q r a b N k 0
    have e1 : (fun j => if 0 < j ∧ j ≤ q 6 0 then dg q r a b N (k + 1) 1 j else dg q r a b N k 1 j) = dg q r a b N (k + 1) 1 := dn_z q r a b N k 1
    rw [e0, e1]
    exact hk g _
  | succ i ih =>
    intro hi g
    refine J.iload dX0_contest_105 rfl ?_
    refine J.if_le (tgt := 164) dX0_contest_107 (by decide) (fun c107 => absurd c107 (fun h => absurd ((nI_lei (b := 0) (by have := hq.2.2.2; omega) (by decide)).mp h) (by omega))) (fun c107 => ?_)
    refine J.aload_n dX0_contest_110 rfl rfl ?_
    refine J.iload dX0_contest_111 rfl ?_
    refine J.iload dX0_contest_113 rfl ?_
    refine J.cv (as := [.int _, .int _]) (is := [0, 1, 2, 3, 4, 5, 6, 7, 8]) (o := 0) okX0_weigh jcX0_61 (mX0_weigh (rrow q 2 g) x n (urow (urow u 0 (fun j => if i + 1 < j ∧ j ≤ q 6 0 then dg q r a b N (k + 1) 0 j else dg q r a b N k 0 j)) 1 (fun j => if i + 1 < j ∧ j ≤ q 6 0 then dg q r a b N (k + 1) 1 j else dg q r a b N k 1 j)) (i + 1) t hq (by have := hq.2.2.2; omega) ht) dX0_contest_115 rfl rfl rfl rfl rfl rfl rfl (fun r9 B9 hq => ?_)
    obtain ⟨rfl, rfl⟩ := hq
    refine ⟨rfl, ?_⟩
    show J _ _ _ _ _ [] (wO (rrow q 2 (ten q (i + 1) t)) x n (urow (urow u 0 (fun j => if i + 1 < j ∧ j ≤ q 6 0 then dg q r a b N (k + 1) 0 j else dg q r a b N k 0 j)) 1 (fun j => if i + 1 < j ∧ j ≤ q 6 0 then dg q r a b N (k + 1) 1 j else dg q r a b N k 1 j)) ++ wRb 9 r) _ _
    refine J.aload_n dX0_contest_118 rfl rfl ?_
    refine J.iload dX0_contest_119 rfl ?_
    refine J.aload_n dX0_contest_121 rfl rfl ?_
    refine J.getfield dX0_contest_122 jFX0_99 rfl rfl ?_
    refine J.iload dX0_contest_125 rfl ?_
    refine J.ialoadN dX0_contest_127 rfl hb ?_
    refine J.i2l dX0_contest_128 ?_
    refine J.lload dX0_contest_129 rfl ?_
    refine J.lmul dX0_contest_131 ?_
    refine J.aload_n dX0_contest_132 rfl rfl ?_
    refine J.getfield dX0_contest_133 jFX0_102 rfl rfl ?_
    refine J.iload dX0_contest_136 rfl ?_
    refine J.ialoadN dX0_contest_138 rfl hb ?_
    refine J.i2l dX0_contest_139 ?_
    refine J.lload dX0_contest_140 rfl ?_
    refine J.lmul dX0_contest_142 ?_
    refine J.aload_n dX0_contest_143 rfl rfl ?_
    refine J.getfield dX0_contest_144 jFX0_105 rfl rfl ?_
    refine J.i2l dX0_contest_147 ?_
    refine J.lload dX0_contest_148 rfl ?_
    refine J.lmul dX0_contest_150 ?_
    refine J.aload dX0_contest_151 rfl ?_
    refine J.aload dX0_contest_153 rfl ?_
    refine J.cv (as := [.int _, .long _, .long _, .long _, .ref 7, .ref 6]) (is := [0, 1, 2, 3, 4, 5, 6, 7, 8]) (o := 0) okX0_duelHour jcX0_108 (mX0_duelHour1 (rrow q 2 (ten q (i + 1) t)) x n (urow (urow u 0 (fun j => if i + 1 < j ∧ j ≤ q 6 0 then dg q r a b N (k + 1) 0 j else dg q r a b N k 0 j)) 1 (fun j => if i + 1 < j ∧ j ≤ q 6 0 then dg q r a b N (k + 1) 1 j else dg q r a b N k 1 j)) ((nI (r 2 b)).toInt64 * lN (1000 ^ k)) ((nI (r 3 b)).toInt64 * lN (1000 ^ k)) ((nI (r 6 5)).toInt64 * lN (1000 ^ k)) (i + 1) (by have := hq.2.2.2; omega) (fun i9 => ten_le q (i + 1) t i9)) dX0_contest_155 rfl rfl rfl rfl rfl rfl rfl (fun r9 B9 hq => ?_)
    obtain ⟨rfl, rfl⟩ := hq
    refine ⟨rfl, ?_⟩
    show J _ _ _ _ _ [] (wO (rrow q 2 (ten q (i + 1) t)) x n (urow (urow u 0 (fun j => if j = i + 1 then ovv (ten q (i + 1) t) ((nI (r 2 b)).toInt64 * lN (1000 ^ k)) ((nI (r 3 b)).toInt64 * lN (1000 ^ k)) ((nI (r 6 5)).toInt64 * lN (1000 ^ k)) (fun j => if i + 1 < j ∧ j ≤ q 6 0 then dg q r a b N (k + 1) 1 j else dg q r a b N k 1 j) (fun j => if i + 1 < j ∧ j ≤ q 6 0 then dg q r a b N (k + 1) 0 j else dg q r a b N k 0 j) (i + 1) else (fun j => if i + 1 < j ∧ j ≤ q 6 0 then dg q r a b N (k + 1) 0 j else dg q r a b N k 0 j) j)) 1 (fun j => if j = i + 1 then hvv (ten q (i + 1) t) ((nI (r 2 b)).toInt64 * lN (1000 ^ k)) ((nI (r 3 b)).toInt64 * lN (1000 ^ k)) (fun j => if i + 1 < j ∧ j ≤ q 6 0 then dg q r a b N (k + 1) 1 j else dg q r a b N k 1 j) (i + 1) else (fun j => if i + 1 < j ∧ j ≤ q 6 0 then dg q r a b N (k + 1) 1 j else dg q r a b N k 1 j) j)) ++ wRb 9 r) _ _
    refine J.iinc (-1) dX0_contest_158 (by decide) rfl (by decide) rfl ?_
    try dsimp only [List.set, wO, wR, wRb, List.cons_append, List.nil_append]
    refine J.goto (tgt := 105) dX0_contest_161 (by decide) ?_
    have h0 := dv_loc (ten q (i + 1) t) ((nI (r 2 b)).toInt64 * lN (1000 ^ k)) ((nI (r 3 b)).toInt64 * lN (1000 ^ k)) (fun j => if i + 1 < j ∧ j ≤ q 6 0 then dg q r a b N (k + 1) 1 j else dg q r a b N k 1 j) (dg q r a b N k 1) (i + 1) (fun j hj => if_neg (by omega))
    have h1 := ev_loc (ten q (i + 1) t) ((nI (r 6 5)).toInt64 * lN (1000 ^ k)) (fun j => if i + 1 < j ∧ j ≤ q 6 0 then dg q r a b N (k + 1) 0 j else dg q r a b N k 0 j) (dg q r a b N k 0) (i + 1) (fun j hj => if_neg (by omega))
    have g1 : dg q r a b N (k + 1) 1 (i + 1) = hvv (ten q (i + 1) t) ((nI (r 2 b)).toInt64 * lN (1000 ^ k)) ((nI (r 3 b)).toInt64 * lN (1000 ^ k)) (fun j => if i + 1 < j ∧ j ≤ q 6 0 then dg q r a b N (k + 1) 1 j else dg q r a b N k 1 j) (i + 1) := by (unfold hvv; rw [h0]; show (if 1 ≤ i + 1 ∧ i + 1 ≤ q 6 0 then _ else _) = _; rw [if_pos ⟨by omega, hi⟩, ← ht2, hpar, if_pos rfl]; simp only [hvv, show ((1 : Nat) = 0) = False from by simp, if_false])
    have g2 : dg q r a b N (k + 1) 0 (i + 1) = ovv (ten q (i + 1) t) ((nI (r 2 b)).toInt64 * lN (1000 ^ k)) ((nI (r 3 b)).toInt64 * lN (1000 ^ k)) ((nI (r 6 5)).toInt64 * lN (1000 ^ k)) (fun j => if i + 1 < j ∧ j ≤ q 6 0 then dg q r a b N (k + 1) 1 j else dg q r a b N k 1 j) (fun j => if i + 1 < j ∧ j ≤ q 6 0 then dg q r a b N (k + 1) 0 j else dg q r a b N k 0 j) (i + 1) := by (unfold ovv; rw [h0, h1]; show (if 1 ≤ i + 1 ∧ i + 1 ≤ q 6 0 then _ else _) = _; rw [if_pos ⟨by omega, hi⟩, ← ht2, hpar, if_neg (by decide)]; simp only [ovv, show ((1 : Nat) = 0) = False from by simp, if_false, Nat.sub_self])
    have e0 : (fun j => if j = i + 1 then ovv (ten q (i + 1) t) ((nI (r 2 b)).toInt64 * lN (1000 ^ k)) ((nI (r 3 b)).toInt64 * lN (1000 ^ k)) ((nI (r 6 5)).toInt64 * lN (1000 ^ k)) (fun j => if i + 1 < j ∧ j ≤ q 6 0 then dg q r a b N (k + 1) 1 j else dg q r a b N k 1 j) (fun j => if i + 1 < j ∧ j ≤ q 6 0 then dg q r a b N (k + 1) 0 j else dg q r a b N k 0 j) (i + 1) else (fun j => if i + 1 < j ∧ j ≤ q 6 0 then dg q r a b N (k + 1) 0 j else dg q r a b N k 0 j) j) = (fun j => if i < j ∧ j ≤ q 6 0 then dg q r a b N (k + 1) 0 j else dg q r a b N k 0 j) := by (rw [← g2]; exact dn_s (dg q r a b N (k + 1) 0) (dg q r a b N k 0) (q 6 0) i hi)
    have e1 : (fun j => if j = i + 1 then hvv (ten q (i + 1) t) ((nI (r 2 b)).toInt64 * lN (1000 ^ k)) ((nI (r 3 b)).toInt64 * lN (1000 ^ k)) (fun j => if i + 1 < j ∧ j ≤ q 6 0 then dg q r a b N (k + 1) 1 j else dg q r a b N k 1 j) (i + 1) else (fun j => if i + 1 < j ∧ j ≤ q 6 0 then dg q r a b N (k + 1) 1 j else dg q r a b N k 1 j) j) = (fun j => if i < j ∧ j ≤ q 6 0 then dg q r a b N (k + 1) 1 j else dg q r a b N k 1 j) := by (rw [← g1]; exact dn_s (dg q r a b N (k + 1) 1) (dg q r a b N k 1) (q 6 0) i hi)
    refine J.at (ih (by omega) (ten q (i + 1) t)) (by rw [nI_m1]) rfl ?_
    rw [← e0, ← e1]
    rfl
set_option maxRecDepth 100000 in
set_option maxHeartbeats 4000000 in
theorem mX0_contest_t (q : rT) (x : Nat → Nat) (n : Nat → Int64) (u : uT) (r : rT) (a b N : Nat) (hq : oOK q) (ha : a < 4) (hb : b < 4) (hN : N < 100) : ∀ (i : Nat), i ≤ N → ∀ (g : Nat → Nat) (z1 z2 z3 z4 z5 z6 : Option Value), J KX0_contest 16 (fun o B => o = none ∧ ∃ g9 f1 f2, B = wO (rrow q 2 g9) x n (urow (urow (urow u 0 f1) 1 f2) 3 (fun j => if j = 0 then dg q r a b N N 0 (q 6 0) else (if q 6 0 = 0 ∧ 0 < N then (nI (r 6 5)).toInt64 * lN (1000 ^ N) else dg q r a b N N 1 (q 6 0)))) ++ wRb 9 r) 20 [some (.ref 0), some (.ref 9), some (.int (nI a)), some (.int (nI b)), some (.int (nI N)), some (.int (nI i - 1)), z1, z2, z3, z4, z5, none, z6] [] (wO (rrow q 2 g) x n (urow (urow u 0 (dg q r a b N (N - i) 0)) 1 (dg q r a b N (N - i) 1)) ++ wRb 9 r) 0 0 := by
  intro i
  induction i with
  | zero =>
    intro hi g z1 z2 z3 z4 z5 z6
    rw [Nat.sub_zero]
    refine J.iload dX0_contest_20 rfl ?_
    refine J.if_lt (tgt := 170) dX0_contest_22 (by decide) (fun c22 => ?_) (fun c22 => absurd c22 (fun h => h (by decide)))
    refine J.aload_n dX0_contest_170 rfl rfl ?_
    refine J.aload_n dX0_contest_171 rfl rfl ?_
    refine J.getfield dX0_contest_172 jFX0_28 rfl rfl ?_
    refine J.aload_n dX0_contest_175 rfl rfl ?_
    refine J.getfield dX0_contest_176 jFX0_57 rfl rfl ?_
    refine J.laloadN dX0_contest_179 rfl hq.2.2.2 ?_
    refine J.putfield dX0_contest_180 jFX0_112 jP0_10 rfl rfl rfl (Nat.le_of_ble_eq_true rfl) ?_
    try dsimp only [List.set, wO, wR, wRb, List.cons_append, List.nil_append]
    refine J.aload_n dX0_contest_183 rfl rfl ?_
    refine J.aload_n dX0_contest_184 rfl rfl ?_
    refine J.getfield dX0_contest_185 jFX0_57 rfl rfl ?_
    refine J.if_ne (tgt := 210) dX0_contest_188 (by decide) (fun c188 => ?_) (fun c188 => ?_)
    · refine J.aload_n dX0_contest_210 rfl rfl ?_
      refine J.getfield dX0_contest_211 jFX0_31 rfl rfl ?_
      refine J.aload_n dX0_contest_214 rfl rfl ?_
      refine J.getfield dX0_contest_215 jFX0_57 rfl rfl ?_
      refine J.laloadN dX0_contest_218 rfl hq.2.2.2 ?_
      refine J.putfield dX0_contest_219 jFX0_116 jP0_11 rfl rfl rfl (Nat.le_of_ble_eq_true rfl) ?_
      try dsimp only [List.set, wO, wR, wRb, List.cons_append, List.nil_append]
      exact J.vret dX0_contest_222 rfl (Nat.le_refl _) (Nat.le_refl _) ⟨rfl, g, dg q r a b N N 0, dg q r a b N N 1, by rw [show (if q 6 0 = 0 ∧ 0 < N then (nI (r 6 5)).toInt64 * lN (1000 ^ N) else dg q r a b N N 1 (q 6 0)) = dg q r a b N N 1 (q 6 0) from if_neg (fun h => c188 (congrArg nI h.1))]; rfl⟩
    · refine J.iload dX0_contest_191 rfl ?_
      refine J.if_le (tgt := 210) dX0_contest_193 (by decide) (fun c193 => ?_) (fun c193 => ?_)
      · refine J.aload_n dX0_contest_210 rfl rfl ?_
        refine J.getfield dX0_contest_211 jFX0_31 rfl rfl ?_
        refine J.aload_n dX0_contest_214 rfl rfl ?_
        refine J.getfield dX0_contest_215 jFX0_57 rfl rfl ?_
        refine J.laloadN dX0_contest_218 rfl hq.2.2.2 ?_
        refine J.putfield dX0_contest_219 jFX0_116 jP0_11 rfl rfl rfl (Nat.le_of_ble_eq_true rfl) ?_
        try dsimp only [List.set, wO, wR, wRb, List.cons_append, List.nil_append]
        exact J.vret dX0_contest_222 rfl (Nat.le_refl _) (Nat.le_refl _) ⟨rfl, g, dg q r a b N N 0, dg q r a b N N 1, by rw [show (if q 6 0 = 0 ∧ 0 < N then (nI (r 6 5)).toInt64 * lN (1000 ^ N) else dg q r a b N N 1 (q 6 0)) = dg q r a b N N 1 (q 6 0) from if_neg (fun h => absurd ((nI_lei (b := 0) (by omega) (by decide)).mp c193) (by omega))]; rfl⟩
      · refine J.aload_n dX0_contest_196 rfl rfl ?_
        refine J.getfield dX0_contest_197 jFX0_105 rfl rfl ?_
        refine J.i2l dX0_contest_200 ?_
        refine J.iload dX0_contest_201 rfl ?_
        refine J.cs (as := [.int _]) (is := []) okX6_thousands jcX0_91 (mX6_thousands N (by omega)) dX0_contest_203 rfl rfl rfl rfl rfl rfl (fun r9 B9 hq => ?_)
        obtain ⟨rfl, rfl⟩ := hq
        refine ⟨rfl, ?_⟩
        show J _ _ _ _ _ (.long _ :: .long _ :: .ref 0 :: _) _ _ _
        refine J.lmul dX0_contest_206 ?_
        refine J.goto (tgt := 219) dX0_contest_207 (by decide) ?_
        refine J.putfield dX0_contest_219 jFX0_116 jP0_11 rfl rfl rfl (Nat.le_of_ble_eq_true rfl) ?_
        try dsimp only [List.set, wO, wR, wRb, List.cons_append, List.nil_append]
        exact J.vret dX0_contest_222 rfl (Nat.le_refl _) (Nat.le_refl _) ⟨rfl, g, dg q r a b N N 0, dg q r a b N N 1, by rw [show (if q 6 0 = 0 ∧ 0 < N then (nI (r 6 5)).toInt64 * lN (1000 ^ N) else dg q r a b N N 1 (q 6 0)) = (nI (r 6 5)).toInt64 * lN (1000 ^ N) from if_pos ⟨(nI_eqi (b := 0) (by have := hq.2.2.2; omega) (by decide)).mp c188, (nI_lti (a := 0) (by decide) (by omega)).mp (Int32.not_le.mp c193)⟩]; rfl⟩
  | succ i ih =>
    intro hi g z1 z2 z3 z4 z5 z6
    rcases (show i % 2 = 0 ∨ i % 2 = 1 by omega) with hp | hp
    · rw [nI_pred]
      refine J.iload dX0_contest_20 rfl ?_
      refine J.if_lt (tgt := 170) dX0_contest_22 (by decide) (fun c22 => absurd c22 (fun h => absurd h (nI_pos (by omega)))) (fun c22 => ?_)
      refine J.iload dX0_contest_25 rfl ?_
      refine J.iconst (1) dX0_contest_27 (by decide) ?_
      refine J.iand dX0_contest_28 ?_
      rw [and1_eval _ (by omega), hp]
      refine J.if_ne (tgt := 36) dX0_contest_29 (by decide) (fun c29 => absurd c29 (by decide)) (fun c29 => ?_)
      refine J.iconst (1) dX0_contest_32 (by decide) ?_
      refine J.goto (tgt := 37) dX0_contest_33 (by decide) ?_
      refine J.istore dX0_contest_37 (by decide) rfl ?_
      try dsimp only [List.set, wO, wR, wRb, List.cons_append, List.nil_append]
      refine J.iload dX0_contest_39 rfl ?_
      refine J.if_eq (tgt := 48) dX0_contest_41 (by decide) (fun c41 => absurd c41 (by decide)) (fun c41 => ?_)
      refine J.iload_n dX0_contest_44 rfl rfl ?_
      refine J.goto (tgt := 49) dX0_contest_45 (by decide) ?_
      refine J.istore dX0_contest_49 (by decide) rfl ?_
      try dsimp only [List.set, wO, wR, wRb, List.cons_append, List.nil_append]
      refine J.iload dX0_contest_51 rfl ?_
      refine J.if_eq (tgt := 63) dX0_contest_53 (by decide) (fun c53 => absurd c53 (by decide)) (fun c53 => ?_)
      refine J.aload_n dX0_contest_56 rfl rfl ?_
      refine J.getfield dX0_contest_57 jFX0_28 rfl rfl ?_
      refine J.goto (tgt := 67) dX0_contest_60 (by decide) ?_
      refine J.astore dX0_contest_67 (by decide) rfl ?_
      try dsimp only [List.set, wO, wR, wRb, List.cons_append, List.nil_append]
      refine J.iload dX0_contest_69 rfl ?_
      refine J.if_eq (tgt := 81) dX0_contest_71 (by decide) (fun c71 => absurd c71 (by decide)) (fun c71 => ?_)
      refine J.aload_n dX0_contest_74 rfl rfl ?_
      refine J.getfield dX0_contest_75 jFX0_31 rfl rfl ?_
      refine J.goto (tgt := 85) dX0_contest_78 (by decide) ?_
      refine J.astore dX0_contest_85 (by decide) rfl ?_
      try dsimp only [List.set, wO, wR, wRb, List.cons_append, List.nil_append]
      refine J.iload dX0_contest_87 rfl ?_
      refine J.iconst (1) dX0_contest_89 (by decide) ?_
      refine J.isub dX0_contest_90 ?_
      refine J.iload dX0_contest_91 rfl ?_
      refine J.isub dX0_contest_93 ?_
      rw [show (1 : Int32) = nI 1 from rfl, pk_sub (by omega), pk_sub (by omega), show N - 1 - i = N - (i + 1) from by omega]
      refine J.cs (as := [.int _]) (is := []) okX6_thousands jcX0_91 (mX6_thousands (N - (i + 1)) (by omega)) dX0_contest_94 rfl rfl rfl rfl rfl rfl (fun r9 B9 hq => ?_)
      obtain ⟨rfl, rfl⟩ := hq
      refine ⟨rfl, ?_⟩
      show J _ _ _ _ _ (.long _ :: _) (wO (rrow q 2 g) x n (urow (urow u 0 (dg q r a b N (N - (i + 1)) 0)) 1 (dg q r a b N (N - (i + 1)) 1)) ++ wRb 9 r) _ _
      refine J.lstore dX0_contest_97 (by decide) rfl ?_
      try dsimp only [List.set, wO, wR, wRb, List.cons_append, List.nil_append]
      refine J.aload_n dX0_contest_99 rfl rfl ?_
      refine J.getfield dX0_contest_100 jFX0_57 rfl rfl ?_
      refine J.istore dX0_contest_103 (by decide) rfl ?_
      try dsimp only [List.set, wO, wR, wRb, List.cons_append, List.nil_append]
      refine J.at (mX0_contest_s0 q x n u r a b N hq ha hb hN (N - (i + 1)) i (by omega) (by omega) hp ?_ (q 6 0) (Nat.le_refl _) g) rfl rfl ?_
      · intro g9 y1
        refine J.iinc (-1) dX0_contest_164 (by decide) rfl (by decide) rfl ?_
        try dsimp only [List.set, wO, wR, wRb, List.cons_append, List.nil_append]
        refine J.goto (tgt := 20) dX0_contest_167 (by decide) ?_
        exact J.at (ih (by omega) g9 _ _ _ _ _ _) (by rw [sub1]) rfl (by rw [show N - (i + 1) + 1 = N - i from by omega]; rfl)
      · have e0 : ∀ c, (fun j => if q 6 0 < j ∧ j ≤ q 6 0 then dg q r a b N (N - (i + 1) + 1) c j else dg q r a b N (N - (i + 1)) c j) = dg q r a b N (N - (i + 1)) c := fun c => funext fun j => if_neg (by omega)
        rw [e0 0, e0 1]
        rfl
    · rw [nI_pred]
      refine J.iload dX0_contest_20 rfl ?_
      refine J.if_lt (tgt := 170) dX0_contest_22 (by decide) (fun c22 => absurd c22 (fun h => absurd h (nI_pos (by omega)))) (fun c22 => ?_)
      refine J.iload dX0_contest_25 rfl ?_
      refine J.iconst (1) dX0_contest_27 (by decide) ?_
      refine J.iand dX0_contest_28 ?_
      rw [and1_eval _ (by omega), hp]
      refine J.if_ne (tgt := 36) dX0_contest_29 (by decide) (fun c29 => ?_) (fun c29 => absurd c29 (by decide))
      refine J.iconst (0) dX0_contest_36 (by decide) ?_
      refine J.istore dX0_contest_37 (by decide) rfl ?_
      try dsimp only [List.set, wO, wR, wRb, List.cons_append, List.nil_append]
      refine J.iload dX0_contest_39 rfl ?_
      refine J.if_eq (tgt := 48) dX0_contest_41 (by decide) (fun c41 => ?_) (fun c41 => absurd c41 (fun h => h rfl))
      refine J.iload_n dX0_contest_48 rfl rfl ?_
      refine J.istore dX0_contest_49 (by decide) rfl ?_
      try dsimp only [List.set, wO, wR, wRb, List.cons_append, List.nil_append]
      refine J.iload dX0_contest_51 rfl ?_
      refine J.if_eq (tgt := 63) dX0_contest_53 (by decide) (fun c53 => ?_) (fun c53 => absurd c53 (fun h => h rfl))
      refine J.aload_n dX0_contest_63 rfl rfl ?_
      refine J.getfield dX0_contest_64 jFX0_31 rfl rfl ?_
      refine J.astore dX0_contest_67 (by decide) rfl ?_
      try dsimp only [List.set, wO, wR, wRb, List.cons_append, List.nil_append]
      refine J.iload dX0_contest_69 rfl ?_
      refine J.if_eq (tgt := 81) dX0_contest_71 (by decide) (fun c71 => ?_) (fun c71 => absurd c71 (fun h => h rfl))
      refine J.aload_n dX0_contest_81 rfl rfl ?_
      refine J.getfield dX0_contest_82 jFX0_28 rfl rfl ?_
      refine J.astore dX0_contest_85 (by decide) rfl ?_
      try dsimp only [List.set, wO, wR, wRb, List.cons_append, List.nil_append]
      refine J.iload dX0_contest_87 rfl ?_
      refine J.iconst (1) dX0_contest_89 (by decide) ?_
      refine J.isub dX0_contest_90 ?_
      refine J.iload dX0_contest_91 rfl ?_
      refine J.isub dX0_contest_93 ?_
      rw [show (1 : Int32) = nI 1 from rfl, pk_sub (by omega), pk_sub (by omega), show N - 1 - i = N - (i + 1) from by omega]
      refine J.cs (as := [.int _]) (is := []) okX6_thousands jcX0_91 (mX6_thousands (N - (i + 1)) (by omega)) dX0_contest_94 rfl rfl rfl rfl rfl rfl (fun r9 B9 hq => ?_)
      obtain ⟨rfl, rfl⟩ := hq
      refine ⟨rfl, ?_⟩
      show J _ _ _ _ _ (.long _ :: _) (wO (rrow q 2 g) x n (urow (urow u 0 (dg q r a b N (N - (i + 1)) 0)) 1 (dg q r a b N (N - (i + 1)) 1)) ++ wRb 9 r) _ _
      refine J.lstore dX0_contest_97 (by decide) rfl ?_
      try dsimp only [List.set, wO, wR, wRb, List.cons_append, List.nil_append]
      refine J.aload_n dX0_contest_99 rfl rfl ?_
      refine J.getfield dX0_contest_100 jFX0_57 rfl rfl ?_
      refine J.istore dX0_contest_103 (by decide) rfl ?_
      try dsimp only [List.set, wO, wR, wRb, List.cons_append, List.nil_append]
      refine J.at (mX0_contest_s1 q x n u r a b N hq ha hb hN (N - (i + 1)) i (by omega) (by omega) hp ?_ (q 6 0) (Nat.le_refl _) g) rfl rfl ?_
      · intro g9 y1
        refine J.iinc (-1) dX0_contest_164 (by decide) rfl (by decide) rfl ?_
        try dsimp only [List.set, wO, wR, wRb, List.cons_append, List.nil_append]
        refine J.goto (tgt := 20) dX0_contest_167 (by decide) ?_
        exact J.at (ih (by omega) g9 _ _ _ _ _ _) (by rw [sub1]) rfl (by rw [show N - (i + 1) + 1 = N - i from by omega]; rfl)
      · have e0 : ∀ c, (fun j => if q 6 0 < j ∧ j ≤ q 6 0 then dg q r a b N (N - (i + 1) + 1) c j else dg q r a b N (N - (i + 1)) c j) = dg q r a b N (N - (i + 1)) c := fun c => funext fun j => if_neg (by omega)
        rw [e0 0, e0 1]
        rfl
set_option maxRecDepth 100000 in
set_option maxHeartbeats 4000000 in
theorem mX0_contest (q : rT) (x : Nat → Nat) (n : Nat → Int64) (u : uT) (r : rT) (a b N : Nat) (hq : oOK q) (ha : a < 4) (hb : b < 4) (hN : N < 100) : J KX0_contest 16 (fun o B => o = none ∧ ∃ g9 f1 f2, B = wO (rrow q 2 g9) x n (urow (urow (urow u 0 f1) 1 f2) 3 (fun j => if j = 0 then dg q r a b N N 0 (q 6 0) else (if q 6 0 = 0 ∧ 0 < N then (nI (r 6 5)).toInt64 * lN (1000 ^ N) else dg q r a b N N 1 (q 6 0)))) ++ wRb 9 r) 0 [some (.ref 0), some (.ref 9), some (.int (nI a)), some (.int (nI b)), some (.int (nI N)), none, none, none, none, none, none, none, none] [] (wO q x n u ++ wRb 9 r) 0 0 := by
  refine J.aload_n dX0_contest_0 rfl rfl ?_
  refine J.getfield dX0_contest_1 jFX0_28 rfl rfl ?_
  refine J.cs (as := [.ref 0]) (is := [6]) okX0_clearGains jcX0_95 (mX0_clearGains 8 (u 0) (by decide)) dX0_contest_4 rfl rfl rfl rfl rfl rfl (fun r9 B9 hq => ?_)
  obtain ⟨rfl, rfl⟩ := hq
  refine ⟨rfl, ?_⟩
  show J _ _ _ _ _ [] (wO q x n (urow u 0 (fun _ => 0)) ++ wRb 9 r) _ _
  refine J.aload_n dX0_contest_7 rfl rfl ?_
  refine J.getfield dX0_contest_8 jFX0_31 rfl rfl ?_
  refine J.cs (as := [.ref 0]) (is := [7]) okX0_clearGains jcX0_95 (mX0_clearGains 8 (u 1) (by decide)) dX0_contest_11 rfl rfl rfl rfl rfl rfl (fun r9 B9 hq => ?_)
  obtain ⟨rfl, rfl⟩ := hq
  refine ⟨rfl, ?_⟩
  show J _ _ _ _ _ [] (wO q x n (urow (urow u 0 (fun _ => 0)) 1 (fun _ => 0)) ++ wRb 9 r) _ _
  refine J.iload dX0_contest_14 rfl ?_
  refine J.iconst (1) dX0_contest_16 (by decide) ?_
  refine J.isub dX0_contest_17 ?_
  refine J.istore dX0_contest_18 (by decide) rfl ?_
  try dsimp only [List.set, wO, wR, wRb, List.cons_append, List.nil_append]
  exact J.at (mX0_contest_t q x n u r a b N hq ha hb hN N (Nat.le_refl _) (q 2) none none none none none none) rfl rfl (by rw [Nat.sub_self]; rfl)
