theorem jw {a b c : Nat} (hc : c < 2147483648) (h1 : a ≤ b) (h2 : b ≤ c) : nI a ≤ nI b ∧ nI b ≤ nI c := ⟨(nI_lei (by omega) (by omega)).mpr h1, (nI_lei (by omega) (by omega)).mpr h2⟩
def ruleA (r : rT) (z : Int32) : Int32 := if z = 0 then nI (r 6 0) else if z = 1 then nI (r 6 1) else if z = 2 then nI (r 6 2) else if z = 3 then nI (r 6 4) else if z = 4 then nI (r 6 5) else if z = 5 then nI (r 6 6) else if z = 6 then nI (r 6 3) else if z = 7 then (if r 6 3 = 0 then 1 else 0) else -1
set_option maxRecDepth 100000 in
set_option maxHeartbeats 4000000 in
theorem mX6_rule (rs : Nat → rT) (v : Nat → Nat → Nat) (q : rT) (x : Nat → Nat) (n : Nat → Int64) (u : uT) (c : Nat → Nat → Int32) (l : Nat → Int32) (tn : Int32) (z : Int32) (hr : rOK (rs 0)) : J KX6_rule 62 (fun o B => o = some (.int (ruleA (rs 0) z)) ∧ B = (wC rs v q x n u c l tn)) 0 [some (.ref 0), some (.int z)] [] (wC rs v q x n u c l tn) 0 0 := by
  refine J.iload_n dX6_rule_0 rfl rfl ?_
  by_cases sw0 : z = 0
  · subst sw0
    refine J.tableIn (off := 47) (tgt := 48) dX6_rule_1 (by decide) (by decide) (by decide) (by decide) ?_
    refine J.aload_n dX6_rule_48 rfl rfl ?_
    refine J.getfield dX6_rule_49 jFX6_12 rfl rfl ?_
    refine J.getfield dX6_rule_52 jFX6_93 rfl rfl ?_
    exact J.iret dX6_rule_55 rfl rfl (Nat.le_refl _) (Nat.le_refl _) ⟨rfl, rfl⟩
  by_cases sw1 : z = 1
  · subst sw1
    refine J.tableIn (off := 55) (tgt := 56) dX6_rule_1 (by decide) (by decide) (by decide) (by decide) ?_
    refine J.aload_n dX6_rule_56 rfl rfl ?_
    refine J.getfield dX6_rule_57 jFX6_12 rfl rfl ?_
    refine J.getfield dX6_rule_60 jFX6_96 rfl rfl ?_
    exact J.iret dX6_rule_63 rfl rfl (Nat.le_refl _) (Nat.le_refl _) ⟨rfl, rfl⟩
  by_cases sw2 : z = 2
  · subst sw2
    refine J.tableIn (off := 63) (tgt := 64) dX6_rule_1 (by decide) (by decide) (by decide) (by decide) ?_
    refine J.aload_n dX6_rule_64 rfl rfl ?_
    refine J.getfield dX6_rule_65 jFX6_12 rfl rfl ?_
    refine J.getfield dX6_rule_68 jFX6_99 rfl rfl ?_
    exact J.iret dX6_rule_71 rfl rfl (Nat.le_refl _) (Nat.le_refl _) ⟨rfl, rfl⟩
  by_cases sw3 : z = 3
  · subst sw3
    refine J.tableIn (off := 71) (tgt := 72) dX6_rule_1 (by decide) (by decide) (by decide) (by decide) ?_
    refine J.aload_n dX6_rule_72 rfl rfl ?_
    refine J.getfield dX6_rule_73 jFX6_12 rfl rfl ?_
    refine J.getfield dX6_rule_76 jFX6_102 rfl rfl ?_
    exact J.iret dX6_rule_79 rfl rfl (Nat.le_refl _) (Nat.le_refl _) ⟨rfl, rfl⟩
  by_cases sw4 : z = 4
  · subst sw4
    refine J.tableIn (off := 79) (tgt := 80) dX6_rule_1 (by decide) (by decide) (by decide) (by decide) ?_
    refine J.aload_n dX6_rule_80 rfl rfl ?_
    refine J.getfield dX6_rule_81 jFX6_12 rfl rfl ?_
    refine J.getfield dX6_rule_84 jFX6_105 rfl rfl ?_
    exact J.iret dX6_rule_87 rfl rfl (Nat.le_refl _) (Nat.le_refl _) ⟨rfl, rfl⟩
  by_cases sw5 : z = 5
  · subst sw5
    refine J.tableIn (off := 87) (tgt := 88) dX6_rule_1 (by decide) (by decide) (by decide) (by decide) ?_
    refine J.aload_n dX6_rule_88 rfl rfl ?_
    refine J.getfield dX6_rule_89 jFX6_12 rfl rfl ?_
    refine J.getfield dX6_rule_92 jFX6_108 rfl rfl ?_
    exact J.iret dX6_rule_95 rfl rfl (Nat.le_refl _) (Nat.le_refl _) ⟨rfl, rfl⟩
  by_cases sw6 : z = 6
  · subst sw6
    refine J.tableIn (off := 95) (tgt := 96) dX6_rule_1 (by decide) (by decide) (by decide) (by decide) ?_
    refine J.aload_n dX6_rule_96 rfl rfl ?_
    refine J.getfield dX6_rule_97 jFX6_12 rfl rfl ?_
    refine J.getfield dX6_rule_100 jFX6_111 rfl rfl ?_
    exact J.iret dX6_rule_103 rfl rfl (Nat.le_refl _) (Nat.le_refl _) ⟨rfl, rfl⟩
  by_cases sw7 : z = 7
  · subst sw7
    refine J.tableIn (off := 103) (tgt := 104) dX6_rule_1 (by decide) (by decide) (by decide) (by decide) ?_
    refine J.aload_n dX6_rule_104 rfl rfl ?_
    refine J.getfield dX6_rule_105 jFX6_12 rfl rfl ?_
    refine J.getfield dX6_rule_108 jFX6_111 rfl rfl ?_
    refine J.if_ne (tgt := 118) dX6_rule_111 (by decide) (fun c111 => ?_) (fun c111 => ?_)
    · refine J.iconst (0) dX6_rule_118 (by decide) ?_
      exact J.iret dX6_rule_119 rfl rfl (Nat.le_refl _) (Nat.le_refl _) ⟨congrArg (fun x => some (Value.int x)) (by first | exact (if_neg (fun h => c111 (congrArg nI h))).symm | exact (if_pos ((nI_eqi (b := 0) (by have := hr.w; omega) (by decide)).mp c111)).symm), rfl⟩
    · refine J.iconst (1) dX6_rule_114 (by decide) ?_
      refine J.goto (tgt := 119) dX6_rule_115 (by decide) ?_
      exact J.iret dX6_rule_119 rfl rfl (Nat.le_refl _) (Nat.le_refl _) ⟨congrArg (fun x => some (Value.int x)) (by first | exact (if_neg (fun h => c111 (congrArg nI h))).symm | exact (if_pos ((nI_eqi (b := 0) (by have := hr.w; omega) (by decide)).mp c111)).symm), rfl⟩
  refine J.tableOut (tgt := 120) dX6_rule_1 (by have t0 := lv_neT sw0 (show (0 : Int32).toInt = 0 from rfl); have t1 := lv_neT sw1 (show (1 : Int32).toInt = 1 from rfl); have t2 := lv_neT sw2 (show (2 : Int32).toInt = 2 from rfl); have t3 := lv_neT sw3 (show (3 : Int32).toInt = 3 from rfl); have t4 := lv_neT sw4 (show (4 : Int32).toInt = 4 from rfl); have t5 := lv_neT sw5 (show (5 : Int32).toInt = 5 from rfl); have t6 := lv_neT sw6 (show (6 : Int32).toInt = 6 from rfl); have t7 := lv_neT sw7 (show (7 : Int32).toInt = 7 from rfl); omega) (by decide) ?_
  refine J.iconst (-1) dX6_rule_120 (by decide) ?_
  exact J.iret dX6_rule_121 rfl rfl (Nat.le_refl _) (Nat.le_refl _) ⟨congrArg (fun x => some (Value.int x)) (by rw [ruleA, if_neg sw0, if_neg sw1, if_neg sw2, if_neg sw3, if_neg sw4, if_neg sw5, if_neg sw6, if_neg sw7]), rfl⟩
def hairA (r : rT) (i : Nat) (z : Int32) : Int32 := if z = 0 then nI (r 0 i) else if z = 1 then nI (r 1 i) else if z = 2 then nI (bit (r 6 3) i) else if z = 3 then nI (rbrk r i) else -1
set_option maxRecDepth 100000 in
set_option maxHeartbeats 4000000 in
theorem mX6_hair (rs : Nat → rT) (v : Nat → Nat → Nat) (q : rT) (x : Nat → Nat) (n : Nat → Int64) (u : uT) (c : Nat → Nat → Int32) (l : Nat → Int32) (tn : Int32) (i : Nat) (z : Int32) (hr : rOK (rs 0)) (hi : i < rs 0 6 0) : J KX6_hair 62 (fun o B => o = some (.int (hairA (rs 0) i z)) ∧ B = (wC rs v q x n u c l tn)) 0 [some (.ref 0), some (.int (nI i)), some (.int z)] [] (wC rs v q x n u c l tn) 0 0 := by
  refine J.iload_n dX6_hair_0 rfl rfl ?_
  refine J.iconst (0) dX6_hair_1 (by decide) ?_
  refine J.aload_n dX6_hair_2 rfl rfl ?_
  refine J.getfield dX6_hair_3 jFX6_12 rfl rfl ?_
  refine J.getfield dX6_hair_6 jFX6_93 rfl rfl ?_
  refine J.iconst (1) dX6_hair_9 (by decide) ?_
  refine J.isub dX6_hair_10 ?_
  refine J.cs (as := [.int _, .int _, .int _]) (is := []) okX6_within jcX6_59 (mX6_within _ _ _) dX6_hair_11 rfl rfl rfl rfl rfl rfl (fun r9 B9 hq => ?_)
  obtain ⟨rfl, rfl⟩ := hq
  refine ⟨rfl, ?_⟩
  show J _ _ _ _ _ (.int _ :: _) (wC rs v q x n u c l tn) _ _
  refine J.if_ne (tgt := 19) dX6_hair_14 (by decide) (fun c14 => ?_) (fun c14 => absurd c14 (fun h => (jB_0 _).mp h (jin_ge (by have := hr.1; omega) hi)))
  refine J.iload_n dX6_hair_19 rfl rfl ?_
  by_cases sw0 : z = 0
  · subst sw0
    refine J.tableIn (off := 32) (tgt := 52) dX6_hair_20 (by decide) (by decide) (by decide) (by decide) ?_
    refine J.aload_n dX6_hair_52 rfl rfl ?_
    refine J.getfield dX6_hair_53 jFX6_12 rfl rfl ?_
    refine J.getfield dX6_hair_56 jFX6_114 rfl rfl ?_
    refine J.iload_n dX6_hair_59 rfl rfl ?_
    refine J.ialoadN dX6_hair_60 rfl (by have := hr.1; omega) ?_
    exact J.iret dX6_hair_61 rfl rfl (Nat.le_refl _) (Nat.le_refl _) ⟨rfl, rfl⟩
  by_cases sw1 : z = 1
  · subst sw1
    refine J.tableIn (off := 42) (tgt := 62) dX6_hair_20 (by decide) (by decide) (by decide) (by decide) ?_
    refine J.aload_n dX6_hair_62 rfl rfl ?_
    refine J.getfield dX6_hair_63 jFX6_12 rfl rfl ?_
    refine J.getfield dX6_hair_66 jFX6_118 rfl rfl ?_
    refine J.iload_n dX6_hair_69 rfl rfl ?_
    refine J.ialoadN dX6_hair_70 rfl (by have := hr.1; omega) ?_
    exact J.iret dX6_hair_71 rfl rfl (Nat.le_refl _) (Nat.le_refl _) ⟨rfl, rfl⟩
  by_cases sw2 : z = 2
  · subst sw2
    refine J.tableIn (off := 52) (tgt := 72) dX6_hair_20 (by decide) (by decide) (by decide) (by decide) ?_
    refine J.aload_n dX6_hair_72 rfl rfl ?_
    refine J.getfield dX6_hair_73 jFX6_12 rfl rfl ?_
    refine J.iload_n dX6_hair_76 rfl rfl ?_
    refine J.cv (as := [.int _]) (is := [1, 2, 3, 4, 5, 6, 7]) (o := 0) okX2_wholeBit jcX6_121 (mX2_wholeBit (rs 0) i hr.w (by have := hr.1; omega)) dX6_hair_77 rfl rfl rfl rfl rfl rfl rfl (fun r9 B9 hq => ?_)
    obtain ⟨rfl, rfl⟩ := hq
    refine ⟨rfl, ?_⟩
    show J _ _ _ _ _ (.int _ :: _) (wC rs v q x n u c l tn) _ _
    exact J.iret dX6_hair_80 rfl rfl (Nat.le_refl _) (Nat.le_refl _) ⟨rfl, rfl⟩
  by_cases sw3 : z = 3
  · subst sw3
    refine J.tableIn (off := 61) (tgt := 81) dX6_hair_20 (by decide) (by decide) (by decide) (by decide) ?_
    refine J.aload_n dX6_hair_81 rfl rfl ?_
    refine J.getfield dX6_hair_82 jFX6_12 rfl rfl ?_
    refine J.iload_n dX6_hair_85 rfl rfl ?_
    refine J.cv (as := [.int _]) (is := [1, 2, 3, 4, 5, 6, 7]) (o := 0) okX2_breaks jcX6_125 (mX2_breaks (rs 0) i hr (by have := hr.1; omega)) dX6_hair_86 rfl rfl rfl rfl rfl rfl rfl (fun r9 B9 hq => ?_)
    obtain ⟨rfl, rfl⟩ := hq
    refine ⟨rfl, ?_⟩
    show J _ _ _ _ _ (.int _ :: _) (wC rs v q x n u c l tn) _ _
    exact J.iret dX6_hair_89 rfl rfl (Nat.le_refl _) (Nat.le_refl _) ⟨rfl, rfl⟩
  refine J.tableOut (tgt := 90) dX6_hair_20 (by have t0 := lv_neT sw0 (show (0 : Int32).toInt = 0 from rfl); have t1 := lv_neT sw1 (show (1 : Int32).toInt = 1 from rfl); have t2 := lv_neT sw2 (show (2 : Int32).toInt = 2 from rfl); have t3 := lv_neT sw3 (show (3 : Int32).toInt = 3 from rfl); omega) (by decide) ?_
  refine J.iconst (-1) dX6_hair_90 (by decide) ?_
  exact J.iret dX6_hair_91 rfl rfl (Nat.le_refl _) (Nat.le_refl _) ⟨congrArg (fun x => some (Value.int x)) (by rw [hairA, if_neg sw0, if_neg sw1, if_neg sw2, if_neg sw3]), rfl⟩
set_option maxRecDepth 100000 in
set_option maxHeartbeats 4000000 in
theorem mX6_hair_bad (rs : Nat → rT) (v : Nat → Nat → Nat) (q : rT) (x : Nat → Nat) (n : Nat → Int64) (u : uT) (c : Nat → Nat → Int32) (l : Nat → Int32) (tn : Int32) (i z : Int32) (hi : ¬ (0 ≤ i ∧ i ≤ nI (rs 0 6 0) - 1)) : J KX6_hair 62 (fun o B => o = some (.int (-1)) ∧ B = (wC rs v q x n u c l tn)) 0 [some (.ref 0), some (.int i), some (.int z)] [] (wC rs v q x n u c l tn) 0 0 := by
  refine J.iload_n dX6_hair_0 rfl rfl ?_
  refine J.iconst (0) dX6_hair_1 (by decide) ?_
  refine J.aload_n dX6_hair_2 rfl rfl ?_
  refine J.getfield dX6_hair_3 jFX6_12 rfl rfl ?_
  refine J.getfield dX6_hair_6 jFX6_93 rfl rfl ?_
  refine J.iconst (1) dX6_hair_9 (by decide) ?_
  refine J.isub dX6_hair_10 ?_
  refine J.cs (as := [.int _, .int _, .int _]) (is := []) okX6_within jcX6_59 (mX6_within _ _ _) dX6_hair_11 rfl rfl rfl rfl rfl rfl (fun r9 B9 hq => ?_)
  obtain ⟨rfl, rfl⟩ := hq
  refine ⟨rfl, ?_⟩
  show J _ _ _ _ _ (.int _ :: _) (wC rs v q x n u c l tn) _ _
  refine J.if_ne (tgt := 19) dX6_hair_14 (by decide) (fun c14 => absurd c14 (fun h => h ((jB_0 _).mpr hi))) (fun c14 => ?_)
  refine J.iconst (-1) dX6_hair_17 (by decide) ?_
  exact J.iret dX6_hair_18 rfl rfl (Nat.le_refl _) (Nat.le_refl _) ⟨rfl, rfl⟩
set_option maxRecDepth 100000 in
set_option maxHeartbeats 4000000 in
theorem mX6_king0 (rs : Nat → rT) (v : Nat → Nat → Nat) (q : rT) (x : Nat → Nat) (n : Nat → Int64) (u : uT) (c : Nat → Nat → Int32) (l : Nat → Int32) (tn : Int32) (i : Nat) (hr : rOK (rs 0)) (hi : i < rs 0 6 1) : J KX6_king 62 (fun o B => o = some (.int (nI (rs 0 2 i))) ∧ B = (wC rs v q x n u c l tn)) 0 [some (.ref 0), some (.int (nI i)), some (.int 0)] [] (wC rs v q x n u c l tn) 0 0 := by
  refine J.iload_n dX6_king_0 rfl rfl ?_
  refine J.iconst (0) dX6_king_1 (by decide) ?_
  refine J.aload_n dX6_king_2 rfl rfl ?_
  refine J.getfield dX6_king_3 jFX6_12 rfl rfl ?_
  refine J.getfield dX6_king_6 jFX6_96 rfl rfl ?_
  refine J.iconst (1) dX6_king_9 (by decide) ?_
  refine J.isub dX6_king_10 ?_
  refine J.cs (as := [.int _, .int _, .int _]) (is := []) okX6_within jcX6_59 (mX6_within _ _ _) dX6_king_11 rfl rfl rfl rfl rfl rfl (fun r9 B9 hq => ?_)
  obtain ⟨rfl, rfl⟩ := hq
  refine ⟨rfl, ?_⟩
  show J _ _ _ _ _ (.int _ :: _) (wC rs v q x n u c l tn) _ _
  refine J.if_eq (tgt := 26) dX6_king_14 (by decide) (fun c14 => absurd c14 (fun h => (jB_0 _).mp h (jin_ge (by have := hr.2.1; omega) hi))) (fun c14 => ?_)
  refine J.iload_n dX6_king_17 rfl rfl ?_
  refine J.iconst (0) dX6_king_18 (by decide) ?_
  refine J.iconst (1) dX6_king_19 (by decide) ?_
  refine J.cs (as := [.int _, .int _, .int _]) (is := []) okX6_within jcX6_59 (mX6_within _ _ _) dX6_king_20 rfl rfl rfl rfl rfl rfl (fun r9 B9 hq => ?_)
  obtain ⟨rfl, rfl⟩ := hq
  refine ⟨rfl, ?_⟩
  show J _ _ _ _ _ (.int _ :: _) (wC rs v q x n u c l tn) _ _
  refine J.if_ne (tgt := 28) dX6_king_23 (by decide) (fun c23 => ?_) (fun c23 => absurd c23 (fun h => (jB_0 _).mp h (by decide)))
  refine J.iload_n dX6_king_28 rfl rfl ?_
  refine J.if_ne (tgt := 44) dX6_king_29 (by decide) (fun c29 => absurd c29 (fun h => h rfl)) (fun c29 => ?_)
  refine J.aload_n dX6_king_32 rfl rfl ?_
  refine J.getfield dX6_king_33 jFX6_12 rfl rfl ?_
  refine J.getfield dX6_king_36 jFX6_128 rfl rfl ?_
  refine J.iload_n dX6_king_39 rfl rfl ?_
  refine J.ialoadN dX6_king_40 rfl (by have := hr.2.1; omega) ?_
  refine J.goto (tgt := 53) dX6_king_41 (by decide) ?_
  exact J.iret dX6_king_53 rfl rfl (Nat.le_refl _) (Nat.le_refl _) ⟨rfl, rfl⟩
set_option maxRecDepth 100000 in
set_option maxHeartbeats 4000000 in
theorem mX6_king1 (rs : Nat → rT) (v : Nat → Nat → Nat) (q : rT) (x : Nat → Nat) (n : Nat → Int64) (u : uT) (c : Nat → Nat → Int32) (l : Nat → Int32) (tn : Int32) (i : Nat) (hr : rOK (rs 0)) (hi : i < rs 0 6 1) : J KX6_king 62 (fun o B => o = some (.int (nI (rs 0 3 i))) ∧ B = (wC rs v q x n u c l tn)) 0 [some (.ref 0), some (.int (nI i)), some (.int 1)] [] (wC rs v q x n u c l tn) 0 0 := by
  refine J.iload_n dX6_king_0 rfl rfl ?_
  refine J.iconst (0) dX6_king_1 (by decide) ?_
  refine J.aload_n dX6_king_2 rfl rfl ?_
  refine J.getfield dX6_king_3 jFX6_12 rfl rfl ?_
  refine J.getfield dX6_king_6 jFX6_96 rfl rfl ?_
  refine J.iconst (1) dX6_king_9 (by decide) ?_
  refine J.isub dX6_king_10 ?_
  refine J.cs (as := [.int _, .int _, .int _]) (is := []) okX6_within jcX6_59 (mX6_within _ _ _) dX6_king_11 rfl rfl rfl rfl rfl rfl (fun r9 B9 hq => ?_)
  obtain ⟨rfl, rfl⟩ := hq
  refine ⟨rfl, ?_⟩
  show J _ _ _ _ _ (.int _ :: _) (wC rs v q x n u c l tn) _ _
  refine J.if_eq (tgt := 26) dX6_king_14 (by decide) (fun c14 => absurd c14 (fun h => (jB_0 _).mp h (jin_ge (by have := hr.2.1; omega) hi))) (fun c14 => ?_)
  refine J.iload_n dX6_king_17 rfl rfl ?_
  refine J.iconst (0) dX6_king_18 (by decide) ?_
  refine J.iconst (1) dX6_king_19 (by decide) ?_
  refine J.cs (as := [.int _, .int _, .int _]) (is := []) okX6_within jcX6_59 (mX6_within _ _ _) dX6_king_20 rfl rfl rfl rfl rfl rfl (fun r9 B9 hq => ?_)
  obtain ⟨rfl, rfl⟩ := hq
  refine ⟨rfl, ?_⟩
  show J _ _ _ _ _ (.int _ :: _) (wC rs v q x n u c l tn) _ _
  refine J.if_ne (tgt := 28) dX6_king_23 (by decide) (fun c23 => ?_) (fun c23 => absurd c23 (fun h => (jB_0 _).mp h (by decide)))
  refine J.iload_n dX6_king_28 rfl rfl ?_
  refine J.if_ne (tgt := 44) dX6_king_29 (by decide) (fun c29 => ?_) (fun c29 => absurd c29 (by decide))
  refine J.aload_n dX6_king_44 rfl rfl ?_
  refine J.getfield dX6_king_45 jFX6_12 rfl rfl ?_
  refine J.getfield dX6_king_48 jFX6_131 rfl rfl ?_
  refine J.iload_n dX6_king_51 rfl rfl ?_
  refine J.ialoadN dX6_king_52 rfl (by have := hr.2.1; omega) ?_
  exact J.iret dX6_king_53 rfl rfl (Nat.le_refl _) (Nat.le_refl _) ⟨rfl, rfl⟩
set_option maxRecDepth 100000 in
set_option maxHeartbeats 4000000 in
theorem mX6_king_bad (rs : Nat → rT) (v : Nat → Nat → Nat) (q : rT) (x : Nat → Nat) (n : Nat → Int64) (u : uT) (c : Nat → Nat → Int32) (l : Nat → Int32) (tn : Int32) (i z : Int32) (hb : ¬ (0 ≤ i ∧ i ≤ nI (rs 0 6 1) - 1) ∨ ¬ (0 ≤ z ∧ z ≤ 1)) : J KX6_king 62 (fun o B => o = some (.int (-1)) ∧ B = (wC rs v q x n u c l tn)) 0 [some (.ref 0), some (.int i), some (.int z)] [] (wC rs v q x n u c l tn) 0 0 := by
  refine J.iload_n dX6_king_0 rfl rfl ?_
  refine J.iconst (0) dX6_king_1 (by decide) ?_
  refine J.aload_n dX6_king_2 rfl rfl ?_
  refine J.getfield dX6_king_3 jFX6_12 rfl rfl ?_
  refine J.getfield dX6_king_6 jFX6_96 rfl rfl ?_
  refine J.iconst (1) dX6_king_9 (by decide) ?_
  refine J.isub dX6_king_10 ?_
  refine J.cs (as := [.int _, .int _, .int _]) (is := []) okX6_within jcX6_59 (mX6_within _ _ _) dX6_king_11 rfl rfl rfl rfl rfl rfl (fun r9 B9 hq => ?_)
  obtain ⟨rfl, rfl⟩ := hq
  refine ⟨rfl, ?_⟩
  show J _ _ _ _ _ (.int _ :: _) (wC rs v q x n u c l tn) _ _
  refine J.if_eq (tgt := 26) dX6_king_14 (by decide) (fun c14 => ?_) (fun c14 => ?_)
  · refine J.iconst (-1) dX6_king_26 (by decide) ?_
    exact J.iret dX6_king_27 rfl rfl (Nat.le_refl _) (Nat.le_refl _) ⟨rfl, rfl⟩
  · refine J.iload_n dX6_king_17 rfl rfl ?_
    refine J.iconst (0) dX6_king_18 (by decide) ?_
    refine J.iconst (1) dX6_king_19 (by decide) ?_
    refine J.cs (as := [.int _, .int _, .int _]) (is := []) okX6_within jcX6_59 (mX6_within _ _ _) dX6_king_20 rfl rfl rfl rfl rfl rfl (fun r9 B9 hq => ?_)
    obtain ⟨rfl, rfl⟩ := hq
    refine ⟨rfl, ?_⟩
    show J _ _ _ _ _ (.int _ :: _) (wC rs v q x n u c l tn) _ _
    refine J.if_ne (tgt := 28) dX6_king_23 (by decide) (fun c23 => absurd c23 (fun h => h ((jB_0 _).mpr (hb.resolve_left (fun h => h (Decidable.not_not.mp (fun h9 => c14 ((jB_0 _).mpr h9)))))))) (fun c23 => ?_)
    refine J.iconst (-1) dX6_king_26 (by decide) ?_
    exact J.iret dX6_king_27 rfl rfl (Nat.le_refl _) (Nat.le_refl _) ⟨rfl, rfl⟩
set_option maxRecDepth 100000 in
set_option maxHeartbeats 4000000 in
theorem mX6_law0 (rs : Nat → rT) (v : Nat → Nat → Nat) (q : rT) (x : Nat → Nat) (n : Nat → Int64) (u : uT) (c : Nat → Nat → Int32) (l : Nat → Int32) (tn : Int32) (i : Nat) (hr : rOK (rs 0)) (hi : i < rs 0 6 2) : J KX6_law 62 (fun o B => o = some (.int (nI (rs 0 4 i))) ∧ B = (wC rs v q x n u c l tn)) 0 [some (.ref 0), some (.int (nI i)), some (.int 0)] [] (wC rs v q x n u c l tn) 0 0 := by
  refine J.iload_n dX6_law_0 rfl rfl ?_
  refine J.iconst (0) dX6_law_1 (by decide) ?_
  refine J.aload_n dX6_law_2 rfl rfl ?_
  refine J.getfield dX6_law_3 jFX6_12 rfl rfl ?_
  refine J.getfield dX6_law_6 jFX6_99 rfl rfl ?_
  refine J.iconst (1) dX6_law_9 (by decide) ?_
  refine J.isub dX6_law_10 ?_
  refine J.cs (as := [.int _, .int _, .int _]) (is := []) okX6_within jcX6_59 (mX6_within _ _ _) dX6_law_11 rfl rfl rfl rfl rfl rfl (fun r9 B9 hq => ?_)
  obtain ⟨rfl, rfl⟩ := hq
  refine ⟨rfl, ?_⟩
  show J _ _ _ _ _ (.int _ :: _) (wC rs v q x n u c l tn) _ _
  refine J.if_eq (tgt := 26) dX6_law_14 (by decide) (fun c14 => absurd c14 (fun h => (jB_0 _).mp h (jin_ge (by have := hr.2.2.1; omega) hi))) (fun c14 => ?_)
  refine J.iload_n dX6_law_17 rfl rfl ?_
  refine J.iconst (0) dX6_law_18 (by decide) ?_
  refine J.iconst (1) dX6_law_19 (by decide) ?_
  refine J.cs (as := [.int _, .int _, .int _]) (is := []) okX6_within jcX6_59 (mX6_within _ _ _) dX6_law_20 rfl rfl rfl rfl rfl rfl (fun r9 B9 hq => ?_)
  obtain ⟨rfl, rfl⟩ := hq
  refine ⟨rfl, ?_⟩
  show J _ _ _ _ _ (.int _ :: _) (wC rs v q x n u c l tn) _ _
  refine J.if_ne (tgt := 28) dX6_law_23 (by decide) (fun c23 => ?_) (fun c23 => absurd c23 (fun h => (jB_0 _).mp h (by decide)))
  refine J.iload_n dX6_law_28 rfl rfl ?_
  refine J.if_ne (tgt := 44) dX6_law_29 (by decide) (fun c29 => absurd c29 (fun h => h rfl)) (fun c29 => ?_)
  refine J.aload_n dX6_law_32 rfl rfl ?_
  refine J.getfield dX6_law_33 jFX6_12 rfl rfl ?_
  refine J.getfield dX6_law_36 jFX6_134 rfl rfl ?_
  refine J.iload_n dX6_law_39 rfl rfl ?_
  refine J.ialoadN dX6_law_40 rfl (by have := hr.2.2.1; omega) ?_
  refine J.goto (tgt := 53) dX6_law_41 (by decide) ?_
  exact J.iret dX6_law_53 rfl rfl (Nat.le_refl _) (Nat.le_refl _) ⟨rfl, rfl⟩
set_option maxRecDepth 100000 in
set_option maxHeartbeats 4000000 in
theorem mX6_law1 (rs : Nat → rT) (v : Nat → Nat → Nat) (q : rT) (x : Nat → Nat) (n : Nat → Int64) (u : uT) (c : Nat → Nat → Int32) (l : Nat → Int32) (tn : Int32) (i : Nat) (hr : rOK (rs 0)) (hi : i < rs 0 6 2) : J KX6_law 62 (fun o B => o = some (.int (nI (rs 0 5 i))) ∧ B = (wC rs v q x n u c l tn)) 0 [some (.ref 0), some (.int (nI i)), some (.int 1)] [] (wC rs v q x n u c l tn) 0 0 := by
  refine J.iload_n dX6_law_0 rfl rfl ?_
  refine J.iconst (0) dX6_law_1 (by decide) ?_
  refine J.aload_n dX6_law_2 rfl rfl ?_
  refine J.getfield dX6_law_3 jFX6_12 rfl rfl ?_
  refine J.getfield dX6_law_6 jFX6_99 rfl rfl ?_
  refine J.iconst (1) dX6_law_9 (by decide) ?_
  refine J.isub dX6_law_10 ?_
  refine J.cs (as := [.int _, .int _, .int _]) (is := []) okX6_within jcX6_59 (mX6_within _ _ _) dX6_law_11 rfl rfl rfl rfl rfl rfl (fun r9 B9 hq => ?_)
  obtain ⟨rfl, rfl⟩ := hq
  refine ⟨rfl, ?_⟩
  show J _ _ _ _ _ (.int _ :: _) (wC rs v q x n u c l tn) _ _
  refine J.if_eq (tgt := 26) dX6_law_14 (by decide) (fun c14 => absurd c14 (fun h => (jB_0 _).mp h (jin_ge (by have := hr.2.2.1; omega) hi))) (fun c14 => ?_)
  refine J.iload_n dX6_law_17 rfl rfl ?_
  refine J.iconst (0) dX6_law_18 (by decide) ?_
  refine J.iconst (1) dX6_law_19 (by decide) ?_
  refine J.cs (as := [.int _, .int _, .int _]) (is := []) okX6_within jcX6_59 (mX6_within _ _ _) dX6_law_20 rfl rfl rfl rfl rfl rfl (fun r9 B9 hq => ?_)
  obtain ⟨rfl, rfl⟩ := hq
  refine ⟨rfl, ?_⟩
  show J _ _ _ _ _ (.int _ :: _) (wC rs v q x n u c l tn) _ _
  refine J.if_ne (tgt := 28) dX6_law_23 (by decide) (fun c23 => ?_) (fun c23 => absurd c23 (fun h => (jB_0 _).mp h (by decide)))
  refine J.iload_n dX6_law_28 rfl rfl ?_
  refine J.if_ne (tgt := 44) dX6_law_29 (by decide) (fun c29 => ?_) (fun c29 => absurd c29 (by decide))
  refine J.aload_n dX6_law_44 rfl rfl ?_
  refine J.getfield dX6_law_45 jFX6_12 rfl rfl ?_
  refine J.getfield dX6_law_48 jFX6_137 rfl rfl ?_
  refine J.iload_n dX6_law_51 rfl rfl ?_
  refine J.ialoadN dX6_law_52 rfl (by have := hr.2.2.1; omega) ?_
  exact J.iret dX6_law_53 rfl rfl (Nat.le_refl _) (Nat.le_refl _) ⟨rfl, rfl⟩
set_option maxRecDepth 100000 in
set_option maxHeartbeats 4000000 in
theorem mX6_law_bad (rs : Nat → rT) (v : Nat → Nat → Nat) (q : rT) (x : Nat → Nat) (n : Nat → Int64) (u : uT) (c : Nat → Nat → Int32) (l : Nat → Int32) (tn : Int32) (i z : Int32) (hb : ¬ (0 ≤ i ∧ i ≤ nI (rs 0 6 2) - 1) ∨ ¬ (0 ≤ z ∧ z ≤ 1)) : J KX6_law 62 (fun o B => o = some (.int (-1)) ∧ B = (wC rs v q x n u c l tn)) 0 [some (.ref 0), some (.int i), some (.int z)] [] (wC rs v q x n u c l tn) 0 0 := by
  refine J.iload_n dX6_law_0 rfl rfl ?_
  refine J.iconst (0) dX6_law_1 (by decide) ?_
  refine J.aload_n dX6_law_2 rfl rfl ?_
  refine J.getfield dX6_law_3 jFX6_12 rfl rfl ?_
  refine J.getfield dX6_law_6 jFX6_99 rfl rfl ?_
  refine J.iconst (1) dX6_law_9 (by decide) ?_
  refine J.isub dX6_law_10 ?_
  refine J.cs (as := [.int _, .int _, .int _]) (is := []) okX6_within jcX6_59 (mX6_within _ _ _) dX6_law_11 rfl rfl rfl rfl rfl rfl (fun r9 B9 hq => ?_)
  obtain ⟨rfl, rfl⟩ := hq
  refine ⟨rfl, ?_⟩
  show J _ _ _ _ _ (.int _ :: _) (wC rs v q x n u c l tn) _ _
  refine J.if_eq (tgt := 26) dX6_law_14 (by decide) (fun c14 => ?_) (fun c14 => ?_)
  · refine J.iconst (-1) dX6_law_26 (by decide) ?_
    exact J.iret dX6_law_27 rfl rfl (Nat.le_refl _) (Nat.le_refl _) ⟨rfl, rfl⟩
  · refine J.iload_n dX6_law_17 rfl rfl ?_
    refine J.iconst (0) dX6_law_18 (by decide) ?_
    refine J.iconst (1) dX6_law_19 (by decide) ?_
    refine J.cs (as := [.int _, .int _, .int _]) (is := []) okX6_within jcX6_59 (mX6_within _ _ _) dX6_law_20 rfl rfl rfl rfl rfl rfl (fun r9 B9 hq => ?_)
    obtain ⟨rfl, rfl⟩ := hq
    refine ⟨rfl, ?_⟩
    show J _ _ _ _ _ (.int _ :: _) (wC rs v q x n u c l tn) _ _
    refine J.if_ne (tgt := 28) dX6_law_23 (by decide) (fun c23 => absurd c23 (fun h => h ((jB_0 _).mpr (hb.resolve_left (fun h => h (Decidable.not_not.mp (fun h9 => c14 ((jB_0 _).mpr h9)))))))) (fun c23 => ?_)
    refine J.iconst (-1) dX6_law_26 (by decide) ?_
    exact J.iret dX6_law_27 rfl rfl (Nat.le_refl _) (Nat.le_refl _) ⟨rfl, rfl⟩
set_option maxRecDepth 100000 in
set_option maxHeartbeats 4000000 in
theorem mX6_set0 (rs : Nat → rT) (v : Nat → Nat → Nat) (q : rT) (x : Nat → Nat) (n : Nat → Int64) (u : uT) (c : Nat → Nat → Int32) (l : Nat → Int32) (tn : Int32) (z : Nat) (h1 : 1 ≤ z) (h2 : z ≤ 9) : J KX6_set 62 (fun o B => o = some (.int (nI (rs 0 6 4))) ∧ B = (wC (rsN rs 0 (rset (rs 0) 6 4 z)) v q x n u c l tn)) 0 [some (.ref 0), some (.int 0), some (.int (nI z)), none] [] (wC rs v q x n u c l tn) 0 0 := by
  refine J.iload_n dX6_set_0 rfl rfl ?_
  refine J.if_ne (tgt := 32) dX6_set_1 (by decide) (fun c1 => absurd c1 (fun h => h rfl)) (fun c1 => ?_)
  refine J.iload_n dX6_set_4 rfl rfl ?_
  refine J.iconst (1) dX6_set_5 (by decide) ?_
  refine J.bipush (9) dX6_set_6 (by decide) ?_
  refine J.cs (as := [.int _, .int _, .int _]) (is := []) okX6_within jcX6_59 (mX6_within _ _ _) dX6_set_8 rfl rfl rfl rfl rfl rfl (fun r9 B9 hq => ?_)
  obtain ⟨rfl, rfl⟩ := hq
  refine ⟨rfl, ?_⟩
  show J _ _ _ _ _ (.int _ :: _) (wC rs v q x n u c l tn) _ _
  refine J.if_eq (tgt := 32) dX6_set_11 (by decide) (fun c11 => absurd c11 (fun h => (jB_0 _).mp h (jw (a := 1) (c := 9) (by decide) h1 h2))) (fun c11 => ?_)
  refine J.aload_n dX6_set_14 rfl rfl ?_
  refine J.getfield dX6_set_15 jFX6_12 rfl rfl ?_
  refine J.getfield dX6_set_18 jFX6_102 rfl rfl ?_
  refine J.istore_n dX6_set_21 rfl (by decide) rfl ?_
  try dsimp only [List.set, wC]
  refine J.aload_n dX6_set_22 rfl rfl ?_
  refine J.getfield dX6_set_23 jFX6_12 rfl rfl ?_
  refine J.iload_n dX6_set_26 rfl rfl ?_
  refine J.putfield dX6_set_27 jFX6_102 jP2_10 rfl rfl rfl (Nat.le_of_ble_eq_true rfl) ?_
  try dsimp only [List.set, wC]
  refine J.iload_n dX6_set_30 rfl rfl ?_
  exact J.iret dX6_set_31 rfl rfl (Nat.le_refl _) (Nat.le_refl _) ⟨rfl, rfl⟩
set_option maxRecDepth 100000 in
set_option maxHeartbeats 4000000 in
theorem mX6_set1 (rs : Nat → rT) (v : Nat → Nat → Nat) (q : rT) (x : Nat → Nat) (n : Nat → Int64) (u : uT) (c : Nat → Nat → Int32) (l : Nat → Int32) (tn : Int32) (z : Nat) (h1 : 0 ≤ z) (h2 : z ≤ 99) : J KX6_set 62 (fun o B => o = some (.int (nI (rs 0 6 5))) ∧ B = (wC (rsN rs 0 (rset (rs 0) 6 5 z)) v q x n u c l tn)) 0 [some (.ref 0), some (.int 1), some (.int (nI z)), none] [] (wC rs v q x n u c l tn) 0 0 := by
  refine J.iload_n dX6_set_0 rfl rfl ?_
  refine J.if_ne (tgt := 32) dX6_set_1 (by decide) (fun c1 => ?_) (fun c1 => absurd c1 (by decide))
  refine J.iload_n dX6_set_32 rfl rfl ?_
  refine J.iconst (1) dX6_set_33 (by decide) ?_
  refine J.icmp_ne (tgt := 65) dX6_set_34 (by decide) (fun c34 => absurd c34 (fun h => h rfl)) (fun c34 => ?_)
  refine J.iload_n dX6_set_37 rfl rfl ?_
  refine J.iconst (0) dX6_set_38 (by decide) ?_
  refine J.bipush (99) dX6_set_39 (by decide) ?_
  refine J.cs (as := [.int _, .int _, .int _]) (is := []) okX6_within jcX6_59 (mX6_within _ _ _) dX6_set_41 rfl rfl rfl rfl rfl rfl (fun r9 B9 hq => ?_)
  obtain ⟨rfl, rfl⟩ := hq
  refine ⟨rfl, ?_⟩
  show J _ _ _ _ _ (.int _ :: _) (wC rs v q x n u c l tn) _ _
  refine J.if_eq (tgt := 65) dX6_set_44 (by decide) (fun c44 => absurd c44 (fun h => (jB_0 _).mp h (jw (a := 0) (c := 99) (by decide) h1 h2))) (fun c44 => ?_)
  refine J.aload_n dX6_set_47 rfl rfl ?_
  refine J.getfield dX6_set_48 jFX6_12 rfl rfl ?_
  refine J.getfield dX6_set_51 jFX6_105 rfl rfl ?_
  refine J.istore_n dX6_set_54 rfl (by decide) rfl ?_
  try dsimp only [List.set, wC]
  refine J.aload_n dX6_set_55 rfl rfl ?_
  refine J.getfield dX6_set_56 jFX6_12 rfl rfl ?_
  refine J.iload_n dX6_set_59 rfl rfl ?_
  refine J.putfield dX6_set_60 jFX6_105 jP2_11 rfl rfl rfl (Nat.le_of_ble_eq_true rfl) ?_
  try dsimp only [List.set, wC]
  refine J.iload_n dX6_set_63 rfl rfl ?_
  exact J.iret dX6_set_64 rfl rfl (Nat.le_refl _) (Nat.le_refl _) ⟨rfl, rfl⟩
set_option maxRecDepth 100000 in
set_option maxHeartbeats 4000000 in
theorem mX6_set_bad (rs : Nat → rT) (v : Nat → Nat → Nat) (q : rT) (x : Nat → Nat) (n : Nat → Int64) (u : uT) (c : Nat → Nat → Int32) (l : Nat → Int32) (tn : Int32) (a z : Int32) (h0 : ¬ (a = 0 ∧ 1 ≤ z ∧ z ≤ 9)) (h1 : ¬ (a = 1 ∧ 0 ≤ z ∧ z ≤ 99)) : J KX6_set 62 (fun o B => o = some (.int (-1)) ∧ B = (wC rs v q x n u c l tn)) 0 [some (.ref 0), some (.int a), some (.int z), none] [] (wC rs v q x n u c l tn) 0 0 := by
  refine J.iload_n dX6_set_0 rfl rfl ?_
  refine J.if_ne (tgt := 32) dX6_set_1 (by decide) (fun c1 => ?_) (fun c1 => ?_)
  · refine J.iload_n dX6_set_32 rfl rfl ?_
    refine J.iconst (1) dX6_set_33 (by decide) ?_
    refine J.icmp_ne (tgt := 65) dX6_set_34 (by decide) (fun c34 => ?_) (fun c34 => ?_)
    · refine J.iconst (-1) dX6_set_65 (by decide) ?_
      exact J.iret dX6_set_66 rfl rfl (Nat.le_refl _) (Nat.le_refl _) ⟨rfl, rfl⟩
    · refine J.iload_n dX6_set_37 rfl rfl ?_
      refine J.iconst (0) dX6_set_38 (by decide) ?_
      refine J.bipush (99) dX6_set_39 (by decide) ?_
      refine J.cs (as := [.int _, .int _, .int _]) (is := []) okX6_within jcX6_59 (mX6_within _ _ _) dX6_set_41 rfl rfl rfl rfl rfl rfl (fun r9 B9 hq => ?_)
      obtain ⟨rfl, rfl⟩ := hq
      refine ⟨rfl, ?_⟩
      show J _ _ _ _ _ (.int _ :: _) (wC rs v q x n u c l tn) _ _
      refine J.if_eq (tgt := 65) dX6_set_44 (by decide) (fun c44 => ?_) (fun c44 => absurd c44 (fun h => h ((jB_0 _).mpr (fun h => h1 ⟨c34, h⟩))))
      refine J.iconst (-1) dX6_set_65 (by decide) ?_
      exact J.iret dX6_set_66 rfl rfl (Nat.le_refl _) (Nat.le_refl _) ⟨rfl, rfl⟩
  · refine J.iload_n dX6_set_4 rfl rfl ?_
    refine J.iconst (1) dX6_set_5 (by decide) ?_
    refine J.bipush (9) dX6_set_6 (by decide) ?_
    refine J.cs (as := [.int _, .int _, .int _]) (is := []) okX6_within jcX6_59 (mX6_within _ _ _) dX6_set_8 rfl rfl rfl rfl rfl rfl (fun r9 B9 hq => ?_)
    obtain ⟨rfl, rfl⟩ := hq
    refine ⟨rfl, ?_⟩
    show J _ _ _ _ _ (.int _ :: _) (wC rs v q x n u c l tn) _ _
    refine J.if_eq (tgt := 32) dX6_set_11 (by decide) (fun c11 => ?_) (fun c11 => absurd c11 (fun h => h ((jB_0 _).mpr (fun h => h0 ⟨c1, h⟩))))
    refine J.iload_n dX6_set_32 rfl rfl ?_
    refine J.iconst (1) dX6_set_33 (by decide) ?_
    refine J.icmp_ne (tgt := 65) dX6_set_34 (by decide) (fun c34 => ?_) (fun c34 => ?_)
    · refine J.iconst (-1) dX6_set_65 (by decide) ?_
      exact J.iret dX6_set_66 rfl rfl (Nat.le_refl _) (Nat.le_refl _) ⟨rfl, rfl⟩
    · refine J.iload_n dX6_set_37 rfl rfl ?_
      refine J.iconst (0) dX6_set_38 (by decide) ?_
      refine J.bipush (99) dX6_set_39 (by decide) ?_
      refine J.cs (as := [.int _, .int _, .int _]) (is := []) okX6_within jcX6_59 (mX6_within _ _ _) dX6_set_41 rfl rfl rfl rfl rfl rfl (fun r9 B9 hq => ?_)
      obtain ⟨rfl, rfl⟩ := hq
      refine ⟨rfl, ?_⟩
      show J _ _ _ _ _ (.int _ :: _) (wC rs v q x n u c l tn) _ _
      refine J.if_eq (tgt := 65) dX6_set_44 (by decide) (fun c44 => ?_) (fun c44 => absurd c44 (fun h => h ((jB_0 _).mpr (fun h => h1 ⟨c34, h⟩))))
      refine J.iconst (-1) dX6_set_65 (by decide) ?_
      exact J.iret dX6_set_66 rfl rfl (Nat.le_refl _) (Nat.le_refl _) ⟨rfl, rfl⟩
set_option maxRecDepth 100000 in
set_option maxHeartbeats 4000000 in
theorem mX6_age (rs : Nat → rT) (v : Nat → Nat → Nat) (q : rT) (x : Nat → Nat) (n : Nat → Int64) (u : uT) (c : Nat → Nat → Int32) (l : Nat → Int32) (tn : Int32) (i z : Nat) (hr : rOK (rs 0)) (hi : i < rs 0 6 0) (h2 : z ≤ 9) : J KX6_age 62 (fun o B => o = some (.int (nI (rs 0 1 i))) ∧ B = (wC (rsN rs 0 (rset (rs 0) 1 i z)) v q x n u c l tn)) 0 [some (.ref 0), some (.int (nI i)), some (.int (nI z)), none] [] (wC rs v q x n u c l tn) 0 0 := by
  refine J.iload_n dX6_age_0 rfl rfl ?_
  refine J.iconst (0) dX6_age_1 (by decide) ?_
  refine J.aload_n dX6_age_2 rfl rfl ?_
  refine J.getfield dX6_age_3 jFX6_12 rfl rfl ?_
  refine J.getfield dX6_age_6 jFX6_93 rfl rfl ?_
  refine J.iconst (1) dX6_age_9 (by decide) ?_
  refine J.isub dX6_age_10 ?_
  refine J.cs (as := [.int _, .int _, .int _]) (is := []) okX6_within jcX6_59 (mX6_within _ _ _) dX6_age_11 rfl rfl rfl rfl rfl rfl (fun r9 B9 hq => ?_)
  obtain ⟨rfl, rfl⟩ := hq
  refine ⟨rfl, ?_⟩
  show J _ _ _ _ _ (.int _ :: _) (wC rs v q x n u c l tn) _ _
  refine J.if_eq (tgt := 27) dX6_age_14 (by decide) (fun c14 => absurd c14 (fun h => (jB_0 _).mp h (jin_ge (by have := hr.1; omega) hi))) (fun c14 => ?_)
  refine J.iload_n dX6_age_17 rfl rfl ?_
  refine J.iconst (0) dX6_age_18 (by decide) ?_
  refine J.bipush (9) dX6_age_19 (by decide) ?_
  refine J.cs (as := [.int _, .int _, .int _]) (is := []) okX6_within jcX6_59 (mX6_within _ _ _) dX6_age_21 rfl rfl rfl rfl rfl rfl (fun r9 B9 hq => ?_)
  obtain ⟨rfl, rfl⟩ := hq
  refine ⟨rfl, ?_⟩
  show J _ _ _ _ _ (.int _ :: _) (wC rs v q x n u c l tn) _ _
  refine J.if_ne (tgt := 29) dX6_age_24 (by decide) (fun c24 => ?_) (fun c24 => absurd c24 (fun h => (jB_0 _).mp h (jw (a := 0) (c := 9) (by decide) (Nat.zero_le _) h2)))
  refine J.aload_n dX6_age_29 rfl rfl ?_
  refine J.getfield dX6_age_30 jFX6_12 rfl rfl ?_
  refine J.getfield dX6_age_33 jFX6_118 rfl rfl ?_
  refine J.iload_n dX6_age_36 rfl rfl ?_
  refine J.ialoadN dX6_age_37 rfl (by have := hr.1; omega) ?_
  refine J.istore_n dX6_age_38 rfl (by decide) rfl ?_
  try dsimp only [List.set, wC]
  refine J.aload_n dX6_age_39 rfl rfl ?_
  refine J.getfield dX6_age_40 jFX6_12 rfl rfl ?_
  refine J.getfield dX6_age_43 jFX6_118 rfl rfl ?_
  refine J.iload_n dX6_age_46 rfl rfl ?_
  refine J.iload_n dX6_age_47 rfl rfl ?_
  refine J.iastoreN dX6_age_48 rfl (by have := hr.1; omega) ?_
  rw [upd_nI]
  try dsimp only [List.set, wC]
  refine J.iload_n dX6_age_49 rfl rfl ?_
  exact J.iret dX6_age_50 rfl rfl (Nat.le_refl _) (Nat.le_refl _) ⟨rfl, rfl⟩
set_option maxRecDepth 100000 in
set_option maxHeartbeats 4000000 in
theorem mX6_age_bad (rs : Nat → rT) (v : Nat → Nat → Nat) (q : rT) (x : Nat → Nat) (n : Nat → Int64) (u : uT) (c : Nat → Nat → Int32) (l : Nat → Int32) (tn : Int32) (i z : Int32) (hb : ¬ (0 ≤ i ∧ i ≤ nI (rs 0 6 0) - 1) ∨ ¬ (0 ≤ z ∧ z ≤ 9)) : J KX6_age 62 (fun o B => o = some (.int (-1)) ∧ B = (wC rs v q x n u c l tn)) 0 [some (.ref 0), some (.int i), some (.int z), none] [] (wC rs v q x n u c l tn) 0 0 := by
  refine J.iload_n dX6_age_0 rfl rfl ?_
  refine J.iconst (0) dX6_age_1 (by decide) ?_
  refine J.aload_n dX6_age_2 rfl rfl ?_
  refine J.getfield dX6_age_3 jFX6_12 rfl rfl ?_
  refine J.getfield dX6_age_6 jFX6_93 rfl rfl ?_
  refine J.iconst (1) dX6_age_9 (by decide) ?_
  refine J.isub dX6_age_10 ?_
  refine J.cs (as := [.int _, .int _, .int _]) (is := []) okX6_within jcX6_59 (mX6_within _ _ _) dX6_age_11 rfl rfl rfl rfl rfl rfl (fun r9 B9 hq => ?_)
  obtain ⟨rfl, rfl⟩ := hq
  refine ⟨rfl, ?_⟩
  show J _ _ _ _ _ (.int _ :: _) (wC rs v q x n u c l tn) _ _
  refine J.if_eq (tgt := 27) dX6_age_14 (by decide) (fun c14 => ?_) (fun c14 => ?_)
  · refine J.iconst (-1) dX6_age_27 (by decide) ?_
    exact J.iret dX6_age_28 rfl rfl (Nat.le_refl _) (Nat.le_refl _) ⟨rfl, rfl⟩
  · refine J.iload_n dX6_age_17 rfl rfl ?_
    refine J.iconst (0) dX6_age_18 (by decide) ?_
    refine J.bipush (9) dX6_age_19 (by decide) ?_
    refine J.cs (as := [.int _, .int _, .int _]) (is := []) okX6_within jcX6_59 (mX6_within _ _ _) dX6_age_21 rfl rfl rfl rfl rfl rfl (fun r9 B9 hq => ?_)
    obtain ⟨rfl, rfl⟩ := hq
    refine ⟨rfl, ?_⟩
    show J _ _ _ _ _ (.int _ :: _) (wC rs v q x n u c l tn) _ _
    refine J.if_ne (tgt := 29) dX6_age_24 (by decide) (fun c24 => absurd c24 (fun h => h ((jB_0 _).mpr (hb.resolve_left (fun h => h (Decidable.not_not.mp (fun h9 => c14 ((jB_0 _).mpr h9)))))))) (fun c24 => ?_)
    refine J.iconst (-1) dX6_age_27 (by decide) ?_
    exact J.iret dX6_age_28 rfl rfl (Nat.le_refl _) (Nat.le_refl _) ⟨rfl, rfl⟩
set_option maxRecDepth 100000 in
set_option maxHeartbeats 4000000 in
theorem mX6_dye (rs : Nat → rT) (v : Nat → Nat → Nat) (q : rT) (x : Nat → Nat) (n : Nat → Int64) (u : uT) (c : Nat → Nat → Int32) (l : Nat → Int32) (tn : Int32) (i z : Nat) (hr : rOK (rs 0)) (hi : i < rs 0 6 0) (h2 : z ≤ 4) : J KX6_dye 62 (fun o B => o = some (.int (nI (rs 0 0 i))) ∧ B = (wC (rsN rs 0 (rset (rs 0) 0 i z)) v q x n u c l tn)) 0 [some (.ref 0), some (.int (nI i)), some (.int (nI z)), none] [] (wC rs v q x n u c l tn) 0 0 := by
  refine J.iload_n dX6_dye_0 rfl rfl ?_
  refine J.iconst (0) dX6_dye_1 (by decide) ?_
  refine J.aload_n dX6_dye_2 rfl rfl ?_
  refine J.getfield dX6_dye_3 jFX6_12 rfl rfl ?_
  refine J.getfield dX6_dye_6 jFX6_93 rfl rfl ?_
  refine J.iconst (1) dX6_dye_9 (by decide) ?_
  refine J.isub dX6_dye_10 ?_
  refine J.cs (as := [.int _, .int _, .int _]) (is := []) okX6_within jcX6_59 (mX6_within _ _ _) dX6_dye_11 rfl rfl rfl rfl rfl rfl (fun r9 B9 hq => ?_)
  obtain ⟨rfl, rfl⟩ := hq
  refine ⟨rfl, ?_⟩
  show J _ _ _ _ _ (.int _ :: _) (wC rs v q x n u c l tn) _ _
  refine J.if_eq (tgt := 26) dX6_dye_14 (by decide) (fun c14 => absurd c14 (fun h => (jB_0 _).mp h (jin_ge (by have := hr.1; omega) hi))) (fun c14 => ?_)
  refine J.iload_n dX6_dye_17 rfl rfl ?_
  refine J.iconst (0) dX6_dye_18 (by decide) ?_
  refine J.iconst (4) dX6_dye_19 (by decide) ?_
  refine J.cs (as := [.int _, .int _, .int _]) (is := []) okX6_within jcX6_59 (mX6_within _ _ _) dX6_dye_20 rfl rfl rfl rfl rfl rfl (fun r9 B9 hq => ?_)
  obtain ⟨rfl, rfl⟩ := hq
  refine ⟨rfl, ?_⟩
  show J _ _ _ _ _ (.int _ :: _) (wC rs v q x n u c l tn) _ _
  refine J.if_ne (tgt := 28) dX6_dye_23 (by decide) (fun c23 => ?_) (fun c23 => absurd c23 (fun h => (jB_0 _).mp h (jw (a := 0) (c := 4) (by decide) (Nat.zero_le _) h2)))
  refine J.aload_n dX6_dye_28 rfl rfl ?_
  refine J.getfield dX6_dye_29 jFX6_12 rfl rfl ?_
  refine J.getfield dX6_dye_32 jFX6_114 rfl rfl ?_
  refine J.iload_n dX6_dye_35 rfl rfl ?_
  refine J.ialoadN dX6_dye_36 rfl (by have := hr.1; omega) ?_
  refine J.istore_n dX6_dye_37 rfl (by decide) rfl ?_
  try dsimp only [List.set, wC]
  refine J.aload_n dX6_dye_38 rfl rfl ?_
  refine J.getfield dX6_dye_39 jFX6_12 rfl rfl ?_
  refine J.getfield dX6_dye_42 jFX6_114 rfl rfl ?_
  refine J.iload_n dX6_dye_45 rfl rfl ?_
  refine J.iload_n dX6_dye_46 rfl rfl ?_
  refine J.iastoreN dX6_dye_47 rfl (by have := hr.1; omega) ?_
  rw [upd_nI]
  try dsimp only [List.set, wC]
  refine J.iload_n dX6_dye_48 rfl rfl ?_
  exact J.iret dX6_dye_49 rfl rfl (Nat.le_refl _) (Nat.le_refl _) ⟨rfl, rfl⟩
set_option maxRecDepth 100000 in
set_option maxHeartbeats 4000000 in
theorem mX6_dye_bad (rs : Nat → rT) (v : Nat → Nat → Nat) (q : rT) (x : Nat → Nat) (n : Nat → Int64) (u : uT) (c : Nat → Nat → Int32) (l : Nat → Int32) (tn : Int32) (i z : Int32) (hb : ¬ (0 ≤ i ∧ i ≤ nI (rs 0 6 0) - 1) ∨ ¬ (0 ≤ z ∧ z ≤ 4)) : J KX6_dye 62 (fun o B => o = some (.int (-1)) ∧ B = (wC rs v q x n u c l tn)) 0 [some (.ref 0), some (.int i), some (.int z), none] [] (wC rs v q x n u c l tn) 0 0 := by
  refine J.iload_n dX6_dye_0 rfl rfl ?_
  refine J.iconst (0) dX6_dye_1 (by decide) ?_
  refine J.aload_n dX6_dye_2 rfl rfl ?_
  refine J.getfield dX6_dye_3 jFX6_12 rfl rfl ?_
  refine J.getfield dX6_dye_6 jFX6_93 rfl rfl ?_
  refine J.iconst (1) dX6_dye_9 (by decide) ?_
  refine J.isub dX6_dye_10 ?_
  refine J.cs (as := [.int _, .int _, .int _]) (is := []) okX6_within jcX6_59 (mX6_within _ _ _) dX6_dye_11 rfl rfl rfl rfl rfl rfl (fun r9 B9 hq => ?_)
  obtain ⟨rfl, rfl⟩ := hq
  refine ⟨rfl, ?_⟩
  show J _ _ _ _ _ (.int _ :: _) (wC rs v q x n u c l tn) _ _
  refine J.if_eq (tgt := 26) dX6_dye_14 (by decide) (fun c14 => ?_) (fun c14 => ?_)
  · refine J.iconst (-1) dX6_dye_26 (by decide) ?_
    exact J.iret dX6_dye_27 rfl rfl (Nat.le_refl _) (Nat.le_refl _) ⟨rfl, rfl⟩
  · refine J.iload_n dX6_dye_17 rfl rfl ?_
    refine J.iconst (0) dX6_dye_18 (by decide) ?_
    refine J.iconst (4) dX6_dye_19 (by decide) ?_
    refine J.cs (as := [.int _, .int _, .int _]) (is := []) okX6_within jcX6_59 (mX6_within _ _ _) dX6_dye_20 rfl rfl rfl rfl rfl rfl (fun r9 B9 hq => ?_)
    obtain ⟨rfl, rfl⟩ := hq
    refine ⟨rfl, ?_⟩
    show J _ _ _ _ _ (.int _ :: _) (wC rs v q x n u c l tn) _ _
    refine J.if_ne (tgt := 28) dX6_dye_23 (by decide) (fun c23 => absurd c23 (fun h => h ((jB_0 _).mpr (hb.resolve_left (fun h => h (Decidable.not_not.mp (fun h9 => c14 ((jB_0 _).mpr h9)))))))) (fun c23 => ?_)
    refine J.iconst (-1) dX6_dye_26 (by decide) ?_
    exact J.iret dX6_dye_27 rfl rfl (Nat.le_refl _) (Nat.le_refl _) ⟨rfl, rfl⟩
set_option maxRecDepth 100000 in
set_option maxHeartbeats 4000000 in
theorem mX6_pay0 (rs : Nat → rT) (v : Nat → Nat → Nat) (q : rT) (x : Nat → Nat) (n : Nat → Int64) (u : uT) (c : Nat → Nat → Int32) (l : Nat → Int32) (tn : Int32) (i z : Nat) (hr : rOK (rs 0)) (hi : i < rs 0 6 1) (h2 : z ≤ 9) : J KX6_pay 62 (fun o B => o = some (.int (nI (rs 0 2 i))) ∧ B = (wC (rsN rs 0 (rset (rs 0) 2 i z)) v q x n u c l tn)) 0 [some (.ref 0), some (.int (nI i)), some (.int 0), some (.int (nI z)), none] [] (wC rs v q x n u c l tn) 0 0 := by
  refine J.iload_n dX6_pay_0 rfl rfl ?_
  refine J.iconst (0) dX6_pay_1 (by decide) ?_
  refine J.aload_n dX6_pay_2 rfl rfl ?_
  refine J.getfield dX6_pay_3 jFX6_12 rfl rfl ?_
  refine J.getfield dX6_pay_6 jFX6_96 rfl rfl ?_
  refine J.iconst (1) dX6_pay_9 (by decide) ?_
  refine J.isub dX6_pay_10 ?_
  refine J.cs (as := [.int _, .int _, .int _]) (is := []) okX6_within jcX6_59 (mX6_within _ _ _) dX6_pay_11 rfl rfl rfl rfl rfl rfl (fun r9 B9 hq => ?_)
  obtain ⟨rfl, rfl⟩ := hq
  refine ⟨rfl, ?_⟩
  show J _ _ _ _ _ (.int _ :: _) (wC rs v q x n u c l tn) _ _
  refine J.if_ne (tgt := 19) dX6_pay_14 (by decide) (fun c14 => ?_) (fun c14 => absurd c14 (fun h => (jB_0 _).mp h (jin_ge (by have := hr.2.1; omega) hi)))
  refine J.iload_n dX6_pay_19 rfl rfl ?_
  refine J.if_ne (tgt := 57) dX6_pay_20 (by decide) (fun c20 => absurd c20 (fun h => h rfl)) (fun c20 => ?_)
  refine J.iload_n dX6_pay_23 rfl rfl ?_
  refine J.iconst (0) dX6_pay_24 (by decide) ?_
  refine J.bipush (9) dX6_pay_25 (by decide) ?_
  refine J.cs (as := [.int _, .int _, .int _]) (is := []) okX6_within jcX6_59 (mX6_within _ _ _) dX6_pay_27 rfl rfl rfl rfl rfl rfl (fun r9 B9 hq => ?_)
  obtain ⟨rfl, rfl⟩ := hq
  refine ⟨rfl, ?_⟩
  show J _ _ _ _ _ (.int _ :: _) (wC rs v q x n u c l tn) _ _
  refine J.if_eq (tgt := 57) dX6_pay_30 (by decide) (fun c30 => absurd c30 (fun h => (jB_0 _).mp h (jw (a := 0) (c := 9) (by decide) (Nat.zero_le _) h2))) (fun c30 => ?_)
  refine J.aload_n dX6_pay_33 rfl rfl ?_
  refine J.getfield dX6_pay_34 jFX6_12 rfl rfl ?_
  refine J.getfield dX6_pay_37 jFX6_128 rfl rfl ?_
  refine J.iload_n dX6_pay_40 rfl rfl ?_
  refine J.ialoadN dX6_pay_41 rfl (by have := hr.2.1; omega) ?_
  refine J.istore dX6_pay_42 (by decide) rfl ?_
  try dsimp only [List.set, wC]
  refine J.aload_n dX6_pay_44 rfl rfl ?_
  refine J.getfield dX6_pay_45 jFX6_12 rfl rfl ?_
  refine J.getfield dX6_pay_48 jFX6_128 rfl rfl ?_
  refine J.iload_n dX6_pay_51 rfl rfl ?_
  refine J.iload_n dX6_pay_52 rfl rfl ?_
  refine J.iastoreN dX6_pay_53 rfl (by have := hr.2.1; omega) ?_
  rw [upd_nI]
  try dsimp only [List.set, wC]
  refine J.iload dX6_pay_54 rfl ?_
  exact J.iret dX6_pay_56 rfl rfl (Nat.le_refl _) (Nat.le_refl _) ⟨rfl, rfl⟩
set_option maxRecDepth 100000 in
set_option maxHeartbeats 4000000 in
theorem mX6_pay1 (rs : Nat → rT) (v : Nat → Nat → Nat) (q : rT) (x : Nat → Nat) (n : Nat → Int64) (u : uT) (c : Nat → Nat → Int32) (l : Nat → Int32) (tn : Int32) (i z : Nat) (hr : rOK (rs 0)) (hi : i < rs 0 6 1) (h2 : z ≤ 99) : J KX6_pay 62 (fun o B => o = some (.int (nI (rs 0 3 i))) ∧ B = (wC (rsN rs 0 (rset (rs 0) 3 i z)) v q x n u c l tn)) 0 [some (.ref 0), some (.int (nI i)), some (.int 1), some (.int (nI z)), none] [] (wC rs v q x n u c l tn) 0 0 := by
  refine J.iload_n dX6_pay_0 rfl rfl ?_
  refine J.iconst (0) dX6_pay_1 (by decide) ?_
  refine J.aload_n dX6_pay_2 rfl rfl ?_
  refine J.getfield dX6_pay_3 jFX6_12 rfl rfl ?_
  refine J.getfield dX6_pay_6 jFX6_96 rfl rfl ?_
  refine J.iconst (1) dX6_pay_9 (by decide) ?_
  refine J.isub dX6_pay_10 ?_
  refine J.cs (as := [.int _, .int _, .int _]) (is := []) okX6_within jcX6_59 (mX6_within _ _ _) dX6_pay_11 rfl rfl rfl rfl rfl rfl (fun r9 B9 hq => ?_)
  obtain ⟨rfl, rfl⟩ := hq
  refine ⟨rfl, ?_⟩
  show J _ _ _ _ _ (.int _ :: _) (wC rs v q x n u c l tn) _ _
  refine J.if_ne (tgt := 19) dX6_pay_14 (by decide) (fun c14 => ?_) (fun c14 => absurd c14 (fun h => (jB_0 _).mp h (jin_ge (by have := hr.2.1; omega) hi)))
  refine J.iload_n dX6_pay_19 rfl rfl ?_
  refine J.if_ne (tgt := 57) dX6_pay_20 (by decide) (fun c20 => ?_) (fun c20 => absurd c20 (by decide))
  refine J.iload_n dX6_pay_57 rfl rfl ?_
  refine J.iconst (1) dX6_pay_58 (by decide) ?_
  refine J.icmp_ne (tgt := 96) dX6_pay_59 (by decide) (fun c59 => absurd c59 (fun h => h rfl)) (fun c59 => ?_)
  refine J.iload_n dX6_pay_62 rfl rfl ?_
  refine J.iconst (0) dX6_pay_63 (by decide) ?_
  refine J.bipush (99) dX6_pay_64 (by decide) ?_
  refine J.cs (as := [.int _, .int _, .int _]) (is := []) okX6_within jcX6_59 (mX6_within _ _ _) dX6_pay_66 rfl rfl rfl rfl rfl rfl (fun r9 B9 hq => ?_)
  obtain ⟨rfl, rfl⟩ := hq
  refine ⟨rfl, ?_⟩
  show J _ _ _ _ _ (.int _ :: _) (wC rs v q x n u c l tn) _ _
  refine J.if_eq (tgt := 96) dX6_pay_69 (by decide) (fun c69 => absurd c69 (fun h => (jB_0 _).mp h (jw (a := 0) (c := 99) (by decide) (Nat.zero_le _) h2))) (fun c69 => ?_)
  refine J.aload_n dX6_pay_72 rfl rfl ?_
  refine J.getfield dX6_pay_73 jFX6_12 rfl rfl ?_
  refine J.getfield dX6_pay_76 jFX6_131 rfl rfl ?_
  refine J.iload_n dX6_pay_79 rfl rfl ?_
  refine J.ialoadN dX6_pay_80 rfl (by have := hr.2.1; omega) ?_
  refine J.istore dX6_pay_81 (by decide) rfl ?_
  try dsimp only [List.set, wC]
  refine J.aload_n dX6_pay_83 rfl rfl ?_
  refine J.getfield dX6_pay_84 jFX6_12 rfl rfl ?_
  refine J.getfield dX6_pay_87 jFX6_131 rfl rfl ?_
  refine J.iload_n dX6_pay_90 rfl rfl ?_
  refine J.iload_n dX6_pay_91 rfl rfl ?_
  refine J.iastoreN dX6_pay_92 rfl (by have := hr.2.1; omega) ?_
  rw [upd_nI]
  try dsimp only [List.set, wC]
  refine J.iload dX6_pay_93 rfl ?_
  exact J.iret dX6_pay_95 rfl rfl (Nat.le_refl _) (Nat.le_refl _) ⟨rfl, rfl⟩
set_option maxRecDepth 100000 in
set_option maxHeartbeats 4000000 in
theorem mX6_pay_bad (rs : Nat → rT) (v : Nat → Nat → Nat) (q : rT) (x : Nat → Nat) (n : Nat → Int64) (u : uT) (c : Nat → Nat → Int32) (l : Nat → Int32) (tn : Int32) (i a z : Int32) (hb : 0 ≤ i ∧ i ≤ nI (rs 0 6 1) - 1 → ¬ (a = 0 ∧ 0 ≤ z ∧ z ≤ 9) ∧ ¬ (a = 1 ∧ 0 ≤ z ∧ z ≤ 99)) : J KX6_pay 62 (fun o B => o = some (.int (-1)) ∧ B = (wC rs v q x n u c l tn)) 0 [some (.ref 0), some (.int i), some (.int a), some (.int z), none] [] (wC rs v q x n u c l tn) 0 0 := by
  refine J.iload_n dX6_pay_0 rfl rfl ?_
  refine J.iconst (0) dX6_pay_1 (by decide) ?_
  refine J.aload_n dX6_pay_2 rfl rfl ?_
  refine J.getfield dX6_pay_3 jFX6_12 rfl rfl ?_
  refine J.getfield dX6_pay_6 jFX6_96 rfl rfl ?_
  refine J.iconst (1) dX6_pay_9 (by decide) ?_
  refine J.isub dX6_pay_10 ?_
  refine J.cs (as := [.int _, .int _, .int _]) (is := []) okX6_within jcX6_59 (mX6_within _ _ _) dX6_pay_11 rfl rfl rfl rfl rfl rfl (fun r9 B9 hq => ?_)
  obtain ⟨rfl, rfl⟩ := hq
  refine ⟨rfl, ?_⟩
  show J _ _ _ _ _ (.int _ :: _) (wC rs v q x n u c l tn) _ _
  refine J.if_ne (tgt := 19) dX6_pay_14 (by decide) (fun c14 => ?_) (fun c14 => ?_)
  · refine J.iload_n dX6_pay_19 rfl rfl ?_
    refine J.if_ne (tgt := 57) dX6_pay_20 (by decide) (fun c20 => ?_) (fun c20 => ?_)
    · refine J.iload_n dX6_pay_57 rfl rfl ?_
      refine J.iconst (1) dX6_pay_58 (by decide) ?_
      refine J.icmp_ne (tgt := 96) dX6_pay_59 (by decide) (fun c59 => ?_) (fun c59 => ?_)
      · refine J.iconst (-1) dX6_pay_96 (by decide) ?_
        exact J.iret dX6_pay_97 rfl rfl (Nat.le_refl _) (Nat.le_refl _) ⟨rfl, rfl⟩
      · refine J.iload_n dX6_pay_62 rfl rfl ?_
        refine J.iconst (0) dX6_pay_63 (by decide) ?_
        refine J.bipush (99) dX6_pay_64 (by decide) ?_
        refine J.cs (as := [.int _, .int _, .int _]) (is := []) okX6_within jcX6_59 (mX6_within _ _ _) dX6_pay_66 rfl rfl rfl rfl rfl rfl (fun r9 B9 hq => ?_)
        obtain ⟨rfl, rfl⟩ := hq
        refine ⟨rfl, ?_⟩
        show J _ _ _ _ _ (.int _ :: _) (wC rs v q x n u c l tn) _ _
        refine J.if_eq (tgt := 96) dX6_pay_69 (by decide) (fun c69 => ?_) (fun c69 => absurd c69 (fun h => h ((jB_0 _).mpr (fun h => (hb (Decidable.not_not.mp (fun h9 => c14 ((jB_0 _).mpr h9)))).2 ⟨c59, h⟩))))
        refine J.iconst (-1) dX6_pay_96 (by decide) ?_
        exact J.iret dX6_pay_97 rfl rfl (Nat.le_refl _) (Nat.le_refl _) ⟨rfl, rfl⟩
    · refine J.iload_n dX6_pay_23 rfl rfl ?_
      refine J.iconst (0) dX6_pay_24 (by decide) ?_
      refine J.bipush (9) dX6_pay_25 (by decide) ?_
      refine J.cs (as := [.int _, .int _, .int _]) (is := []) okX6_within jcX6_59 (mX6_within _ _ _) dX6_pay_27 rfl rfl rfl rfl rfl rfl (fun r9 B9 hq => ?_)
      obtain ⟨rfl, rfl⟩ := hq
      refine ⟨rfl, ?_⟩
      show J _ _ _ _ _ (.int _ :: _) (wC rs v q x n u c l tn) _ _
      refine J.if_eq (tgt := 57) dX6_pay_30 (by decide) (fun c30 => ?_) (fun c30 => absurd c30 (fun h => h ((jB_0 _).mpr (fun h => (hb (Decidable.not_not.mp (fun h9 => c14 ((jB_0 _).mpr h9)))).1 ⟨c20, h⟩))))
      refine J.iload_n dX6_pay_57 rfl rfl ?_
      refine J.iconst (1) dX6_pay_58 (by decide) ?_
      refine J.icmp_ne (tgt := 96) dX6_pay_59 (by decide) (fun c59 => ?_) (fun c59 => ?_)
      · refine J.iconst (-1) dX6_pay_96 (by decide) ?_
        exact J.iret dX6_pay_97 rfl rfl (Nat.le_refl _) (Nat.le_refl _) ⟨rfl, rfl⟩
      · refine J.iload_n dX6_pay_62 rfl rfl ?_
        refine J.iconst (0) dX6_pay_63 (by decide) ?_
        refine J.bipush (99) dX6_pay_64 (by decide) ?_
        refine J.cs (as := [.int _, .int _, .int _]) (is := []) okX6_within jcX6_59 (mX6_within _ _ _) dX6_pay_66 rfl rfl rfl rfl rfl rfl (fun r9 B9 hq => ?_)
        obtain ⟨rfl, rfl⟩ := hq
        refine ⟨rfl, ?_⟩
        show J _ _ _ _ _ (.int _ :: _) (wC rs v q x n u c l tn) _ _
        refine J.if_eq (tgt := 96) dX6_pay_69 (by decide) (fun c69 => ?_) (fun c69 => absurd c69 (fun h => h ((jB_0 _).mpr (fun h => (hb (Decidable.not_not.mp (fun h9 => c14 ((jB_0 _).mpr h9)))).2 ⟨c59, h⟩))))
        refine J.iconst (-1) dX6_pay_96 (by decide) ?_
        exact J.iret dX6_pay_97 rfl rfl (Nat.le_refl _) (Nat.le_refl _) ⟨rfl, rfl⟩
  · refine J.iconst (-1) dX6_pay_17 (by decide) ?_
    exact J.iret dX6_pay_18 rfl rfl (Nat.le_refl _) (Nat.le_refl _) ⟨rfl, rfl⟩
theorem kn_eval : ∀ w, w < 8 → ∀ i, i < 3 → nI w &&& (1 <<< (nI i &&& 31) ^^^ -1) = nI (w &&& (7 - 2 ^ i)) := by decide +kernel
set_option maxRecDepth 100000 in
set_option maxHeartbeats 4000000 in
theorem mX6_knot1 (rs : Nat → rT) (v : Nat → Nat → Nat) (q : rT) (x : Nat → Nat) (n : Nat → Int64) (u : uT) (c : Nat → Nat → Int32) (l : Nat → Int32) (tn : Int32) (i : Nat) (hr : rOK (rs 0)) (hi : i < rs 0 6 0) : J KX6_knot 62 (fun o B => o = some (.int (nI (bit (rs 0 6 3) i))) ∧ B = (wC (rsN rs 0 (rset (rset (rs 0) 6 3 (rs 0 6 3 ||| 2 ^ i)) 1 i 0)) v q x n u c l tn)) 0 [some (.ref 0), some (.int (nI i)), some (.int 1), none] [] (wC rs v q x n u c l tn) 0 0 := by
  refine J.iload_n dX6_knot_0 rfl rfl ?_
  refine J.iconst (0) dX6_knot_1 (by decide) ?_
  refine J.aload_n dX6_knot_2 rfl rfl ?_
  refine J.getfield dX6_knot_3 jFX6_12 rfl rfl ?_
  refine J.getfield dX6_knot_6 jFX6_93 rfl rfl ?_
  refine J.iconst (1) dX6_knot_9 (by decide) ?_
  refine J.isub dX6_knot_10 ?_
  refine J.cs (as := [.int _, .int _, .int _]) (is := []) okX6_within jcX6_59 (mX6_within _ _ _) dX6_knot_11 rfl rfl rfl rfl rfl rfl (fun r9 B9 hq => ?_)
  obtain ⟨rfl, rfl⟩ := hq
  refine ⟨rfl, ?_⟩
  show J _ _ _ _ _ (.int _ :: _) (wC rs v q x n u c l tn) _ _
  refine J.if_ne (tgt := 19) dX6_knot_14 (by decide) (fun c14 => ?_) (fun c14 => absurd c14 (fun h => (jB_0 _).mp h (jin_ge (by have := hr.1; omega) hi)))
  refine J.aload_n dX6_knot_19 rfl rfl ?_
  refine J.getfield dX6_knot_20 jFX6_12 rfl rfl ?_
  refine J.iload_n dX6_knot_23 rfl rfl ?_
  refine J.cv (as := [.int _]) (is := [1, 2, 3, 4, 5, 6, 7]) (o := 0) okX2_wholeBit jcX6_121 (mX2_wholeBit (rs 0) i hr.w (by have := hr.1; omega)) dX6_knot_24 rfl rfl rfl rfl rfl rfl rfl (fun r9 B9 hq => ?_)
  obtain ⟨rfl, rfl⟩ := hq
  refine ⟨rfl, ?_⟩
  show J _ _ _ _ _ (.int _ :: _) (wC rs v q x n u c l tn) _ _
  refine J.istore_n dX6_knot_27 rfl (by decide) rfl ?_
  try dsimp only [List.set, wC]
  refine J.iload_n dX6_knot_28 rfl rfl ?_
  refine J.if_eq (tgt := 60) dX6_knot_29 (by decide) (fun c29 => absurd c29 (by decide)) (fun c29 => ?_)
  refine J.aload_n dX6_knot_32 rfl rfl ?_
  refine J.getfield dX6_knot_33 jFX6_12 rfl rfl ?_
  refine J.dup dX6_knot_36 rfl ?_
  refine J.getfield dX6_knot_37 jFX6_111 rfl rfl ?_
  refine J.iconst (1) dX6_knot_40 (by decide) ?_
  refine J.iload_n dX6_knot_41 rfl rfl ?_
  refine J.ishl dX6_knot_42 ?_
  refine J.ior dX6_knot_43 ?_
  rw [ws_eval _ hr.w _ (by have := hr.1; omega)]
  refine J.putfield dX6_knot_44 jFX6_111 jP2_9 rfl rfl rfl (Nat.le_of_ble_eq_true rfl) ?_
  try dsimp only [List.set, wC]
  refine J.aload_n dX6_knot_47 rfl rfl ?_
  refine J.getfield dX6_knot_48 jFX6_12 rfl rfl ?_
  refine J.getfield dX6_knot_51 jFX6_118 rfl rfl ?_
  refine J.iload_n dX6_knot_54 rfl rfl ?_
  refine J.iconst (0) dX6_knot_55 (by decide) ?_
  refine J.iastoreN dX6_knot_56 rfl (by have := hr.1; omega) ?_
  rw [show (0 : Int32) = nI 0 from rfl, upd_nI]
  try dsimp only [List.set, wC]
  refine J.goto (tgt := 77) dX6_knot_57 (by decide) ?_
  refine J.iload_n dX6_knot_77 rfl rfl ?_
  exact J.iret dX6_knot_78 rfl rfl (Nat.le_refl _) (Nat.le_refl _) ⟨rfl, rfl⟩
set_option maxRecDepth 100000 in
set_option maxHeartbeats 4000000 in
theorem mX6_knot0 (rs : Nat → rT) (v : Nat → Nat → Nat) (q : rT) (x : Nat → Nat) (n : Nat → Int64) (u : uT) (c : Nat → Nat → Int32) (l : Nat → Int32) (tn : Int32) (i : Nat) (hr : rOK (rs 0)) (hi : i < rs 0 6 0) : J KX6_knot 62 (fun o B => o = some (.int (nI (bit (rs 0 6 3) i))) ∧ B = (wC (rsN rs 0 (rset (rs 0) 6 3 (rs 0 6 3 &&& (7 - 2 ^ i)))) v q x n u c l tn)) 0 [some (.ref 0), some (.int (nI i)), some (.int 0), none] [] (wC rs v q x n u c l tn) 0 0 := by
  refine J.iload_n dX6_knot_0 rfl rfl ?_
  refine J.iconst (0) dX6_knot_1 (by decide) ?_
  refine J.aload_n dX6_knot_2 rfl rfl ?_
  refine J.getfield dX6_knot_3 jFX6_12 rfl rfl ?_
  refine J.getfield dX6_knot_6 jFX6_93 rfl rfl ?_
  refine J.iconst (1) dX6_knot_9 (by decide) ?_
  refine J.isub dX6_knot_10 ?_
  refine J.cs (as := [.int _, .int _, .int _]) (is := []) okX6_within jcX6_59 (mX6_within _ _ _) dX6_knot_11 rfl rfl rfl rfl rfl rfl (fun r9 B9 hq => ?_)
  obtain ⟨rfl, rfl⟩ := hq
  refine ⟨rfl, ?_⟩
  show J _ _ _ _ _ (.int _ :: _) (wC rs v q x n u c l tn) _ _
  refine J.if_ne (tgt := 19) dX6_knot_14 (by decide) (fun c14 => ?_) (fun c14 => absurd c14 (fun h => (jB_0 _).mp h (jin_ge (by have := hr.1; omega) hi)))
  refine J.aload_n dX6_knot_19 rfl rfl ?_
  refine J.getfield dX6_knot_20 jFX6_12 rfl rfl ?_
  refine J.iload_n dX6_knot_23 rfl rfl ?_
  refine J.cv (as := [.int _]) (is := [1, 2, 3, 4, 5, 6, 7]) (o := 0) okX2_wholeBit jcX6_121 (mX2_wholeBit (rs 0) i hr.w (by have := hr.1; omega)) dX6_knot_24 rfl rfl rfl rfl rfl rfl rfl (fun r9 B9 hq => ?_)
  obtain ⟨rfl, rfl⟩ := hq
  refine ⟨rfl, ?_⟩
  show J _ _ _ _ _ (.int _ :: _) (wC rs v q x n u c l tn) _ _
  refine J.istore_n dX6_knot_27 rfl (by decide) rfl ?_
  try dsimp only [List.set, wC]
  refine J.iload_n dX6_knot_28 rfl rfl ?_
  refine J.if_eq (tgt := 60) dX6_knot_29 (by decide) (fun c29 => ?_) (fun c29 => absurd c29 (fun h => h rfl))
  refine J.aload_n dX6_knot_60 rfl rfl ?_
  refine J.getfield dX6_knot_61 jFX6_12 rfl rfl ?_
  refine J.dup dX6_knot_64 rfl ?_
  refine J.getfield dX6_knot_65 jFX6_111 rfl rfl ?_
  refine J.iconst (1) dX6_knot_68 (by decide) ?_
  refine J.iload_n dX6_knot_69 rfl rfl ?_
  refine J.ishl dX6_knot_70 ?_
  refine J.iconst (-1) dX6_knot_71 (by decide) ?_
  refine J.ixor dX6_knot_72 ?_
  refine J.iand dX6_knot_73 ?_
  rw [kn_eval _ hr.w _ (by have := hr.1; omega)]
  refine J.putfield dX6_knot_74 jFX6_111 jP2_9 rfl rfl rfl (Nat.le_of_ble_eq_true rfl) ?_
  try dsimp only [List.set, wC]
  refine J.iload_n dX6_knot_77 rfl rfl ?_
  exact J.iret dX6_knot_78 rfl rfl (Nat.le_refl _) (Nat.le_refl _) ⟨rfl, rfl⟩
set_option maxRecDepth 100000 in
set_option maxHeartbeats 4000000 in
theorem mX6_knot_bad (rs : Nat → rT) (v : Nat → Nat → Nat) (q : rT) (x : Nat → Nat) (n : Nat → Int64) (u : uT) (c : Nat → Nat → Int32) (l : Nat → Int32) (tn : Int32) (i z : Int32) (hi : ¬ (0 ≤ i ∧ i ≤ nI (rs 0 6 0) - 1)) : J KX6_knot 62 (fun o B => o = some (.int (-1)) ∧ B = (wC rs v q x n u c l tn)) 0 [some (.ref 0), some (.int i), some (.int z), none] [] (wC rs v q x n u c l tn) 0 0 := by
  refine J.iload_n dX6_knot_0 rfl rfl ?_
  refine J.iconst (0) dX6_knot_1 (by decide) ?_
  refine J.aload_n dX6_knot_2 rfl rfl ?_
  refine J.getfield dX6_knot_3 jFX6_12 rfl rfl ?_
  refine J.getfield dX6_knot_6 jFX6_93 rfl rfl ?_
  refine J.iconst (1) dX6_knot_9 (by decide) ?_
  refine J.isub dX6_knot_10 ?_
  refine J.cs (as := [.int _, .int _, .int _]) (is := []) okX6_within jcX6_59 (mX6_within _ _ _) dX6_knot_11 rfl rfl rfl rfl rfl rfl (fun r9 B9 hq => ?_)
  obtain ⟨rfl, rfl⟩ := hq
  refine ⟨rfl, ?_⟩
  show J _ _ _ _ _ (.int _ :: _) (wC rs v q x n u c l tn) _ _
  refine J.if_ne (tgt := 19) dX6_knot_14 (by decide) (fun c14 => absurd c14 (fun h => h ((jB_0 _).mpr hi))) (fun c14 => ?_)
  refine J.iconst (-1) dX6_knot_17 (by decide) ?_
  exact J.iret dX6_knot_18 rfl rfl (Nat.le_refl _) (Nat.le_refl _) ⟨rfl, rfl⟩
set_option maxRecDepth 100000 in
set_option maxHeartbeats 4000000 in
theorem mX6_see (rs : Nat → rT) (v : Nat → Nat → Nat) (q : rT) (x : Nat → Nat) (n : Nat → Int64) (u : uT) (c : Nat → Nat → Int32) (l : Nat → Int32) (tn : Int32) (a k : Nat) (ha : a ≤ 5) (hk : k ≤ 3) (hm : v 4 1 < 6) : J KX6_see 62 (fun o B => o = some (.int (nI (v 4 1 + 1))) ∧ B = (wC rs (fun y => if y = 2 then (fun j => if j = v 4 1 then a else v 2 j) else if y = 3 then (fun j => if j = v 4 1 then k else v 3 j) else if y = 4 then (fun j => if j = 1 then v 4 1 + 1 else v 4 j) else v y) q x n u c l tn)) 0 [some (.ref 0), some (.int (nI a)), some (.int (nI k))] [] (wC rs v q x n u c l tn) 0 0 := by
  refine J.iload_n dX6_see_0 rfl rfl ?_
  refine J.cs (as := [.int _]) (is := []) okX6_foreseen jcX6_143 (mX6_foreseen _) dX6_see_1 rfl rfl rfl rfl rfl rfl (fun r9 B9 hq => ?_)
  obtain ⟨rfl, rfl⟩ := hq
  refine ⟨rfl, ?_⟩
  show J _ _ _ _ _ (.int _ :: _) (wC rs v q x n u c l tn) _ _
  refine J.if_eq (tgt := 16) dX6_see_4 (by decide) (fun c4 => absurd c4 (fun h => (jB_0 _).mp h (jw (a := 0) (c := 5) (by decide) (Nat.zero_le _) ha))) (fun c4 => ?_)
  refine J.iload_n dX6_see_7 rfl rfl ?_
  refine J.iconst (0) dX6_see_8 (by decide) ?_
  refine J.iconst (3) dX6_see_9 (by decide) ?_
  refine J.cs (as := [.int _, .int _, .int _]) (is := []) okX6_within jcX6_59 (mX6_within _ _ _) dX6_see_10 rfl rfl rfl rfl rfl rfl (fun r9 B9 hq => ?_)
  obtain ⟨rfl, rfl⟩ := hq
  refine ⟨rfl, ?_⟩
  show J _ _ _ _ _ (.int _ :: _) (wC rs v q x n u c l tn) _ _
  refine J.if_ne (tgt := 18) dX6_see_13 (by decide) (fun c13 => ?_) (fun c13 => absurd c13 (fun h => (jB_0 _).mp h (jw (a := 0) (c := 3) (by decide) (Nat.zero_le _) hk)))
  refine J.aload_n dX6_see_18 rfl rfl ?_
  refine J.getfield dX6_see_19 jFX6_44 rfl rfl ?_
  refine J.iload_n dX6_see_22 rfl rfl ?_
  refine J.iload_n dX6_see_23 rfl rfl ?_
  refine J.cv (as := [.int _, .int _]) (is := [36, 37, 38]) (o := 0) okX3_append jcX6_215 (mX3_append (v 2) (v 3) (v 4 1) a k hm) dX6_see_24 rfl rfl rfl rfl rfl rfl rfl (fun r9 B9 hq => ?_)
  obtain ⟨rfl, rfl⟩ := hq
  refine ⟨rfl, ?_⟩
  show J _ _ _ _ _ (.int _ :: _) (wC rs (fun y => if y = 2 then (fun j => if j = v 4 1 then a else v 2 j) else if y = 3 then (fun j => if j = v 4 1 then k else v 3 j) else if y = 4 then (fun j => if j = 1 then v 4 1 + 1 else v 4 j) else v y) q x n u c l tn) _ _
  refine J.if_eq (tgt := 40) dX6_see_27 (by decide) (fun c27 => absurd c27 (by decide)) (fun c27 => ?_)
  refine J.aload_n dX6_see_30 rfl rfl ?_
  refine J.getfield dX6_see_31 jFX6_44 rfl rfl ?_
  refine J.getfield dX6_see_34 jFX6_90 rfl rfl ?_
  refine J.goto (tgt := 42) dX6_see_37 (by decide) ?_
  exact J.iret dX6_see_42 rfl rfl (Nat.le_refl _) (Nat.le_refl _) ⟨rfl, rfl⟩
set_option maxRecDepth 100000 in
set_option maxHeartbeats 4000000 in
theorem mX6_see_full (rs : Nat → rT) (v : Nat → Nat → Nat) (q : rT) (x : Nat → Nat) (n : Nat → Int64) (u : uT) (c : Nat → Nat → Int32) (l : Nat → Int32) (tn : Int32) (a k : Nat) (ha : a ≤ 5) (hk : k ≤ 3) (hm : v 4 1 = 6) : J KX6_see 62 (fun o B => o = some (.int (-3)) ∧ B = (wC rs v q x n u c l tn)) 0 [some (.ref 0), some (.int (nI a)), some (.int (nI k))] [] (wC rs v q x n u c l tn) 0 0 := by
  refine J.iload_n dX6_see_0 rfl rfl ?_
  refine J.cs (as := [.int _]) (is := []) okX6_foreseen jcX6_143 (mX6_foreseen _) dX6_see_1 rfl rfl rfl rfl rfl rfl (fun r9 B9 hq => ?_)
  obtain ⟨rfl, rfl⟩ := hq
  refine ⟨rfl, ?_⟩
  show J _ _ _ _ _ (.int _ :: _) (wC rs v q x n u c l tn) _ _
  refine J.if_eq (tgt := 16) dX6_see_4 (by decide) (fun c4 => absurd c4 (fun h => (jB_0 _).mp h (jw (a := 0) (c := 5) (by decide) (Nat.zero_le _) ha))) (fun c4 => ?_)
  refine J.iload_n dX6_see_7 rfl rfl ?_
  refine J.iconst (0) dX6_see_8 (by decide) ?_
  refine J.iconst (3) dX6_see_9 (by decide) ?_
  refine J.cs (as := [.int _, .int _, .int _]) (is := []) okX6_within jcX6_59 (mX6_within _ _ _) dX6_see_10 rfl rfl rfl rfl rfl rfl (fun r9 B9 hq => ?_)
  obtain ⟨rfl, rfl⟩ := hq
  refine ⟨rfl, ?_⟩
  show J _ _ _ _ _ (.int _ :: _) (wC rs v q x n u c l tn) _ _
  refine J.if_ne (tgt := 18) dX6_see_13 (by decide) (fun c13 => ?_) (fun c13 => absurd c13 (fun h => (jB_0 _).mp h (jw (a := 0) (c := 3) (by decide) (Nat.zero_le _) hk)))
  refine J.aload_n dX6_see_18 rfl rfl ?_
  refine J.getfield dX6_see_19 jFX6_44 rfl rfl ?_
  refine J.iload_n dX6_see_22 rfl rfl ?_
  refine J.iload_n dX6_see_23 rfl rfl ?_
  have e9 : wN (v 2) (v 3) 6 = wN (v 2) (v 3) (v 4 1) := by rw [hm]
  have m9 := mX3_append6 (v 2) (v 3) a k
  rw [e9] at m9
  refine J.cv (as := [.int _, .int _]) (is := [36, 37, 38]) (o := 0) okX3_append jcX6_215 (m9) dX6_see_24 rfl rfl rfl rfl rfl rfl rfl (fun r9 B9 hq => ?_)
  obtain ⟨rfl, rfl⟩ := hq
  refine ⟨rfl, ?_⟩
  show J _ _ _ _ _ (.int _ :: _) (wC rs v q x n u c l tn) _ _
  refine J.if_eq (tgt := 40) dX6_see_27 (by decide) (fun c27 => ?_) (fun c27 => absurd c27 (fun h => h rfl))
  refine J.bipush (-3) dX6_see_40 (by decide) ?_
  exact J.iret dX6_see_42 rfl rfl (Nat.le_refl _) (Nat.le_refl _) ⟨rfl, rfl⟩
set_option maxRecDepth 100000 in
set_option maxHeartbeats 4000000 in
theorem mX6_see_bad (rs : Nat → rT) (v : Nat → Nat → Nat) (q : rT) (x : Nat → Nat) (n : Nat → Int64) (u : uT) (c : Nat → Nat → Int32) (l : Nat → Int32) (tn : Int32) (a k : Int32) (hb : ¬ (0 ≤ a ∧ a ≤ 5) ∨ ¬ (0 ≤ k ∧ k ≤ 3)) : J KX6_see 62 (fun o B => o = some (.int (-1)) ∧ B = (wC rs v q x n u c l tn)) 0 [some (.ref 0), some (.int a), some (.int k)] [] (wC rs v q x n u c l tn) 0 0 := by
  refine J.iload_n dX6_see_0 rfl rfl ?_
  refine J.cs (as := [.int _]) (is := []) okX6_foreseen jcX6_143 (mX6_foreseen _) dX6_see_1 rfl rfl rfl rfl rfl rfl (fun r9 B9 hq => ?_)
  obtain ⟨rfl, rfl⟩ := hq
  refine ⟨rfl, ?_⟩
  show J _ _ _ _ _ (.int _ :: _) (wC rs v q x n u c l tn) _ _
  refine J.if_eq (tgt := 16) dX6_see_4 (by decide) (fun c4 => ?_) (fun c4 => ?_)
  · refine J.iconst (-1) dX6_see_16 (by decide) ?_
    exact J.iret dX6_see_17 rfl rfl (Nat.le_refl _) (Nat.le_refl _) ⟨rfl, rfl⟩
  · refine J.iload_n dX6_see_7 rfl rfl ?_
    refine J.iconst (0) dX6_see_8 (by decide) ?_
    refine J.iconst (3) dX6_see_9 (by decide) ?_
    refine J.cs (as := [.int _, .int _, .int _]) (is := []) okX6_within jcX6_59 (mX6_within _ _ _) dX6_see_10 rfl rfl rfl rfl rfl rfl (fun r9 B9 hq => ?_)
    obtain ⟨rfl, rfl⟩ := hq
    refine ⟨rfl, ?_⟩
    show J _ _ _ _ _ (.int _ :: _) (wC rs v q x n u c l tn) _ _
    refine J.if_ne (tgt := 18) dX6_see_13 (by decide) (fun c13 => absurd c13 (fun h => h ((jB_0 _).mpr (hb.resolve_left (fun h => h (Decidable.not_not.mp (fun h9 => c4 ((jB_0 _).mpr h9)))))))) (fun c13 => ?_)
    refine J.iconst (-1) dX6_see_16 (by decide) ?_
    exact J.iret dX6_see_17 rfl rfl (Nat.le_refl _) (Nat.le_refl _) ⟨rfl, rfl⟩
set_option maxRecDepth 100000 in
set_option maxHeartbeats 4000000 in
theorem mX6_forget (rs : Nat → rT) (v : Nat → Nat → Nat) (q : rT) (x : Nat → Nat) (n : Nat → Int64) (u : uT) (c : Nat → Nat → Int32) (l : Nat → Int32) (tn : Int32) (k : Nat) (hk : k ≤ v 4 1) (hm : v 4 1 ≤ 6) : J KX6_forget 62 (fun o B => o = some (.int (nI (v 4 1))) ∧ B = (wC rs (vset v 4 1 k) q x n u c l tn)) 0 [some (.ref 0), some (.int (nI k)), none] [] (wC rs v q x n u c l tn) 0 0 := by
  refine J.iload_n dX6_forget_0 rfl rfl ?_
  refine J.iconst (0) dX6_forget_1 (by decide) ?_
  refine J.aload_n dX6_forget_2 rfl rfl ?_
  refine J.getfield dX6_forget_3 jFX6_44 rfl rfl ?_
  refine J.getfield dX6_forget_6 jFX6_90 rfl rfl ?_
  refine J.cs (as := [.int _, .int _, .int _]) (is := []) okX6_within jcX6_59 (mX6_within _ _ _) dX6_forget_9 rfl rfl rfl rfl rfl rfl (fun r9 B9 hq => ?_)
  obtain ⟨rfl, rfl⟩ := hq
  refine ⟨rfl, ?_⟩
  show J _ _ _ _ _ (.int _ :: _) (wC rs v q x n u c l tn) _ _
  refine J.if_ne (tgt := 17) dX6_forget_12 (by decide) (fun c12 => ?_) (fun c12 => absurd c12 (fun h => (jB_0 _).mp h (jw (a := 0) (by omega) (Nat.zero_le _) hk)))
  refine J.aload_n dX6_forget_17 rfl rfl ?_
  refine J.getfield dX6_forget_18 jFX6_44 rfl rfl ?_
  refine J.getfield dX6_forget_21 jFX6_90 rfl rfl ?_
  refine J.istore_n dX6_forget_24 rfl (by decide) rfl ?_
  try dsimp only [List.set, wC]
  refine J.aload_n dX6_forget_25 rfl rfl ?_
  refine J.getfield dX6_forget_26 jFX6_44 rfl rfl ?_
  refine J.iload_n dX6_forget_29 rfl rfl ?_
  refine J.putfield dX6_forget_30 jFX6_90 jP3_2 rfl rfl rfl (Nat.le_of_ble_eq_true rfl) ?_
  try dsimp only [List.set, wC]
  refine J.iload_n dX6_forget_33 rfl rfl ?_
  exact J.iret dX6_forget_34 rfl rfl (Nat.le_refl _) (Nat.le_refl _) ⟨rfl, rfl⟩
set_option maxRecDepth 100000 in
set_option maxHeartbeats 4000000 in
theorem mX6_forget_bad (rs : Nat → rT) (v : Nat → Nat → Nat) (q : rT) (x : Nat → Nat) (n : Nat → Int64) (u : uT) (c : Nat → Nat → Int32) (l : Nat → Int32) (tn : Int32) (k : Int32) (hb : ¬ (0 ≤ k ∧ k ≤ nI (v 4 1))) : J KX6_forget 62 (fun o B => o = some (.int (-1)) ∧ B = (wC rs v q x n u c l tn)) 0 [some (.ref 0), some (.int k), none] [] (wC rs v q x n u c l tn) 0 0 := by
  refine J.iload_n dX6_forget_0 rfl rfl ?_
  refine J.iconst (0) dX6_forget_1 (by decide) ?_
  refine J.aload_n dX6_forget_2 rfl rfl ?_
  refine J.getfield dX6_forget_3 jFX6_44 rfl rfl ?_
  refine J.getfield dX6_forget_6 jFX6_90 rfl rfl ?_
  refine J.cs (as := [.int _, .int _, .int _]) (is := []) okX6_within jcX6_59 (mX6_within _ _ _) dX6_forget_9 rfl rfl rfl rfl rfl rfl (fun r9 B9 hq => ?_)
  obtain ⟨rfl, rfl⟩ := hq
  refine ⟨rfl, ?_⟩
  show J _ _ _ _ _ (.int _ :: _) (wC rs v q x n u c l tn) _ _
  refine J.if_ne (tgt := 17) dX6_forget_12 (by decide) (fun c12 => absurd c12 (fun h => h ((jB_0 _).mpr hb))) (fun c12 => ?_)
  refine J.iconst (-1) dX6_forget_15 (by decide) ?_
  exact J.iret dX6_forget_16 rfl rfl (Nat.le_refl _) (Nat.le_refl _) ⟨rfl, rfl⟩
set_option maxRecDepth 100000 in
set_option maxHeartbeats 4000000 in
theorem mX6_feed (rs : Nat → rT) (v : Nat → Nat → Nat) (q : rT) (x : Nat → Nat) (n : Nat → Int64) (u : uT) (c : Nat → Nat → Int32) (l : Nat → Int32) (tn : Int32) (a : Nat) (ha : a ≤ 127) (hm : v 4 0 < 160) : J KX6_feed 62 (fun o B => o = some (.int (nI (v 4 0 + 1))) ∧ B = (wC rs (fun y => if y = 1 then (fun j => if j = v 4 0 then a else v 1 j) else if y = 4 then (fun j => if j = 0 then v 4 0 + 1 else v 4 j) else v y) q x n u c l tn)) 0 [some (.ref 0), some (.int (nI a))] [] (wC rs v q x n u c l tn) 0 0 := by
  refine J.iload_n dX6_feed_0 rfl rfl ?_
  refine J.iconst (0) dX6_feed_1 (by decide) ?_
  refine J.bipush (127) dX6_feed_2 (by decide) ?_
  refine J.cs (as := [.int _, .int _, .int _]) (is := []) okX6_within jcX6_59 (mX6_within _ _ _) dX6_feed_4 rfl rfl rfl rfl rfl rfl (fun r9 B9 hq => ?_)
  obtain ⟨rfl, rfl⟩ := hq
  refine ⟨rfl, ?_⟩
  show J _ _ _ _ _ (.int _ :: _) (wC rs v q x n u c l tn) _ _
  refine J.if_ne (tgt := 12) dX6_feed_7 (by decide) (fun c7 => ?_) (fun c7 => absurd c7 (fun h => (jB_0 _).mp h (jw (a := 0) (c := 127) (by decide) (Nat.zero_le _) ha)))
  refine J.aload_n dX6_feed_12 rfl rfl ?_
  refine J.getfield dX6_feed_13 jFX6_30 rfl rfl ?_
  refine J.getfield dX6_feed_16 jFX6_63 rfl rfl ?_
  refine J.iload_n dX6_feed_19 rfl rfl ?_
  refine J.cv (as := [.int _]) (is := [18, 19]) (o := 0) okX5_append jcX6_67 (mX5_append (v 1) (v 4 0) a hm (by omega)) dX6_feed_20 rfl rfl rfl rfl rfl rfl rfl (fun r9 B9 hq => ?_)
  obtain ⟨rfl, rfl⟩ := hq
  refine ⟨rfl, ?_⟩
  show J _ _ _ _ _ (.int _ :: _) (wC rs (fun y => if y = 1 then (fun j => if j = v 4 0 then a else v 1 j) else if y = 4 then (fun j => if j = 0 then v 4 0 + 1 else v 4 j) else v y) q x n u c l tn) _ _
  refine J.if_eq (tgt := 39) dX6_feed_23 (by decide) (fun c23 => absurd c23 (by decide)) (fun c23 => ?_)
  refine J.aload_n dX6_feed_26 rfl rfl ?_
  refine J.getfield dX6_feed_27 jFX6_30 rfl rfl ?_
  refine J.getfield dX6_feed_30 jFX6_63 rfl rfl ?_
  refine J.getfield dX6_feed_33 jFX6_73 rfl rfl ?_
  refine J.goto (tgt := 41) dX6_feed_36 (by decide) ?_
  exact J.iret dX6_feed_41 rfl rfl (Nat.le_refl _) (Nat.le_refl _) ⟨rfl, rfl⟩
set_option maxRecDepth 100000 in
set_option maxHeartbeats 4000000 in
theorem mX6_feed_full (rs : Nat → rT) (v : Nat → Nat → Nat) (q : rT) (x : Nat → Nat) (n : Nat → Int64) (u : uT) (c : Nat → Nat → Int32) (l : Nat → Int32) (tn : Int32) (a : Nat) (ha : a ≤ 127) (hm : v 4 0 = 160) : J KX6_feed 62 (fun o B => o = some (.int (-3)) ∧ B = (wC rs v q x n u c l tn)) 0 [some (.ref 0), some (.int (nI a))] [] (wC rs v q x n u c l tn) 0 0 := by
  refine J.iload_n dX6_feed_0 rfl rfl ?_
  refine J.iconst (0) dX6_feed_1 (by decide) ?_
  refine J.bipush (127) dX6_feed_2 (by decide) ?_
  refine J.cs (as := [.int _, .int _, .int _]) (is := []) okX6_within jcX6_59 (mX6_within _ _ _) dX6_feed_4 rfl rfl rfl rfl rfl rfl (fun r9 B9 hq => ?_)
  obtain ⟨rfl, rfl⟩ := hq
  refine ⟨rfl, ?_⟩
  show J _ _ _ _ _ (.int _ :: _) (wC rs v q x n u c l tn) _ _
  refine J.if_ne (tgt := 12) dX6_feed_7 (by decide) (fun c7 => ?_) (fun c7 => absurd c7 (fun h => (jB_0 _).mp h (jw (a := 0) (c := 127) (by decide) (Nat.zero_le _) ha)))
  refine J.aload_n dX6_feed_12 rfl rfl ?_
  refine J.getfield dX6_feed_13 jFX6_30 rfl rfl ?_
  refine J.getfield dX6_feed_16 jFX6_63 rfl rfl ?_
  refine J.iload_n dX6_feed_19 rfl rfl ?_
  have e9 : wT (v 1) 160 = wT (v 1) (v 4 0) := by rw [hm]
  have m9 := mX5_append160 (v 1) a
  rw [e9] at m9
  refine J.cv (as := [.int _]) (is := [18, 19]) (o := 0) okX5_append jcX6_67 (m9) dX6_feed_20 rfl rfl rfl rfl rfl rfl rfl (fun r9 B9 hq => ?_)
  obtain ⟨rfl, rfl⟩ := hq
  refine ⟨rfl, ?_⟩
  show J _ _ _ _ _ (.int _ :: _) (wC rs v q x n u c l tn) _ _
  refine J.if_eq (tgt := 39) dX6_feed_23 (by decide) (fun c23 => ?_) (fun c23 => absurd c23 (fun h => h rfl))
  refine J.bipush (-3) dX6_feed_39 (by decide) ?_
  exact J.iret dX6_feed_41 rfl rfl (Nat.le_refl _) (Nat.le_refl _) ⟨rfl, rfl⟩
set_option maxRecDepth 100000 in
set_option maxHeartbeats 4000000 in
theorem mX6_feed_bad (rs : Nat → rT) (v : Nat → Nat → Nat) (q : rT) (x : Nat → Nat) (n : Nat → Int64) (u : uT) (c : Nat → Nat → Int32) (l : Nat → Int32) (tn : Int32) (a : Int32) (hb : ¬ (0 ≤ a ∧ a ≤ 127)) : J KX6_feed 62 (fun o B => o = some (.int (-1)) ∧ B = (wC rs v q x n u c l tn)) 0 [some (.ref 0), some (.int a)] [] (wC rs v q x n u c l tn) 0 0 := by
  refine J.iload_n dX6_feed_0 rfl rfl ?_
  refine J.iconst (0) dX6_feed_1 (by decide) ?_
  refine J.bipush (127) dX6_feed_2 (by decide) ?_
  refine J.cs (as := [.int _, .int _, .int _]) (is := []) okX6_within jcX6_59 (mX6_within _ _ _) dX6_feed_4 rfl rfl rfl rfl rfl rfl (fun r9 B9 hq => ?_)
  obtain ⟨rfl, rfl⟩ := hq
  refine ⟨rfl, ?_⟩
  show J _ _ _ _ _ (.int _ :: _) (wC rs v q x n u c l tn) _ _
  refine J.if_ne (tgt := 12) dX6_feed_7 (by decide) (fun c7 => absurd c7 (fun h => h ((jB_0 _).mpr hb))) (fun c7 => ?_)
  refine J.iconst (-1) dX6_feed_10 (by decide) ?_
  exact J.iret dX6_feed_11 rfl rfl (Nat.le_refl _) (Nat.le_refl _) ⟨rfl, rfl⟩
set_option maxRecDepth 100000 in
set_option maxHeartbeats 4000000 in
theorem mX6_end (rs : Nat → rT) (v : Nat → Nat → Nat) (q : rT) (x : Nat → Nat) (n : Nat → Int64) (u : uT) (c : Nat → Nat → Int32) (l : Nat → Int32) (tn : Int32) (k : Nat) (hk : k ≤ v 4 0) (hm : v 4 0 ≤ 160) : J KX6_end 62 (fun o B => o = some (.int (nI (v 4 0))) ∧ B = (wC rs (vset v 4 0 k) q x n u c l tn)) 0 [some (.ref 0), some (.int (nI k)), none] [] (wC rs v q x n u c l tn) 0 0 := by
  refine J.iload_n dX6_end_0 rfl rfl ?_
  refine J.iconst (0) dX6_end_1 (by decide) ?_
  refine J.aload_n dX6_end_2 rfl rfl ?_
  refine J.getfield dX6_end_3 jFX6_30 rfl rfl ?_
  refine J.getfield dX6_end_6 jFX6_63 rfl rfl ?_
  refine J.getfield dX6_end_9 jFX6_73 rfl rfl ?_
  refine J.cs (as := [.int _, .int _, .int _]) (is := []) okX6_within jcX6_59 (mX6_within _ _ _) dX6_end_12 rfl rfl rfl rfl rfl rfl (fun r9 B9 hq => ?_)
  obtain ⟨rfl, rfl⟩ := hq
  refine ⟨rfl, ?_⟩
  show J _ _ _ _ _ (.int _ :: _) (wC rs v q x n u c l tn) _ _
  refine J.if_ne (tgt := 20) dX6_end_15 (by decide) (fun c15 => ?_) (fun c15 => absurd c15 (fun h => (jB_0 _).mp h (jw (a := 0) (by omega) (Nat.zero_le _) hk)))
  refine J.aload_n dX6_end_20 rfl rfl ?_
  refine J.getfield dX6_end_21 jFX6_30 rfl rfl ?_
  refine J.getfield dX6_end_24 jFX6_63 rfl rfl ?_
  refine J.getfield dX6_end_27 jFX6_73 rfl rfl ?_
  refine J.istore_n dX6_end_30 rfl (by decide) rfl ?_
  try dsimp only [List.set, wC]
  refine J.aload_n dX6_end_31 rfl rfl ?_
  refine J.getfield dX6_end_32 jFX6_30 rfl rfl ?_
  refine J.getfield dX6_end_35 jFX6_63 rfl rfl ?_
  refine J.iload_n dX6_end_38 rfl rfl ?_
  refine J.putfield dX6_end_39 jFX6_73 jP5_1 rfl rfl rfl (Nat.le_of_ble_eq_true rfl) ?_
  try dsimp only [List.set, wC]
  refine J.iload_n dX6_end_42 rfl rfl ?_
  exact J.iret dX6_end_43 rfl rfl (Nat.le_refl _) (Nat.le_refl _) ⟨rfl, rfl⟩
set_option maxRecDepth 100000 in
set_option maxHeartbeats 4000000 in
theorem mX6_end_bad (rs : Nat → rT) (v : Nat → Nat → Nat) (q : rT) (x : Nat → Nat) (n : Nat → Int64) (u : uT) (c : Nat → Nat → Int32) (l : Nat → Int32) (tn : Int32) (k : Int32) (hb : ¬ (0 ≤ k ∧ k ≤ nI (v 4 0))) : J KX6_end 62 (fun o B => o = some (.int (-1)) ∧ B = (wC rs v q x n u c l tn)) 0 [some (.ref 0), some (.int k), none] [] (wC rs v q x n u c l tn) 0 0 := by
  refine J.iload_n dX6_end_0 rfl rfl ?_
  refine J.iconst (0) dX6_end_1 (by decide) ?_
  refine J.aload_n dX6_end_2 rfl rfl ?_
  refine J.getfield dX6_end_3 jFX6_30 rfl rfl ?_
  refine J.getfield dX6_end_6 jFX6_63 rfl rfl ?_
  refine J.getfield dX6_end_9 jFX6_73 rfl rfl ?_
  refine J.cs (as := [.int _, .int _, .int _]) (is := []) okX6_within jcX6_59 (mX6_within _ _ _) dX6_end_12 rfl rfl rfl rfl rfl rfl (fun r9 B9 hq => ?_)
  obtain ⟨rfl, rfl⟩ := hq
  refine ⟨rfl, ?_⟩
  show J _ _ _ _ _ (.int _ :: _) (wC rs v q x n u c l tn) _ _
  refine J.if_ne (tgt := 20) dX6_end_15 (by decide) (fun c15 => absurd c15 (fun h => h ((jB_0 _).mpr hb))) (fun c15 => ?_)
  refine J.iconst (-1) dX6_end_18 (by decide) ?_
  exact J.iret dX6_end_19 rfl rfl (Nat.le_refl _) (Nat.le_refl _) ⟨rfl, rfl⟩
