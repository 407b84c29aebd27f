/-! ===== the reference: HOURS read of a SHEET ===== -/
set_option maxRecDepth 100000 in
set_option maxHeartbeats 4000000 in
theorem mX7_inJ (z lo hi : Int64) : J KX7_in 0 (fun o B => o = some (.int (jB (lo ≤ z ∧ z ≤ hi))) ∧ B = []) 0 [some (.long z), none, some (.long lo), none, some (.long hi), none] [] [] 0 0 := by
  refine J.lload_n dX7_in_0 rfl rfl ?_
  refine J.lload_n dX7_in_1 rfl rfl ?_
  refine J.lcmp dX7_in_2 ?_
  refine J.if_lt (tgt := 17) dX7_in_3 (by decide) (fun c3 => ?_) (fun c3 => ?_)
  · refine J.iconst (0) dX7_in_17 (by decide) ?_
    first | exact J.iret dX7_in_18 rfl (by decide) (Nat.le_refl _) (Nat.le_refl _) ⟨congrArg (fun y => some (Value.int y)) (jB_t _ ⟨Int64.not_lt.mp (fun h9 => c3 ((lg_cmp_lt _ _).mpr h9)), Int64.not_lt.mp (fun h9 => c10 ((lg_cmp_gt _ _).mpr h9))⟩).symm, rfl⟩ | exact J.iret dX7_in_18 rfl (by decide) (Nat.le_refl _) (Nat.le_refl _) ⟨congrArg (fun y => some (Value.int y)) (jB_f _ (fun h9 => Int64.not_lt.mpr h9.1 ((lg_cmp_lt _ _).mp c3))).symm, rfl⟩ | exact J.iret dX7_in_18 rfl (by decide) (Nat.le_refl _) (Nat.le_refl _) ⟨congrArg (fun y => some (Value.int y)) (jB_f _ (fun h9 => Int64.not_lt.mpr h9.2 ((lg_cmp_gt _ _).mp c10))).symm, rfl⟩
  · refine J.lload_n dX7_in_6 rfl rfl ?_
    refine J.lload dX7_in_7 rfl ?_
    refine J.lcmp dX7_in_9 ?_
    refine J.if_gt (tgt := 17) dX7_in_10 (by decide) (fun c10 => ?_) (fun c10 => ?_)
    · refine J.iconst (0) dX7_in_17 (by decide) ?_
      first | exact J.iret dX7_in_18 rfl (by decide) (Nat.le_refl _) (Nat.le_refl _) ⟨congrArg (fun y => some (Value.int y)) (jB_t _ ⟨Int64.not_lt.mp (fun h9 => c3 ((lg_cmp_lt _ _).mpr h9)), Int64.not_lt.mp (fun h9 => c10 ((lg_cmp_gt _ _).mpr h9))⟩).symm, rfl⟩ | exact J.iret dX7_in_18 rfl (by decide) (Nat.le_refl _) (Nat.le_refl _) ⟨congrArg (fun y => some (Value.int y)) (jB_f _ (fun h9 => Int64.not_lt.mpr h9.1 ((lg_cmp_lt _ _).mp c3))).symm, rfl⟩ | exact J.iret dX7_in_18 rfl (by decide) (Nat.le_refl _) (Nat.le_refl _) ⟨congrArg (fun y => some (Value.int y)) (jB_f _ (fun h9 => Int64.not_lt.mpr h9.2 ((lg_cmp_gt _ _).mp c10))).symm, rfl⟩
    · refine J.iconst (1) dX7_in_13 (by decide) ?_
      refine J.goto (tgt := 18) dX7_in_14 (by decide) ?_
      first | exact J.iret dX7_in_18 rfl (by decide) (Nat.le_refl _) (Nat.le_refl _) ⟨congrArg (fun y => some (Value.int y)) (jB_t _ ⟨Int64.not_lt.mp (fun h9 => c3 ((lg_cmp_lt _ _).mpr h9)), Int64.not_lt.mp (fun h9 => c10 ((lg_cmp_gt _ _).mpr h9))⟩).symm, rfl⟩ | exact J.iret dX7_in_18 rfl (by decide) (Nat.le_refl _) (Nat.le_refl _) ⟨congrArg (fun y => some (Value.int y)) (jB_f _ (fun h9 => Int64.not_lt.mpr h9.1 ((lg_cmp_lt _ _).mp c3))).symm, rfl⟩ | exact J.iret dX7_in_18 rfl (by decide) (Nat.le_refl _) (Nat.le_refl _) ⟨congrArg (fun y => some (Value.int y)) (jB_f _ (fun h9 => Int64.not_lt.mpr h9.2 ((lg_cmp_gt _ _).mp c10))).symm, rfl⟩
theorem inf_e (f : Int32) {i len : Nat} (hi : i ≤ 20) (hl : len ≤ 40) : ((0 : Int64) ≤ f.toInt64 + (nI i).toInt64 ∧ f.toInt64 + (nI i).toInt64 ≤ (nI len - 1).toInt64) ↔ (0 ≤ f + nI i ∧ f + nI i ≤ nI len - 1) := by
  have h1 : (nI i).toInt = i := nI_toInt (by omega)
  have h2 : (nI len - 1).toInt = (len : Int) - 1 := pk_sub_toInt (a := len) (b := 1) (by omega) (by decide)
  have h3 : (f.toInt64 + (nI i).toInt64).toInt = (f.toInt + i).bmod (2 ^ 64) := by
    rw [Int64.toInt_add, Int32.toInt_toInt64, Int32.toInt_toInt64, h1]
  have h4 : (f + nI i).toInt = (f.toInt + i).bmod (2 ^ 32) := by
    rw [Int32.toInt_add, h1]
  have h5 := Int32.le_toInt f
  have h6 := Int32.toInt_lt f
  rw [Int64.le_iff_toInt_le, Int64.le_iff_toInt_le, Int32.le_iff_toInt_le, Int32.le_iff_toInt_le, h3, h4, Int32.toInt_toInt64, h2]
  have h7 : (0 : Int64).toInt = 0 := rfl
  have h8 : (0 : Int32).toInt = 0 := rfl
  rw [h7, h8, Int.bmod_def, Int.bmod_def]
  constructor
  · intro h
    split at h <;> split <;> omega
  · intro h
    split at h <;> split <;> omega
theorem tryR_c (r : rT) (x : Int32) : tryR r x 6 0 = r 6 0 ∧ tryR r x 6 1 = r 6 1 ∧ tryR r x 6 2 = r 6 2 := by
  unfold tryR
  split
  · exact ⟨rfl, rfl, rfl⟩
  · split
    · exact ⟨rfl, rfl, rfl⟩
    · split <;> exact ⟨rfl, rfl, rfl⟩
theorem mS_e {s s' : Nat → Int32} {r : rT} (h : ∀ j, j < 20 → s' j = s j) (hr : rOK r) (hS : mS s r) : mS s' r := by
  have h3 := hr.1
  have h4 := hr.2.1
  obtain ⟨b1, b2, b3, b4, b5⟩ := hS
  refine ⟨fun i hi => ?_, ?_, fun k hk => ?_, ?_, ?_⟩
  · rw [h _ (by omega), h _ (by omega), h _ (by omega)]; exact b1 i hi
  · rw [h _ (by omega)]; exact b2
  · rw [h _ (by omega), h _ (by omega)]; exact b3 k hk
  · rw [h _ (by omega)]; exact b4
  · rw [h _ (by omega)]; exact b5
set_option maxRecDepth 100000 in
set_option maxHeartbeats 4000000 in
theorem mX7_read_l (s : Nat → Int32) (la : Nat → Int32) (r : rT) (v : vT) (c : Nat → Nat → Int32) (l : Nat → Int32) (tn : Int32) (p : Nat → Int32) (pa : Nat → Nat → Int32) (m : Nat) (q : rT) (b : Int32) (x : Nat → Nat) (h : Nat → Nat → Int64) (k : Nat) (hk : k < 4) (la0 f : Int32) (N : Nat) (hN : N ≤ 20) (hl : v 4 (2 + k) ≤ 40) (hln : lnOK (l k)) (hw : 0 ≤ la0 ∧ la0 ≤ 2) (hS : mS s r) (hr : rOK r) (R9 : Int32 × Option (rT × Int32)) : ∀ (k9 i : Nat), i + k9 = N → ∀ (T : rT) (s1 : Nat → Int32), (mS s1 T ∧ rOK T ∧ (T 6 0 = r 6 0 ∧ T 6 1 = r 6 1 ∧ T 6 2 = r 6 2) ∧ (∀ j, 20 ≤ j → s1 j = mcp s 0 60 20 j) ∧ rdO (l k) (v 4 (2 + k)) (c k) la0 f k9 i T = R9) → J KX7_read 21 (fun o B => o = some (.int R9.1) ∧ ∃ s9, B = (wM s9 la (rdT R9.2 r) v c l (rdF R9.2 tn) p pa m q b x h) ∧ mS s9 (rdT R9.2 r) ∧ ∀ j, 20 ≤ j → j < 60 → s9 j = s j) 52 [some (.ref 0), some (.int (nI k)), some (.int la0), some (.int f), some (.int (nI N)), some (.int 0), some (.int (nI i))] [] (wM s1 la T v c l tn p pa m q b x h) 0 0 := by
  intro k9
  induction k9 with
  | zero =>
    intro i hi
    obtain hiN : i = N := by omega
    intro T s1 hh
    subst hiN
    refine J.iload dX7_read_52 rfl ?_
    refine J.iload dX7_read_54 rfl ?_
    refine J.icmp_ge (tgt := 167) dX7_read_56 (by decide) (fun c56 => ?_) (fun c56 => absurd c56 (fun h => h (Int32.le_refl _)))
    have e9 : (nI i, some (T, (0 : Int32))) = R9 := hh.2.2.2.2
    refine J.aload_n dX7_read_167 rfl rfl ?_
    refine J.iload dX7_read_168 rfl ?_
    refine J.mp41 dX7_read_170 rfl ?_
    try dsimp only [List.set]
    refine J.iload dX7_read_173 rfl ?_
    refine J.iret dX7_read_175 rfl rfl (Nat.le_refl _) (Nat.le_refl _) ⟨by rw [← e9], s1, by rw [← e9] <;> rfl, by rw [← e9]; exact hh.1, (fun j a b => by rw [hh.2.2.2.1 j a]; exact mcp_out s (Or.inl (by omega)))⟩
  | succ k9 ih =>
    intro i hi
    have hiN : i < N := by omega
    intro T s1 hh
    by_cases hA : l k = -1
    · skip
      refine J.iload dX7_read_52 rfl ?_
      refine J.iload dX7_read_54 rfl ?_
      refine J.icmp_ge (tgt := 167) dX7_read_56 (by decide) (fun c56 => absurd c56 (nI_ge (by omega) (by omega))) (fun c56 => ?_)
      refine J.iload dX7_read_59 rfl ?_
      refine J.if_ne (tgt := 167) dX7_read_61 (by decide) (fun c61 => absurd c61 (fun h => h rfl)) (fun c61 => ?_)
      refine J.aload_n dX7_read_64 rfl rfl ?_
      refine J.mg38 dX7_read_65 rfl ?_
      refine J.iload_n dX7_read_68 rfl rfl ?_
      refine J.ml18 (k) dX7_read_69 rfl hk ?_
      refine J.bipush (-4) dX7_read_70 (by decide) ?_
      refine J.icmp_ne (tgt := 79) dX7_read_72 (by decide) (fun c72 => absurd c72 (fun h => h ((mln_4 hln).mpr hA))) (fun c72 => ?_)
      refine J.iconst (1) dX7_read_75 (by decide) ?_
      refine J.goto (tgt := 120) dX7_read_76 (by decide) ?_
      refine J.istore dX7_read_120 (by decide) rfl ?_
      try dsimp only [List.set]
      refine J.iload dX7_read_122 rfl ?_
      refine J.if_ne (tgt := 52) dX7_read_124 (by decide) (fun c124 => ?_) (fun c124 => absurd c124 (by decide))
      refine J.iload dX7_read_52 rfl ?_
      refine J.iload dX7_read_54 rfl ?_
      refine J.icmp_ge (tgt := 167) dX7_read_56 (by decide) (fun c56 => absurd c56 (nI_ge (by omega) (by omega))) (fun c56 => ?_)
      refine J.iload dX7_read_59 rfl ?_
      refine J.if_ne (tgt := 167) dX7_read_61 (by decide) (fun c61 => ?_) (fun c61 => absurd c61 (by decide))
      have e9 : (nI i, some (T, (1 : Int32))) = R9 := by rw [← hh.2.2.2.2, rdO, if_pos (by rw [(show fas (l k) (v 4 (2 + k)) la0 (f + nI i) = 1 from (if_pos (Or.inl hA)).trans (if_pos hA))]; decide), (show fas (l k) (v 4 (2 + k)) la0 (f + nI i) = 1 from (if_pos (Or.inl hA)).trans (if_pos hA))]
      refine J.aload_n dX7_read_167 rfl rfl ?_
      refine J.iload dX7_read_168 rfl ?_
      refine J.mp41 dX7_read_170 rfl ?_
      try dsimp only [List.set]
      refine J.iload dX7_read_173 rfl ?_
      refine J.iret dX7_read_175 rfl rfl (Nat.le_refl _) (Nat.le_refl _) ⟨by rw [← e9], s1, by rw [← e9] <;> rfl, by rw [← e9]; exact hh.1, (fun j a b => by rw [hh.2.2.2.1 j a]; exact mcp_out s (Or.inl (by omega)))⟩
    · by_cases hB : l k = la0
      · by_cases hC : 0 ≤ f + nI i ∧ f + nI i ≤ nI (v 4 (2 + k)) - 1
        · obtain ⟨j9, hj9, ej9⟩ := jin_lt (show v 4 (2 + k) < 2147483648 by omega) hC.1 hC.2
          refine J.iload dX7_read_52 rfl ?_
          refine J.iload dX7_read_54 rfl ?_
          refine J.icmp_ge (tgt := 167) dX7_read_56 (by decide) (fun c56 => absurd c56 (nI_ge (by omega) (by omega))) (fun c56 => ?_)
          refine J.iload dX7_read_59 rfl ?_
          refine J.if_ne (tgt := 167) dX7_read_61 (by decide) (fun c61 => absurd c61 (fun h => h rfl)) (fun c61 => ?_)
          refine J.aload_n dX7_read_64 rfl rfl ?_
          refine J.mg38 dX7_read_65 rfl ?_
          refine J.iload_n dX7_read_68 rfl rfl ?_
          refine J.ml18 (k) dX7_read_69 rfl hk ?_
          refine J.bipush (-4) dX7_read_70 (by decide) ?_
          refine J.icmp_ne (tgt := 79) dX7_read_72 (by decide) (fun c72 => ?_) (fun c72 => absurd c72 (fun h => hA ((mln_4 hln).mp h)))
          refine J.aload_n dX7_read_79 rfl rfl ?_
          refine J.mg38 dX7_read_80 rfl ?_
          refine J.iload_n dX7_read_83 rfl rfl ?_
          refine J.ml18 (k) dX7_read_84 rfl hk ?_
          refine J.iload_n dX7_read_85 rfl rfl ?_
          refine J.icmp_eq (tgt := 93) dX7_read_86 (by decide) (fun c86 => ?_) (fun c86 => absurd c86 (fun h => h (by rw [show mln (l k) = l k from if_neg hA]; exact hB)))
          refine J.iload_n dX7_read_93 rfl rfl ?_
          refine J.i2l dX7_read_94 ?_
          refine J.iload dX7_read_95 rfl ?_
          refine J.i2l dX7_read_97 ?_
          refine J.ladd dX7_read_98 ?_
          refine J.lconst 0 dX7_read_99 (by decide) ?_
          refine J.aload_n dX7_read_100 rfl rfl ?_
          refine J.mg39 dX7_read_101 rfl ?_
          refine J.iload_n dX7_read_104 rfl rfl ?_
          refine J.ml19 (k) dX7_read_105 rfl hk ?_
          refine J.iconst (1) dX7_read_106 (by decide) ?_
          refine J.isub dX7_read_107 ?_
          refine J.i2l dX7_read_108 ?_
          refine J.cs (as := [.long _, .long _, .long _]) (is := []) okX7_in jcX7_74 (mX7_inJ _ _ _) dX7_read_109 rfl rfl rfl rfl rfl rfl (fun r9 B9 hq => ?_)
          obtain ⟨rfl, rfl⟩ := hq
          refine ⟨rfl, ?_⟩
          show J _ _ _ _ _ (.int _ :: _) (wM s1 la T v c l tn p pa m q b x h) _ _
          refine J.if_ne (tgt := 119) dX7_read_112 (by decide) (fun c112 => ?_) (fun c112 => absurd c112 (fun h => (jB_0 _).mp h ((inf_e f (by omega) hl).mpr hC)))
          refine J.iconst (0) dX7_read_119 (by decide) ?_
          refine J.istore dX7_read_120 (by decide) rfl ?_
          try dsimp only [List.set]
          refine J.iload dX7_read_122 rfl ?_
          refine J.if_ne (tgt := 52) dX7_read_124 (by decide) (fun c124 => absurd c124 (fun h => h rfl)) (fun c124 => ?_)
          refine J.aload_n dX7_read_127 rfl rfl ?_
          refine J.aload_n dX7_read_128 rfl rfl ?_
          refine J.mg40 dX7_read_129 rfl ?_
          refine J.bipush (40) dX7_read_132 (by decide) ?_
          refine J.iload_n dX7_read_134 rfl rfl ?_
          refine J.imul dX7_read_135 ?_
          refine J.iload_n dX7_read_136 rfl rfl ?_
          refine J.iadd dX7_read_137 ?_
          refine J.iload dX7_read_138 rfl ?_
          refine J.iadd dX7_read_140 ?_
          refine J.ml20 (40 * k + j9) dX7_read_141 (by rw [Int32.add_assoc, ej9, show (40 : Int32) = nI 40 from rfl, pk_mul, nI_add]) (by omega) ?_
          rw [show (40 * k + j9) / 40 = k by omega, show (40 * k + j9) % 40 = j9 by omega]
          refine J.cvM (as := [.int _]) s1 la T v c l tn p pa m q b x h okX7_hours jcX7_214 (mX7_hours s1 la T v c l tn p pa m q b x h (c k j9) hh.1 hh.2.1) dX7_read_142 rfl rfl rfl rfl (fun r9 B9 hq9 => ?_)
          obtain ⟨rfl, s9, rfl, hs9, ho9⟩ := hq9
          refine ⟨_, _, _, _, _, _, _, _, _, _, _, _, _, _, rfl, ?_⟩
          show J _ _ _ _ _ (.int _ :: _) (wM s9 la T v c l tn p pa m q b x h) _ _
          refine J.if_ge (tgt := 161) dX7_read_145 (by decide) (fun c145 => ?_) (fun c145 => ?_)
          · refine J.iinc (1) dX7_read_161 (by decide) rfl (by decide) rfl ?_
            try dsimp only [List.set]
            refine J.goto (tgt := 52) dX7_read_164 (by decide) ?_
            refine J.at (ih (i + 1) (by omega) (tryR T (c k j9)) s9 ⟨hs9, rOK_try hh.2.1 _, ?_, fun j a => (ho9 j a).trans (hh.2.2.2.1 j a), ?_⟩) (by rw [← nI_1 i] <;> rfl) rfl (wM_r s9 la (tryR T (c k j9)) v c l tn p pa m q b x h T (tryR_c T _).1 (tryR_c T _).2.1 (tryR_c T _).2.2)
            · exact ⟨(tryR_c T _).1.trans hh.2.2.1.1, (tryR_c T _).2.1.trans hh.2.2.1.2.1, (tryR_c T _).2.2.trans hh.2.2.1.2.2⟩
            · rw [← hh.2.2.2.2, rdO, if_neg (fun h => h (show fas (l k) (v 4 (2 + k)) la0 (f + nI i) = 0 from (if_pos (Or.inr hB)).trans ((if_neg hA).trans (if_pos hC)))), (show (f + nI i).toNatClampNeg = j9 by rw [ej9]; exact nI_clamp (by omega)), if_pos c145]
          · refine J.aload_n dX7_read_148 rfl rfl ?_
            refine J.bipush (60) dX7_read_149 (by decide) ?_
            refine J.iconst (0) dX7_read_151 (by decide) ?_
            refine J.cvM (as := [.int _, .int _]) s9 la T v c l tn p pa m q b x h okX7_copies jcX7_282 (mX7_copies s9 la T v c l tn p pa m q b x h 60 0 (by omega) (by omega) (by omega)) dX7_read_152 rfl rfl rfl rfl (fun r9 B9 hq9 => ?_)
            obtain ⟨rfl, rfl⟩ := hq9
            refine ⟨_, _, _, _, _, _, _, _, _, _, _, _, _, _, rfl, ?_⟩
            show J _ _ _ _ _ [] (wM (mcp s9 60 0 20) la T v c l tn p pa m q b x h) _ _
            refine J.bipush (-20) dX7_read_155 (by decide) ?_
            refine J.iload dX7_read_157 rfl ?_
            refine J.isub dX7_read_159 ?_
            have e9 : R9 = (-20 - nI i, none) := by rw [← hh.2.2.2.2, rdO, if_neg (fun h => h (show fas (l k) (v 4 (2 + k)) la0 (f + nI i) = 0 from (if_pos (Or.inr hB)).trans ((if_neg hA).trans (if_pos hC)))), (show (f + nI i).toNatClampNeg = j9 by rw [ej9]; exact nI_clamp (by omega)), if_neg c145]
            refine J.iret dX7_read_160 rfl rfl (Nat.le_refl _) (Nat.le_refl _) ⟨by rw [e9], mcp s9 60 0 20, ?_, ?_, fun j a b => ?_⟩
            · rw [e9]
              exact wM_r (mcp s9 60 0 20) la T v c l tn p pa m q b x h r hh.2.2.1.1 hh.2.2.1.2.1 hh.2.2.1.2.2
            · rw [e9]
              refine mS_e (s := s) (fun j hj => ?_) hr hS
              rw [show mcp s9 60 0 20 j = s9 (60 + j) from by have := mcp_in s9 (f := 60) (t := 0) hj; rw [Nat.zero_add] at this; exact this, ho9 _ (by omega), hh.2.2.2.1 _ (by omega)]
              have := mcp_in s (f := 0) (t := 60) hj
              rw [Nat.zero_add] at this
              exact this
            · rw [mcp_out s9 (Or.inr (by omega)), ho9 _ a, hh.2.2.2.1 _ a]
              exact mcp_out s (Or.inl (by omega))
        · skip
          refine J.iload dX7_read_52 rfl ?_
          refine J.iload dX7_read_54 rfl ?_
          refine J.icmp_ge (tgt := 167) dX7_read_56 (by decide) (fun c56 => absurd c56 (nI_ge (by omega) (by omega))) (fun c56 => ?_)
          refine J.iload dX7_read_59 rfl ?_
          refine J.if_ne (tgt := 167) dX7_read_61 (by decide) (fun c61 => absurd c61 (fun h => h rfl)) (fun c61 => ?_)
          refine J.aload_n dX7_read_64 rfl rfl ?_
          refine J.mg38 dX7_read_65 rfl ?_
          refine J.iload_n dX7_read_68 rfl rfl ?_
          refine J.ml18 (k) dX7_read_69 rfl hk ?_
          refine J.bipush (-4) dX7_read_70 (by decide) ?_
          refine J.icmp_ne (tgt := 79) dX7_read_72 (by decide) (fun c72 => ?_) (fun c72 => absurd c72 (fun h => hA ((mln_4 hln).mp h)))
          refine J.aload_n dX7_read_79 rfl rfl ?_
          refine J.mg38 dX7_read_80 rfl ?_
          refine J.iload_n dX7_read_83 rfl rfl ?_
          refine J.ml18 (k) dX7_read_84 rfl hk ?_
          refine J.iload_n dX7_read_85 rfl rfl ?_
          refine J.icmp_eq (tgt := 93) dX7_read_86 (by decide) (fun c86 => ?_) (fun c86 => absurd c86 (fun h => h (by rw [show mln (l k) = l k from if_neg hA]; exact hB)))
          refine J.iload_n dX7_read_93 rfl rfl ?_
          refine J.i2l dX7_read_94 ?_
          refine J.iload dX7_read_95 rfl ?_
          refine J.i2l dX7_read_97 ?_
          refine J.ladd dX7_read_98 ?_
          refine J.lconst 0 dX7_read_99 (by decide) ?_
          refine J.aload_n dX7_read_100 rfl rfl ?_
          refine J.mg39 dX7_read_101 rfl ?_
          refine J.iload_n dX7_read_104 rfl rfl ?_
          refine J.ml19 (k) dX7_read_105 rfl hk ?_
          refine J.iconst (1) dX7_read_106 (by decide) ?_
          refine J.isub dX7_read_107 ?_
          refine J.i2l dX7_read_108 ?_
          refine J.cs (as := [.long _, .long _, .long _]) (is := []) okX7_in jcX7_74 (mX7_inJ _ _ _) dX7_read_109 rfl rfl rfl rfl rfl rfl (fun r9 B9 hq => ?_)
          obtain ⟨rfl, rfl⟩ := hq
          refine ⟨rfl, ?_⟩
          show J _ _ _ _ _ (.int _ :: _) (wM s1 la T v c l tn p pa m q b x h) _ _
          refine J.if_ne (tgt := 119) dX7_read_112 (by decide) (fun c112 => absurd c112 (fun h => h ((jB_0 _).mpr (fun h => hC ((inf_e f (by omega) hl).mp h))))) (fun c112 => ?_)
          refine J.iconst (2) dX7_read_115 (by decide) ?_
          refine J.goto (tgt := 120) dX7_read_116 (by decide) ?_
          refine J.istore dX7_read_120 (by decide) rfl ?_
          try dsimp only [List.set]
          refine J.iload dX7_read_122 rfl ?_
          refine J.if_ne (tgt := 52) dX7_read_124 (by decide) (fun c124 => ?_) (fun c124 => absurd c124 (by decide))
          refine J.iload dX7_read_52 rfl ?_
          refine J.iload dX7_read_54 rfl ?_
          refine J.icmp_ge (tgt := 167) dX7_read_56 (by decide) (fun c56 => absurd c56 (nI_ge (by omega) (by omega))) (fun c56 => ?_)
          refine J.iload dX7_read_59 rfl ?_
          refine J.if_ne (tgt := 167) dX7_read_61 (by decide) (fun c61 => ?_) (fun c61 => absurd c61 (by decide))
          have e9 : (nI i, some (T, (2 : Int32))) = R9 := by rw [← hh.2.2.2.2, rdO, if_pos (by rw [(show fas (l k) (v 4 (2 + k)) la0 (f + nI i) = 2 from (if_pos (Or.inr hB)).trans ((if_neg hA).trans (if_neg hC)))]; decide), (show fas (l k) (v 4 (2 + k)) la0 (f + nI i) = 2 from (if_pos (Or.inr hB)).trans ((if_neg hA).trans (if_neg hC)))]
          refine J.aload_n dX7_read_167 rfl rfl ?_
          refine J.iload dX7_read_168 rfl ?_
          refine J.mp41 dX7_read_170 rfl ?_
          try dsimp only [List.set]
          refine J.iload dX7_read_173 rfl ?_
          refine J.iret dX7_read_175 rfl rfl (Nat.le_refl _) (Nat.le_refl _) ⟨by rw [← e9], s1, by rw [← e9] <;> rfl, by rw [← e9]; exact hh.1, (fun j a b => by rw [hh.2.2.2.1 j a]; exact mcp_out s (Or.inl (by omega)))⟩
      · skip
        refine J.iload dX7_read_52 rfl ?_
        refine J.iload dX7_read_54 rfl ?_
        refine J.icmp_ge (tgt := 167) dX7_read_56 (by decide) (fun c56 => absurd c56 (nI_ge (by omega) (by omega))) (fun c56 => ?_)
        refine J.iload dX7_read_59 rfl ?_
        refine J.if_ne (tgt := 167) dX7_read_61 (by decide) (fun c61 => absurd c61 (fun h => h rfl)) (fun c61 => ?_)
        refine J.aload_n dX7_read_64 rfl rfl ?_
        refine J.mg38 dX7_read_65 rfl ?_
        refine J.iload_n dX7_read_68 rfl rfl ?_
        refine J.ml18 (k) dX7_read_69 rfl hk ?_
        refine J.bipush (-4) dX7_read_70 (by decide) ?_
        refine J.icmp_ne (tgt := 79) dX7_read_72 (by decide) (fun c72 => ?_) (fun c72 => absurd c72 (fun h => hA ((mln_4 hln).mp h)))
        refine J.aload_n dX7_read_79 rfl rfl ?_
        refine J.mg38 dX7_read_80 rfl ?_
        refine J.iload_n dX7_read_83 rfl rfl ?_
        refine J.ml18 (k) dX7_read_84 rfl hk ?_
        refine J.iload_n dX7_read_85 rfl rfl ?_
        refine J.icmp_eq (tgt := 93) dX7_read_86 (by decide) (fun c86 => absurd c86 (fun h => hB (by rw [show mln (l k) = l k from if_neg hA] at h; exact h))) (fun c86 => ?_)
        refine J.iconst (3) dX7_read_89 (by decide) ?_
        refine J.goto (tgt := 120) dX7_read_90 (by decide) ?_
        refine J.istore dX7_read_120 (by decide) rfl ?_
        try dsimp only [List.set]
        refine J.iload dX7_read_122 rfl ?_
        refine J.if_ne (tgt := 52) dX7_read_124 (by decide) (fun c124 => ?_) (fun c124 => absurd c124 (by decide))
        refine J.iload dX7_read_52 rfl ?_
        refine J.iload dX7_read_54 rfl ?_
        refine J.icmp_ge (tgt := 167) dX7_read_56 (by decide) (fun c56 => absurd c56 (nI_ge (by omega) (by omega))) (fun c56 => ?_)
        refine J.iload dX7_read_59 rfl ?_
        refine J.if_ne (tgt := 167) dX7_read_61 (by decide) (fun c61 => ?_) (fun c61 => absurd c61 (by decide))
        have e9 : (nI i, some (T, (3 : Int32))) = R9 := by rw [← hh.2.2.2.2, rdO, if_pos (by rw [(show fas (l k) (v 4 (2 + k)) la0 (f + nI i) = 3 from if_neg (fun h => h.elim hA hB))]; decide), (show fas (l k) (v 4 (2 + k)) la0 (f + nI i) = 3 from if_neg (fun h => h.elim hA hB))]
        refine J.aload_n dX7_read_167 rfl rfl ?_
        refine J.iload dX7_read_168 rfl ?_
        refine J.mp41 dX7_read_170 rfl ?_
        try dsimp only [List.set]
        refine J.iload dX7_read_173 rfl ?_
        refine J.iret dX7_read_175 rfl rfl (Nat.le_refl _) (Nat.le_refl _) ⟨by rw [← e9], s1, by rw [← e9] <;> rfl, by rw [← e9]; exact hh.1, (fun j a b => by rw [hh.2.2.2.1 j a]; exact mcp_out s (Or.inl (by omega)))⟩
set_option maxRecDepth 100000 in
set_option maxHeartbeats 4000000 in
theorem mX7_read (s : Nat → Int32) (la : Nat → Int32) (r : rT) (v : vT) (c : Nat → Nat → Int32) (l : Nat → Int32) (tn : Int32) (p : Nat → Int32) (pa : Nat → Nat → Int32) (m : Nat) (q : rT) (b : Int32) (x : Nat → Nat) (h : Nat → Nat → Int64) (k : Nat) (hk : k < 4) (la0 f : Int32) (N : Nat) (hN : N ≤ 20) (hl : v 4 (2 + k) ≤ 40) (hln : lnOK (l k)) (hw : 0 ≤ la0 ∧ la0 ≤ 2) (hS : mS s r) (hr : rOK r) : J KX7_read 21 (fun o B => o = some (.int (rdO (l k) (v 4 (2 + k)) (c k) la0 f N 0 r).1) ∧ ∃ s9, B = (wM s9 la (rdT (rdO (l k) (v 4 (2 + k)) (c k) la0 f N 0 r).2 r) v c l (rdF (rdO (l k) (v 4 (2 + k)) (c k) la0 f N 0 r).2 tn) p pa m q b x h) ∧ mS s9 (rdT (rdO (l k) (v 4 (2 + k)) (c k) la0 f N 0 r).2 r) ∧ ∀ j, 20 ≤ j → j < 60 → s9 j = s j) 0 [some (.ref 0), some (.int (nI k)), some (.int la0), some (.int f), some (.int (nI N)), none, none] [] (wM s la r v c l tn p pa m q b x h) 0 0 := by
  refine J.iload_n dX7_read_0 rfl rfl ?_
  refine J.i2l dX7_read_1 ?_
  refine J.lconst 0 dX7_read_2 (by decide) ?_
  refine J.ldc2 (v := 3) dX7_read_3 (jt 946 rfl rfl) ?_
  refine J.cs (as := [.long _, .long _, .long _]) (is := []) okX7_in jcX7_74 (mX7_inI (nI k) 0 3 (by decide) (by decide)) dX7_read_6 rfl rfl rfl rfl rfl rfl (fun r9 B9 hq => ?_)
  obtain ⟨rfl, rfl⟩ := hq
  refine ⟨rfl, ?_⟩
  show J _ _ _ _ _ (.int _ :: _) (wM s la r v c l tn p pa m q b x h) _ _
  refine J.if_eq (tgt := 37) dX7_read_9 (by decide) (fun c9 => absurd c9 (fun h => (jB_0 _).mp h (jw (a := 0) (c := 3) (by decide) (Nat.zero_le _) (show k ≤ 3 by omega)))) (fun c9 => ?_)
  refine J.iload_n dX7_read_12 rfl rfl ?_
  refine J.i2l dX7_read_13 ?_
  refine J.lconst 0 dX7_read_14 (by decide) ?_
  refine J.ldc2 (v := 2) dX7_read_15 (jt 956 rfl rfl) ?_
  refine J.cs (as := [.long _, .long _, .long _]) (is := []) okX7_in jcX7_74 (mX7_inI la0 0 2 (by decide) (by decide)) dX7_read_18 rfl rfl rfl rfl rfl rfl (fun r9 B9 hq => ?_)
  obtain ⟨rfl, rfl⟩ := hq
  refine ⟨rfl, ?_⟩
  show J _ _ _ _ _ (.int _ :: _) (wM s la r v c l tn p pa m q b x h) _ _
  refine J.if_eq (tgt := 37) dX7_read_21 (by decide) (fun c21 => absurd c21 (fun h => (jB_0 _).mp h hw)) (fun c21 => ?_)
  refine J.iload dX7_read_24 rfl ?_
  refine J.i2l dX7_read_26 ?_
  refine J.lconst 0 dX7_read_27 (by decide) ?_
  refine J.ldc2 (v := 20) dX7_read_28 (jt 1200 rfl rfl) ?_
  refine J.cs (as := [.long _, .long _, .long _]) (is := []) okX7_in jcX7_74 (mX7_inI (nI N) 0 20 (by decide) (by decide)) dX7_read_31 rfl rfl rfl rfl rfl rfl (fun r9 B9 hq => ?_)
  obtain ⟨rfl, rfl⟩ := hq
  refine ⟨rfl, ?_⟩
  show J _ _ _ _ _ (.int _ :: _) (wM s la r v c l tn p pa m q b x h) _ _
  refine J.if_ne (tgt := 39) dX7_read_34 (by decide) (fun c34 => ?_) (fun c34 => absurd c34 (fun h => (jB_0 _).mp h (jw (a := 0) (c := 20) (by decide) (Nat.zero_le _) hN)))
  refine J.aload_n dX7_read_39 rfl rfl ?_
  refine J.iconst (0) dX7_read_40 (by decide) ?_
  refine J.bipush (60) dX7_read_41 (by decide) ?_
  refine J.cvM (as := [.int _, .int _]) s la r v c l tn p pa m q b x h okX7_copies jcX7_282 (mX7_copies s la r v c l tn p pa m q b x h 0 60 (by omega) (by omega) (by omega)) dX7_read_43 rfl rfl rfl rfl (fun r9 B9 hq9 => ?_)
  obtain ⟨rfl, rfl⟩ := hq9
  refine ⟨_, _, _, _, _, _, _, _, _, _, _, _, _, _, rfl, ?_⟩
  show J _ _ _ _ _ [] (wM (mcp s 0 60 20) la r v c l tn p pa m q b x h) _ _
  refine J.iconst (0) dX7_read_46 (by decide) ?_
  refine J.istore dX7_read_47 (by decide) rfl ?_
  try dsimp only [List.set]
  refine J.iconst (0) dX7_read_49 (by decide) ?_
  refine J.istore dX7_read_50 (by decide) rfl ?_
  try dsimp only [List.set]
  exact J.at (mX7_read_l s la r v c l tn p pa m q b x h k hk la0 f N hN hl hln hw hS hr (rdO (l k) (v 4 (2 + k)) (c k) la0 f N 0 r) N 0 (by omega) r (mcp s 0 60 20) ⟨mS_e (fun j hj => mcp_out s (Or.inl (by omega))) hr hS, hr, ⟨rfl, rfl, rfl⟩, fun _ _ => rfl, rfl⟩) rfl rfl rfl
set_option maxRecDepth 100000 in
set_option maxHeartbeats 4000000 in
theorem mX7_read_bad (s : Nat → Int32) (la : Nat → Int32) (r : rT) (v : vT) (c : Nat → Nat → Int32) (l : Nat → Int32) (tn : Int32) (p : Nat → Int32) (pa : Nat → Nat → Int32) (m : Nat) (q : rT) (b : Int32) (x : Nat → Nat) (h : Nat → Nat → Int64) (k la0 f n0 : Int32) (hb : ¬ (0 ≤ k ∧ k ≤ 3) ∨ ¬ (0 ≤ la0 ∧ la0 ≤ 2) ∨ ¬ (0 ≤ n0 ∧ n0 ≤ 20)) : J KX7_read 21 (fun o B => o = some (.int (-1)) ∧ B = (wM s la r v c l tn p pa m q b x h)) 0 [some (.ref 0), some (.int k), some (.int la0), some (.int f), some (.int n0), none, none] [] (wM s la r v c l tn p pa m q b x h) 0 0 := by
  refine J.iload_n dX7_read_0 rfl rfl ?_
  refine J.i2l dX7_read_1 ?_
  refine J.lconst 0 dX7_read_2 (by decide) ?_
  refine J.ldc2 (v := 3) dX7_read_3 (jt 946 rfl rfl) ?_
  refine J.cs (as := [.long _, .long _, .long _]) (is := []) okX7_in jcX7_74 (mX7_inI k 0 3 (by decide) (by decide)) dX7_read_6 rfl rfl rfl rfl rfl rfl (fun r9 B9 hq => ?_)
  obtain ⟨rfl, rfl⟩ := hq
  refine ⟨rfl, ?_⟩
  show J _ _ _ _ _ (.int _ :: _) (wM s la r v c l tn p pa m q b x h) _ _
  refine J.if_eq (tgt := 37) dX7_read_9 (by decide) (fun c9 => ?_) (fun c9 => ?_)
  · refine J.iconst (-1) dX7_read_37 (by decide) ?_
    exact J.iret dX7_read_38 rfl rfl (Nat.le_refl _) (Nat.le_refl _) ⟨rfl, rfl⟩
  · refine J.iload_n dX7_read_12 rfl rfl ?_
    refine J.i2l dX7_read_13 ?_
    refine J.lconst 0 dX7_read_14 (by decide) ?_
    refine J.ldc2 (v := 2) dX7_read_15 (jt 956 rfl rfl) ?_
    refine J.cs (as := [.long _, .long _, .long _]) (is := []) okX7_in jcX7_74 (mX7_inI la0 0 2 (by decide) (by decide)) dX7_read_18 rfl rfl rfl rfl rfl rfl (fun r9 B9 hq => ?_)
    obtain ⟨rfl, rfl⟩ := hq
    refine ⟨rfl, ?_⟩
    show J _ _ _ _ _ (.int _ :: _) (wM s la r v c l tn p pa m q b x h) _ _
    refine J.if_eq (tgt := 37) dX7_read_21 (by decide) (fun c21 => ?_) (fun c21 => ?_)
    · refine J.iconst (-1) dX7_read_37 (by decide) ?_
      exact J.iret dX7_read_38 rfl rfl (Nat.le_refl _) (Nat.le_refl _) ⟨rfl, rfl⟩
    · refine J.iload dX7_read_24 rfl ?_
      refine J.i2l dX7_read_26 ?_
      refine J.lconst 0 dX7_read_27 (by decide) ?_
      refine J.ldc2 (v := 20) dX7_read_28 (jt 1200 rfl rfl) ?_
      refine J.cs (as := [.long _, .long _, .long _]) (is := []) okX7_in jcX7_74 (mX7_inI n0 0 20 (by decide) (by decide)) dX7_read_31 rfl rfl rfl rfl rfl rfl (fun r9 B9 hq => ?_)
      obtain ⟨rfl, rfl⟩ := hq
      refine ⟨rfl, ?_⟩
      show J _ _ _ _ _ (.int _ :: _) (wM s la r v c l tn p pa m q b x h) _ _
      refine J.if_ne (tgt := 39) dX7_read_34 (by decide) (fun c34 => absurd c34 (fun h => h ((jB_0 _).mpr (fun hC => (fun h => h.elim (fun h => h (Decidable.not_not.mp (fun h9 => c9 ((jB_0 _).mpr h9)))) (fun h => h.elim (fun h => h (Decidable.not_not.mp (fun h9 => c21 ((jB_0 _).mpr h9)))) (fun h => h hC))) hb)))) (fun c34 => ?_)
      refine J.iconst (-1) dX7_read_37 (by decide) ?_
      exact J.iret dX7_read_38 rfl rfl (Nat.le_refl _) (Nat.le_refl _) ⟨rfl, rfl⟩
