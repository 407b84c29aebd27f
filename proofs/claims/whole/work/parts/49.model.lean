/-! ===== the DUEL, walked ===== -/
theorem mdz_s0 (qc : rT) (m : Nat) (r : rT) (ka kb n K s : Nat) (hp : (n - 1 - K) % 2 = 0) : mdz qc m r ka kb n (K + 1) 0 s = (if 0 < (mbS qc m (r 2 ka : Nat) (r 3 ka : Nat) n (mdz qc m r ka kb n K 0) K s) then (mbS qc m (r 2 ka : Nat) (r 3 ka : Nat) n (mdz qc m r ka kb n K 0) K s) else 0) ∧ mdz qc m r ka kb n (K + 1) 1 s = (if 0 < (mbS qc m (r 2 ka : Nat) (r 3 ka : Nat) n (mdz qc m r ka kb n K 0) K s) then (mdS qc m (r 6 5 : Nat) n (mdz qc m r ka kb n K 1) K s) else (10 ^ (m * K) : Nat) * (10 ^ m : Nat) * ((r 6 5 : Nat) : Int)) := by
  rw [mdz, mdz, hp]
  exact ⟨if_pos rfl, if_neg (by decide)⟩
set_option maxRecDepth 100000 in
set_option maxHeartbeats 4000000 in
theorem mX7_duels0_i (s : Nat → Int32) (la : Nat → Int32) (r : rT) (v : vT) (c : Nat → Nat → Int32) (l : Nat → Int32) (tn : Int32) (p : Nat → Int32) (pa : Nat → Nat → Int32) (m : Nat) (q : rT) (b : Int32) (x : Nat → Nat) (h : Nat → Nat → Int64) (qc : rT) (hE : qE q qc m) (hM : mOK qc m) (ka kb n : Nat) (ha : ka < r 6 1) (hb : kb < r 6 1) (hn : n ≤ 5) (hS : mS s r) (hr : rOK r) (K t u : Nat) (hK : K < n) (ht : t = n - 1 - K) (hp : t % 2 = 0) (hu : u < 2 ^ m) (hu0 : ¬ u = 0) (hh : ((∀ j, j < 2 ^ m → h 3 j = lI (mdz qc m r ka kb n K 0 j)) ∧ ∀ j, j < 2 ^ m → h 4 j = lI (mdz qc m r ka kb n K 1 j))) (hk9 : ∀ z14 z16 z18 : Option Value, J KX7_duels 21 (fun o B => o = none ∧ ∃ h9, B = (wM s la r v c l tn p pa m q (jB (0 < mdz qc m r ka kb n n 0 (qc 6 0))) x h9) ∧ (∀ j, j < 2 ^ m → h9 3 j = lI (mdz qc m r ka kb n n 0 j)) ∧ ∀ j, j < 2 ^ m → h9 4 j = lI (mdz qc m r ka kb n n 1 j)) 266 [some (.ref 0), some (.int (nI ka)), some (.int (nI kb)), some (.int (nI n)), some (.int (nI t)), some (.int (nI ka)), some (.long (lN (10 ^ (m * K)))), none, some (.int (nI u)), some (.long (lI (sZ (mbF (ten qc u t) m (10 ^ (m * K) : Nat) (r 2 ka : Nat) (r 3 ka : Nat) (mdz qc m r ka kb n K 0) u) (2 ^ m)))), none, some (.long (lI (sZ (mdF (ten qc u t) m (10 ^ (m * K) : Nat) (r 6 5 : Nat) (mdz qc m r ka kb n K 1) u) (2 ^ m)))), none, some (.int (nI (2 ^ m))), z14, none, z16, none, z18, none] [] (wM s la r v c l tn p pa m q b x h) 0 0) : ∀ (k9 i : Nat), i + k9 = 2 ^ m → ∀ (z14 z16 z18 : Option Value), J KX7_duels 21 (fun o B => o = none ∧ ∃ h9, B = (wM s la r v c l tn p pa m q (jB (0 < mdz qc m r ka kb n n 0 (qc 6 0))) x h9) ∧ (∀ j, j < 2 ^ m → h9 3 j = lI (mdz qc m r ka kb n n 0 j)) ∧ ∀ j, j < 2 ^ m → h9 4 j = lI (mdz qc m r ka kb n n 1 j)) 100 [some (.ref 0), some (.int (nI ka)), some (.int (nI kb)), some (.int (nI n)), some (.int (nI t)), some (.int (nI ka)), some (.long (lN (10 ^ (m * K)))), none, some (.int (nI u)), some (.long (lI (sZ (mbF (ten qc u t) m (10 ^ (m * K) : Nat) (r 2 ka : Nat) (r 3 ka : Nat) (mdz qc m r ka kb n K 0) u) i))), none, some (.long (lI (sZ (mdF (ten qc u t) m (10 ^ (m * K) : Nat) (r 6 5 : Nat) (mdz qc m r ka kb n K 1) u) i))), none, some (.int (nI i)), z14, none, z16, none, z18, none] [] (wM s la r v c l tn p pa m q b x h) 0 0 := by
  intro k9
  induction k9 with
  | zero =>
    intro i hi
    obtain hiN : i = 2 ^ m := by omega
    intro z14 z16 z18
    subst hiN
    refine J.iload dX7_duels_100 rfl ?_
    refine J.iconst (1) dX7_duels_102 (by decide) ?_
    refine J.aload_n dX7_duels_103 rfl rfl ?_
    refine J.mg25 dX7_duels_104 rfl ?_
    refine J.ishl dX7_duels_107 ?_
    rw [shl_eval m (by have := hM.2.2; omega)]
    refine J.icmp_ge (tgt := 266) dX7_duels_108 (by decide) (fun c108 => ?_) (fun c108 => absurd c108 (fun h => h (Int32.le_refl _)))
    exact hk9 _ _ _
  | succ k9 ih =>
    intro i hi
    have hiN : i < 2 ^ m := by omega
    intro z14 z16 z18
    by_cases h0 : i = 0
    · skip
      refine J.iload dX7_duels_100 rfl ?_
      refine J.iconst (1) dX7_duels_102 (by decide) ?_
      refine J.aload_n dX7_duels_103 rfl rfl ?_
      refine J.mg25 dX7_duels_104 rfl ?_
      refine J.ishl dX7_duels_107 ?_
      rw [shl_eval m (by have := hM.2.2; omega)]
      refine J.icmp_ge (tgt := 266) dX7_duels_108 (by decide) (fun c108 => absurd c108 (nI_ge (by omega) (by have := p2_8 hM.2.2; omega))) (fun c108 => ?_)
      refine J.iload dX7_duels_111 rfl ?_
      refine J.if_eq (tgt := 266) dX7_duels_113 (by decide) (fun c113 => absurd c113 (fun h9 => absurd ((nI_eqi (b := 0) (by have := p2_8 hM.2.2; omega) (by decide)).mp h9) (by omega))) (fun c113 => ?_)
      refine J.aload_n dX7_duels_116 rfl rfl ?_
      refine J.iload dX7_duels_117 rfl ?_
      refine J.iload dX7_duels_119 rfl ?_
      refine J.iload dX7_duels_121 rfl ?_
      refine J.cvM (as := [.int _, .int _, .int _]) s la r v c l tn p pa m q b x h okX7_wayOf jcX7_219 (mX7_wayOf s la r v c l tn p pa m q b x h qc hE hM u i t (by have := p2_8 hM.2.2; omega) (by have := p2_8 hM.2.2; omega) (by omega)) dX7_duels_123 rfl rfl rfl rfl (fun r9 B9 hq9 => ?_)
      obtain ⟨rfl, rfl⟩ := hq9
      refine ⟨_, _, _, _, _, _, _, _, _, _, _, _, _, _, rfl, ?_⟩
      show J _ _ _ _ _ (.long _ :: _) (wM s la r v c l tn p pa m q b x h) _ _
      refine J.lstore dX7_duels_126 (by decide) rfl ?_
      try dsimp only [List.set]
      refine J.iload dX7_duels_128 rfl ?_
      refine J.iconst (2) dX7_duels_130 (by decide) ?_
      refine J.irem dX7_duels_131 (by decide) ?_
      rw [rem2 (by omega), hp]
      refine J.if_ne (tgt := 145) dX7_duels_132 (by decide) (fun c132 => absurd c132 (fun h9 => h9 rfl)) (fun c132 => ?_)
      refine J.aload_n dX7_duels_135 rfl rfl ?_
      refine J.mg33 dX7_duels_136 rfl ?_
      refine J.iload dX7_duels_139 rfl ?_
      refine J.ml14 (i) dX7_duels_141 rfl (by have := p2_8 hM.2.2; omega) ?_
      rw [hh.1 i hiN]
      refine J.goto (tgt := 152) dX7_duels_142 (by decide) ?_
      refine J.lstore dX7_duels_152 (by decide) rfl ?_
      try dsimp only [List.set]
      refine J.iload dX7_duels_154 rfl ?_
      refine J.iconst (2) dX7_duels_156 (by decide) ?_
      refine J.irem dX7_duels_157 (by decide) ?_
      rw [rem2 (by omega), hp]
      refine J.if_ne (tgt := 171) dX7_duels_158 (by decide) (fun c158 => absurd c158 (fun h9 => h9 rfl)) (fun c158 => ?_)
      refine J.aload_n dX7_duels_161 rfl rfl ?_
      refine J.mg34 dX7_duels_162 rfl ?_
      refine J.iload dX7_duels_165 rfl ?_
      refine J.ml15 (i) dX7_duels_167 rfl (by have := p2_8 hM.2.2; omega) ?_
      rw [hh.2 i hiN]
      refine J.goto (tgt := 178) dX7_duels_168 (by decide) ?_
      refine J.lstore dX7_duels_178 (by decide) rfl ?_
      try dsimp only [List.set]
      refine J.lload dX7_duels_180 rfl ?_
      refine J.lload dX7_duels_182 rfl ?_
      refine J.iload dX7_duels_184 rfl ?_
      refine J.if_ne (tgt := 211) dX7_duels_186 (by decide) (fun c186 => absurd c186 (fun h9 => h9 (by rw [h0] <;> rfl))) (fun c186 => ?_)
      refine J.lload dX7_duels_189 rfl ?_
      refine J.lneg dX7_duels_191 ?_
      refine J.aload_n dX7_duels_192 rfl rfl ?_
      refine J.mg0 dX7_duels_193 rfl ?_
      refine J.bipush (10) dX7_duels_196 (by decide) ?_
      refine J.iconst (2) dX7_duels_198 (by decide) ?_
      refine J.iload dX7_duels_199 rfl ?_
      refine J.imul dX7_duels_201 ?_
      refine J.iadd dX7_duels_202 ?_
      refine J.iconst (1) dX7_duels_203 (by decide) ?_
      refine J.iadd dX7_duels_204 ?_
      refine J.ml1 (10 + 2 * ka + 1) dX7_duels_205 (ixk1 10 2 ka 1) (by have := hr.2.1; omega) ?_
      rw [(hS.2.2.1 ka ha).2]
      refine J.i2l dX7_duels_206 ?_
      refine J.lmul dX7_duels_207 ?_
      refine J.goto (tgt := 230) dX7_duels_208 (by decide) ?_
      refine J.lmul dX7_duels_230 ?_
      refine J.ladd dX7_duels_231 ?_
      have e9 : lI (sZ (mbF (ten qc u t) m (10 ^ (m * K) : Nat) (r 2 ka : Nat) (r 3 ka : Nat) (mdz qc m r ka kb n K 0) u) i) + lN (wy (ten qc u t) m u i) * (-lN (10 ^ (m * K)) * (nI (r 3 ka)).toInt64) = lI (sZ (mbF (ten qc u t) m (10 ^ (m * K) : Nat) (r 2 ka : Nat) (r 3 ka : Nat) (mdz qc m r ka kb n K 0) u) (i + 1)) := by
        rw [show sZ (mbF (ten qc u t) m (10 ^ (m * K) : Nat) (r 2 ka : Nat) (r 3 ka : Nat) (mdz qc m r ka kb n K 0) u) (i + 1) = sZ (mbF (ten qc u t) m (10 ^ (m * K) : Nat) (r 2 ka : Nat) (r 3 ka : Nat) (mdz qc m r ka kb n K 0) u) i + (mbF (ten qc u t) m (10 ^ (m * K) : Nat) (r 2 ka : Nat) (r 3 ka : Nat) (mdz qc m r ka kb n K 0) u) i from rfl, show (mbF (ten qc u t) m (10 ^ (m * K) : Nat) (r 2 ka : Nat) (r 3 ka : Nat) (mdz qc m r ka kb n K 0) u) i = (wy (ten qc u t) m u i : Int) * _ from congrArg (fun z => (wy (ten qc u t) m u i : Int) * z) (if_pos h0), nI_l (show r 3 ka < 2 ^ 31 by have := hr.2.2.2.2.2.2.2.2.2.2.2.1 ka; omega)]
        simp only [lNZ, lI_neg, lI_mul, lI_add]
      rw [e9]
      refine J.lstore dX7_duels_232 (by decide) rfl ?_
      try dsimp only [List.set]
      refine J.lload dX7_duels_234 rfl ?_
      refine J.lload dX7_duels_236 rfl ?_
      refine J.iload dX7_duels_238 rfl ?_
      refine J.if_ne (tgt := 254) dX7_duels_240 (by decide) (fun c240 => absurd c240 (fun h9 => h9 (by rw [h0] <;> rfl))) (fun c240 => ?_)
      refine J.lload dX7_duels_243 rfl ?_
      refine J.aload_n dX7_duels_245 rfl rfl ?_
      refine J.cvM (as := []) s la r v c l tn p pa m q b x h okX7_prize jcX7_174 (mX7_prize s la r v c l tn p pa m q b x h hS) dX7_duels_246 rfl rfl rfl rfl (fun r9 B9 hq9 => ?_)
      obtain ⟨rfl, rfl⟩ := hq9
      refine ⟨_, _, _, _, _, _, _, _, _, _, _, _, _, _, rfl, ?_⟩
      show J _ _ _ _ _ (.int _ :: _) (wM s la r v c l tn p pa m q b x h) _ _
      refine J.i2l dX7_duels_249 ?_
      refine J.lmul dX7_duels_250 ?_
      refine J.goto (tgt := 256) dX7_duels_251 (by decide) ?_
      refine J.lmul dX7_duels_256 ?_
      refine J.ladd dX7_duels_257 ?_
      have e8 : lI (sZ (mdF (ten qc u t) m (10 ^ (m * K) : Nat) (r 6 5 : Nat) (mdz qc m r ka kb n K 1) u) i) + lN (wy (ten qc u t) m u i) * (lN (10 ^ (m * K)) * (nI (r 6 5)).toInt64) = lI (sZ (mdF (ten qc u t) m (10 ^ (m * K) : Nat) (r 6 5 : Nat) (mdz qc m r ka kb n K 1) u) (i + 1)) := by
        rw [show sZ (mdF (ten qc u t) m (10 ^ (m * K) : Nat) (r 6 5 : Nat) (mdz qc m r ka kb n K 1) u) (i + 1) = sZ (mdF (ten qc u t) m (10 ^ (m * K) : Nat) (r 6 5 : Nat) (mdz qc m r ka kb n K 1) u) i + (mdF (ten qc u t) m (10 ^ (m * K) : Nat) (r 6 5 : Nat) (mdz qc m r ka kb n K 1) u) i from rfl, show (mdF (ten qc u t) m (10 ^ (m * K) : Nat) (r 6 5 : Nat) (mdz qc m r ka kb n K 1) u) i = (wy (ten qc u t) m u i : Int) * _ from congrArg (fun z => (wy (ten qc u t) m u i : Int) * z) (if_pos h0), nI_l (show r 6 5 < 2 ^ 31 by have := hr.2.2.2.2.2.2.1; omega)]
        simp only [lNZ, lI_mul, lI_add]
      rw [e8]
      refine J.lstore dX7_duels_258 (by decide) rfl ?_
      try dsimp only [List.set]
      refine J.iinc (1) dX7_duels_260 (by decide) rfl (by decide) rfl ?_
      try dsimp only [List.set]
      refine J.goto (tgt := 100) dX7_duels_263 (by decide) ?_
      exact J.at (ih (i + 1) (by omega) _ _ _) (by rw [← nI_1 i] <;> rfl) rfl rfl
    · skip
      refine J.iload dX7_duels_100 rfl ?_
      refine J.iconst (1) dX7_duels_102 (by decide) ?_
      refine J.aload_n dX7_duels_103 rfl rfl ?_
      refine J.mg25 dX7_duels_104 rfl ?_
      refine J.ishl dX7_duels_107 ?_
      rw [shl_eval m (by have := hM.2.2; omega)]
      refine J.icmp_ge (tgt := 266) dX7_duels_108 (by decide) (fun c108 => absurd c108 (nI_ge (by omega) (by have := p2_8 hM.2.2; omega))) (fun c108 => ?_)
      refine J.iload dX7_duels_111 rfl ?_
      refine J.if_eq (tgt := 266) dX7_duels_113 (by decide) (fun c113 => absurd c113 (fun h9 => absurd ((nI_eqi (b := 0) (by have := p2_8 hM.2.2; omega) (by decide)).mp h9) (by omega))) (fun c113 => ?_)
      refine J.aload_n dX7_duels_116 rfl rfl ?_
      refine J.iload dX7_duels_117 rfl ?_
      refine J.iload dX7_duels_119 rfl ?_
      refine J.iload dX7_duels_121 rfl ?_
      refine J.cvM (as := [.int _, .int _, .int _]) s la r v c l tn p pa m q b x h okX7_wayOf jcX7_219 (mX7_wayOf s la r v c l tn p pa m q b x h qc hE hM u i t (by have := p2_8 hM.2.2; omega) (by have := p2_8 hM.2.2; omega) (by omega)) dX7_duels_123 rfl rfl rfl rfl (fun r9 B9 hq9 => ?_)
      obtain ⟨rfl, rfl⟩ := hq9
      refine ⟨_, _, _, _, _, _, _, _, _, _, _, _, _, _, rfl, ?_⟩
      show J _ _ _ _ _ (.long _ :: _) (wM s la r v c l tn p pa m q b x h) _ _
      refine J.lstore dX7_duels_126 (by decide) rfl ?_
      try dsimp only [List.set]
      refine J.iload dX7_duels_128 rfl ?_
      refine J.iconst (2) dX7_duels_130 (by decide) ?_
      refine J.irem dX7_duels_131 (by decide) ?_
      rw [rem2 (by omega), hp]
      refine J.if_ne (tgt := 145) dX7_duels_132 (by decide) (fun c132 => absurd c132 (fun h9 => h9 rfl)) (fun c132 => ?_)
      refine J.aload_n dX7_duels_135 rfl rfl ?_
      refine J.mg33 dX7_duels_136 rfl ?_
      refine J.iload dX7_duels_139 rfl ?_
      refine J.ml14 (i) dX7_duels_141 rfl (by have := p2_8 hM.2.2; omega) ?_
      rw [hh.1 i hiN]
      refine J.goto (tgt := 152) dX7_duels_142 (by decide) ?_
      refine J.lstore dX7_duels_152 (by decide) rfl ?_
      try dsimp only [List.set]
      refine J.iload dX7_duels_154 rfl ?_
      refine J.iconst (2) dX7_duels_156 (by decide) ?_
      refine J.irem dX7_duels_157 (by decide) ?_
      rw [rem2 (by omega), hp]
      refine J.if_ne (tgt := 171) dX7_duels_158 (by decide) (fun c158 => absurd c158 (fun h9 => h9 rfl)) (fun c158 => ?_)
      refine J.aload_n dX7_duels_161 rfl rfl ?_
      refine J.mg34 dX7_duels_162 rfl ?_
      refine J.iload dX7_duels_165 rfl ?_
      refine J.ml15 (i) dX7_duels_167 rfl (by have := p2_8 hM.2.2; omega) ?_
      rw [hh.2 i hiN]
      refine J.goto (tgt := 178) dX7_duels_168 (by decide) ?_
      refine J.lstore dX7_duels_178 (by decide) rfl ?_
      try dsimp only [List.set]
      refine J.lload dX7_duels_180 rfl ?_
      refine J.lload dX7_duels_182 rfl ?_
      refine J.iload dX7_duels_184 rfl ?_
      refine J.if_ne (tgt := 211) dX7_duels_186 (by decide) (fun c186 => ?_) (fun c186 => absurd c186 (fun h9 => h0 ((nI_eqi (b := 0) (by have := p2_8 hM.2.2; omega) (by decide)).mp h9)))
      refine J.lload dX7_duels_211 rfl ?_
      refine J.aload_n dX7_duels_213 rfl rfl ?_
      refine J.mg0 dX7_duels_214 rfl ?_
      refine J.bipush (10) dX7_duels_217 (by decide) ?_
      refine J.iconst (2) dX7_duels_219 (by decide) ?_
      refine J.iload dX7_duels_220 rfl ?_
      refine J.imul dX7_duels_222 ?_
      refine J.iadd dX7_duels_223 ?_
      refine J.ml1 (10 + 2 * ka) dX7_duels_224 (ixk 10 2 ka) (by have := hr.2.1; omega) ?_
      rw [(hS.2.2.1 ka ha).1]
      refine J.i2l dX7_duels_225 ?_
      refine J.lmul dX7_duels_226 ?_
      refine J.lload dX7_duels_227 rfl ?_
      refine J.ladd dX7_duels_229 ?_
      refine J.lmul dX7_duels_230 ?_
      refine J.ladd dX7_duels_231 ?_
      have e9 : lI (sZ (mbF (ten qc u t) m (10 ^ (m * K) : Nat) (r 2 ka : Nat) (r 3 ka : Nat) (mdz qc m r ka kb n K 0) u) i) + lN (wy (ten qc u t) m u i) * (lN (10 ^ (m * K)) * (nI (r 2 ka)).toInt64 + lI (mdz qc m r ka kb n K 0 i)) = lI (sZ (mbF (ten qc u t) m (10 ^ (m * K) : Nat) (r 2 ka : Nat) (r 3 ka : Nat) (mdz qc m r ka kb n K 0) u) (i + 1)) := by
        rw [show sZ (mbF (ten qc u t) m (10 ^ (m * K) : Nat) (r 2 ka : Nat) (r 3 ka : Nat) (mdz qc m r ka kb n K 0) u) (i + 1) = sZ (mbF (ten qc u t) m (10 ^ (m * K) : Nat) (r 2 ka : Nat) (r 3 ka : Nat) (mdz qc m r ka kb n K 0) u) i + (mbF (ten qc u t) m (10 ^ (m * K) : Nat) (r 2 ka : Nat) (r 3 ka : Nat) (mdz qc m r ka kb n K 0) u) i from rfl, show (mbF (ten qc u t) m (10 ^ (m * K) : Nat) (r 2 ka : Nat) (r 3 ka : Nat) (mdz qc m r ka kb n K 0) u) i = (wy (ten qc u t) m u i : Int) * _ from congrArg (fun z => (wy (ten qc u t) m u i : Int) * z) (if_neg h0), nI_l (show r 2 ka < 2 ^ 31 by have := hr.2.2.2.2.2.2.2.2.2.2.1 ka; omega)]
        simp only [lNZ, lI_neg, lI_mul, lI_add]
      rw [e9]
      refine J.lstore dX7_duels_232 (by decide) rfl ?_
      try dsimp only [List.set]
      refine J.lload dX7_duels_234 rfl ?_
      refine J.lload dX7_duels_236 rfl ?_
      refine J.iload dX7_duels_238 rfl ?_
      refine J.if_ne (tgt := 254) dX7_duels_240 (by decide) (fun c240 => ?_) (fun c240 => absurd c240 (fun h9 => h0 ((nI_eqi (b := 0) (by have := p2_8 hM.2.2; omega) (by decide)).mp h9)))
      refine J.lload dX7_duels_254 rfl ?_
      refine J.lmul dX7_duels_256 ?_
      refine J.ladd dX7_duels_257 ?_
      have e8 : lI (sZ (mdF (ten qc u t) m (10 ^ (m * K) : Nat) (r 6 5 : Nat) (mdz qc m r ka kb n K 1) u) i) + lN (wy (ten qc u t) m u i) * (lI (mdz qc m r ka kb n K 1 i)) = lI (sZ (mdF (ten qc u t) m (10 ^ (m * K) : Nat) (r 6 5 : Nat) (mdz qc m r ka kb n K 1) u) (i + 1)) := by
        rw [show sZ (mdF (ten qc u t) m (10 ^ (m * K) : Nat) (r 6 5 : Nat) (mdz qc m r ka kb n K 1) u) (i + 1) = sZ (mdF (ten qc u t) m (10 ^ (m * K) : Nat) (r 6 5 : Nat) (mdz qc m r ka kb n K 1) u) i + (mdF (ten qc u t) m (10 ^ (m * K) : Nat) (r 6 5 : Nat) (mdz qc m r ka kb n K 1) u) i from rfl, show (mdF (ten qc u t) m (10 ^ (m * K) : Nat) (r 6 5 : Nat) (mdz qc m r ka kb n K 1) u) i = (wy (ten qc u t) m u i : Int) * _ from congrArg (fun z => (wy (ten qc u t) m u i : Int) * z) (if_neg h0)]
        simp only [lNZ, lI_mul, lI_add]
      rw [e8]
      refine J.lstore dX7_duels_258 (by decide) rfl ?_
      try dsimp only [List.set]
      refine J.iinc (1) dX7_duels_260 (by decide) rfl (by decide) rfl ?_
      try dsimp only [List.set]
      refine J.goto (tgt := 100) dX7_duels_263 (by decide) ?_
      exact J.at (ih (i + 1) (by omega) _ _ _) (by rw [← nI_1 i] <;> rfl) rfl rfl
set_option maxRecDepth 100000 in
set_option maxHeartbeats 4000000 in
theorem mX7_duels0_c (s : Nat → Int32) (la : Nat → Int32) (r : rT) (v : vT) (c : Nat → Nat → Int32) (l : Nat → Int32) (tn : Int32) (p : Nat → Int32) (pa : Nat → Nat → Int32) (m : Nat) (q : rT) (b : Int32) (x : Nat → Nat) (qc : rT) (hE : qE q qc m) (hM : mOK qc m) (ka kb n : Nat) (ha : ka < r 6 1) (hb : kb < r 6 1) (hn : n ≤ 5) (hS : mS s r) (hr : rOK r) (K t : Nat) (ht9 : t < 1000) (hp : t % 2 = 0) (z9 z11 z13 z14 z16 z18 : Option Value) (hk9 : ∀ h : Nat → Nat → Int64, (∀ j, j < 2 ^ m → h 3 j = lI (mdz qc m r ka kb n (K + 1) 0 j) ∧ h 4 j = lI (mdz qc m r ka kb n (K + 1) 1 j)) → ∀ z8 : Option Value, J KX7_duels 21 (fun o B => o = none ∧ ∃ h9, B = (wM s la r v c l tn p pa m q (jB (0 < mdz qc m r ka kb n n 0 (qc 6 0))) x h9) ∧ (∀ j, j < 2 ^ m → h9 3 j = lI (mdz qc m r ka kb n n 0 j)) ∧ ∀ j, j < 2 ^ m → h9 4 j = lI (mdz qc m r ka kb n n 1 j)) 441 [some (.ref 0), some (.int (nI ka)), some (.int (nI kb)), some (.int (nI n)), some (.int (nI t)), some (.int (nI ka)), some (.long (lN (10 ^ (m * K)))), none, z8, z9, none, z11, none, z13, z14, none, z16, none, z18, none] [] (wM s la r v c l tn p pa m q b x h) 0 0) : ∀ (k9 i : Nat), i + k9 = 2 ^ m → ∀ (h : Nat → Nat → Int64), ((∀ j, j < i → h 3 j = lI (mdz qc m r ka kb n (K + 1) 0 j) ∧ h 4 j = lI (mdz qc m r ka kb n (K + 1) 1 j)) ∧ ∀ j, j < 2 ^ m → h 1 j = lI (mdz qc m r ka kb n (K + 1) 0 j) ∧ h 2 j = lI (mdz qc m r ka kb n (K + 1) 1 j)) → J KX7_duels 21 (fun o B => o = none ∧ ∃ h9, B = (wM s la r v c l tn p pa m q (jB (0 < mdz qc m r ka kb n n 0 (qc 6 0))) x h9) ∧ (∀ j, j < 2 ^ m → h9 3 j = lI (mdz qc m r ka kb n n 0 j)) ∧ ∀ j, j < 2 ^ m → h9 4 j = lI (mdz qc m r ka kb n n 1 j)) 362 [some (.ref 0), some (.int (nI ka)), some (.int (nI kb)), some (.int (nI n)), some (.int (nI t)), some (.int (nI ka)), some (.long (lN (10 ^ (m * K)))), none, some (.int (nI i)), z9, none, z11, none, z13, z14, none, z16, none, z18, none] [] (wM s la r v c l tn p pa m q b x h) 0 0 := by
  intro k9
  induction k9 with
  | zero =>
    intro i hi
    obtain hiN : i = 2 ^ m := by omega
    intro h hh
    subst hiN
    refine J.iload dX7_duels_362 rfl ?_
    refine J.iconst (1) dX7_duels_364 (by decide) ?_
    refine J.aload_n dX7_duels_365 rfl rfl ?_
    refine J.mg25 dX7_duels_366 rfl ?_
    refine J.ishl dX7_duels_369 ?_
    rw [shl_eval m (by have := hM.2.2; omega)]
    refine J.icmp_ge (tgt := 441) dX7_duels_370 (by decide) (fun c370 => ?_) (fun c370 => absurd c370 (fun h => h (Int32.le_refl _)))
    exact hk9 _ hh.1 _
  | succ k9 ih =>
    intro i hi
    have hiN : i < 2 ^ m := by omega
    intro h hh
    refine J.iload dX7_duels_362 rfl ?_
    refine J.iconst (1) dX7_duels_364 (by decide) ?_
    refine J.aload_n dX7_duels_365 rfl rfl ?_
    refine J.mg25 dX7_duels_366 rfl ?_
    refine J.ishl dX7_duels_369 ?_
    rw [shl_eval m (by have := hM.2.2; omega)]
    refine J.icmp_ge (tgt := 441) dX7_duels_370 (by decide) (fun c370 => absurd c370 (nI_ge (by omega) (by have := p2_8 hM.2.2; omega))) (fun c370 => ?_)
    refine J.aload_n dX7_duels_373 rfl rfl ?_
    refine J.mg33 dX7_duels_374 rfl ?_
    refine J.iload dX7_duels_377 rfl ?_
    refine J.iload dX7_duels_379 rfl ?_
    refine J.iconst (2) dX7_duels_381 (by decide) ?_
    refine J.irem dX7_duels_382 (by decide) ?_
    rw [rem2 (by omega), hp]
    refine J.if_ne (tgt := 396) dX7_duels_383 (by decide) (fun c383 => absurd c383 (fun h9 => h9 rfl)) (fun c383 => ?_)
    refine J.aload_n dX7_duels_386 rfl rfl ?_
    refine J.mg30 dX7_duels_387 rfl ?_
    refine J.iload dX7_duels_390 rfl ?_
    refine J.ml12 (i) dX7_duels_392 rfl (by have := p2_8 hM.2.2; omega) ?_
    rw [(hh.2 i hiN).1]
    refine J.goto (tgt := 403) dX7_duels_393 (by decide) ?_
    refine J.ms14 (i) dX7_duels_403 rfl (by have := p2_8 hM.2.2; omega) ?_
    try dsimp only [List.set]
    refine J.aload_n dX7_duels_404 rfl rfl ?_
    refine J.mg34 dX7_duels_405 rfl ?_
    refine J.iload dX7_duels_408 rfl ?_
    refine J.iload dX7_duels_410 rfl ?_
    refine J.iconst (2) dX7_duels_412 (by decide) ?_
    refine J.irem dX7_duels_413 (by decide) ?_
    rw [rem2 (by omega), hp]
    refine J.if_ne (tgt := 427) dX7_duels_414 (by decide) (fun c414 => absurd c414 (fun h9 => h9 rfl)) (fun c414 => ?_)
    refine J.aload_n dX7_duels_417 rfl rfl ?_
    refine J.mg31 dX7_duels_418 rfl ?_
    refine J.iload dX7_duels_421 rfl ?_
    refine J.ml13 (i) dX7_duels_423 rfl (by have := p2_8 hM.2.2; omega) ?_
    rw [show hset h 3 i _ 2 i = h 2 i from rfl, (hh.2 i hiN).2]
    refine J.goto (tgt := 434) dX7_duels_424 (by decide) ?_
    refine J.ms15 (i) dX7_duels_434 rfl (by have := p2_8 hM.2.2; omega) ?_
    try dsimp only [List.set]
    refine J.iinc (1) dX7_duels_435 (by decide) rfl (by decide) rfl ?_
    try dsimp only [List.set]
    refine J.goto (tgt := 362) dX7_duels_438 (by decide) ?_
    refine J.at (ih (i + 1) (by omega) (hset (hset h 3 i (lI (mdz qc m r ka kb n (K + 1) 0 i))) 4 i (lI (mdz qc m r ka kb n (K + 1) 1 i))) ⟨fun j hj => ?_, fun j hj => hh.2 j hj⟩) (by rw [← nI_1 i] <;> rfl) rfl rfl
    by_cases e : j = i
    · subst e; exact ⟨pk_uLs, pk_uLs⟩
    · exact ⟨(pk_uLn e).trans (hh.1 j (by omega)).1, (pk_uLn e).trans (hh.1 j (by omega)).2⟩
set_option maxRecDepth 100000 in
set_option maxHeartbeats 4000000 in
theorem mX7_duels0_w (s : Nat → Int32) (la : Nat → Int32) (r : rT) (v : vT) (c : Nat → Nat → Int32) (l : Nat → Int32) (tn : Int32) (p : Nat → Int32) (pa : Nat → Nat → Int32) (m : Nat) (q : rT) (b : Int32) (x : Nat → Nat) (h : Nat → Nat → Int64) (qc : rT) (hE : qE q qc m) (hM : mOK qc m) (ka kb n : Nat) (ha : ka < r 6 1) (hb : kb < r 6 1) (hn : n ≤ 5) (hS : mS s r) (hr : rOK r) (K t i : Nat) (hpK : (n - 1 - K) % 2 = 0) (hi : i < 2 ^ m) (z y : Int) (hz : (mbS qc m (r 2 ka : Nat) (r 3 ka : Nat) n (mdz qc m r ka kb n K 0) K i) = z) (hy : (mdS qc m (r 6 5 : Nat) n (mdz qc m r ka kb n K 1) K i) = y) (hz9 : z.natAbs ≤ 1000000000000000000) (hh : (((∀ j, j < 2 ^ m → h 3 j = lI (mdz qc m r ka kb n K 0 j)) ∧ ∀ j, j < 2 ^ m → h 4 j = lI (mdz qc m r ka kb n K 1 j)) ∧ (∀ j, j < i → h 1 j = lI (mdz qc m r ka kb n (K + 1) 0 j) ∧ h 2 j = lI (mdz qc m r ka kb n (K + 1) 1 j)) ∧ (qc 6 0 < i → b = jB (0 < mdz qc m r ka kb n (K + 1) 0 (qc 6 0))))) (hbz : (narrow .boolean (.int b) = .int b ∧ fits .boolean (.int b) = true)) (ih9 : ∀ (b : Int32) (h : Nat → Nat → Int64), (((∀ j, j < 2 ^ m → h 3 j = lI (mdz qc m r ka kb n K 0 j)) ∧ ∀ j, j < 2 ^ m → h 4 j = lI (mdz qc m r ka kb n K 1 j)) ∧ (∀ j, j < i + 1 → h 1 j = lI (mdz qc m r ka kb n (K + 1) 0 j) ∧ h 2 j = lI (mdz qc m r ka kb n (K + 1) 1 j)) ∧ (qc 6 0 < i + 1 → b = jB (0 < mdz qc m r ka kb n (K + 1) 0 (qc 6 0)))) → (narrow .boolean (.int b) = .int b ∧ fits .boolean (.int b) = true) → ∀ (z9 z11 z13 z14 z16 z18 : Option Value), J KX7_duels 21 (fun o B => o = none ∧ ∃ h9, B = (wM s la r v c l tn p pa m q (jB (0 < mdz qc m r ka kb n n 0 (qc 6 0))) x h9) ∧ (∀ j, j < 2 ^ m → h9 3 j = lI (mdz qc m r ka kb n n 0 j)) ∧ ∀ j, j < 2 ^ m → h9 4 j = lI (mdz qc m r ka kb n n 1 j)) 80 [some (.ref 0), some (.int (nI ka)), some (.int (nI kb)), some (.int (nI n)), some (.int (nI t)), some (.int (nI ka)), some (.long (lN (10 ^ (m * K)))), none, some (.int (nI (i + 1))), z9, none, z11, none, z13, z14, none, z16, none, z18, none] [] (wM s la r v c l tn p pa m q b x h) 0 0) (z13 z14 z16 z18 : Option Value) : J KX7_duels 21 (fun o B => o = none ∧ ∃ h9, B = (wM s la r v c l tn p pa m q (jB (0 < mdz qc m r ka kb n n 0 (qc 6 0))) x h9) ∧ (∀ j, j < 2 ^ m → h9 3 j = lI (mdz qc m r ka kb n n 0 j)) ∧ ∀ j, j < 2 ^ m → h9 4 j = lI (mdz qc m r ka kb n n 1 j)) 266 [some (.ref 0), some (.int (nI ka)), some (.int (nI kb)), some (.int (nI n)), some (.int (nI t)), some (.int (nI ka)), some (.long (lN (10 ^ (m * K)))), none, some (.int (nI i)), some (.long (lI z)), none, some (.long (lI y)), none, z13, z14, none, z16, none, z18, none] [] (wM s la r v c l tn p pa m q b x h) 0 0 := by
  by_cases hw9 : i = qc 6 0
  · by_cases hp9 : 0 < z
    · skip
      refine J.lload dX7_duels_266 rfl ?_
      refine J.lconst 0 dX7_duels_268 (by decide) ?_
      refine J.lcmp dX7_duels_269 ?_
      refine J.if_le (tgt := 277) dX7_duels_270 (by decide) (fun c270 => absurd c270 (fun h9 => cmpN h9 (show (0 : Int64) < lI z from (lI_pos hz9).mpr hp9))) (fun c270 => ?_)
      refine J.iconst (1) dX7_duels_273 (by decide) ?_
      refine J.goto (tgt := 278) dX7_duels_274 (by decide) ?_
      refine J.istore dX7_duels_278 (by decide) rfl ?_
      try dsimp only [List.set]
      refine J.aload_n dX7_duels_280 rfl rfl ?_
      refine J.iload dX7_duels_281 rfl ?_
      refine J.aload_n dX7_duels_283 rfl rfl ?_
      refine J.mg26 dX7_duels_284 rfl ?_
      rw [hE.2.1]
      refine J.icmp_ne (tgt := 295) dX7_duels_287 (by decide) (fun c287 => absurd c287 (fun h9 => h9 (by rw [hw9] <;> rfl))) (fun c287 => ?_)
      refine J.iload dX7_duels_290 rfl ?_
      refine J.goto (tgt := 299) dX7_duels_292 (by decide) ?_
      refine J.mp32 dX7_duels_299 rfl (by decide) (by decide) ?_
      try dsimp only [List.set]
      refine J.aload_n dX7_duels_302 rfl rfl ?_
      refine J.mg30 dX7_duels_303 rfl ?_
      refine J.iload dX7_duels_306 rfl ?_
      refine J.iload dX7_duels_308 rfl ?_
      refine J.if_eq (tgt := 318) dX7_duels_310 (by decide) (fun c310 => absurd c310 (by decide)) (fun c310 => ?_)
      refine J.lload dX7_duels_313 rfl ?_
      refine J.goto (tgt := 319) dX7_duels_315 (by decide) ?_
      refine J.ms12 (i) dX7_duels_319 rfl (by have := p2_8 hM.2.2; omega) ?_
      try dsimp only [List.set]
      refine J.aload_n dX7_duels_320 rfl rfl ?_
      refine J.mg31 dX7_duels_321 rfl ?_
      refine J.iload dX7_duels_324 rfl ?_
      refine J.iload dX7_duels_326 rfl ?_
      refine J.if_eq (tgt := 336) dX7_duels_328 (by decide) (fun c328 => absurd c328 (by decide)) (fun c328 => ?_)
      refine J.lload dX7_duels_331 rfl ?_
      refine J.goto (tgt := 352) dX7_duels_333 (by decide) ?_
      refine J.ms13 (i) dX7_duels_352 rfl (by have := p2_8 hM.2.2; omega) ?_
      try dsimp only [List.set]
      refine J.iinc (1) dX7_duels_353 (by decide) rfl (by decide) rfl ?_
      try dsimp only [List.set]
      refine J.goto (tgt := 80) dX7_duels_356 (by decide) ?_
      have e9 : mdz qc m r ka kb n (K + 1) 0 i = z ∧ mdz qc m r ka kb n (K + 1) 1 i = y := by
        have e8 := mdz_s0 qc m r ka kb n K i hpK
        rw [hz, hy] at e8
        exact ⟨e8.1.trans (if_pos hp9), e8.2.trans (if_pos hp9)⟩
      refine J.at (ih9 1 (hset (hset h 1 i (lI z)) 2 i (lI (y))) ⟨hh.1, fun j hj => ?_, fun hj => ?_⟩ (by decide) _ _ _ _ _ _) (by rw [← nI_1 i] <;> rfl) rfl rfl
      · by_cases e : j = i
        · subst e
          rw [e9.1, e9.2]
          exact ⟨pk_uLs, pk_uLs⟩
        · exact ⟨(pk_uLn e).trans (hh.2.1 j (by omega)).1, (pk_uLn e).trans (hh.2.1 j (by omega)).2⟩
      · rw [show qc 6 0 = i from hw9.symm, e9.1]
        exact (jB_t _ hp9).symm
    · skip
      refine J.lload dX7_duels_266 rfl ?_
      refine J.lconst 0 dX7_duels_268 (by decide) ?_
      refine J.lcmp dX7_duels_269 ?_
      refine J.if_le (tgt := 277) dX7_duels_270 (by decide) (fun c270 => ?_) (fun c270 => absurd c270 (fun h9 => hp9 ((lI_pos hz9).mp (cmpP h9))))
      refine J.iconst (0) dX7_duels_277 (by decide) ?_
      refine J.istore dX7_duels_278 (by decide) rfl ?_
      try dsimp only [List.set]
      refine J.aload_n dX7_duels_280 rfl rfl ?_
      refine J.iload dX7_duels_281 rfl ?_
      refine J.aload_n dX7_duels_283 rfl rfl ?_
      refine J.mg26 dX7_duels_284 rfl ?_
      rw [hE.2.1]
      refine J.icmp_ne (tgt := 295) dX7_duels_287 (by decide) (fun c287 => absurd c287 (fun h9 => h9 (by rw [hw9] <;> rfl))) (fun c287 => ?_)
      refine J.iload dX7_duels_290 rfl ?_
      refine J.goto (tgt := 299) dX7_duels_292 (by decide) ?_
      refine J.mp32 dX7_duels_299 rfl (by decide) (by decide) ?_
      try dsimp only [List.set]
      refine J.aload_n dX7_duels_302 rfl rfl ?_
      refine J.mg30 dX7_duels_303 rfl ?_
      refine J.iload dX7_duels_306 rfl ?_
      refine J.iload dX7_duels_308 rfl ?_
      refine J.if_eq (tgt := 318) dX7_duels_310 (by decide) (fun c310 => ?_) (fun c310 => absurd c310 (fun h9 => h9 rfl))
      refine J.lconst 0 dX7_duels_318 (by decide) ?_
      refine J.ms12 (i) dX7_duels_319 rfl (by have := p2_8 hM.2.2; omega) ?_
      try dsimp only [List.set]
      refine J.aload_n dX7_duels_320 rfl rfl ?_
      refine J.mg31 dX7_duels_321 rfl ?_
      refine J.iload dX7_duels_324 rfl ?_
      refine J.iload dX7_duels_326 rfl ?_
      refine J.if_eq (tgt := 336) dX7_duels_328 (by decide) (fun c328 => ?_) (fun c328 => absurd c328 (fun h9 => h9 rfl))
      refine J.lload dX7_duels_336 rfl ?_
      refine J.aload_n dX7_duels_338 rfl rfl ?_
      refine J.mg25 dX7_duels_339 rfl ?_
      refine J.cs (as := [.int _]) (is := []) okX7_tens jcX7_232 (mX7_tens m (by have := hM.2.2; omega)) dX7_duels_342 rfl rfl rfl rfl rfl rfl (fun r9 B9 hq => ?_)
      obtain ⟨rfl, rfl⟩ := hq
      refine ⟨rfl, ?_⟩
      show J _ _ _ _ _ (.long _ :: _) (wM s la r v c l tn p pa m q 0 x (hset h 1 i 0)) _ _
      refine J.lmul dX7_duels_345 ?_
      refine J.aload_n dX7_duels_346 rfl rfl ?_
      refine J.cvM (as := []) s la r v c l tn p pa m q 0 x (hset h 1 i 0) okX7_prize jcX7_174 (mX7_prize s la r v c l tn p pa m q 0 x (hset h 1 i 0) hS) dX7_duels_347 rfl rfl rfl rfl (fun r9 B9 hq9 => ?_)
      obtain ⟨rfl, rfl⟩ := hq9
      refine ⟨_, _, _, _, _, _, _, _, _, _, _, _, _, _, rfl, ?_⟩
      show J _ _ _ _ _ (.int _ :: _) (wM s la r v c l tn p pa m q 0 x (hset h 1 i 0)) _ _
      refine J.i2l dX7_duels_350 ?_
      refine J.lmul dX7_duels_351 ?_
      rw [(show lN (10 ^ (m * K)) * lN (10 ^ m) * (nI (r 6 5)).toInt64 = lI ((10 ^ (m * K) : Nat) * (10 ^ m : Nat) * ((r 6 5 : Nat) : Int)) from by rw [nI_l (by have := hr.2.2.2.2.2.2.1; omega), lNZ, lNZ, lNZ, lI_mul, lI_mul])]
      refine J.ms13 (i) dX7_duels_352 rfl (by have := p2_8 hM.2.2; omega) ?_
      try dsimp only [List.set]
      refine J.iinc (1) dX7_duels_353 (by decide) rfl (by decide) rfl ?_
      try dsimp only [List.set]
      refine J.goto (tgt := 80) dX7_duels_356 (by decide) ?_
      have e9 : mdz qc m r ka kb n (K + 1) 0 i = 0 ∧ mdz qc m r ka kb n (K + 1) 1 i = (10 ^ (m * K) : Nat) * (10 ^ m : Nat) * ((r 6 5 : Nat) : Int) := by
        have e8 := mdz_s0 qc m r ka kb n K i hpK
        rw [hz, hy] at e8
        exact ⟨e8.1.trans (if_neg hp9), e8.2.trans (if_neg hp9)⟩
      refine J.at (ih9 0 (hset (hset h 1 i 0) 2 i (lI ((10 ^ (m * K) : Nat) * (10 ^ m : Nat) * ((r 6 5 : Nat) : Int)))) ⟨hh.1, fun j hj => ?_, fun hj => ?_⟩ (by decide) _ _ _ _ _ _) (by rw [← nI_1 i] <;> rfl) rfl rfl
      · by_cases e : j = i
        · subst e
          rw [e9.1, e9.2]
          exact ⟨pk_uLs, pk_uLs⟩
        · exact ⟨(pk_uLn e).trans (hh.2.1 j (by omega)).1, (pk_uLn e).trans (hh.2.1 j (by omega)).2⟩
      · rw [show qc 6 0 = i from hw9.symm, e9.1]
        exact (jB_f _ (by decide)).symm
  · by_cases hp9 : 0 < z
    · skip
      refine J.lload dX7_duels_266 rfl ?_
      refine J.lconst 0 dX7_duels_268 (by decide) ?_
      refine J.lcmp dX7_duels_269 ?_
      refine J.if_le (tgt := 277) dX7_duels_270 (by decide) (fun c270 => absurd c270 (fun h9 => cmpN h9 (show (0 : Int64) < lI z from (lI_pos hz9).mpr hp9))) (fun c270 => ?_)
      refine J.iconst (1) dX7_duels_273 (by decide) ?_
      refine J.goto (tgt := 278) dX7_duels_274 (by decide) ?_
      refine J.istore dX7_duels_278 (by decide) rfl ?_
      try dsimp only [List.set]
      refine J.aload_n dX7_duels_280 rfl rfl ?_
      refine J.iload dX7_duels_281 rfl ?_
      refine J.aload_n dX7_duels_283 rfl rfl ?_
      refine J.mg26 dX7_duels_284 rfl ?_
      rw [hE.2.1]
      refine J.icmp_ne (tgt := 295) dX7_duels_287 (by decide) (fun c287 => ?_) (fun c287 => absurd c287 (fun h9 => hw9 ((nI_eqi (by have := p2_8 hM.2.2; omega) (by have := hM.1.2.2.2; omega)).mp h9)))
      refine J.aload_n dX7_duels_295 rfl rfl ?_
      refine J.mg32 dX7_duels_296 rfl ?_
      refine J.mp32 dX7_duels_299 rfl hbz.1 hbz.2 ?_
      try dsimp only [List.set]
      refine J.aload_n dX7_duels_302 rfl rfl ?_
      refine J.mg30 dX7_duels_303 rfl ?_
      refine J.iload dX7_duels_306 rfl ?_
      refine J.iload dX7_duels_308 rfl ?_
      refine J.if_eq (tgt := 318) dX7_duels_310 (by decide) (fun c310 => absurd c310 (by decide)) (fun c310 => ?_)
      refine J.lload dX7_duels_313 rfl ?_
      refine J.goto (tgt := 319) dX7_duels_315 (by decide) ?_
      refine J.ms12 (i) dX7_duels_319 rfl (by have := p2_8 hM.2.2; omega) ?_
      try dsimp only [List.set]
      refine J.aload_n dX7_duels_320 rfl rfl ?_
      refine J.mg31 dX7_duels_321 rfl ?_
      refine J.iload dX7_duels_324 rfl ?_
      refine J.iload dX7_duels_326 rfl ?_
      refine J.if_eq (tgt := 336) dX7_duels_328 (by decide) (fun c328 => absurd c328 (by decide)) (fun c328 => ?_)
      refine J.lload dX7_duels_331 rfl ?_
      refine J.goto (tgt := 352) dX7_duels_333 (by decide) ?_
      refine J.ms13 (i) dX7_duels_352 rfl (by have := p2_8 hM.2.2; omega) ?_
      try dsimp only [List.set]
      refine J.iinc (1) dX7_duels_353 (by decide) rfl (by decide) rfl ?_
      try dsimp only [List.set]
      refine J.goto (tgt := 80) dX7_duels_356 (by decide) ?_
      have e9 : mdz qc m r ka kb n (K + 1) 0 i = z ∧ mdz qc m r ka kb n (K + 1) 1 i = y := by
        have e8 := mdz_s0 qc m r ka kb n K i hpK
        rw [hz, hy] at e8
        exact ⟨e8.1.trans (if_pos hp9), e8.2.trans (if_pos hp9)⟩
      refine J.at (ih9 b (hset (hset h 1 i (lI z)) 2 i (lI (y))) ⟨hh.1, fun j hj => ?_, fun hj => ?_⟩ hbz _ _ _ _ _ _) (by rw [← nI_1 i] <;> rfl) rfl rfl
      · by_cases e : j = i
        · subst e
          rw [e9.1, e9.2]
          exact ⟨pk_uLs, pk_uLs⟩
        · exact ⟨(pk_uLn e).trans (hh.2.1 j (by omega)).1, (pk_uLn e).trans (hh.2.1 j (by omega)).2⟩
      · exact hh.2.2 (by omega)
    · skip
      refine J.lload dX7_duels_266 rfl ?_
      refine J.lconst 0 dX7_duels_268 (by decide) ?_
      refine J.lcmp dX7_duels_269 ?_
      refine J.if_le (tgt := 277) dX7_duels_270 (by decide) (fun c270 => ?_) (fun c270 => absurd c270 (fun h9 => hp9 ((lI_pos hz9).mp (cmpP h9))))
      refine J.iconst (0) dX7_duels_277 (by decide) ?_
      refine J.istore dX7_duels_278 (by decide) rfl ?_
      try dsimp only [List.set]
      refine J.aload_n dX7_duels_280 rfl rfl ?_
      refine J.iload dX7_duels_281 rfl ?_
      refine J.aload_n dX7_duels_283 rfl rfl ?_
      refine J.mg26 dX7_duels_284 rfl ?_
      rw [hE.2.1]
      refine J.icmp_ne (tgt := 295) dX7_duels_287 (by decide) (fun c287 => ?_) (fun c287 => absurd c287 (fun h9 => hw9 ((nI_eqi (by have := p2_8 hM.2.2; omega) (by have := hM.1.2.2.2; omega)).mp h9)))
      refine J.aload_n dX7_duels_295 rfl rfl ?_
      refine J.mg32 dX7_duels_296 rfl ?_
      refine J.mp32 dX7_duels_299 rfl hbz.1 hbz.2 ?_
      try dsimp only [List.set]
      refine J.aload_n dX7_duels_302 rfl rfl ?_
      refine J.mg30 dX7_duels_303 rfl ?_
      refine J.iload dX7_duels_306 rfl ?_
      refine J.iload dX7_duels_308 rfl ?_
      refine J.if_eq (tgt := 318) dX7_duels_310 (by decide) (fun c310 => ?_) (fun c310 => absurd c310 (fun h9 => h9 rfl))
      refine J.lconst 0 dX7_duels_318 (by decide) ?_
      refine J.ms12 (i) dX7_duels_319 rfl (by have := p2_8 hM.2.2; omega) ?_
      try dsimp only [List.set]
      refine J.aload_n dX7_duels_320 rfl rfl ?_
      refine J.mg31 dX7_duels_321 rfl ?_
      refine J.iload dX7_duels_324 rfl ?_
      refine J.iload dX7_duels_326 rfl ?_
      refine J.if_eq (tgt := 336) dX7_duels_328 (by decide) (fun c328 => ?_) (fun c328 => absurd c328 (fun h9 => h9 rfl))
      refine J.lload dX7_duels_336 rfl ?_
      refine J.aload_n dX7_duels_338 rfl rfl ?_
      refine J.mg25 dX7_duels_339 rfl ?_
      refine J.cs (as := [.int _]) (is := []) okX7_tens jcX7_232 (mX7_tens m (by have := hM.2.2; omega)) dX7_duels_342 rfl rfl rfl rfl rfl rfl (fun r9 B9 hq => ?_)
      obtain ⟨rfl, rfl⟩ := hq
      refine ⟨rfl, ?_⟩
      show J _ _ _ _ _ (.long _ :: _) (wM s la r v c l tn p pa m q b x (hset h 1 i 0)) _ _
      refine J.lmul dX7_duels_345 ?_
      refine J.aload_n dX7_duels_346 rfl rfl ?_
      refine J.cvM (as := []) s la r v c l tn p pa m q b x (hset h 1 i 0) okX7_prize jcX7_174 (mX7_prize s la r v c l tn p pa m q b x (hset h 1 i 0) hS) dX7_duels_347 rfl rfl rfl rfl (fun r9 B9 hq9 => ?_)
      obtain ⟨rfl, rfl⟩ := hq9
      refine ⟨_, _, _, _, _, _, _, _, _, _, _, _, _, _, rfl, ?_⟩
      show J _ _ _ _ _ (.int _ :: _) (wM s la r v c l tn p pa m q b x (hset h 1 i 0)) _ _
      refine J.i2l dX7_duels_350 ?_
      refine J.lmul dX7_duels_351 ?_
      rw [(show lN (10 ^ (m * K)) * lN (10 ^ m) * (nI (r 6 5)).toInt64 = lI ((10 ^ (m * K) : Nat) * (10 ^ m : Nat) * ((r 6 5 : Nat) : Int)) from by rw [nI_l (by have := hr.2.2.2.2.2.2.1; omega), lNZ, lNZ, lNZ, lI_mul, lI_mul])]
      refine J.ms13 (i) dX7_duels_352 rfl (by have := p2_8 hM.2.2; omega) ?_
      try dsimp only [List.set]
      refine J.iinc (1) dX7_duels_353 (by decide) rfl (by decide) rfl ?_
      try dsimp only [List.set]
      refine J.goto (tgt := 80) dX7_duels_356 (by decide) ?_
      have e9 : mdz qc m r ka kb n (K + 1) 0 i = 0 ∧ mdz qc m r ka kb n (K + 1) 1 i = (10 ^ (m * K) : Nat) * (10 ^ m : Nat) * ((r 6 5 : Nat) : Int) := by
        have e8 := mdz_s0 qc m r ka kb n K i hpK
        rw [hz, hy] at e8
        exact ⟨e8.1.trans (if_neg hp9), e8.2.trans (if_neg hp9)⟩
      refine J.at (ih9 b (hset (hset h 1 i 0) 2 i (lI ((10 ^ (m * K) : Nat) * (10 ^ m : Nat) * ((r 6 5 : Nat) : Int)))) ⟨hh.1, fun j hj => ?_, fun hj => ?_⟩ hbz _ _ _ _ _ _) (by rw [← nI_1 i] <;> rfl) rfl rfl
      · by_cases e : j = i
        · subst e
          rw [e9.1, e9.2]
          exact ⟨pk_uLs, pk_uLs⟩
        · exact ⟨(pk_uLn e).trans (hh.2.1 j (by omega)).1, (pk_uLn e).trans (hh.2.1 j (by omega)).2⟩
      · exact hh.2.2 (by omega)
set_option maxRecDepth 100000 in
set_option maxHeartbeats 4000000 in
theorem mX7_duels0_s (s : Nat → Int32) (la : Nat → Int32) (r : rT) (v : vT) (c : Nat → Nat → Int32) (l : Nat → Int32) (tn : Int32) (p : Nat → Int32) (pa : Nat → Nat → Int32) (m : Nat) (q : rT) (x : Nat → Nat) (qc : rT) (hE : qE q qc m) (hM : mOK qc m) (ka kb n : Nat) (ha : ka < r 6 1) (hb : kb < r 6 1) (hn : n ≤ 5) (hS : mS s r) (hr : rOK r) (K t : Nat) (hK : K < n) (ht : t = n - 1 - K) (hp : t % 2 = 0) (hpK : (n - 1 - K) % 2 = 0) (hk9 : ∀ b : Int32, b = jB (0 < mdz qc m r ka kb n (K + 1) 0 (qc 6 0)) → (narrow .boolean (.int b) = .int b ∧ fits .boolean (.int b) = true) → ∀ h : Nat → Nat → Int64, (∀ j, j < 2 ^ m → h 3 j = lI (mdz qc m r ka kb n (K + 1) 0 j) ∧ h 4 j = lI (mdz qc m r ka kb n (K + 1) 1 j)) → ∀ z8 z9 z11 z13 z14 z16 z18 : Option Value, J KX7_duels 21 (fun o B => o = none ∧ ∃ h9, B = (wM s la r v c l tn p pa m q (jB (0 < mdz qc m r ka kb n n 0 (qc 6 0))) x h9) ∧ (∀ j, j < 2 ^ m → h9 3 j = lI (mdz qc m r ka kb n n 0 j)) ∧ ∀ j, j < 2 ^ m → h9 4 j = lI (mdz qc m r ka kb n n 1 j)) 441 [some (.ref 0), some (.int (nI ka)), some (.int (nI kb)), some (.int (nI n)), some (.int (nI t)), some (.int (nI ka)), some (.long (lN (10 ^ (m * K)))), none, z8, z9, none, z11, none, z13, z14, none, z16, none, z18, none] [] (wM s la r v c l tn p pa m q b x h) 0 0) : ∀ (k9 i : Nat), i + k9 = 2 ^ m → ∀ (b : Int32) (h : Nat → Nat → Int64), (((∀ j, j < 2 ^ m → h 3 j = lI (mdz qc m r ka kb n K 0 j)) ∧ ∀ j, j < 2 ^ m → h 4 j = lI (mdz qc m r ka kb n K 1 j)) ∧ (∀ j, j < i → h 1 j = lI (mdz qc m r ka kb n (K + 1) 0 j) ∧ h 2 j = lI (mdz qc m r ka kb n (K + 1) 1 j)) ∧ (qc 6 0 < i → b = jB (0 < mdz qc m r ka kb n (K + 1) 0 (qc 6 0)))) → (narrow .boolean (.int b) = .int b ∧ fits .boolean (.int b) = true) → ∀ (z9 z11 z13 z14 z16 z18 : Option Value), True → J KX7_duels 21 (fun o B => o = none ∧ ∃ h9, B = (wM s la r v c l tn p pa m q (jB (0 < mdz qc m r ka kb n n 0 (qc 6 0))) x h9) ∧ (∀ j, j < 2 ^ m → h9 3 j = lI (mdz qc m r ka kb n n 0 j)) ∧ ∀ j, j < 2 ^ m → h9 4 j = lI (mdz qc m r ka kb n n 1 j)) 80 [some (.ref 0), some (.int (nI ka)), some (.int (nI kb)), some (.int (nI n)), some (.int (nI t)), some (.int (nI ka)), some (.long (lN (10 ^ (m * K)))), none, some (.int (nI i)), z9, none, z11, none, z13, z14, none, z16, none, z18, none] [] (wM s la r v c l tn p pa m q b x h) 0 0 := by
  intro k9
  induction k9 with
  | zero =>
    intro i hi
    obtain hiN : i = 2 ^ m := by omega
    intro b h hh hbz z9 z11 z13 z14 z16 z18 _
    subst hiN
    refine J.iload dX7_duels_80 rfl ?_
    refine J.iconst (1) dX7_duels_82 (by decide) ?_
    refine J.aload_n dX7_duels_83 rfl rfl ?_
    refine J.mg25 dX7_duels_84 rfl ?_
    refine J.ishl dX7_duels_87 ?_
    rw [shl_eval m (by have := hM.2.2; omega)]
    refine J.icmp_ge (tgt := 359) dX7_duels_88 (by decide) (fun c88 => ?_) (fun c88 => absurd c88 (fun h => h (Int32.le_refl _)))
    refine J.iconst (0) dX7_duels_359 (by decide) ?_
    refine J.istore dX7_duels_360 (by decide) rfl ?_
    try dsimp only [List.set]
    exact J.at (mX7_duels0_c s la r v c l tn p pa m q b x qc hE hM ka kb n ha hb hn hS hr K t (by omega) hp z9 z11 z13 z14 z16 z18 (fun h9 hh9 z8 => hk9 b (hh.2.2 hM.2.1) hbz h9 hh9 z8 z9 z11 z13 z14 z16 z18) (2 ^ m) 0 (by omega) h ⟨fun j hj => absurd hj (Nat.not_lt_zero j), hh.2.1⟩) rfl rfl rfl
  | succ k9 ih =>
    intro i hi
    have hiN : i < 2 ^ m := by omega
    intro b h hh hbz z9 z11 z13 z14 z16 z18 _
    by_cases h0 : i = 0
    · skip
      refine J.iload dX7_duels_80 rfl ?_
      refine J.iconst (1) dX7_duels_82 (by decide) ?_
      refine J.aload_n dX7_duels_83 rfl rfl ?_
      refine J.mg25 dX7_duels_84 rfl ?_
      refine J.ishl dX7_duels_87 ?_
      rw [shl_eval m (by have := hM.2.2; omega)]
      refine J.icmp_ge (tgt := 359) dX7_duels_88 (by decide) (fun c88 => absurd c88 (nI_ge (by omega) (by have := p2_8 hM.2.2; omega))) (fun c88 => ?_)
      refine J.lconst 0 dX7_duels_91 (by decide) ?_
      refine J.lstore dX7_duels_92 (by decide) rfl ?_
      try dsimp only [List.set]
      refine J.lconst 0 dX7_duels_94 (by decide) ?_
      refine J.lstore dX7_duels_95 (by decide) rfl ?_
      try dsimp only [List.set]
      refine J.iconst (0) dX7_duels_97 (by decide) ?_
      refine J.istore dX7_duels_98 (by decide) rfl ?_
      try dsimp only [List.set]
      refine J.iload dX7_duels_100 rfl ?_
      refine J.iconst (1) dX7_duels_102 (by decide) ?_
      refine J.aload_n dX7_duels_103 rfl rfl ?_
      refine J.mg25 dX7_duels_104 rfl ?_
      refine J.ishl dX7_duels_107 ?_
      rw [shl_eval m (by have := hM.2.2; omega)]
      refine J.icmp_ge (tgt := 266) dX7_duels_108 (by decide) (fun c108 => absurd c108 (nI_ge (Nat.two_pow_pos m) (by have := p2_8 hM.2.2; omega))) (fun c108 => ?_)
      refine J.iload dX7_duels_111 rfl ?_
      refine J.if_eq (tgt := 266) dX7_duels_113 (by decide) (fun c113 => ?_) (fun c113 => absurd c113 (fun h9 => h9 (by rw [h0] <;> rfl)))
      exact J.at (mX7_duels0_w s la r v c l tn p pa m q b x h qc hE hM ka kb n ha hb hn hS hr K t i hpK hiN 0 0 (if_pos h0) (if_pos h0) (by decide) hh hbz (fun b9 h9 hh9 hb9 z9 z11 z13 z14 z16 z18 => ih (i + 1) (by omega) b9 h9 hh9 hb9 z9 z11 z13 z14 z16 z18 trivial) _ z14 z16 z18) (by rw [show lI 0 = 0 from rfl] <;> rfl) rfl rfl
    · skip
      refine J.iload dX7_duels_80 rfl ?_
      refine J.iconst (1) dX7_duels_82 (by decide) ?_
      refine J.aload_n dX7_duels_83 rfl rfl ?_
      refine J.mg25 dX7_duels_84 rfl ?_
      refine J.ishl dX7_duels_87 ?_
      rw [shl_eval m (by have := hM.2.2; omega)]
      refine J.icmp_ge (tgt := 359) dX7_duels_88 (by decide) (fun c88 => absurd c88 (nI_ge (by omega) (by have := p2_8 hM.2.2; omega))) (fun c88 => ?_)
      refine J.lconst 0 dX7_duels_91 (by decide) ?_
      refine J.lstore dX7_duels_92 (by decide) rfl ?_
      try dsimp only [List.set]
      refine J.lconst 0 dX7_duels_94 (by decide) ?_
      refine J.lstore dX7_duels_95 (by decide) rfl ?_
      try dsimp only [List.set]
      refine J.iconst (0) dX7_duels_97 (by decide) ?_
      refine J.istore dX7_duels_98 (by decide) rfl ?_
      try dsimp only [List.set]
      refine J.at (mX7_duels0_i s la r v c l tn p pa m q b x h qc hE hM ka kb n ha hb hn hS hr K t i hK ht hp hiN h0 hh.1 (fun z14 z16 z18 => ?_) (2 ^ m) 0 (by omega) z14 z16 z18) rfl rfl rfl
      exact mX7_duels0_w s la r v c l tn p pa m q b x h qc hE hM ka kb n ha hb hn hS hr K t i hpK hiN _ _ (by rw [mbS, if_neg h0, ht]) (by rw [mdS, if_neg h0, ht]) (by have h9 := mdb_le (qc := qc) hM.2.2 hr ka kb n (show K < 5 by omega) hiN 0 ka; rw [mbS, if_neg h0, ← ht] at h9; exact h9) hh hbz (fun b9 h9 hh9 hb9 z9 z11 z13 z14 z16 z18 => ih (i + 1) (by omega) b9 h9 hh9 hb9 z9 z11 z13 z14 z16 z18 trivial) _ z14 z16 z18
theorem mdz_s1 (qc : rT) (m : Nat) (r : rT) (ka kb n K s : Nat) (hp : (n - 1 - K) % 2 = 1) : mdz qc m r ka kb n (K + 1) 1 s = (if 0 < (mbS qc m (r 2 kb : Nat) (r 3 kb : Nat) n (mdz qc m r ka kb n K 1) K s) then (mbS qc m (r 2 kb : Nat) (r 3 kb : Nat) n (mdz qc m r ka kb n K 1) K s) else 0) ∧ mdz qc m r ka kb n (K + 1) 0 s = (if 0 < (mbS qc m (r 2 kb : Nat) (r 3 kb : Nat) n (mdz qc m r ka kb n K 1) K s) then (mdS qc m (r 6 5 : Nat) n (mdz qc m r ka kb n K 0) K s) else (10 ^ (m * K) : Nat) * (10 ^ m : Nat) * ((r 6 5 : Nat) : Int)) := by
  rw [mdz, mdz, hp]
  exact ⟨if_pos rfl, if_neg (by decide)⟩
set_option maxRecDepth 100000 in
set_option maxHeartbeats 4000000 in
theorem mX7_duels1_i (s : Nat → Int32) (la : Nat → Int32) (r : rT) (v : vT) (c : Nat → Nat → Int32) (l : Nat → Int32) (tn : Int32) (p : Nat → Int32) (pa : Nat → Nat → Int32) (m : Nat) (q : rT) (b : Int32) (x : Nat → Nat) (h : Nat → Nat → Int64) (qc : rT) (hE : qE q qc m) (hM : mOK qc m) (ka kb n : Nat) (ha : ka < r 6 1) (hb : kb < r 6 1) (hn : n ≤ 5) (hS : mS s r) (hr : rOK r) (K t u : Nat) (hK : K < n) (ht : t = n - 1 - K) (hp : t % 2 = 1) (hu : u < 2 ^ m) (hu0 : ¬ u = 0) (hh : ((∀ j, j < 2 ^ m → h 3 j = lI (mdz qc m r ka kb n K 0 j)) ∧ ∀ j, j < 2 ^ m → h 4 j = lI (mdz qc m r ka kb n K 1 j))) (hk9 : ∀ z14 z16 z18 : Option Value, J KX7_duels 21 (fun o B => o = none ∧ ∃ h9, B = (wM s la r v c l tn p pa m q (jB (0 < mdz qc m r ka kb n n 0 (qc 6 0))) x h9) ∧ (∀ j, j < 2 ^ m → h9 3 j = lI (mdz qc m r ka kb n n 0 j)) ∧ ∀ j, j < 2 ^ m → h9 4 j = lI (mdz qc m r ka kb n n 1 j)) 266 [some (.ref 0), some (.int (nI ka)), some (.int (nI kb)), some (.int (nI n)), some (.int (nI t)), some (.int (nI kb)), some (.long (lN (10 ^ (m * K)))), none, some (.int (nI u)), some (.long (lI (sZ (mbF (ten qc u t) m (10 ^ (m * K) : Nat) (r 2 kb : Nat) (r 3 kb : Nat) (mdz qc m r ka kb n K 1) u) (2 ^ m)))), none, some (.long (lI (sZ (mdF (ten qc u t) m (10 ^ (m * K) : Nat) (r 6 5 : Nat) (mdz qc m r ka kb n K 0) u) (2 ^ m)))), none, some (.int (nI (2 ^ m))), z14, none, z16, none, z18, none] [] (wM s la r v c l tn p pa m q b x h) 0 0) : ∀ (k9 i : Nat), i + k9 = 2 ^ m → ∀ (z14 z16 z18 : Option Value), J KX7_duels 21 (fun o B => o = none ∧ ∃ h9, B = (wM s la r v c l tn p pa m q (jB (0 < mdz qc m r ka kb n n 0 (qc 6 0))) x h9) ∧ (∀ j, j < 2 ^ m → h9 3 j = lI (mdz qc m r ka kb n n 0 j)) ∧ ∀ j, j < 2 ^ m → h9 4 j = lI (mdz qc m r ka kb n n 1 j)) 100 [some (.ref 0), some (.int (nI ka)), some (.int (nI kb)), some (.int (nI n)), some (.int (nI t)), some (.int (nI kb)), some (.long (lN (10 ^ (m * K)))), none, some (.int (nI u)), some (.long (lI (sZ (mbF (ten qc u t) m (10 ^ (m * K) : Nat) (r 2 kb : Nat) (r 3 kb : Nat) (mdz qc m r ka kb n K 1) u) i))), none, some (.long (lI (sZ (mdF (ten qc u t) m (10 ^ (m * K) : Nat) (r 6 5 : Nat) (mdz qc m r ka kb n K 0) u) i))), none, some (.int (nI i)), z14, none, z16, none, z18, none] [] (wM s la r v c l tn p pa m q b x h) 0 0 := by
  intro k9
  induction k9 with
  | zero =>
    intro i hi
    obtain hiN : i = 2 ^ m := by omega
    intro z14 z16 z18
    subst hiN
    refine J.iload dX7_duels_100 rfl ?_
    refine J.iconst (1) dX7_duels_102 (by decide) ?_
    refine J.aload_n dX7_duels_103 rfl rfl ?_
    refine J.mg25 dX7_duels_104 rfl ?_
    refine J.ishl dX7_duels_107 ?_
    rw [shl_eval m (by have := hM.2.2; omega)]
    refine J.icmp_ge (tgt := 266) dX7_duels_108 (by decide) (fun c108 => ?_) (fun c108 => absurd c108 (fun h => h (Int32.le_refl _)))
    exact hk9 _ _ _
  | succ k9 ih =>
    intro i hi
    have hiN : i < 2 ^ m := by omega
    intro z14 z16 z18
    by_cases h0 : i = 0
    · skip
      refine J.iload dX7_duels_100 rfl ?_
      refine J.iconst (1) dX7_duels_102 (by decide) ?_
      refine J.aload_n dX7_duels_103 rfl rfl ?_
      refine J.mg25 dX7_duels_104 rfl ?_
      refine J.ishl dX7_duels_107 ?_
      rw [shl_eval m (by have := hM.2.2; omega)]
      refine J.icmp_ge (tgt := 266) dX7_duels_108 (by decide) (fun c108 => absurd c108 (nI_ge (by omega) (by have := p2_8 hM.2.2; omega))) (fun c108 => ?_)
      refine J.iload dX7_duels_111 rfl ?_
      refine J.if_eq (tgt := 266) dX7_duels_113 (by decide) (fun c113 => absurd c113 (fun h9 => absurd ((nI_eqi (b := 0) (by have := p2_8 hM.2.2; omega) (by decide)).mp h9) (by omega))) (fun c113 => ?_)
      refine J.aload_n dX7_duels_116 rfl rfl ?_
      refine J.iload dX7_duels_117 rfl ?_
      refine J.iload dX7_duels_119 rfl ?_
      refine J.iload dX7_duels_121 rfl ?_
      refine J.cvM (as := [.int _, .int _, .int _]) s la r v c l tn p pa m q b x h okX7_wayOf jcX7_219 (mX7_wayOf s la r v c l tn p pa m q b x h qc hE hM u i t (by have := p2_8 hM.2.2; omega) (by have := p2_8 hM.2.2; omega) (by omega)) dX7_duels_123 rfl rfl rfl rfl (fun r9 B9 hq9 => ?_)
      obtain ⟨rfl, rfl⟩ := hq9
      refine ⟨_, _, _, _, _, _, _, _, _, _, _, _, _, _, rfl, ?_⟩
      show J _ _ _ _ _ (.long _ :: _) (wM s la r v c l tn p pa m q b x h) _ _
      refine J.lstore dX7_duels_126 (by decide) rfl ?_
      try dsimp only [List.set]
      refine J.iload dX7_duels_128 rfl ?_
      refine J.iconst (2) dX7_duels_130 (by decide) ?_
      refine J.irem dX7_duels_131 (by decide) ?_
      rw [rem2 (by omega), hp]
      refine J.if_ne (tgt := 145) dX7_duels_132 (by decide) (fun c132 => ?_) (fun c132 => absurd c132 (by decide))
      refine J.aload_n dX7_duels_145 rfl rfl ?_
      refine J.mg34 dX7_duels_146 rfl ?_
      refine J.iload dX7_duels_149 rfl ?_
      refine J.ml15 (i) dX7_duels_151 rfl (by have := p2_8 hM.2.2; omega) ?_
      rw [hh.2 i hiN]
      refine J.lstore dX7_duels_152 (by decide) rfl ?_
      try dsimp only [List.set]
      refine J.iload dX7_duels_154 rfl ?_
      refine J.iconst (2) dX7_duels_156 (by decide) ?_
      refine J.irem dX7_duels_157 (by decide) ?_
      rw [rem2 (by omega), hp]
      refine J.if_ne (tgt := 171) dX7_duels_158 (by decide) (fun c158 => ?_) (fun c158 => absurd c158 (by decide))
      refine J.aload_n dX7_duels_171 rfl rfl ?_
      refine J.mg33 dX7_duels_172 rfl ?_
      refine J.iload dX7_duels_175 rfl ?_
      refine J.ml14 (i) dX7_duels_177 rfl (by have := p2_8 hM.2.2; omega) ?_
      rw [hh.1 i hiN]
      refine J.lstore dX7_duels_178 (by decide) rfl ?_
      try dsimp only [List.set]
      refine J.lload dX7_duels_180 rfl ?_
      refine J.lload dX7_duels_182 rfl ?_
      refine J.iload dX7_duels_184 rfl ?_
      refine J.if_ne (tgt := 211) dX7_duels_186 (by decide) (fun c186 => absurd c186 (fun h9 => h9 (by rw [h0] <;> rfl))) (fun c186 => ?_)
      refine J.lload dX7_duels_189 rfl ?_
      refine J.lneg dX7_duels_191 ?_
      refine J.aload_n dX7_duels_192 rfl rfl ?_
      refine J.mg0 dX7_duels_193 rfl ?_
      refine J.bipush (10) dX7_duels_196 (by decide) ?_
      refine J.iconst (2) dX7_duels_198 (by decide) ?_
      refine J.iload dX7_duels_199 rfl ?_
      refine J.imul dX7_duels_201 ?_
      refine J.iadd dX7_duels_202 ?_
      refine J.iconst (1) dX7_duels_203 (by decide) ?_
      refine J.iadd dX7_duels_204 ?_
      refine J.ml1 (10 + 2 * kb + 1) dX7_duels_205 (ixk1 10 2 kb 1) (by have := hr.2.1; omega) ?_
      rw [(hS.2.2.1 kb hb).2]
      refine J.i2l dX7_duels_206 ?_
      refine J.lmul dX7_duels_207 ?_
      refine J.goto (tgt := 230) dX7_duels_208 (by decide) ?_
      refine J.lmul dX7_duels_230 ?_
      refine J.ladd dX7_duels_231 ?_
      have e9 : lI (sZ (mbF (ten qc u t) m (10 ^ (m * K) : Nat) (r 2 kb : Nat) (r 3 kb : Nat) (mdz qc m r ka kb n K 1) u) i) + lN (wy (ten qc u t) m u i) * (-lN (10 ^ (m * K)) * (nI (r 3 kb)).toInt64) = lI (sZ (mbF (ten qc u t) m (10 ^ (m * K) : Nat) (r 2 kb : Nat) (r 3 kb : Nat) (mdz qc m r ka kb n K 1) u) (i + 1)) := by
        rw [show sZ (mbF (ten qc u t) m (10 ^ (m * K) : Nat) (r 2 kb : Nat) (r 3 kb : Nat) (mdz qc m r ka kb n K 1) u) (i + 1) = sZ (mbF (ten qc u t) m (10 ^ (m * K) : Nat) (r 2 kb : Nat) (r 3 kb : Nat) (mdz qc m r ka kb n K 1) u) i + (mbF (ten qc u t) m (10 ^ (m * K) : Nat) (r 2 kb : Nat) (r 3 kb : Nat) (mdz qc m r ka kb n K 1) u) i from rfl, show (mbF (ten qc u t) m (10 ^ (m * K) : Nat) (r 2 kb : Nat) (r 3 kb : Nat) (mdz qc m r ka kb n K 1) u) i = (wy (ten qc u t) m u i : Int) * _ from congrArg (fun z => (wy (ten qc u t) m u i : Int) * z) (if_pos h0), nI_l (show r 3 kb < 2 ^ 31 by have := hr.2.2.2.2.2.2.2.2.2.2.2.1 kb; omega)]
        simp only [lNZ, lI_neg, lI_mul, lI_add]
      rw [e9]
      refine J.lstore dX7_duels_232 (by decide) rfl ?_
      try dsimp only [List.set]
      refine J.lload dX7_duels_234 rfl ?_
      refine J.lload dX7_duels_236 rfl ?_
      refine J.iload dX7_duels_238 rfl ?_
      refine J.if_ne (tgt := 254) dX7_duels_240 (by decide) (fun c240 => absurd c240 (fun h9 => h9 (by rw [h0] <;> rfl))) (fun c240 => ?_)
      refine J.lload dX7_duels_243 rfl ?_
      refine J.aload_n dX7_duels_245 rfl rfl ?_
      refine J.cvM (as := []) s la r v c l tn p pa m q b x h okX7_prize jcX7_174 (mX7_prize s la r v c l tn p pa m q b x h hS) dX7_duels_246 rfl rfl rfl rfl (fun r9 B9 hq9 => ?_)
      obtain ⟨rfl, rfl⟩ := hq9
      refine ⟨_, _, _, _, _, _, _, _, _, _, _, _, _, _, rfl, ?_⟩
      show J _ _ _ _ _ (.int _ :: _) (wM s la r v c l tn p pa m q b x h) _ _
      refine J.i2l dX7_duels_249 ?_
      refine J.lmul dX7_duels_250 ?_
      refine J.goto (tgt := 256) dX7_duels_251 (by decide) ?_
      refine J.lmul dX7_duels_256 ?_
      refine J.ladd dX7_duels_257 ?_
      have e8 : lI (sZ (mdF (ten qc u t) m (10 ^ (m * K) : Nat) (r 6 5 : Nat) (mdz qc m r ka kb n K 0) u) i) + lN (wy (ten qc u t) m u i) * (lN (10 ^ (m * K)) * (nI (r 6 5)).toInt64) = lI (sZ (mdF (ten qc u t) m (10 ^ (m * K) : Nat) (r 6 5 : Nat) (mdz qc m r ka kb n K 0) u) (i + 1)) := by
        rw [show sZ (mdF (ten qc u t) m (10 ^ (m * K) : Nat) (r 6 5 : Nat) (mdz qc m r ka kb n K 0) u) (i + 1) = sZ (mdF (ten qc u t) m (10 ^ (m * K) : Nat) (r 6 5 : Nat) (mdz qc m r ka kb n K 0) u) i + (mdF (ten qc u t) m (10 ^ (m * K) : Nat) (r 6 5 : Nat) (mdz qc m r ka kb n K 0) u) i from rfl, show (mdF (ten qc u t) m (10 ^ (m * K) : Nat) (r 6 5 : Nat) (mdz qc m r ka kb n K 0) u) i = (wy (ten qc u t) m u i : Int) * _ from congrArg (fun z => (wy (ten qc u t) m u i : Int) * z) (if_pos h0), nI_l (show r 6 5 < 2 ^ 31 by have := hr.2.2.2.2.2.2.1; omega)]
        simp only [lNZ, lI_mul, lI_add]
      rw [e8]
      refine J.lstore dX7_duels_258 (by decide) rfl ?_
      try dsimp only [List.set]
      refine J.iinc (1) dX7_duels_260 (by decide) rfl (by decide) rfl ?_
      try dsimp only [List.set]
      refine J.goto (tgt := 100) dX7_duels_263 (by decide) ?_
      exact J.at (ih (i + 1) (by omega) _ _ _) (by rw [← nI_1 i] <;> rfl) rfl rfl
    · skip
      refine J.iload dX7_duels_100 rfl ?_
      refine J.iconst (1) dX7_duels_102 (by decide) ?_
      refine J.aload_n dX7_duels_103 rfl rfl ?_
      refine J.mg25 dX7_duels_104 rfl ?_
      refine J.ishl dX7_duels_107 ?_
      rw [shl_eval m (by have := hM.2.2; omega)]
      refine J.icmp_ge (tgt := 266) dX7_duels_108 (by decide) (fun c108 => absurd c108 (nI_ge (by omega) (by have := p2_8 hM.2.2; omega))) (fun c108 => ?_)
      refine J.iload dX7_duels_111 rfl ?_
      refine J.if_eq (tgt := 266) dX7_duels_113 (by decide) (fun c113 => absurd c113 (fun h9 => absurd ((nI_eqi (b := 0) (by have := p2_8 hM.2.2; omega) (by decide)).mp h9) (by omega))) (fun c113 => ?_)
      refine J.aload_n dX7_duels_116 rfl rfl ?_
      refine J.iload dX7_duels_117 rfl ?_
      refine J.iload dX7_duels_119 rfl ?_
      refine J.iload dX7_duels_121 rfl ?_
      refine J.cvM (as := [.int _, .int _, .int _]) s la r v c l tn p pa m q b x h okX7_wayOf jcX7_219 (mX7_wayOf s la r v c l tn p pa m q b x h qc hE hM u i t (by have := p2_8 hM.2.2; omega) (by have := p2_8 hM.2.2; omega) (by omega)) dX7_duels_123 rfl rfl rfl rfl (fun r9 B9 hq9 => ?_)
      obtain ⟨rfl, rfl⟩ := hq9
      refine ⟨_, _, _, _, _, _, _, _, _, _, _, _, _, _, rfl, ?_⟩
      show J _ _ _ _ _ (.long _ :: _) (wM s la r v c l tn p pa m q b x h) _ _
      refine J.lstore dX7_duels_126 (by decide) rfl ?_
      try dsimp only [List.set]
      refine J.iload dX7_duels_128 rfl ?_
      refine J.iconst (2) dX7_duels_130 (by decide) ?_
      refine J.irem dX7_duels_131 (by decide) ?_
      rw [rem2 (by omega), hp]
      refine J.if_ne (tgt := 145) dX7_duels_132 (by decide) (fun c132 => ?_) (fun c132 => absurd c132 (by decide))
      refine J.aload_n dX7_duels_145 rfl rfl ?_
      refine J.mg34 dX7_duels_146 rfl ?_
      refine J.iload dX7_duels_149 rfl ?_
      refine J.ml15 (i) dX7_duels_151 rfl (by have := p2_8 hM.2.2; omega) ?_
      rw [hh.2 i hiN]
      refine J.lstore dX7_duels_152 (by decide) rfl ?_
      try dsimp only [List.set]
      refine J.iload dX7_duels_154 rfl ?_
      refine J.iconst (2) dX7_duels_156 (by decide) ?_
      refine J.irem dX7_duels_157 (by decide) ?_
      rw [rem2 (by omega), hp]
      refine J.if_ne (tgt := 171) dX7_duels_158 (by decide) (fun c158 => ?_) (fun c158 => absurd c158 (by decide))
      refine J.aload_n dX7_duels_171 rfl rfl ?_
      refine J.mg33 dX7_duels_172 rfl ?_
      refine J.iload dX7_duels_175 rfl ?_
      refine J.ml14 (i) dX7_duels_177 rfl (by have := p2_8 hM.2.2; omega) ?_
      rw [hh.1 i hiN]
      refine J.lstore dX7_duels_178 (by decide) rfl ?_
      try dsimp only [List.set]
      refine J.lload dX7_duels_180 rfl ?_
      refine J.lload dX7_duels_182 rfl ?_
      refine J.iload dX7_duels_184 rfl ?_
      refine J.if_ne (tgt := 211) dX7_duels_186 (by decide) (fun c186 => ?_) (fun c186 => absurd c186 (fun h9 => h0 ((nI_eqi (b := 0) (by have := p2_8 hM.2.2; omega) (by decide)).mp h9)))
      refine J.lload dX7_duels_211 rfl ?_
      refine J.aload_n dX7_duels_213 rfl rfl ?_
      refine J.mg0 dX7_duels_214 rfl ?_
      refine J.bipush (10) dX7_duels_217 (by decide) ?_
      refine J.iconst (2) dX7_duels_219 (by decide) ?_
      refine J.iload dX7_duels_220 rfl ?_
      refine J.imul dX7_duels_222 ?_
      refine J.iadd dX7_duels_223 ?_
      refine J.ml1 (10 + 2 * kb) dX7_duels_224 (ixk 10 2 kb) (by have := hr.2.1; omega) ?_
      rw [(hS.2.2.1 kb hb).1]
      refine J.i2l dX7_duels_225 ?_
      refine J.lmul dX7_duels_226 ?_
      refine J.lload dX7_duels_227 rfl ?_
      refine J.ladd dX7_duels_229 ?_
      refine J.lmul dX7_duels_230 ?_
      refine J.ladd dX7_duels_231 ?_
      have e9 : lI (sZ (mbF (ten qc u t) m (10 ^ (m * K) : Nat) (r 2 kb : Nat) (r 3 kb : Nat) (mdz qc m r ka kb n K 1) u) i) + lN (wy (ten qc u t) m u i) * (lN (10 ^ (m * K)) * (nI (r 2 kb)).toInt64 + lI (mdz qc m r ka kb n K 1 i)) = lI (sZ (mbF (ten qc u t) m (10 ^ (m * K) : Nat) (r 2 kb : Nat) (r 3 kb : Nat) (mdz qc m r ka kb n K 1) u) (i + 1)) := by
        rw [show sZ (mbF (ten qc u t) m (10 ^ (m * K) : Nat) (r 2 kb : Nat) (r 3 kb : Nat) (mdz qc m r ka kb n K 1) u) (i + 1) = sZ (mbF (ten qc u t) m (10 ^ (m * K) : Nat) (r 2 kb : Nat) (r 3 kb : Nat) (mdz qc m r ka kb n K 1) u) i + (mbF (ten qc u t) m (10 ^ (m * K) : Nat) (r 2 kb : Nat) (r 3 kb : Nat) (mdz qc m r ka kb n K 1) u) i from rfl, show (mbF (ten qc u t) m (10 ^ (m * K) : Nat) (r 2 kb : Nat) (r 3 kb : Nat) (mdz qc m r ka kb n K 1) u) i = (wy (ten qc u t) m u i : Int) * _ from congrArg (fun z => (wy (ten qc u t) m u i : Int) * z) (if_neg h0), nI_l (show r 2 kb < 2 ^ 31 by have := hr.2.2.2.2.2.2.2.2.2.2.1 kb; omega)]
        simp only [lNZ, lI_neg, lI_mul, lI_add]
      rw [e9]
      refine J.lstore dX7_duels_232 (by decide) rfl ?_
      try dsimp only [List.set]
      refine J.lload dX7_duels_234 rfl ?_
      refine J.lload dX7_duels_236 rfl ?_
      refine J.iload dX7_duels_238 rfl ?_
      refine J.if_ne (tgt := 254) dX7_duels_240 (by decide) (fun c240 => ?_) (fun c240 => absurd c240 (fun h9 => h0 ((nI_eqi (b := 0) (by have := p2_8 hM.2.2; omega) (by decide)).mp h9)))
      refine J.lload dX7_duels_254 rfl ?_
      refine J.lmul dX7_duels_256 ?_
      refine J.ladd dX7_duels_257 ?_
      have e8 : lI (sZ (mdF (ten qc u t) m (10 ^ (m * K) : Nat) (r 6 5 : Nat) (mdz qc m r ka kb n K 0) u) i) + lN (wy (ten qc u t) m u i) * (lI (mdz qc m r ka kb n K 0 i)) = lI (sZ (mdF (ten qc u t) m (10 ^ (m * K) : Nat) (r 6 5 : Nat) (mdz qc m r ka kb n K 0) u) (i + 1)) := by
        rw [show sZ (mdF (ten qc u t) m (10 ^ (m * K) : Nat) (r 6 5 : Nat) (mdz qc m r ka kb n K 0) u) (i + 1) = sZ (mdF (ten qc u t) m (10 ^ (m * K) : Nat) (r 6 5 : Nat) (mdz qc m r ka kb n K 0) u) i + (mdF (ten qc u t) m (10 ^ (m * K) : Nat) (r 6 5 : Nat) (mdz qc m r ka kb n K 0) u) i from rfl, show (mdF (ten qc u t) m (10 ^ (m * K) : Nat) (r 6 5 : Nat) (mdz qc m r ka kb n K 0) u) i = (wy (ten qc u t) m u i : Int) * _ from congrArg (fun z => (wy (ten qc u t) m u i : Int) * z) (if_neg h0)]
        simp only [lNZ, lI_mul, lI_add]
      rw [e8]
      refine J.lstore dX7_duels_258 (by decide) rfl ?_
      try dsimp only [List.set]
      refine J.iinc (1) dX7_duels_260 (by decide) rfl (by decide) rfl ?_
      try dsimp only [List.set]
      refine J.goto (tgt := 100) dX7_duels_263 (by decide) ?_
      exact J.at (ih (i + 1) (by omega) _ _ _) (by rw [← nI_1 i] <;> rfl) rfl rfl
set_option maxRecDepth 100000 in
set_option maxHeartbeats 4000000 in
theorem mX7_duels1_c (s : Nat → Int32) (la : Nat → Int32) (r : rT) (v : vT) (c : Nat → Nat → Int32) (l : Nat → Int32) (tn : Int32) (p : Nat → Int32) (pa : Nat → Nat → Int32) (m : Nat) (q : rT) (b : Int32) (x : Nat → Nat) (qc : rT) (hE : qE q qc m) (hM : mOK qc m) (ka kb n : Nat) (ha : ka < r 6 1) (hb : kb < r 6 1) (hn : n ≤ 5) (hS : mS s r) (hr : rOK r) (K t : Nat) (ht9 : t < 1000) (hp : t % 2 = 1) (z9 z11 z13 z14 z16 z18 : Option Value) (hk9 : ∀ h : Nat → Nat → Int64, (∀ j, j < 2 ^ m → h 3 j = lI (mdz qc m r ka kb n (K + 1) 0 j) ∧ h 4 j = lI (mdz qc m r ka kb n (K + 1) 1 j)) → ∀ z8 : Option Value, J KX7_duels 21 (fun o B => o = none ∧ ∃ h9, B = (wM s la r v c l tn p pa m q (jB (0 < mdz qc m r ka kb n n 0 (qc 6 0))) x h9) ∧ (∀ j, j < 2 ^ m → h9 3 j = lI (mdz qc m r ka kb n n 0 j)) ∧ ∀ j, j < 2 ^ m → h9 4 j = lI (mdz qc m r ka kb n n 1 j)) 441 [some (.ref 0), some (.int (nI ka)), some (.int (nI kb)), some (.int (nI n)), some (.int (nI t)), some (.int (nI kb)), some (.long (lN (10 ^ (m * K)))), none, z8, z9, none, z11, none, z13, z14, none, z16, none, z18, none] [] (wM s la r v c l tn p pa m q b x h) 0 0) : ∀ (k9 i : Nat), i + k9 = 2 ^ m → ∀ (h : Nat → Nat → Int64), ((∀ j, j < i → h 3 j = lI (mdz qc m r ka kb n (K + 1) 0 j) ∧ h 4 j = lI (mdz qc m r ka kb n (K + 1) 1 j)) ∧ ∀ j, j < 2 ^ m → h 1 j = lI (mdz qc m r ka kb n (K + 1) 1 j) ∧ h 2 j = lI (mdz qc m r ka kb n (K + 1) 0 j)) → J KX7_duels 21 (fun o B => o = none ∧ ∃ h9, B = (wM s la r v c l tn p pa m q (jB (0 < mdz qc m r ka kb n n 0 (qc 6 0))) x h9) ∧ (∀ j, j < 2 ^ m → h9 3 j = lI (mdz qc m r ka kb n n 0 j)) ∧ ∀ j, j < 2 ^ m → h9 4 j = lI (mdz qc m r ka kb n n 1 j)) 362 [some (.ref 0), some (.int (nI ka)), some (.int (nI kb)), some (.int (nI n)), some (.int (nI t)), some (.int (nI kb)), some (.long (lN (10 ^ (m * K)))), none, some (.int (nI i)), z9, none, z11, none, z13, z14, none, z16, none, z18, none] [] (wM s la r v c l tn p pa m q b x h) 0 0 := by
  intro k9
  induction k9 with
  | zero =>
    intro i hi
    obtain hiN : i = 2 ^ m := by omega
    intro h hh
    subst hiN
    refine J.iload dX7_duels_362 rfl ?_
    refine J.iconst (1) dX7_duels_364 (by decide) ?_
    refine J.aload_n dX7_duels_365 rfl rfl ?_
    refine J.mg25 dX7_duels_366 rfl ?_
    refine J.ishl dX7_duels_369 ?_
    rw [shl_eval m (by have := hM.2.2; omega)]
    refine J.icmp_ge (tgt := 441) dX7_duels_370 (by decide) (fun c370 => ?_) (fun c370 => absurd c370 (fun h => h (Int32.le_refl _)))
    exact hk9 _ hh.1 _
  | succ k9 ih =>
    intro i hi
    have hiN : i < 2 ^ m := by omega
    intro h hh
    refine J.iload dX7_duels_362 rfl ?_
    refine J.iconst (1) dX7_duels_364 (by decide) ?_
    refine J.aload_n dX7_duels_365 rfl rfl ?_
    refine J.mg25 dX7_duels_366 rfl ?_
    refine J.ishl dX7_duels_369 ?_
    rw [shl_eval m (by have := hM.2.2; omega)]
    refine J.icmp_ge (tgt := 441) dX7_duels_370 (by decide) (fun c370 => absurd c370 (nI_ge (by omega) (by have := p2_8 hM.2.2; omega))) (fun c370 => ?_)
    refine J.aload_n dX7_duels_373 rfl rfl ?_
    refine J.mg33 dX7_duels_374 rfl ?_
    refine J.iload dX7_duels_377 rfl ?_
    refine J.iload dX7_duels_379 rfl ?_
    refine J.iconst (2) dX7_duels_381 (by decide) ?_
    refine J.irem dX7_duels_382 (by decide) ?_
    rw [rem2 (by omega), hp]
    refine J.if_ne (tgt := 396) dX7_duels_383 (by decide) (fun c383 => ?_) (fun c383 => absurd c383 (by decide))
    refine J.aload_n dX7_duels_396 rfl rfl ?_
    refine J.mg31 dX7_duels_397 rfl ?_
    refine J.iload dX7_duels_400 rfl ?_
    refine J.ml13 (i) dX7_duels_402 rfl (by have := p2_8 hM.2.2; omega) ?_
    rw [(hh.2 i hiN).2]
    refine J.ms14 (i) dX7_duels_403 rfl (by have := p2_8 hM.2.2; omega) ?_
    try dsimp only [List.set]
    refine J.aload_n dX7_duels_404 rfl rfl ?_
    refine J.mg34 dX7_duels_405 rfl ?_
    refine J.iload dX7_duels_408 rfl ?_
    refine J.iload dX7_duels_410 rfl ?_
    refine J.iconst (2) dX7_duels_412 (by decide) ?_
    refine J.irem dX7_duels_413 (by decide) ?_
    rw [rem2 (by omega), hp]
    refine J.if_ne (tgt := 427) dX7_duels_414 (by decide) (fun c414 => ?_) (fun c414 => absurd c414 (by decide))
    refine J.aload_n dX7_duels_427 rfl rfl ?_
    refine J.mg30 dX7_duels_428 rfl ?_
    refine J.iload dX7_duels_431 rfl ?_
    refine J.ml12 (i) dX7_duels_433 rfl (by have := p2_8 hM.2.2; omega) ?_
    rw [show hset h 3 i _ 1 i = h 1 i from rfl, (hh.2 i hiN).1]
    refine J.ms15 (i) dX7_duels_434 rfl (by have := p2_8 hM.2.2; omega) ?_
    try dsimp only [List.set]
    refine J.iinc (1) dX7_duels_435 (by decide) rfl (by decide) rfl ?_
    try dsimp only [List.set]
    refine J.goto (tgt := 362) dX7_duels_438 (by decide) ?_
    refine J.at (ih (i + 1) (by omega) (hset (hset h 3 i (lI (mdz qc m r ka kb n (K + 1) 0 i))) 4 i (lI (mdz qc m r ka kb n (K + 1) 1 i))) ⟨fun j hj => ?_, fun j hj => hh.2 j hj⟩) (by rw [← nI_1 i] <;> rfl) rfl rfl
    by_cases e : j = i
    · subst e; exact ⟨pk_uLs, pk_uLs⟩
    · exact ⟨(pk_uLn e).trans (hh.1 j (by omega)).1, (pk_uLn e).trans (hh.1 j (by omega)).2⟩
set_option maxRecDepth 100000 in
set_option maxHeartbeats 4000000 in
theorem mX7_duels1_w (s : Nat → Int32) (la : Nat → Int32) (r : rT) (v : vT) (c : Nat → Nat → Int32) (l : Nat → Int32) (tn : Int32) (p : Nat → Int32) (pa : Nat → Nat → Int32) (m : Nat) (q : rT) (b : Int32) (x : Nat → Nat) (h : Nat → Nat → Int64) (qc : rT) (hE : qE q qc m) (hM : mOK qc m) (ka kb n : Nat) (ha : ka < r 6 1) (hb : kb < r 6 1) (hn : n ≤ 5) (hS : mS s r) (hr : rOK r) (K t i : Nat) (hpK : (n - 1 - K) % 2 = 1) (hi : i < 2 ^ m) (z y : Int) (hz : (mbS qc m (r 2 kb : Nat) (r 3 kb : Nat) n (mdz qc m r ka kb n K 1) K i) = z) (hy : (mdS qc m (r 6 5 : Nat) n (mdz qc m r ka kb n K 0) K i) = y) (hz9 : z.natAbs ≤ 1000000000000000000) (hh : (((∀ j, j < 2 ^ m → h 3 j = lI (mdz qc m r ka kb n K 0 j)) ∧ ∀ j, j < 2 ^ m → h 4 j = lI (mdz qc m r ka kb n K 1 j)) ∧ (∀ j, j < i → h 1 j = lI (mdz qc m r ka kb n (K + 1) 1 j) ∧ h 2 j = lI (mdz qc m r ka kb n (K + 1) 0 j)) ∧ (qc 6 0 < i → b = jB (0 < mdz qc m r ka kb n (K + 1) 1 (qc 6 0))))) (hbz : (narrow .boolean (.int b) = .int b ∧ fits .boolean (.int b) = true)) (ih9 : ∀ (b : Int32) (h : Nat → Nat → Int64), (((∀ j, j < 2 ^ m → h 3 j = lI (mdz qc m r ka kb n K 0 j)) ∧ ∀ j, j < 2 ^ m → h 4 j = lI (mdz qc m r ka kb n K 1 j)) ∧ (∀ j, j < i + 1 → h 1 j = lI (mdz qc m r ka kb n (K + 1) 1 j) ∧ h 2 j = lI (mdz qc m r ka kb n (K + 1) 0 j)) ∧ (qc 6 0 < i + 1 → b = jB (0 < mdz qc m r ka kb n (K + 1) 1 (qc 6 0)))) → (narrow .boolean (.int b) = .int b ∧ fits .boolean (.int b) = true) → ∀ (z9 z11 z13 z14 z16 z18 : Option Value), J KX7_duels 21 (fun o B => o = none ∧ ∃ h9, B = (wM s la r v c l tn p pa m q (jB (0 < mdz qc m r ka kb n n 0 (qc 6 0))) x h9) ∧ (∀ j, j < 2 ^ m → h9 3 j = lI (mdz qc m r ka kb n n 0 j)) ∧ ∀ j, j < 2 ^ m → h9 4 j = lI (mdz qc m r ka kb n n 1 j)) 80 [some (.ref 0), some (.int (nI ka)), some (.int (nI kb)), some (.int (nI n)), some (.int (nI t)), some (.int (nI kb)), some (.long (lN (10 ^ (m * K)))), none, some (.int (nI (i + 1))), z9, none, z11, none, z13, z14, none, z16, none, z18, none] [] (wM s la r v c l tn p pa m q b x h) 0 0) (z13 z14 z16 z18 : Option Value) : J KX7_duels 21 (fun o B => o = none ∧ ∃ h9, B = (wM s la r v c l tn p pa m q (jB (0 < mdz qc m r ka kb n n 0 (qc 6 0))) x h9) ∧ (∀ j, j < 2 ^ m → h9 3 j = lI (mdz qc m r ka kb n n 0 j)) ∧ ∀ j, j < 2 ^ m → h9 4 j = lI (mdz qc m r ka kb n n 1 j)) 266 [some (.ref 0), some (.int (nI ka)), some (.int (nI kb)), some (.int (nI n)), some (.int (nI t)), some (.int (nI kb)), some (.long (lN (10 ^ (m * K)))), none, some (.int (nI i)), some (.long (lI z)), none, some (.long (lI y)), none, z13, z14, none, z16, none, z18, none] [] (wM s la r v c l tn p pa m q b x h) 0 0 := by
  by_cases hw9 : i = qc 6 0
  · by_cases hp9 : 0 < z
    · skip
      refine J.lload dX7_duels_266 rfl ?_
      refine J.lconst 0 dX7_duels_268 (by decide) ?_
      refine J.lcmp dX7_duels_269 ?_
      refine J.if_le (tgt := 277) dX7_duels_270 (by decide) (fun c270 => absurd c270 (fun h9 => cmpN h9 (show (0 : Int64) < lI z from (lI_pos hz9).mpr hp9))) (fun c270 => ?_)
      refine J.iconst (1) dX7_duels_273 (by decide) ?_
      refine J.goto (tgt := 278) dX7_duels_274 (by decide) ?_
      refine J.istore dX7_duels_278 (by decide) rfl ?_
      try dsimp only [List.set]
      refine J.aload_n dX7_duels_280 rfl rfl ?_
      refine J.iload dX7_duels_281 rfl ?_
      refine J.aload_n dX7_duels_283 rfl rfl ?_
      refine J.mg26 dX7_duels_284 rfl ?_
      rw [hE.2.1]
      refine J.icmp_ne (tgt := 295) dX7_duels_287 (by decide) (fun c287 => absurd c287 (fun h9 => h9 (by rw [hw9] <;> rfl))) (fun c287 => ?_)
      refine J.iload dX7_duels_290 rfl ?_
      refine J.goto (tgt := 299) dX7_duels_292 (by decide) ?_
      refine J.mp32 dX7_duels_299 rfl (by decide) (by decide) ?_
      try dsimp only [List.set]
      refine J.aload_n dX7_duels_302 rfl rfl ?_
      refine J.mg30 dX7_duels_303 rfl ?_
      refine J.iload dX7_duels_306 rfl ?_
      refine J.iload dX7_duels_308 rfl ?_
      refine J.if_eq (tgt := 318) dX7_duels_310 (by decide) (fun c310 => absurd c310 (by decide)) (fun c310 => ?_)
      refine J.lload dX7_duels_313 rfl ?_
      refine J.goto (tgt := 319) dX7_duels_315 (by decide) ?_
      refine J.ms12 (i) dX7_duels_319 rfl (by have := p2_8 hM.2.2; omega) ?_
      try dsimp only [List.set]
      refine J.aload_n dX7_duels_320 rfl rfl ?_
      refine J.mg31 dX7_duels_321 rfl ?_
      refine J.iload dX7_duels_324 rfl ?_
      refine J.iload dX7_duels_326 rfl ?_
      refine J.if_eq (tgt := 336) dX7_duels_328 (by decide) (fun c328 => absurd c328 (by decide)) (fun c328 => ?_)
      refine J.lload dX7_duels_331 rfl ?_
      refine J.goto (tgt := 352) dX7_duels_333 (by decide) ?_
      refine J.ms13 (i) dX7_duels_352 rfl (by have := p2_8 hM.2.2; omega) ?_
      try dsimp only [List.set]
      refine J.iinc (1) dX7_duels_353 (by decide) rfl (by decide) rfl ?_
      try dsimp only [List.set]
      refine J.goto (tgt := 80) dX7_duels_356 (by decide) ?_
      have e9 : mdz qc m r ka kb n (K + 1) 1 i = z ∧ mdz qc m r ka kb n (K + 1) 0 i = y := by
        have e8 := mdz_s1 qc m r ka kb n K i hpK
        rw [hz, hy] at e8
        exact ⟨e8.1.trans (if_pos hp9), e8.2.trans (if_pos hp9)⟩
      refine J.at (ih9 1 (hset (hset h 1 i (lI z)) 2 i (lI (y))) ⟨hh.1, fun j hj => ?_, fun hj => ?_⟩ (by decide) _ _ _ _ _ _) (by rw [← nI_1 i] <;> rfl) rfl rfl
      · by_cases e : j = i
        · subst e
          rw [e9.1, e9.2]
          exact ⟨pk_uLs, pk_uLs⟩
        · exact ⟨(pk_uLn e).trans (hh.2.1 j (by omega)).1, (pk_uLn e).trans (hh.2.1 j (by omega)).2⟩
      · rw [show qc 6 0 = i from hw9.symm, e9.1]
        exact (jB_t _ hp9).symm
    · skip
      refine J.lload dX7_duels_266 rfl ?_
      refine J.lconst 0 dX7_duels_268 (by decide) ?_
      refine J.lcmp dX7_duels_269 ?_
      refine J.if_le (tgt := 277) dX7_duels_270 (by decide) (fun c270 => ?_) (fun c270 => absurd c270 (fun h9 => hp9 ((lI_pos hz9).mp (cmpP h9))))
      refine J.iconst (0) dX7_duels_277 (by decide) ?_
      refine J.istore dX7_duels_278 (by decide) rfl ?_
      try dsimp only [List.set]
      refine J.aload_n dX7_duels_280 rfl rfl ?_
      refine J.iload dX7_duels_281 rfl ?_
      refine J.aload_n dX7_duels_283 rfl rfl ?_
      refine J.mg26 dX7_duels_284 rfl ?_
      rw [hE.2.1]
      refine J.icmp_ne (tgt := 295) dX7_duels_287 (by decide) (fun c287 => absurd c287 (fun h9 => h9 (by rw [hw9] <;> rfl))) (fun c287 => ?_)
      refine J.iload dX7_duels_290 rfl ?_
      refine J.goto (tgt := 299) dX7_duels_292 (by decide) ?_
      refine J.mp32 dX7_duels_299 rfl (by decide) (by decide) ?_
      try dsimp only [List.set]
      refine J.aload_n dX7_duels_302 rfl rfl ?_
      refine J.mg30 dX7_duels_303 rfl ?_
      refine J.iload dX7_duels_306 rfl ?_
      refine J.iload dX7_duels_308 rfl ?_
      refine J.if_eq (tgt := 318) dX7_duels_310 (by decide) (fun c310 => ?_) (fun c310 => absurd c310 (fun h9 => h9 rfl))
      refine J.lconst 0 dX7_duels_318 (by decide) ?_
      refine J.ms12 (i) dX7_duels_319 rfl (by have := p2_8 hM.2.2; omega) ?_
      try dsimp only [List.set]
      refine J.aload_n dX7_duels_320 rfl rfl ?_
      refine J.mg31 dX7_duels_321 rfl ?_
      refine J.iload dX7_duels_324 rfl ?_
      refine J.iload dX7_duels_326 rfl ?_
      refine J.if_eq (tgt := 336) dX7_duels_328 (by decide) (fun c328 => ?_) (fun c328 => absurd c328 (fun h9 => h9 rfl))
      refine J.lload dX7_duels_336 rfl ?_
      refine J.aload_n dX7_duels_338 rfl rfl ?_
      refine J.mg25 dX7_duels_339 rfl ?_
      refine J.cs (as := [.int _]) (is := []) okX7_tens jcX7_232 (mX7_tens m (by have := hM.2.2; omega)) dX7_duels_342 rfl rfl rfl rfl rfl rfl (fun r9 B9 hq => ?_)
      obtain ⟨rfl, rfl⟩ := hq
      refine ⟨rfl, ?_⟩
      show J _ _ _ _ _ (.long _ :: _) (wM s la r v c l tn p pa m q 0 x (hset h 1 i 0)) _ _
      refine J.lmul dX7_duels_345 ?_
      refine J.aload_n dX7_duels_346 rfl rfl ?_
      refine J.cvM (as := []) s la r v c l tn p pa m q 0 x (hset h 1 i 0) okX7_prize jcX7_174 (mX7_prize s la r v c l tn p pa m q 0 x (hset h 1 i 0) hS) dX7_duels_347 rfl rfl rfl rfl (fun r9 B9 hq9 => ?_)
      obtain ⟨rfl, rfl⟩ := hq9
      refine ⟨_, _, _, _, _, _, _, _, _, _, _, _, _, _, rfl, ?_⟩
      show J _ _ _ _ _ (.int _ :: _) (wM s la r v c l tn p pa m q 0 x (hset h 1 i 0)) _ _
      refine J.i2l dX7_duels_350 ?_
      refine J.lmul dX7_duels_351 ?_
      rw [(show lN (10 ^ (m * K)) * lN (10 ^ m) * (nI (r 6 5)).toInt64 = lI ((10 ^ (m * K) : Nat) * (10 ^ m : Nat) * ((r 6 5 : Nat) : Int)) from by rw [nI_l (by have := hr.2.2.2.2.2.2.1; omega), lNZ, lNZ, lNZ, lI_mul, lI_mul])]
      refine J.ms13 (i) dX7_duels_352 rfl (by have := p2_8 hM.2.2; omega) ?_
      try dsimp only [List.set]
      refine J.iinc (1) dX7_duels_353 (by decide) rfl (by decide) rfl ?_
      try dsimp only [List.set]
      refine J.goto (tgt := 80) dX7_duels_356 (by decide) ?_
      have e9 : mdz qc m r ka kb n (K + 1) 1 i = 0 ∧ mdz qc m r ka kb n (K + 1) 0 i = (10 ^ (m * K) : Nat) * (10 ^ m : Nat) * ((r 6 5 : Nat) : Int) := by
        have e8 := mdz_s1 qc m r ka kb n K i hpK
        rw [hz, hy] at e8
        exact ⟨e8.1.trans (if_neg hp9), e8.2.trans (if_neg hp9)⟩
      refine J.at (ih9 0 (hset (hset h 1 i 0) 2 i (lI ((10 ^ (m * K) : Nat) * (10 ^ m : Nat) * ((r 6 5 : Nat) : Int)))) ⟨hh.1, fun j hj => ?_, fun hj => ?_⟩ (by decide) _ _ _ _ _ _) (by rw [← nI_1 i] <;> rfl) rfl rfl
      · by_cases e : j = i
        · subst e
          rw [e9.1, e9.2]
          exact ⟨pk_uLs, pk_uLs⟩
        · exact ⟨(pk_uLn e).trans (hh.2.1 j (by omega)).1, (pk_uLn e).trans (hh.2.1 j (by omega)).2⟩
      · rw [show qc 6 0 = i from hw9.symm, e9.1]
        exact (jB_f _ (by decide)).symm
  · by_cases hp9 : 0 < z
    · skip
      refine J.lload dX7_duels_266 rfl ?_
      refine J.lconst 0 dX7_duels_268 (by decide) ?_
      refine J.lcmp dX7_duels_269 ?_
      refine J.if_le (tgt := 277) dX7_duels_270 (by decide) (fun c270 => absurd c270 (fun h9 => cmpN h9 (show (0 : Int64) < lI z from (lI_pos hz9).mpr hp9))) (fun c270 => ?_)
      refine J.iconst (1) dX7_duels_273 (by decide) ?_
      refine J.goto (tgt := 278) dX7_duels_274 (by decide) ?_
      refine J.istore dX7_duels_278 (by decide) rfl ?_
      try dsimp only [List.set]
      refine J.aload_n dX7_duels_280 rfl rfl ?_
      refine J.iload dX7_duels_281 rfl ?_
      refine J.aload_n dX7_duels_283 rfl rfl ?_
      refine J.mg26 dX7_duels_284 rfl ?_
      rw [hE.2.1]
      refine J.icmp_ne (tgt := 295) dX7_duels_287 (by decide) (fun c287 => ?_) (fun c287 => absurd c287 (fun h9 => hw9 ((nI_eqi (by have := p2_8 hM.2.2; omega) (by have := hM.1.2.2.2; omega)).mp h9)))
      refine J.aload_n dX7_duels_295 rfl rfl ?_
      refine J.mg32 dX7_duels_296 rfl ?_
      refine J.mp32 dX7_duels_299 rfl hbz.1 hbz.2 ?_
      try dsimp only [List.set]
      refine J.aload_n dX7_duels_302 rfl rfl ?_
      refine J.mg30 dX7_duels_303 rfl ?_
      refine J.iload dX7_duels_306 rfl ?_
      refine J.iload dX7_duels_308 rfl ?_
      refine J.if_eq (tgt := 318) dX7_duels_310 (by decide) (fun c310 => absurd c310 (by decide)) (fun c310 => ?_)
      refine J.lload dX7_duels_313 rfl ?_
      refine J.goto (tgt := 319) dX7_duels_315 (by decide) ?_
      refine J.ms12 (i) dX7_duels_319 rfl (by have := p2_8 hM.2.2; omega) ?_
      try dsimp only [List.set]
      refine J.aload_n dX7_duels_320 rfl rfl ?_
      refine J.mg31 dX7_duels_321 rfl ?_
      refine J.iload dX7_duels_324 rfl ?_
      refine J.iload dX7_duels_326 rfl ?_
      refine J.if_eq (tgt := 336) dX7_duels_328 (by decide) (fun c328 => absurd c328 (by decide)) (fun c328 => ?_)
      refine J.lload dX7_duels_331 rfl ?_
      refine J.goto (tgt := 352) dX7_duels_333 (by decide) ?_
      refine J.ms13 (i) dX7_duels_352 rfl (by have := p2_8 hM.2.2; omega) ?_
      try dsimp only [List.set]
      refine J.iinc (1) dX7_duels_353 (by decide) rfl (by decide) rfl ?_
      try dsimp only [List.set]
      refine J.goto (tgt := 80) dX7_duels_356 (by decide) ?_
      have e9 : mdz qc m r ka kb n (K + 1) 1 i = z ∧ mdz qc m r ka kb n (K + 1) 0 i = y := by
        have e8 := mdz_s1 qc m r ka kb n K i hpK
        rw [hz, hy] at e8
        exact ⟨e8.1.trans (if_pos hp9), e8.2.trans (if_pos hp9)⟩
      refine J.at (ih9 b (hset (hset h 1 i (lI z)) 2 i (lI (y))) ⟨hh.1, fun j hj => ?_, fun hj => ?_⟩ hbz _ _ _ _ _ _) (by rw [← nI_1 i] <;> rfl) rfl rfl
      · by_cases e : j = i
        · subst e
          rw [e9.1, e9.2]
          exact ⟨pk_uLs, pk_uLs⟩
        · exact ⟨(pk_uLn e).trans (hh.2.1 j (by omega)).1, (pk_uLn e).trans (hh.2.1 j (by omega)).2⟩
      · exact hh.2.2 (by omega)
    · skip
      refine J.lload dX7_duels_266 rfl ?_
      refine J.lconst 0 dX7_duels_268 (by decide) ?_
      refine J.lcmp dX7_duels_269 ?_
      refine J.if_le (tgt := 277) dX7_duels_270 (by decide) (fun c270 => ?_) (fun c270 => absurd c270 (fun h9 => hp9 ((lI_pos hz9).mp (cmpP h9))))
      refine J.iconst (0) dX7_duels_277 (by decide) ?_
      refine J.istore dX7_duels_278 (by decide) rfl ?_
      try dsimp only [List.set]
      refine J.aload_n dX7_duels_280 rfl rfl ?_
      refine J.iload dX7_duels_281 rfl ?_
      refine J.aload_n dX7_duels_283 rfl rfl ?_
      refine J.mg26 dX7_duels_284 rfl ?_
      rw [hE.2.1]
      refine J.icmp_ne (tgt := 295) dX7_duels_287 (by decide) (fun c287 => ?_) (fun c287 => absurd c287 (fun h9 => hw9 ((nI_eqi (by have := p2_8 hM.2.2; omega) (by have := hM.1.2.2.2; omega)).mp h9)))
      refine J.aload_n dX7_duels_295 rfl rfl ?_
      refine J.mg32 dX7_duels_296 rfl ?_
      refine J.mp32 dX7_duels_299 rfl hbz.1 hbz.2 ?_
      try dsimp only [List.set]
      refine J.aload_n dX7_duels_302 rfl rfl ?_
      refine J.mg30 dX7_duels_303 rfl ?_
      refine J.iload dX7_duels_306 rfl ?_
      refine J.iload dX7_duels_308 rfl ?_
      refine J.if_eq (tgt := 318) dX7_duels_310 (by decide) (fun c310 => ?_) (fun c310 => absurd c310 (fun h9 => h9 rfl))
      refine J.lconst 0 dX7_duels_318 (by decide) ?_
      refine J.ms12 (i) dX7_duels_319 rfl (by have := p2_8 hM.2.2; omega) ?_
      try dsimp only [List.set]
      refine J.aload_n dX7_duels_320 rfl rfl ?_
      refine J.mg31 dX7_duels_321 rfl ?_
      refine J.iload dX7_duels_324 rfl ?_
      refine J.iload dX7_duels_326 rfl ?_
      refine J.if_eq (tgt := 336) dX7_duels_328 (by decide) (fun c328 => ?_) (fun c328 => absurd c328 (fun h9 => h9 rfl))
      refine J.lload dX7_duels_336 rfl ?_
      refine J.aload_n dX7_duels_338 rfl rfl ?_
      refine J.mg25 dX7_duels_339 rfl ?_
      refine J.cs (as := [.int _]) (is := []) okX7_tens jcX7_232 (mX7_tens m (by have := hM.2.2; omega)) dX7_duels_342 rfl rfl rfl rfl rfl rfl (fun r9 B9 hq => ?_)
      obtain ⟨rfl, rfl⟩ := hq
      refine ⟨rfl, ?_⟩
      show J _ _ _ _ _ (.long _ :: _) (wM s la r v c l tn p pa m q b x (hset h 1 i 0)) _ _
      refine J.lmul dX7_duels_345 ?_
      refine J.aload_n dX7_duels_346 rfl rfl ?_
      refine J.cvM (as := []) s la r v c l tn p pa m q b x (hset h 1 i 0) okX7_prize jcX7_174 (mX7_prize s la r v c l tn p pa m q b x (hset h 1 i 0) hS) dX7_duels_347 rfl rfl rfl rfl (fun r9 B9 hq9 => ?_)
      obtain ⟨rfl, rfl⟩ := hq9
      refine ⟨_, _, _, _, _, _, _, _, _, _, _, _, _, _, rfl, ?_⟩
      show J _ _ _ _ _ (.int _ :: _) (wM s la r v c l tn p pa m q b x (hset h 1 i 0)) _ _
      refine J.i2l dX7_duels_350 ?_
      refine J.lmul dX7_duels_351 ?_
      rw [(show lN (10 ^ (m * K)) * lN (10 ^ m) * (nI (r 6 5)).toInt64 = lI ((10 ^ (m * K) : Nat) * (10 ^ m : Nat) * ((r 6 5 : Nat) : Int)) from by rw [nI_l (by have := hr.2.2.2.2.2.2.1; omega), lNZ, lNZ, lNZ, lI_mul, lI_mul])]
      refine J.ms13 (i) dX7_duels_352 rfl (by have := p2_8 hM.2.2; omega) ?_
      try dsimp only [List.set]
      refine J.iinc (1) dX7_duels_353 (by decide) rfl (by decide) rfl ?_
      try dsimp only [List.set]
      refine J.goto (tgt := 80) dX7_duels_356 (by decide) ?_
      have e9 : mdz qc m r ka kb n (K + 1) 1 i = 0 ∧ mdz qc m r ka kb n (K + 1) 0 i = (10 ^ (m * K) : Nat) * (10 ^ m : Nat) * ((r 6 5 : Nat) : Int) := by
        have e8 := mdz_s1 qc m r ka kb n K i hpK
        rw [hz, hy] at e8
        exact ⟨e8.1.trans (if_neg hp9), e8.2.trans (if_neg hp9)⟩
      refine J.at (ih9 b (hset (hset h 1 i 0) 2 i (lI ((10 ^ (m * K) : Nat) * (10 ^ m : Nat) * ((r 6 5 : Nat) : Int)))) ⟨hh.1, fun j hj => ?_, fun hj => ?_⟩ hbz _ _ _ _ _ _) (by rw [← nI_1 i] <;> rfl) rfl rfl
      · by_cases e : j = i
        · subst e
          rw [e9.1, e9.2]
          exact ⟨pk_uLs, pk_uLs⟩
        · exact ⟨(pk_uLn e).trans (hh.2.1 j (by omega)).1, (pk_uLn e).trans (hh.2.1 j (by omega)).2⟩
      · exact hh.2.2 (by omega)
set_option maxRecDepth 100000 in
set_option maxHeartbeats 4000000 in
theorem mX7_duels1_s (s : Nat → Int32) (la : Nat → Int32) (r : rT) (v : vT) (c : Nat → Nat → Int32) (l : Nat → Int32) (tn : Int32) (p : Nat → Int32) (pa : Nat → Nat → Int32) (m : Nat) (q : rT) (x : Nat → Nat) (qc : rT) (hE : qE q qc m) (hM : mOK qc m) (ka kb n : Nat) (ha : ka < r 6 1) (hb : kb < r 6 1) (hn : n ≤ 5) (hS : mS s r) (hr : rOK r) (K t : Nat) (hK : K < n) (ht : t = n - 1 - K) (hp : t % 2 = 1) (hpK : (n - 1 - K) % 2 = 1) (hk9 : ∀ b : Int32, b = jB (0 < mdz qc m r ka kb n (K + 1) 1 (qc 6 0)) → (narrow .boolean (.int b) = .int b ∧ fits .boolean (.int b) = true) → ∀ h : Nat → Nat → Int64, (∀ j, j < 2 ^ m → h 3 j = lI (mdz qc m r ka kb n (K + 1) 0 j) ∧ h 4 j = lI (mdz qc m r ka kb n (K + 1) 1 j)) → ∀ z8 z9 z11 z13 z14 z16 z18 : Option Value, J KX7_duels 21 (fun o B => o = none ∧ ∃ h9, B = (wM s la r v c l tn p pa m q (jB (0 < mdz qc m r ka kb n n 0 (qc 6 0))) x h9) ∧ (∀ j, j < 2 ^ m → h9 3 j = lI (mdz qc m r ka kb n n 0 j)) ∧ ∀ j, j < 2 ^ m → h9 4 j = lI (mdz qc m r ka kb n n 1 j)) 441 [some (.ref 0), some (.int (nI ka)), some (.int (nI kb)), some (.int (nI n)), some (.int (nI t)), some (.int (nI kb)), some (.long (lN (10 ^ (m * K)))), none, z8, z9, none, z11, none, z13, z14, none, z16, none, z18, none] [] (wM s la r v c l tn p pa m q b x h) 0 0) : ∀ (k9 i : Nat), i + k9 = 2 ^ m → ∀ (b : Int32) (h : Nat → Nat → Int64), (((∀ j, j < 2 ^ m → h 3 j = lI (mdz qc m r ka kb n K 0 j)) ∧ ∀ j, j < 2 ^ m → h 4 j = lI (mdz qc m r ka kb n K 1 j)) ∧ (∀ j, j < i → h 1 j = lI (mdz qc m r ka kb n (K + 1) 1 j) ∧ h 2 j = lI (mdz qc m r ka kb n (K + 1) 0 j)) ∧ (qc 6 0 < i → b = jB (0 < mdz qc m r ka kb n (K + 1) 1 (qc 6 0)))) → (narrow .boolean (.int b) = .int b ∧ fits .boolean (.int b) = true) → ∀ (z9 z11 z13 z14 z16 z18 : Option Value), True → J KX7_duels 21 (fun o B => o = none ∧ ∃ h9, B = (wM s la r v c l tn p pa m q (jB (0 < mdz qc m r ka kb n n 0 (qc 6 0))) x h9) ∧ (∀ j, j < 2 ^ m → h9 3 j = lI (mdz qc m r ka kb n n 0 j)) ∧ ∀ j, j < 2 ^ m → h9 4 j = lI (mdz qc m r ka kb n n 1 j)) 80 [some (.ref 0), some (.int (nI ka)), some (.int (nI kb)), some (.int (nI n)), some (.int (nI t)), some (.int (nI kb)), some (.long (lN (10 ^ (m * K)))), none, some (.int (nI i)), z9, none, z11, none, z13, z14, none, z16, none, z18, none] [] (wM s la r v c l tn p pa m q b x h) 0 0 := by
  intro k9
  induction k9 with
  | zero =>
    intro i hi
    obtain hiN : i = 2 ^ m := by omega
    intro b h hh hbz z9 z11 z13 z14 z16 z18 _
    subst hiN
    refine J.iload dX7_duels_80 rfl ?_
    refine J.iconst (1) dX7_duels_82 (by decide) ?_
    refine J.aload_n dX7_duels_83 rfl rfl ?_
    refine J.mg25 dX7_duels_84 rfl ?_
    refine J.ishl dX7_duels_87 ?_
    rw [shl_eval m (by have := hM.2.2; omega)]
    refine J.icmp_ge (tgt := 359) dX7_duels_88 (by decide) (fun c88 => ?_) (fun c88 => absurd c88 (fun h => h (Int32.le_refl _)))
    refine J.iconst (0) dX7_duels_359 (by decide) ?_
    refine J.istore dX7_duels_360 (by decide) rfl ?_
    try dsimp only [List.set]
    exact J.at (mX7_duels1_c s la r v c l tn p pa m q b x qc hE hM ka kb n ha hb hn hS hr K t (by omega) hp z9 z11 z13 z14 z16 z18 (fun h9 hh9 z8 => hk9 b (hh.2.2 hM.2.1) hbz h9 hh9 z8 z9 z11 z13 z14 z16 z18) (2 ^ m) 0 (by omega) h ⟨fun j hj => absurd hj (Nat.not_lt_zero j), hh.2.1⟩) rfl rfl rfl
  | succ k9 ih =>
    intro i hi
    have hiN : i < 2 ^ m := by omega
    intro b h hh hbz z9 z11 z13 z14 z16 z18 _
    by_cases h0 : i = 0
    · skip
      refine J.iload dX7_duels_80 rfl ?_
      refine J.iconst (1) dX7_duels_82 (by decide) ?_
      refine J.aload_n dX7_duels_83 rfl rfl ?_
      refine J.mg25 dX7_duels_84 rfl ?_
      refine J.ishl dX7_duels_87 ?_
      rw [shl_eval m (by have := hM.2.2; omega)]
      refine J.icmp_ge (tgt := 359) dX7_duels_88 (by decide) (fun c88 => absurd c88 (nI_ge (by omega) (by have := p2_8 hM.2.2; omega))) (fun c88 => ?_)
      refine J.lconst 0 dX7_duels_91 (by decide) ?_
      refine J.lstore dX7_duels_92 (by decide) rfl ?_
      try dsimp only [List.set]
      refine J.lconst 0 dX7_duels_94 (by decide) ?_
      refine J.lstore dX7_duels_95 (by decide) rfl ?_
      try dsimp only [List.set]
      refine J.iconst (0) dX7_duels_97 (by decide) ?_
      refine J.istore dX7_duels_98 (by decide) rfl ?_
      try dsimp only [List.set]
      refine J.iload dX7_duels_100 rfl ?_
      refine J.iconst (1) dX7_duels_102 (by decide) ?_
      refine J.aload_n dX7_duels_103 rfl rfl ?_
      refine J.mg25 dX7_duels_104 rfl ?_
      refine J.ishl dX7_duels_107 ?_
      rw [shl_eval m (by have := hM.2.2; omega)]
      refine J.icmp_ge (tgt := 266) dX7_duels_108 (by decide) (fun c108 => absurd c108 (nI_ge (Nat.two_pow_pos m) (by have := p2_8 hM.2.2; omega))) (fun c108 => ?_)
      refine J.iload dX7_duels_111 rfl ?_
      refine J.if_eq (tgt := 266) dX7_duels_113 (by decide) (fun c113 => ?_) (fun c113 => absurd c113 (fun h9 => h9 (by rw [h0] <;> rfl)))
      exact J.at (mX7_duels1_w s la r v c l tn p pa m q b x h qc hE hM ka kb n ha hb hn hS hr K t i hpK hiN 0 0 (if_pos h0) (if_pos h0) (by decide) hh hbz (fun b9 h9 hh9 hb9 z9 z11 z13 z14 z16 z18 => ih (i + 1) (by omega) b9 h9 hh9 hb9 z9 z11 z13 z14 z16 z18 trivial) _ z14 z16 z18) (by rw [show lI 0 = 0 from rfl] <;> rfl) rfl rfl
    · skip
      refine J.iload dX7_duels_80 rfl ?_
      refine J.iconst (1) dX7_duels_82 (by decide) ?_
      refine J.aload_n dX7_duels_83 rfl rfl ?_
      refine J.mg25 dX7_duels_84 rfl ?_
      refine J.ishl dX7_duels_87 ?_
      rw [shl_eval m (by have := hM.2.2; omega)]
      refine J.icmp_ge (tgt := 359) dX7_duels_88 (by decide) (fun c88 => absurd c88 (nI_ge (by omega) (by have := p2_8 hM.2.2; omega))) (fun c88 => ?_)
      refine J.lconst 0 dX7_duels_91 (by decide) ?_
      refine J.lstore dX7_duels_92 (by decide) rfl ?_
      try dsimp only [List.set]
      refine J.lconst 0 dX7_duels_94 (by decide) ?_
      refine J.lstore dX7_duels_95 (by decide) rfl ?_
      try dsimp only [List.set]
      refine J.iconst (0) dX7_duels_97 (by decide) ?_
      refine J.istore dX7_duels_98 (by decide) rfl ?_
      try dsimp only [List.set]
      refine J.at (mX7_duels1_i s la r v c l tn p pa m q b x h qc hE hM ka kb n ha hb hn hS hr K t i hK ht hp hiN h0 hh.1 (fun z14 z16 z18 => ?_) (2 ^ m) 0 (by omega) z14 z16 z18) rfl rfl rfl
      exact mX7_duels1_w s la r v c l tn p pa m q b x h qc hE hM ka kb n ha hb hn hS hr K t i hpK hiN _ _ (by rw [mbS, if_neg h0, ht]) (by rw [mdS, if_neg h0, ht]) (by have h9 := mdb_le (qc := qc) hM.2.2 hr ka kb n (show K < 5 by omega) hiN 1 kb; rw [mbS, if_neg h0, ← ht] at h9; exact h9) hh hbz (fun b9 h9 hh9 hb9 z9 z11 z13 z14 z16 z18 => ih (i + 1) (by omega) b9 h9 hh9 hb9 z9 z11 z13 z14 z16 z18 trivial) _ z14 z16 z18
set_option maxRecDepth 100000 in
set_option maxHeartbeats 4000000 in
theorem mX7_duels_t (s : Nat → Int32) (la : Nat → Int32) (r : rT) (v : vT) (c : Nat → Nat → Int32) (l : Nat → Int32) (tn : Int32) (p : Nat → Int32) (pa : Nat → Nat → Int32) (m : Nat) (q : rT) (x : Nat → Nat) (qc : rT) (hE : qE q qc m) (hM : mOK qc m) (ka kb n : Nat) (ha : ka < r 6 1) (hb : kb < r 6 1) (hn : n ≤ 5) (hS : mS s r) (hr : rOK r) : ∀ T, T ≤ n → ∀ (b : Int32) (h : Nat → Nat → Int64), ((∀ j, j < 2 ^ m → h 3 j = lI (mdz qc m r ka kb n (n - T) 0 j)) ∧ (∀ j, j < 2 ^ m → h 4 j = lI (mdz qc m r ka kb n (n - T) 1 j)) ∧ (T = 0 → b = jB (0 < mdz qc m r ka kb n n 0 (qc 6 0))) ∧ (narrow .boolean (.int b) = .int b ∧ fits .boolean (.int b) = true)) → ∀ z5 z6 z8 z9 z11 z13 z14 z16 z18 : Option Value, J KX7_duels 21 (fun o B => o = none ∧ ∃ h9, B = (wM s la r v c l tn p pa m q (jB (0 < mdz qc m r ka kb n n 0 (qc 6 0))) x h9) ∧ (∀ j, j < 2 ^ m → h9 3 j = lI (mdz qc m r ka kb n n 0 j)) ∧ ∀ j, j < 2 ^ m → h9 4 j = lI (mdz qc m r ka kb n n 1 j)) 42 [some (.ref 0), some (.int (nI ka)), some (.int (nI kb)), some (.int (nI n)), some (.int (nI T - 1)), z5, z6, none, z8, z9, none, z11, none, z13, z14, none, z16, none, z18, none] [] (wM s la r v c l tn p pa m q b x h) 0 0 := by
  intro T
  induction T with
  | zero =>
    intro hT b h hh z5 z6 z8 z9 z11 z13 z14 z16 z18
    refine J.iload dX7_duels_42 rfl ?_
    refine J.if_lt (tgt := 447) dX7_duels_44 (by decide) (fun c44 => ?_) (fun c44 => absurd c44 (fun h => h (by decide)))
    refine J.vret dX7_duels_447 rfl (Nat.le_refl _) (Nat.le_refl _) ⟨rfl, h, by rw [hh.2.2.1 rfl], ?_, ?_⟩
    · exact hh.1
    · exact hh.2.1
  | succ T ih =>
    intro hT b h hh z5 z6 z8 z9 z11 z13 z14 z16 z18
    rw [nI_pred T]
    by_cases hp : T % 2 = 0
    · skip
      refine J.iload dX7_duels_42 rfl ?_
      refine J.if_lt (tgt := 447) dX7_duels_44 (by decide) (fun c44 => absurd c44 (nI_pos (by omega))) (fun c44 => ?_)
      refine J.iload dX7_duels_47 rfl ?_
      refine J.iconst (2) dX7_duels_49 (by decide) ?_
      refine J.irem dX7_duels_50 (by decide) ?_
      rw [rem2 (by omega), hp]
      refine J.if_ne (tgt := 58) dX7_duels_51 (by decide) (fun c51 => absurd c51 (fun h9 => h9 rfl)) (fun c51 => ?_)
      refine J.iload_n dX7_duels_54 rfl rfl ?_
      refine J.goto (tgt := 59) dX7_duels_55 (by decide) ?_
      refine J.istore dX7_duels_59 (by decide) rfl ?_
      try dsimp only [List.set]
      refine J.aload_n dX7_duels_61 rfl rfl ?_
      refine J.mg25 dX7_duels_62 rfl ?_
      refine J.iload_n dX7_duels_65 rfl rfl ?_
      refine J.iload dX7_duels_66 rfl ?_
      refine J.isub dX7_duels_68 ?_
      refine J.iconst (1) dX7_duels_69 (by decide) ?_
      refine J.isub dX7_duels_70 ?_
      refine J.imul dX7_duels_71 ?_
      rw [pk_sub (show T ≤ n by omega), show (1 : Int32) = nI 1 from rfl, pk_sub (show 1 ≤ n - T by omega), ix0 m (n - T - 1)]
      refine J.cs (as := [.int _]) (is := []) okX7_tens jcX7_232 (mX7_tens (m * (n - T - 1)) (by have := Nat.mul_le_mul hM.2.2 (show n - T - 1 ≤ 5 by omega); omega)) dX7_duels_72 rfl rfl rfl rfl rfl rfl (fun r9 B9 hq => ?_)
      obtain ⟨rfl, rfl⟩ := hq
      refine ⟨rfl, ?_⟩
      show J _ _ _ _ _ (.long _ :: _) (wM s la r v c l tn p pa m q b x h) _ _
      refine J.lstore dX7_duels_75 (by decide) rfl ?_
      try dsimp only [List.set]
      refine J.iconst (0) dX7_duels_77 (by decide) ?_
      refine J.istore dX7_duels_78 (by decide) rfl ?_
      try dsimp only [List.set]
      refine J.at (mX7_duels0_s s la r v c l tn p pa m q x qc hE hM ka kb n ha hb hn hS hr (n - T - 1) T (by omega) (by omega) hp (by rw [show n - 1 - (n - T - 1) = T by omega]; exact hp) (fun b9 hb9 hbz9 h9 hh9 y8 y9 y11 y13 y14 y16 y18 => ?_) (2 ^ m) 0 (by omega) b h ⟨⟨fun j hj => by have := hh.1 j hj; rw [show n - (T + 1) = n - T - 1 by omega] at this; exact this, fun j hj => by have := hh.2.1 j hj; rw [show n - (T + 1) = n - T - 1 by omega] at this; exact this⟩, fun j hj => absurd hj (Nat.not_lt_zero j), fun hj => absurd hj (Nat.not_lt_zero _)⟩ hh.2.2.2 z9 z11 z13 z14 z16 z18 trivial) rfl rfl rfl
      refine J.iinc (-1) dX7_duels_441 (by decide) rfl (by decide) rfl ?_
      try dsimp only [List.set]
      refine J.goto (tgt := 42) dX7_duels_444 (by decide) ?_
      exact J.at (ih (by omega) b9 h9 ⟨fun j hj => by rw [(hh9 j hj).1, show n - T - 1 + 1 = n - T by omega], fun j hj => by rw [(hh9 j hj).2, show n - T - 1 + 1 = n - T by omega], fun hT0 => by rw [hb9, show n - T - 1 + 1 = n by omega], hbz9⟩ _ _ _ _ _ _ _ _ _) (by rw [← sub1] <;> rfl) rfl rfl
    · have hp : T % 2 = 1 := by omega
      refine J.iload dX7_duels_42 rfl ?_
      refine J.if_lt (tgt := 447) dX7_duels_44 (by decide) (fun c44 => absurd c44 (nI_pos (by omega))) (fun c44 => ?_)
      refine J.iload dX7_duels_47 rfl ?_
      refine J.iconst (2) dX7_duels_49 (by decide) ?_
      refine J.irem dX7_duels_50 (by decide) ?_
      rw [rem2 (by omega), hp]
      refine J.if_ne (tgt := 58) dX7_duels_51 (by decide) (fun c51 => ?_) (fun c51 => absurd c51 (by decide))
      refine J.iload_n dX7_duels_58 rfl rfl ?_
      refine J.istore dX7_duels_59 (by decide) rfl ?_
      try dsimp only [List.set]
      refine J.aload_n dX7_duels_61 rfl rfl ?_
      refine J.mg25 dX7_duels_62 rfl ?_
      refine J.iload_n dX7_duels_65 rfl rfl ?_
      refine J.iload dX7_duels_66 rfl ?_
      refine J.isub dX7_duels_68 ?_
      refine J.iconst (1) dX7_duels_69 (by decide) ?_
      refine J.isub dX7_duels_70 ?_
      refine J.imul dX7_duels_71 ?_
      rw [pk_sub (show T ≤ n by omega), show (1 : Int32) = nI 1 from rfl, pk_sub (show 1 ≤ n - T by omega), ix0 m (n - T - 1)]
      refine J.cs (as := [.int _]) (is := []) okX7_tens jcX7_232 (mX7_tens (m * (n - T - 1)) (by have := Nat.mul_le_mul hM.2.2 (show n - T - 1 ≤ 5 by omega); omega)) dX7_duels_72 rfl rfl rfl rfl rfl rfl (fun r9 B9 hq => ?_)
      obtain ⟨rfl, rfl⟩ := hq
      refine ⟨rfl, ?_⟩
      show J _ _ _ _ _ (.long _ :: _) (wM s la r v c l tn p pa m q b x h) _ _
      refine J.lstore dX7_duels_75 (by decide) rfl ?_
      try dsimp only [List.set]
      refine J.iconst (0) dX7_duels_77 (by decide) ?_
      refine J.istore dX7_duels_78 (by decide) rfl ?_
      try dsimp only [List.set]
      refine J.at (mX7_duels1_s s la r v c l tn p pa m q x qc hE hM ka kb n ha hb hn hS hr (n - T - 1) T (by omega) (by omega) hp (by rw [show n - 1 - (n - T - 1) = T by omega]; exact hp) (fun b9 hb9 hbz9 h9 hh9 y8 y9 y11 y13 y14 y16 y18 => ?_) (2 ^ m) 0 (by omega) b h ⟨⟨fun j hj => by have := hh.1 j hj; rw [show n - (T + 1) = n - T - 1 by omega] at this; exact this, fun j hj => by have := hh.2.1 j hj; rw [show n - (T + 1) = n - T - 1 by omega] at this; exact this⟩, fun j hj => absurd hj (Nat.not_lt_zero j), fun hj => absurd hj (Nat.not_lt_zero _)⟩ hh.2.2.2 z9 z11 z13 z14 z16 z18 trivial) rfl rfl rfl
      refine J.iinc (-1) dX7_duels_441 (by decide) rfl (by decide) rfl ?_
      try dsimp only [List.set]
      refine J.goto (tgt := 42) dX7_duels_444 (by decide) ?_
      exact J.at (ih (by omega) b9 h9 ⟨fun j hj => by rw [(hh9 j hj).1, show n - T - 1 + 1 = n - T by omega], fun j hj => by rw [(hh9 j hj).2, show n - T - 1 + 1 = n - T by omega], fun hT0 => by rw [hT0] at hp; exact absurd hp (by decide), hbz9⟩ _ _ _ _ _ _ _ _ _) (by rw [← sub1] <;> rfl) rfl rfl
set_option maxRecDepth 100000 in
set_option maxHeartbeats 4000000 in
theorem mX7_duels_0 (s : Nat → Int32) (la : Nat → Int32) (r : rT) (v : vT) (c : Nat → Nat → Int32) (l : Nat → Int32) (tn : Int32) (p : Nat → Int32) (pa : Nat → Nat → Int32) (m : Nat) (q : rT) (b : Int32) (x : Nat → Nat) (qc : rT) (hE : qE q qc m) (hM : mOK qc m) (ka kb n : Nat) (ha : ka < r 6 1) (hb : kb < r 6 1) (hn : n ≤ 5) (hS : mS s r) (hr : rOK r) : ∀ (k9 i : Nat), i + k9 = 8 → ∀ (h : Nat → Nat → Int64), (∀ j, j < i → h 3 j = 0 ∧ h 4 j = 0) → J KX7_duels 21 (fun o B => o = none ∧ ∃ h9, B = (wM s la r v c l tn p pa m q (jB (0 < mdz qc m r ka kb n n 0 (qc 6 0))) x h9) ∧ (∀ j, j < 2 ^ m → h9 3 j = lI (mdz qc m r ka kb n n 0 j)) ∧ ∀ j, j < 2 ^ m → h9 4 j = lI (mdz qc m r ka kb n n 1 j)) 3 [some (.ref 0), some (.int (nI ka)), some (.int (nI kb)), some (.int (nI n)), some (.int (nI i)), none, none, none, none, none, none, none, none, none, none, none, none, none, none, none] [] (wM s la r v c l tn p pa m q b x h) 0 0 := by
  intro k9
  induction k9 with
  | zero =>
    intro i hi
    obtain hiN : i = 8 := by omega
    intro h hh
    subst hiN
    refine J.iload dX7_duels_3 rfl ?_
    refine J.bipush (8) dX7_duels_5 (by decide) ?_
    refine J.icmp_ge (tgt := 32) dX7_duels_7 (by decide) (fun c7 => ?_) (fun c7 => absurd c7 (fun h => h (by decide)))
    refine J.aload_n dX7_duels_32 rfl rfl ?_
    refine J.iconst (0) dX7_duels_33 (by decide) ?_
    refine J.mp32 dX7_duels_34 rfl (by decide) (by decide) ?_
    try dsimp only [List.set]
    refine J.iload_n dX7_duels_37 rfl rfl ?_
    refine J.iconst (1) dX7_duels_38 (by decide) ?_
    refine J.isub dX7_duels_39 ?_
    refine J.istore dX7_duels_40 (by decide) rfl ?_
    try dsimp only [List.set]
    exact J.at (mX7_duels_t s la r v c l tn p pa m q x qc hE hM ka kb n ha hb hn hS hr n (Nat.le_refl _) 0 h ⟨fun j hj => by rw [(hh j (by have := p2_8 hM.2.2; omega)).1, Nat.sub_self] <;> rfl, fun j hj => by rw [(hh j (by have := p2_8 hM.2.2; omega)).2, Nat.sub_self] <;> rfl, fun h0 => by rw [h0]; exact (jB_f _ (show ¬ (0 : Int) < 0 by decide)).symm, by decide⟩ none none none none none none none none none) rfl rfl rfl
  | succ k9 ih =>
    intro i hi
    have hiN : i < 8 := by omega
    intro h hh
    refine J.iload dX7_duels_3 rfl ?_
    refine J.bipush (8) dX7_duels_5 (by decide) ?_
    refine J.icmp_ge (tgt := 32) dX7_duels_7 (by decide) (fun c7 => absurd c7 (nI_ge (b := 8) (by omega) (by omega))) (fun c7 => ?_)
    refine J.aload_n dX7_duels_10 rfl rfl ?_
    refine J.mg33 dX7_duels_11 rfl ?_
    refine J.iload dX7_duels_14 rfl ?_
    refine J.lconst 0 dX7_duels_16 (by decide) ?_
    refine J.ms14 (i) dX7_duels_17 rfl (by omega) ?_
    try dsimp only [List.set]
    refine J.aload_n dX7_duels_18 rfl rfl ?_
    refine J.mg34 dX7_duels_19 rfl ?_
    refine J.iload dX7_duels_22 rfl ?_
    refine J.lconst 0 dX7_duels_24 (by decide) ?_
    refine J.ms15 (i) dX7_duels_25 rfl (by omega) ?_
    try dsimp only [List.set]
    refine J.iinc (1) dX7_duels_26 (by decide) rfl (by decide) rfl ?_
    try dsimp only [List.set]
    refine J.goto (tgt := 3) dX7_duels_29 (by decide) ?_
    refine J.at (ih (i + 1) (by omega) _ (fun j hj => ?_)) (by rw [← nI_1 i] <;> rfl) rfl rfl
    by_cases e : j = i
    · subst e; exact ⟨pk_uLs, pk_uLs⟩
    · exact ⟨(pk_uLn e).trans (hh j (by omega)).1, (pk_uLn e).trans (hh j (by omega)).2⟩
set_option maxRecDepth 100000 in
set_option maxHeartbeats 4000000 in
theorem mX7_duels (s : Nat → Int32) (la : Nat → Int32) (r : rT) (v : vT) (c : Nat → Nat → Int32) (l : Nat → Int32) (tn : Int32) (p : Nat → Int32) (pa : Nat → Nat → Int32) (m : Nat) (q : rT) (b : Int32) (x : Nat → Nat) (h : Nat → Nat → Int64) (qc : rT) (hE : qE q qc m) (hM : mOK qc m) (ka kb n : Nat) (ha : ka < r 6 1) (hb : kb < r 6 1) (hn : n ≤ 5) (hS : mS s r) (hr : rOK r) : J KX7_duels 21 (fun o B => o = none ∧ ∃ h9, B = (wM s la r v c l tn p pa m q (jB (0 < mdz qc m r ka kb n n 0 (qc 6 0))) x h9) ∧ (∀ j, j < 2 ^ m → h9 3 j = lI (mdz qc m r ka kb n n 0 j)) ∧ ∀ j, j < 2 ^ m → h9 4 j = lI (mdz qc m r ka kb n n 1 j)) 0 [some (.ref 0), some (.int (nI ka)), some (.int (nI kb)), some (.int (nI n)), none, none, none, none, none, none, none, none, none, none, none, none, none, none, none, none] [] (wM s la r v c l tn p pa m q b x h) 0 0 := by
  refine J.iconst (0) dX7_duels_0 (by decide) ?_
  refine J.istore dX7_duels_1 (by decide) rfl ?_
  try dsimp only [List.set]
  exact J.at (mX7_duels_0 s la r v c l tn p pa m q b x qc hE hM ka kb n ha hb hn hS hr 8 0 (by omega) h (fun j hj => absurd hj (Nat.not_lt_zero j))) rfl rfl rfl
set_option maxRecDepth 100000 in
set_option maxHeartbeats 4000000 in
theorem mX7_duel4 (s : Nat → Int32) (la : Nat → Int32) (r : rT) (v : vT) (c : Nat → Nat → Int32) (l : Nat → Int32) (tn : Int32) (p : Nat → Int32) (pa : Nat → Nat → Int32) (m : Nat) (q : rT) (b : Int32) (x : Nat → Nat) (h : Nat → Nat → Int64) (ka kb N : Nat) (ha : ka < r 6 1) (hb : kb < r 6 1) (hne : ka ≠ kb) (hN : N ≤ 5) (hS : mS s r) (hr : rOK r) : J KX7_duel 21 (fun o B => o = some (.long (if 0 < dl0 r ka kb N then 1 else 0)) ∧ ∃ m9 q9 b9 x9 h9, B = (wM s la r v c l tn p pa m9 q9 b9 x9 h9)) 0 [some (.ref 0), some (.int (nI ka)), some (.int (nI kb)), some (.int (nI N)), some (.int 4)] [] (wM s la r v c l tn p pa m q b x h) 0 0 := by
  refine J.aload_n dX7_duel_0 rfl rfl ?_
  refine J.iload_n dX7_duel_1 rfl rfl ?_
  refine J.cvM (as := [.int _]) s la r v c l tn p pa m q b x h okX7_isKing jcX7_203 (mX7_isKing s la r v c l tn p pa m q b x h (nI ka)) dX7_duel_2 rfl rfl rfl rfl (fun r9 B9 hq9 => ?_)
  obtain ⟨rfl, rfl⟩ := hq9
  refine ⟨_, _, _, _, _, _, _, _, _, _, _, _, _, _, rfl, ?_⟩
  show J _ _ _ _ _ (.int _ :: _) (wM s la r v c l tn p pa m q b x h) _ _
  refine J.if_eq (tgt := 41) dX7_duel_5 (by decide) (fun c5 => absurd c5 (fun h => (jB_0 _).mp h (jin_ge (by have := hr.2.1; omega) ha))) (fun c5 => ?_)
  refine J.aload_n dX7_duel_8 rfl rfl ?_
  refine J.iload_n dX7_duel_9 rfl rfl ?_
  refine J.cvM (as := [.int _]) s la r v c l tn p pa m q b x h okX7_isKing jcX7_203 (mX7_isKing s la r v c l tn p pa m q b x h (nI kb)) dX7_duel_10 rfl rfl rfl rfl (fun r9 B9 hq9 => ?_)
  obtain ⟨rfl, rfl⟩ := hq9
  refine ⟨_, _, _, _, _, _, _, _, _, _, _, _, _, _, rfl, ?_⟩
  show J _ _ _ _ _ (.int _ :: _) (wM s la r v c l tn p pa m q b x h) _ _
  refine J.if_eq (tgt := 41) dX7_duel_13 (by decide) (fun c13 => absurd c13 (fun h => (jB_0 _).mp h (jin_ge (by have := hr.2.1; omega) hb))) (fun c13 => ?_)
  refine J.iload_n dX7_duel_16 rfl rfl ?_
  refine J.iload_n dX7_duel_17 rfl rfl ?_
  refine J.icmp_eq (tgt := 41) dX7_duel_18 (by decide) (fun c18 => absurd c18 (fun h9 => hne ((nI_eqi (by have := hr.2.1; omega) (by have := hr.2.1; omega)).mp h9))) (fun c18 => ?_)
  refine J.iload_n dX7_duel_21 rfl rfl ?_
  refine J.cs (as := [.int _]) (is := []) okX7_isLong jcX7_236 (mX7_isLong (nI N)) dX7_duel_22 rfl rfl rfl rfl rfl rfl (fun r9 B9 hq => ?_)
  obtain ⟨rfl, rfl⟩ := hq
  refine ⟨rfl, ?_⟩
  show J _ _ _ _ _ (.int _ :: _) (wM s la r v c l tn p pa m q b x h) _ _
  refine J.if_eq (tgt := 41) dX7_duel_25 (by decide) (fun c25 => absurd c25 (fun h => (jB_0 _).mp h (jw (a := 0) (c := 5) (by decide) (Nat.zero_le _) hN))) (fun c25 => ?_)
  refine J.iload dX7_duel_28 rfl ?_
  refine J.i2l dX7_duel_30 ?_
  refine J.lconst 0 dX7_duel_31 (by decide) ?_
  refine J.ldc2 (v := 4) dX7_duel_32 (jt 947 rfl rfl) ?_
  refine J.cs (as := [.long _, .long _, .long _]) (is := []) okX7_in jcX7_74 (mX7_inI 4 0 4 (by decide) (by decide)) dX7_duel_35 rfl rfl rfl rfl rfl rfl (fun r9 B9 hq => ?_)
  obtain ⟨rfl, rfl⟩ := hq
  refine ⟨rfl, ?_⟩
  show J _ _ _ _ _ (.int _ :: _) (wM s la r v c l tn p pa m q b x h) _ _
  refine J.if_ne (tgt := 45) dX7_duel_38 (by decide) (fun c38 => ?_) (fun c38 => absurd c38 (fun h => (jB_0 _).mp h (by decide)))
  refine J.aload_n dX7_duel_45 rfl rfl ?_
  refine J.cvM (as := []) s la r v c l tn p pa m q b x h okX7_lays jcX7_196 (mX7_lays s la r v c l tn p pa m q b x h hS hr) dX7_duel_46 rfl rfl rfl rfl (fun r9 B9 hq9 => ?_)
  obtain ⟨rfl, rfl⟩ := hq9
  refine ⟨_, _, _, _, _, _, _, _, _, _, _, _, _, _, rfl, ?_⟩
  show J _ _ _ _ _ [] (wM s la r v c l tn p pa (r 6 0) (mlay q r (r 6 0)) b x h) _ _
  refine J.aload_n dX7_duel_49 rfl rfl ?_
  refine J.iload_n dX7_duel_50 rfl rfl ?_
  refine J.iload_n dX7_duel_51 rfl rfl ?_
  refine J.iload_n dX7_duel_52 rfl rfl ?_
  refine J.cvM (as := [.int _, .int _, .int _]) s la r v c l tn p pa (r 6 0) (mlay q r (r 6 0)) b x h okX7_duels jcX7_264 (mX7_duels s la r v c l tn p pa (r 6 0) (mlay q r (r 6 0)) b x h (oqR r) (mlay_q q) (mlay_ok hr) ka kb N ha hb hN hS hr) dX7_duel_53 rfl rfl rfl rfl (fun r9 B9 hq9 => ?_)
  obtain ⟨rfl, h9, rfl, hf9, hs9⟩ := hq9
  refine ⟨_, _, _, _, _, _, _, _, _, _, _, _, _, _, rfl, ?_⟩
  show J _ _ _ _ _ [] (wM s la r v c l tn p pa (r 6 0) (mlay q r (r 6 0)) (jB (0 < (mdz (oqR r) (r 6 0) r ka kb N N 0 (r 6 3)))) x h9) _ _
  refine J.iload dX7_duel_56 rfl ?_
  refine J.iconst (4) dX7_duel_58 (by decide) ?_
  refine J.icmp_ne (tgt := 75) dX7_duel_59 (by decide) (fun c59 => absurd c59 (fun h9 => h9 rfl)) (fun c59 => ?_)
  refine J.aload_n dX7_duel_62 rfl rfl ?_
  refine J.mg32 dX7_duel_63 rfl ?_
  refine J.if_eq (tgt := 73) dX7_duel_66 (by decide) (fun c66 => ?_) (fun c66 => ?_)
  · refine J.lconst 0 dX7_duel_73 (by decide) ?_
    first | exact J.lret dX7_duel_74 rfl (Nat.le_refl _) (Nat.le_refl _) ⟨congrArg (fun z => some (Value.long z)) (if_neg (fun h9 => (jB_0 _).mp c66 ((duel4E hr ka kb N).mp h9))).symm, _, _, _, _, _, rfl⟩ | exact J.lret dX7_duel_74 rfl (Nat.le_refl _) (Nat.le_refl _) ⟨congrArg (fun z => some (Value.long z)) (if_pos ((duel4E hr ka kb N).mpr (Decidable.not_not.mp (fun h9 => c66 ((jB_0 _).mpr h9))))).symm, _, _, _, _, _, rfl⟩
  · refine J.lconst 1 dX7_duel_69 (by decide) ?_
    refine J.goto (tgt := 74) dX7_duel_70 (by decide) ?_
    first | exact J.lret dX7_duel_74 rfl (Nat.le_refl _) (Nat.le_refl _) ⟨congrArg (fun z => some (Value.long z)) (if_neg (fun h9 => (jB_0 _).mp c66 ((duel4E hr ka kb N).mp h9))).symm, _, _, _, _, _, rfl⟩ | exact J.lret dX7_duel_74 rfl (Nat.le_refl _) (Nat.le_refl _) ⟨congrArg (fun z => some (Value.long z)) (if_pos ((duel4E hr ka kb N).mpr (Decidable.not_not.mp (fun h9 => c66 ((jB_0 _).mpr h9))))).symm, _, _, _, _, _, rfl⟩
theorem w01 {wh : Int32} (h : 0 ≤ wh ∧ wh ≤ 1) : wh = 0 ∨ wh = 1 := by
  by_cases e : wh = 0
  · exact Or.inl e
  · exact Or.inr (z01 h e)
theorem w23 {wh : Int32} (h : 2 ≤ wh ∧ wh ≤ 3) : wh = 2 ∨ wh = 3 := by
  obtain ⟨j, hj, rfl⟩ := jin_of (n := 3) (by decide) (Int32.le_trans (by decide) h.1) h.2
  have : 2 ≤ j := (nI_lei (a := 2) (by decide) (by omega)).mp h.1
  have : j = 2 ∨ j = 3 := by omega
  rcases this with rfl | rfl
  · exact Or.inl rfl
  · exact Or.inr rfl
set_option maxRecDepth 100000 in
set_option maxHeartbeats 4000000 in
theorem mX7_duel0 (s : Nat → Int32) (la : Nat → Int32) (r : rT) (v : vT) (c : Nat → Nat → Int32) (l : Nat → Int32) (tn : Int32) (p : Nat → Int32) (pa : Nat → Nat → Int32) (m : Nat) (q : rT) (b : Int32) (x : Nat → Nat) (h : Nat → Nat → Int64) (ka kb N : Nat) (ha : ka < r 6 1) (hb : kb < r 6 1) (hne : ka ≠ kb) (hN : N ≤ 5) (wh : Int32) (hw : 0 ≤ wh ∧ wh ≤ 1) (hS : mS s r) (hr : rOK r) : J KX7_duel 21 (fun o B => o = some (.long (lowT (dl0 r ka kb N) (1000 ^ N) (wh &&& 1))) ∧ ∃ m9 q9 b9 x9 h9, B = (wM s la r v c l tn p pa m9 q9 b9 x9 h9)) 0 [some (.ref 0), some (.int (nI ka)), some (.int (nI kb)), some (.int (nI N)), some (.int wh)] [] (wM s la r v c l tn p pa m q b x h) 0 0 := by
  rcases w01 hw with rfl | rfl
  · skip
    refine J.aload_n dX7_duel_0 rfl rfl ?_
    refine J.iload_n dX7_duel_1 rfl rfl ?_
    refine J.cvM (as := [.int _]) s la r v c l tn p pa m q b x h okX7_isKing jcX7_203 (mX7_isKing s la r v c l tn p pa m q b x h (nI ka)) dX7_duel_2 rfl rfl rfl rfl (fun r9 B9 hq9 => ?_)
    obtain ⟨rfl, rfl⟩ := hq9
    refine ⟨_, _, _, _, _, _, _, _, _, _, _, _, _, _, rfl, ?_⟩
    show J _ _ _ _ _ (.int _ :: _) (wM s la r v c l tn p pa m q b x h) _ _
    refine J.if_eq (tgt := 41) dX7_duel_5 (by decide) (fun c5 => absurd c5 (fun h => (jB_0 _).mp h (jin_ge (by have := hr.2.1; omega) ha))) (fun c5 => ?_)
    refine J.aload_n dX7_duel_8 rfl rfl ?_
    refine J.iload_n dX7_duel_9 rfl rfl ?_
    refine J.cvM (as := [.int _]) s la r v c l tn p pa m q b x h okX7_isKing jcX7_203 (mX7_isKing s la r v c l tn p pa m q b x h (nI kb)) dX7_duel_10 rfl rfl rfl rfl (fun r9 B9 hq9 => ?_)
    obtain ⟨rfl, rfl⟩ := hq9
    refine ⟨_, _, _, _, _, _, _, _, _, _, _, _, _, _, rfl, ?_⟩
    show J _ _ _ _ _ (.int _ :: _) (wM s la r v c l tn p pa m q b x h) _ _
    refine J.if_eq (tgt := 41) dX7_duel_13 (by decide) (fun c13 => absurd c13 (fun h => (jB_0 _).mp h (jin_ge (by have := hr.2.1; omega) hb))) (fun c13 => ?_)
    refine J.iload_n dX7_duel_16 rfl rfl ?_
    refine J.iload_n dX7_duel_17 rfl rfl ?_
    refine J.icmp_eq (tgt := 41) dX7_duel_18 (by decide) (fun c18 => absurd c18 (fun h9 => hne ((nI_eqi (by have := hr.2.1; omega) (by have := hr.2.1; omega)).mp h9))) (fun c18 => ?_)
    refine J.iload_n dX7_duel_21 rfl rfl ?_
    refine J.cs (as := [.int _]) (is := []) okX7_isLong jcX7_236 (mX7_isLong (nI N)) dX7_duel_22 rfl rfl rfl rfl rfl rfl (fun r9 B9 hq => ?_)
    obtain ⟨rfl, rfl⟩ := hq
    refine ⟨rfl, ?_⟩
    show J _ _ _ _ _ (.int _ :: _) (wM s la r v c l tn p pa m q b x h) _ _
    refine J.if_eq (tgt := 41) dX7_duel_25 (by decide) (fun c25 => absurd c25 (fun h => (jB_0 _).mp h (jw (a := 0) (c := 5) (by decide) (Nat.zero_le _) hN))) (fun c25 => ?_)
    refine J.iload dX7_duel_28 rfl ?_
    refine J.i2l dX7_duel_30 ?_
    refine J.lconst 0 dX7_duel_31 (by decide) ?_
    refine J.ldc2 (v := 4) dX7_duel_32 (jt 947 rfl rfl) ?_
    refine J.cs (as := [.long _, .long _, .long _]) (is := []) okX7_in jcX7_74 (mX7_inI 0 0 4 (by decide) (by decide)) dX7_duel_35 rfl rfl rfl rfl rfl rfl (fun r9 B9 hq => ?_)
    obtain ⟨rfl, rfl⟩ := hq
    refine ⟨rfl, ?_⟩
    show J _ _ _ _ _ (.int _ :: _) (wM s la r v c l tn p pa m q b x h) _ _
    refine J.if_ne (tgt := 45) dX7_duel_38 (by decide) (fun c38 => ?_) (fun c38 => absurd c38 (fun h => (jB_0 _).mp h (by decide)))
    refine J.aload_n dX7_duel_45 rfl rfl ?_
    refine J.cvM (as := []) s la r v c l tn p pa m q b x h okX7_lays jcX7_196 (mX7_lays s la r v c l tn p pa m q b x h hS hr) dX7_duel_46 rfl rfl rfl rfl (fun r9 B9 hq9 => ?_)
    obtain ⟨rfl, rfl⟩ := hq9
    refine ⟨_, _, _, _, _, _, _, _, _, _, _, _, _, _, rfl, ?_⟩
    show J _ _ _ _ _ [] (wM s la r v c l tn p pa (r 6 0) (mlay q r (r 6 0)) b x h) _ _
    refine J.aload_n dX7_duel_49 rfl rfl ?_
    refine J.iload_n dX7_duel_50 rfl rfl ?_
    refine J.iload_n dX7_duel_51 rfl rfl ?_
    refine J.iload_n dX7_duel_52 rfl rfl ?_
    refine J.cvM (as := [.int _, .int _, .int _]) s la r v c l tn p pa (r 6 0) (mlay q r (r 6 0)) b x h okX7_duels jcX7_264 (mX7_duels s la r v c l tn p pa (r 6 0) (mlay q r (r 6 0)) b x h (oqR r) (mlay_q q) (mlay_ok hr) ka kb N ha hb hN hS hr) dX7_duel_53 rfl rfl rfl rfl (fun r9 B9 hq9 => ?_)
    obtain ⟨rfl, h9, rfl, hf9, hs9⟩ := hq9
    refine ⟨_, _, _, _, _, _, _, _, _, _, _, _, _, _, rfl, ?_⟩
    show J _ _ _ _ _ [] (wM s la r v c l tn p pa (r 6 0) (mlay q r (r 6 0)) (jB (0 < (mdz (oqR r) (r 6 0) r ka kb N N 0 (r 6 3)))) x h9) _ _
    refine J.iload dX7_duel_56 rfl ?_
    refine J.iconst (4) dX7_duel_58 (by decide) ?_
    refine J.icmp_ne (tgt := 75) dX7_duel_59 (by decide) (fun c59 => ?_) (fun c59 => absurd c59 (by decide))
    refine J.iload dX7_duel_75 rfl ?_
    refine J.iconst (2) dX7_duel_77 (by decide) ?_
    refine J.icmp_ge (tgt := 93) dX7_duel_78 (by decide) (fun c78 => absurd c78 (by decide)) (fun c78 => ?_)
    refine J.aload_n dX7_duel_81 rfl rfl ?_
    refine J.mg33 dX7_duel_82 rfl ?_
    refine J.aload_n dX7_duel_85 rfl rfl ?_
    refine J.mg26 dX7_duel_86 rfl ?_
    rw [(mlay_E q r 0 (r 6 0)).2.1]
    refine J.ml14 (r 6 3) dX7_duel_89 rfl (by have := hr.w; omega) ?_
    rw [hf9 _ hr.2.2.2.1]
    refine J.goto (tgt := 102) dX7_duel_90 (by decide) ?_
    refine J.aload_n dX7_duel_102 rfl rfl ?_
    refine J.mg25 dX7_duel_103 rfl ?_
    refine J.iload_n dX7_duel_106 rfl rfl ?_
    refine J.imul dX7_duel_107 ?_
    rw [ix0 (r 6 0) N]
    refine J.cs (as := [.int _]) (is := []) okX7_tens jcX7_232 (mX7_tens ((r 6 0) * N) (by have := Nat.mul_le_mul hr.1 hN; omega)) dX7_duel_108 rfl rfl rfl rfl rfl rfl (fun r9 B9 hq => ?_)
    obtain ⟨rfl, rfl⟩ := hq
    refine ⟨rfl, ?_⟩
    show J _ _ _ _ _ (.long _ :: _) (wM s la r v c l tn p pa (r 6 0) (mlay q r (r 6 0)) (jB (0 < (mdz (oqR r) (r 6 0) r ka kb N N 0 (r 6 3)))) x h9) _ _
    refine J.iload dX7_duel_111 rfl ?_
    refine J.iconst (2) dX7_duel_113 (by decide) ?_
    refine J.irem dX7_duel_114 (by decide) ?_
    refine J.cs (as := [.long _, .long _, .int _]) (is := []) okX7_lowest jcX7_244 (mX7_lowest (mdz (oqR r) (r 6 0) r ka kb N N 0 (r 6 3)) (10 ^ ((r 6 0) * N)) (0 - 0 / 2 * 2) (by have := (mdz_le hr ka kb hN).1; omega) (by have := (mdz_le hr ka kb hN).1; omega) (by have := ten_10 hr.1 hN; omega) (by have := ten_10 hr.1 hN; omega)) dX7_duel_115 rfl rfl rfl rfl rfl rfl (fun r9 B9 hq => ?_)
    obtain ⟨rfl, rfl⟩ := hq
    refine ⟨rfl, ?_⟩
    show J _ _ _ _ _ (.long _ :: _) (wM s la r v c l tn p pa (r 6 0) (mlay q r (r 6 0)) (jB (0 < (mdz (oqR r) (r 6 0) r ka kb N N 0 (r 6 3)))) x h9) _ _
    exact J.lret dX7_duel_118 rfl (Nat.le_refl _) (Nat.le_refl _) ⟨congrArg (fun z => some (Value.long z)) (duel0E hr ka kb N _), _, _, _, _, _, rfl⟩
  · skip
    refine J.aload_n dX7_duel_0 rfl rfl ?_
    refine J.iload_n dX7_duel_1 rfl rfl ?_
    refine J.cvM (as := [.int _]) s la r v c l tn p pa m q b x h okX7_isKing jcX7_203 (mX7_isKing s la r v c l tn p pa m q b x h (nI ka)) dX7_duel_2 rfl rfl rfl rfl (fun r9 B9 hq9 => ?_)
    obtain ⟨rfl, rfl⟩ := hq9
    refine ⟨_, _, _, _, _, _, _, _, _, _, _, _, _, _, rfl, ?_⟩
    show J _ _ _ _ _ (.int _ :: _) (wM s la r v c l tn p pa m q b x h) _ _
    refine J.if_eq (tgt := 41) dX7_duel_5 (by decide) (fun c5 => absurd c5 (fun h => (jB_0 _).mp h (jin_ge (by have := hr.2.1; omega) ha))) (fun c5 => ?_)
    refine J.aload_n dX7_duel_8 rfl rfl ?_
    refine J.iload_n dX7_duel_9 rfl rfl ?_
    refine J.cvM (as := [.int _]) s la r v c l tn p pa m q b x h okX7_isKing jcX7_203 (mX7_isKing s la r v c l tn p pa m q b x h (nI kb)) dX7_duel_10 rfl rfl rfl rfl (fun r9 B9 hq9 => ?_)
    obtain ⟨rfl, rfl⟩ := hq9
    refine ⟨_, _, _, _, _, _, _, _, _, _, _, _, _, _, rfl, ?_⟩
    show J _ _ _ _ _ (.int _ :: _) (wM s la r v c l tn p pa m q b x h) _ _
    refine J.if_eq (tgt := 41) dX7_duel_13 (by decide) (fun c13 => absurd c13 (fun h => (jB_0 _).mp h (jin_ge (by have := hr.2.1; omega) hb))) (fun c13 => ?_)
    refine J.iload_n dX7_duel_16 rfl rfl ?_
    refine J.iload_n dX7_duel_17 rfl rfl ?_
    refine J.icmp_eq (tgt := 41) dX7_duel_18 (by decide) (fun c18 => absurd c18 (fun h9 => hne ((nI_eqi (by have := hr.2.1; omega) (by have := hr.2.1; omega)).mp h9))) (fun c18 => ?_)
    refine J.iload_n dX7_duel_21 rfl rfl ?_
    refine J.cs (as := [.int _]) (is := []) okX7_isLong jcX7_236 (mX7_isLong (nI N)) dX7_duel_22 rfl rfl rfl rfl rfl rfl (fun r9 B9 hq => ?_)
    obtain ⟨rfl, rfl⟩ := hq
    refine ⟨rfl, ?_⟩
    show J _ _ _ _ _ (.int _ :: _) (wM s la r v c l tn p pa m q b x h) _ _
    refine J.if_eq (tgt := 41) dX7_duel_25 (by decide) (fun c25 => absurd c25 (fun h => (jB_0 _).mp h (jw (a := 0) (c := 5) (by decide) (Nat.zero_le _) hN))) (fun c25 => ?_)
    refine J.iload dX7_duel_28 rfl ?_
    refine J.i2l dX7_duel_30 ?_
    refine J.lconst 0 dX7_duel_31 (by decide) ?_
    refine J.ldc2 (v := 4) dX7_duel_32 (jt 947 rfl rfl) ?_
    refine J.cs (as := [.long _, .long _, .long _]) (is := []) okX7_in jcX7_74 (mX7_inI 1 0 4 (by decide) (by decide)) dX7_duel_35 rfl rfl rfl rfl rfl rfl (fun r9 B9 hq => ?_)
    obtain ⟨rfl, rfl⟩ := hq
    refine ⟨rfl, ?_⟩
    show J _ _ _ _ _ (.int _ :: _) (wM s la r v c l tn p pa m q b x h) _ _
    refine J.if_ne (tgt := 45) dX7_duel_38 (by decide) (fun c38 => ?_) (fun c38 => absurd c38 (fun h => (jB_0 _).mp h (by decide)))
    refine J.aload_n dX7_duel_45 rfl rfl ?_
    refine J.cvM (as := []) s la r v c l tn p pa m q b x h okX7_lays jcX7_196 (mX7_lays s la r v c l tn p pa m q b x h hS hr) dX7_duel_46 rfl rfl rfl rfl (fun r9 B9 hq9 => ?_)
    obtain ⟨rfl, rfl⟩ := hq9
    refine ⟨_, _, _, _, _, _, _, _, _, _, _, _, _, _, rfl, ?_⟩
    show J _ _ _ _ _ [] (wM s la r v c l tn p pa (r 6 0) (mlay q r (r 6 0)) b x h) _ _
    refine J.aload_n dX7_duel_49 rfl rfl ?_
    refine J.iload_n dX7_duel_50 rfl rfl ?_
    refine J.iload_n dX7_duel_51 rfl rfl ?_
    refine J.iload_n dX7_duel_52 rfl rfl ?_
    refine J.cvM (as := [.int _, .int _, .int _]) s la r v c l tn p pa (r 6 0) (mlay q r (r 6 0)) b x h okX7_duels jcX7_264 (mX7_duels s la r v c l tn p pa (r 6 0) (mlay q r (r 6 0)) b x h (oqR r) (mlay_q q) (mlay_ok hr) ka kb N ha hb hN hS hr) dX7_duel_53 rfl rfl rfl rfl (fun r9 B9 hq9 => ?_)
    obtain ⟨rfl, h9, rfl, hf9, hs9⟩ := hq9
    refine ⟨_, _, _, _, _, _, _, _, _, _, _, _, _, _, rfl, ?_⟩
    show J _ _ _ _ _ [] (wM s la r v c l tn p pa (r 6 0) (mlay q r (r 6 0)) (jB (0 < (mdz (oqR r) (r 6 0) r ka kb N N 0 (r 6 3)))) x h9) _ _
    refine J.iload dX7_duel_56 rfl ?_
    refine J.iconst (4) dX7_duel_58 (by decide) ?_
    refine J.icmp_ne (tgt := 75) dX7_duel_59 (by decide) (fun c59 => ?_) (fun c59 => absurd c59 (by decide))
    refine J.iload dX7_duel_75 rfl ?_
    refine J.iconst (2) dX7_duel_77 (by decide) ?_
    refine J.icmp_ge (tgt := 93) dX7_duel_78 (by decide) (fun c78 => absurd c78 (by decide)) (fun c78 => ?_)
    refine J.aload_n dX7_duel_81 rfl rfl ?_
    refine J.mg33 dX7_duel_82 rfl ?_
    refine J.aload_n dX7_duel_85 rfl rfl ?_
    refine J.mg26 dX7_duel_86 rfl ?_
    rw [(mlay_E q r 0 (r 6 0)).2.1]
    refine J.ml14 (r 6 3) dX7_duel_89 rfl (by have := hr.w; omega) ?_
    rw [hf9 _ hr.2.2.2.1]
    refine J.goto (tgt := 102) dX7_duel_90 (by decide) ?_
    refine J.aload_n dX7_duel_102 rfl rfl ?_
    refine J.mg25 dX7_duel_103 rfl ?_
    refine J.iload_n dX7_duel_106 rfl rfl ?_
    refine J.imul dX7_duel_107 ?_
    rw [ix0 (r 6 0) N]
    refine J.cs (as := [.int _]) (is := []) okX7_tens jcX7_232 (mX7_tens ((r 6 0) * N) (by have := Nat.mul_le_mul hr.1 hN; omega)) dX7_duel_108 rfl rfl rfl rfl rfl rfl (fun r9 B9 hq => ?_)
    obtain ⟨rfl, rfl⟩ := hq
    refine ⟨rfl, ?_⟩
    show J _ _ _ _ _ (.long _ :: _) (wM s la r v c l tn p pa (r 6 0) (mlay q r (r 6 0)) (jB (0 < (mdz (oqR r) (r 6 0) r ka kb N N 0 (r 6 3)))) x h9) _ _
    refine J.iload dX7_duel_111 rfl ?_
    refine J.iconst (2) dX7_duel_113 (by decide) ?_
    refine J.irem dX7_duel_114 (by decide) ?_
    refine J.cs (as := [.long _, .long _, .int _]) (is := []) okX7_lowest jcX7_244 (mX7_lowest (mdz (oqR r) (r 6 0) r ka kb N N 0 (r 6 3)) (10 ^ ((r 6 0) * N)) (1 - 1 / 2 * 2) (by have := (mdz_le hr ka kb hN).1; omega) (by have := (mdz_le hr ka kb hN).1; omega) (by have := ten_10 hr.1 hN; omega) (by have := ten_10 hr.1 hN; omega)) dX7_duel_115 rfl rfl rfl rfl rfl rfl (fun r9 B9 hq => ?_)
    obtain ⟨rfl, rfl⟩ := hq
    refine ⟨rfl, ?_⟩
    show J _ _ _ _ _ (.long _ :: _) (wM s la r v c l tn p pa (r 6 0) (mlay q r (r 6 0)) (jB (0 < (mdz (oqR r) (r 6 0) r ka kb N N 0 (r 6 3)))) x h9) _ _
    exact J.lret dX7_duel_118 rfl (Nat.le_refl _) (Nat.le_refl _) ⟨congrArg (fun z => some (Value.long z)) (duel0E hr ka kb N _), _, _, _, _, _, rfl⟩
set_option maxRecDepth 100000 in
set_option maxHeartbeats 4000000 in
theorem mX7_duel1 (s : Nat → Int32) (la : Nat → Int32) (r : rT) (v : vT) (c : Nat → Nat → Int32) (l : Nat → Int32) (tn : Int32) (p : Nat → Int32) (pa : Nat → Nat → Int32) (m : Nat) (q : rT) (b : Int32) (x : Nat → Nat) (h : Nat → Nat → Int64) (ka kb N : Nat) (ha : ka < r 6 1) (hb : kb < r 6 1) (hne : ka ≠ kb) (hN : N ≤ 5) (wh : Int32) (hw : 2 ≤ wh ∧ wh ≤ 3) (hS : mS s r) (hr : rOK r) : J KX7_duel 21 (fun o B => o = some (.long (lowT (dl1 r ka kb N) (1000 ^ N) (wh &&& 1))) ∧ ∃ m9 q9 b9 x9 h9, B = (wM s la r v c l tn p pa m9 q9 b9 x9 h9)) 0 [some (.ref 0), some (.int (nI ka)), some (.int (nI kb)), some (.int (nI N)), some (.int wh)] [] (wM s la r v c l tn p pa m q b x h) 0 0 := by
  rcases w23 hw with rfl | rfl
  · skip
    refine J.aload_n dX7_duel_0 rfl rfl ?_
    refine J.iload_n dX7_duel_1 rfl rfl ?_
    refine J.cvM (as := [.int _]) s la r v c l tn p pa m q b x h okX7_isKing jcX7_203 (mX7_isKing s la r v c l tn p pa m q b x h (nI ka)) dX7_duel_2 rfl rfl rfl rfl (fun r9 B9 hq9 => ?_)
    obtain ⟨rfl, rfl⟩ := hq9
    refine ⟨_, _, _, _, _, _, _, _, _, _, _, _, _, _, rfl, ?_⟩
    show J _ _ _ _ _ (.int _ :: _) (wM s la r v c l tn p pa m q b x h) _ _
    refine J.if_eq (tgt := 41) dX7_duel_5 (by decide) (fun c5 => absurd c5 (fun h => (jB_0 _).mp h (jin_ge (by have := hr.2.1; omega) ha))) (fun c5 => ?_)
    refine J.aload_n dX7_duel_8 rfl rfl ?_
    refine J.iload_n dX7_duel_9 rfl rfl ?_
    refine J.cvM (as := [.int _]) s la r v c l tn p pa m q b x h okX7_isKing jcX7_203 (mX7_isKing s la r v c l tn p pa m q b x h (nI kb)) dX7_duel_10 rfl rfl rfl rfl (fun r9 B9 hq9 => ?_)
    obtain ⟨rfl, rfl⟩ := hq9
    refine ⟨_, _, _, _, _, _, _, _, _, _, _, _, _, _, rfl, ?_⟩
    show J _ _ _ _ _ (.int _ :: _) (wM s la r v c l tn p pa m q b x h) _ _
    refine J.if_eq (tgt := 41) dX7_duel_13 (by decide) (fun c13 => absurd c13 (fun h => (jB_0 _).mp h (jin_ge (by have := hr.2.1; omega) hb))) (fun c13 => ?_)
    refine J.iload_n dX7_duel_16 rfl rfl ?_
    refine J.iload_n dX7_duel_17 rfl rfl ?_
    refine J.icmp_eq (tgt := 41) dX7_duel_18 (by decide) (fun c18 => absurd c18 (fun h9 => hne ((nI_eqi (by have := hr.2.1; omega) (by have := hr.2.1; omega)).mp h9))) (fun c18 => ?_)
    refine J.iload_n dX7_duel_21 rfl rfl ?_
    refine J.cs (as := [.int _]) (is := []) okX7_isLong jcX7_236 (mX7_isLong (nI N)) dX7_duel_22 rfl rfl rfl rfl rfl rfl (fun r9 B9 hq => ?_)
    obtain ⟨rfl, rfl⟩ := hq
    refine ⟨rfl, ?_⟩
    show J _ _ _ _ _ (.int _ :: _) (wM s la r v c l tn p pa m q b x h) _ _
    refine J.if_eq (tgt := 41) dX7_duel_25 (by decide) (fun c25 => absurd c25 (fun h => (jB_0 _).mp h (jw (a := 0) (c := 5) (by decide) (Nat.zero_le _) hN))) (fun c25 => ?_)
    refine J.iload dX7_duel_28 rfl ?_
    refine J.i2l dX7_duel_30 ?_
    refine J.lconst 0 dX7_duel_31 (by decide) ?_
    refine J.ldc2 (v := 4) dX7_duel_32 (jt 947 rfl rfl) ?_
    refine J.cs (as := [.long _, .long _, .long _]) (is := []) okX7_in jcX7_74 (mX7_inI 2 0 4 (by decide) (by decide)) dX7_duel_35 rfl rfl rfl rfl rfl rfl (fun r9 B9 hq => ?_)
    obtain ⟨rfl, rfl⟩ := hq
    refine ⟨rfl, ?_⟩
    show J _ _ _ _ _ (.int _ :: _) (wM s la r v c l tn p pa m q b x h) _ _
    refine J.if_ne (tgt := 45) dX7_duel_38 (by decide) (fun c38 => ?_) (fun c38 => absurd c38 (fun h => (jB_0 _).mp h (by decide)))
    refine J.aload_n dX7_duel_45 rfl rfl ?_
    refine J.cvM (as := []) s la r v c l tn p pa m q b x h okX7_lays jcX7_196 (mX7_lays s la r v c l tn p pa m q b x h hS hr) dX7_duel_46 rfl rfl rfl rfl (fun r9 B9 hq9 => ?_)
    obtain ⟨rfl, rfl⟩ := hq9
    refine ⟨_, _, _, _, _, _, _, _, _, _, _, _, _, _, rfl, ?_⟩
    show J _ _ _ _ _ [] (wM s la r v c l tn p pa (r 6 0) (mlay q r (r 6 0)) b x h) _ _
    refine J.aload_n dX7_duel_49 rfl rfl ?_
    refine J.iload_n dX7_duel_50 rfl rfl ?_
    refine J.iload_n dX7_duel_51 rfl rfl ?_
    refine J.iload_n dX7_duel_52 rfl rfl ?_
    refine J.cvM (as := [.int _, .int _, .int _]) s la r v c l tn p pa (r 6 0) (mlay q r (r 6 0)) b x h okX7_duels jcX7_264 (mX7_duels s la r v c l tn p pa (r 6 0) (mlay q r (r 6 0)) b x h (oqR r) (mlay_q q) (mlay_ok hr) ka kb N ha hb hN hS hr) dX7_duel_53 rfl rfl rfl rfl (fun r9 B9 hq9 => ?_)
    obtain ⟨rfl, h9, rfl, hf9, hs9⟩ := hq9
    refine ⟨_, _, _, _, _, _, _, _, _, _, _, _, _, _, rfl, ?_⟩
    show J _ _ _ _ _ [] (wM s la r v c l tn p pa (r 6 0) (mlay q r (r 6 0)) (jB (0 < (mdz (oqR r) (r 6 0) r ka kb N N 0 (r 6 3)))) x h9) _ _
    refine J.iload dX7_duel_56 rfl ?_
    refine J.iconst (4) dX7_duel_58 (by decide) ?_
    refine J.icmp_ne (tgt := 75) dX7_duel_59 (by decide) (fun c59 => ?_) (fun c59 => absurd c59 (by decide))
    refine J.iload dX7_duel_75 rfl ?_
    refine J.iconst (2) dX7_duel_77 (by decide) ?_
    refine J.icmp_ge (tgt := 93) dX7_duel_78 (by decide) (fun c78 => ?_) (fun c78 => absurd c78 (fun h9 => h9 (by decide)))
    refine J.aload_n dX7_duel_93 rfl rfl ?_
    refine J.mg34 dX7_duel_94 rfl ?_
    refine J.aload_n dX7_duel_97 rfl rfl ?_
    refine J.mg26 dX7_duel_98 rfl ?_
    rw [(mlay_E q r 0 (r 6 0)).2.1]
    refine J.ml15 (r 6 3) dX7_duel_101 rfl (by have := hr.w; omega) ?_
    rw [hs9 _ hr.2.2.2.1]
    refine J.aload_n dX7_duel_102 rfl rfl ?_
    refine J.mg25 dX7_duel_103 rfl ?_
    refine J.iload_n dX7_duel_106 rfl rfl ?_
    refine J.imul dX7_duel_107 ?_
    rw [ix0 (r 6 0) N]
    refine J.cs (as := [.int _]) (is := []) okX7_tens jcX7_232 (mX7_tens ((r 6 0) * N) (by have := Nat.mul_le_mul hr.1 hN; omega)) dX7_duel_108 rfl rfl rfl rfl rfl rfl (fun r9 B9 hq => ?_)
    obtain ⟨rfl, rfl⟩ := hq
    refine ⟨rfl, ?_⟩
    show J _ _ _ _ _ (.long _ :: _) (wM s la r v c l tn p pa (r 6 0) (mlay q r (r 6 0)) (jB (0 < (mdz (oqR r) (r 6 0) r ka kb N N 0 (r 6 3)))) x h9) _ _
    refine J.iload dX7_duel_111 rfl ?_
    refine J.iconst (2) dX7_duel_113 (by decide) ?_
    refine J.irem dX7_duel_114 (by decide) ?_
    refine J.cs (as := [.long _, .long _, .int _]) (is := []) okX7_lowest jcX7_244 (mX7_lowest (mdz (oqR r) (r 6 0) r ka kb N N 1 (r 6 3)) (10 ^ ((r 6 0) * N)) (2 - 2 / 2 * 2) (by have := (mdz_le hr ka kb hN).2; omega) (by have := (mdz_le hr ka kb hN).2; omega) (by have := ten_10 hr.1 hN; omega) (by have := ten_10 hr.1 hN; omega)) dX7_duel_115 rfl rfl rfl rfl rfl rfl (fun r9 B9 hq => ?_)
    obtain ⟨rfl, rfl⟩ := hq
    refine ⟨rfl, ?_⟩
    show J _ _ _ _ _ (.long _ :: _) (wM s la r v c l tn p pa (r 6 0) (mlay q r (r 6 0)) (jB (0 < (mdz (oqR r) (r 6 0) r ka kb N N 0 (r 6 3)))) x h9) _ _
    exact J.lret dX7_duel_118 rfl (Nat.le_refl _) (Nat.le_refl _) ⟨congrArg (fun z => some (Value.long z)) (duel1E hr ka kb N _), _, _, _, _, _, rfl⟩
  · skip
    refine J.aload_n dX7_duel_0 rfl rfl ?_
    refine J.iload_n dX7_duel_1 rfl rfl ?_
    refine J.cvM (as := [.int _]) s la r v c l tn p pa m q b x h okX7_isKing jcX7_203 (mX7_isKing s la r v c l tn p pa m q b x h (nI ka)) dX7_duel_2 rfl rfl rfl rfl (fun r9 B9 hq9 => ?_)
    obtain ⟨rfl, rfl⟩ := hq9
    refine ⟨_, _, _, _, _, _, _, _, _, _, _, _, _, _, rfl, ?_⟩
    show J _ _ _ _ _ (.int _ :: _) (wM s la r v c l tn p pa m q b x h) _ _
    refine J.if_eq (tgt := 41) dX7_duel_5 (by decide) (fun c5 => absurd c5 (fun h => (jB_0 _).mp h (jin_ge (by have := hr.2.1; omega) ha))) (fun c5 => ?_)
    refine J.aload_n dX7_duel_8 rfl rfl ?_
    refine J.iload_n dX7_duel_9 rfl rfl ?_
    refine J.cvM (as := [.int _]) s la r v c l tn p pa m q b x h okX7_isKing jcX7_203 (mX7_isKing s la r v c l tn p pa m q b x h (nI kb)) dX7_duel_10 rfl rfl rfl rfl (fun r9 B9 hq9 => ?_)
    obtain ⟨rfl, rfl⟩ := hq9
    refine ⟨_, _, _, _, _, _, _, _, _, _, _, _, _, _, rfl, ?_⟩
    show J _ _ _ _ _ (.int _ :: _) (wM s la r v c l tn p pa m q b x h) _ _
    refine J.if_eq (tgt := 41) dX7_duel_13 (by decide) (fun c13 => absurd c13 (fun h => (jB_0 _).mp h (jin_ge (by have := hr.2.1; omega) hb))) (fun c13 => ?_)
    refine J.iload_n dX7_duel_16 rfl rfl ?_
    refine J.iload_n dX7_duel_17 rfl rfl ?_
    refine J.icmp_eq (tgt := 41) dX7_duel_18 (by decide) (fun c18 => absurd c18 (fun h9 => hne ((nI_eqi (by have := hr.2.1; omega) (by have := hr.2.1; omega)).mp h9))) (fun c18 => ?_)
    refine J.iload_n dX7_duel_21 rfl rfl ?_
    refine J.cs (as := [.int _]) (is := []) okX7_isLong jcX7_236 (mX7_isLong (nI N)) dX7_duel_22 rfl rfl rfl rfl rfl rfl (fun r9 B9 hq => ?_)
    obtain ⟨rfl, rfl⟩ := hq
    refine ⟨rfl, ?_⟩
    show J _ _ _ _ _ (.int _ :: _) (wM s la r v c l tn p pa m q b x h) _ _
    refine J.if_eq (tgt := 41) dX7_duel_25 (by decide) (fun c25 => absurd c25 (fun h => (jB_0 _).mp h (jw (a := 0) (c := 5) (by decide) (Nat.zero_le _) hN))) (fun c25 => ?_)
    refine J.iload dX7_duel_28 rfl ?_
    refine J.i2l dX7_duel_30 ?_
    refine J.lconst 0 dX7_duel_31 (by decide) ?_
    refine J.ldc2 (v := 4) dX7_duel_32 (jt 947 rfl rfl) ?_
    refine J.cs (as := [.long _, .long _, .long _]) (is := []) okX7_in jcX7_74 (mX7_inI 3 0 4 (by decide) (by decide)) dX7_duel_35 rfl rfl rfl rfl rfl rfl (fun r9 B9 hq => ?_)
    obtain ⟨rfl, rfl⟩ := hq
    refine ⟨rfl, ?_⟩
    show J _ _ _ _ _ (.int _ :: _) (wM s la r v c l tn p pa m q b x h) _ _
    refine J.if_ne (tgt := 45) dX7_duel_38 (by decide) (fun c38 => ?_) (fun c38 => absurd c38 (fun h => (jB_0 _).mp h (by decide)))
    refine J.aload_n dX7_duel_45 rfl rfl ?_
    refine J.cvM (as := []) s la r v c l tn p pa m q b x h okX7_lays jcX7_196 (mX7_lays s la r v c l tn p pa m q b x h hS hr) dX7_duel_46 rfl rfl rfl rfl (fun r9 B9 hq9 => ?_)
    obtain ⟨rfl, rfl⟩ := hq9
    refine ⟨_, _, _, _, _, _, _, _, _, _, _, _, _, _, rfl, ?_⟩
    show J _ _ _ _ _ [] (wM s la r v c l tn p pa (r 6 0) (mlay q r (r 6 0)) b x h) _ _
    refine J.aload_n dX7_duel_49 rfl rfl ?_
    refine J.iload_n dX7_duel_50 rfl rfl ?_
    refine J.iload_n dX7_duel_51 rfl rfl ?_
    refine J.iload_n dX7_duel_52 rfl rfl ?_
    refine J.cvM (as := [.int _, .int _, .int _]) s la r v c l tn p pa (r 6 0) (mlay q r (r 6 0)) b x h okX7_duels jcX7_264 (mX7_duels s la r v c l tn p pa (r 6 0) (mlay q r (r 6 0)) b x h (oqR r) (mlay_q q) (mlay_ok hr) ka kb N ha hb hN hS hr) dX7_duel_53 rfl rfl rfl rfl (fun r9 B9 hq9 => ?_)
    obtain ⟨rfl, h9, rfl, hf9, hs9⟩ := hq9
    refine ⟨_, _, _, _, _, _, _, _, _, _, _, _, _, _, rfl, ?_⟩
    show J _ _ _ _ _ [] (wM s la r v c l tn p pa (r 6 0) (mlay q r (r 6 0)) (jB (0 < (mdz (oqR r) (r 6 0) r ka kb N N 0 (r 6 3)))) x h9) _ _
    refine J.iload dX7_duel_56 rfl ?_
    refine J.iconst (4) dX7_duel_58 (by decide) ?_
    refine J.icmp_ne (tgt := 75) dX7_duel_59 (by decide) (fun c59 => ?_) (fun c59 => absurd c59 (by decide))
    refine J.iload dX7_duel_75 rfl ?_
    refine J.iconst (2) dX7_duel_77 (by decide) ?_
    refine J.icmp_ge (tgt := 93) dX7_duel_78 (by decide) (fun c78 => ?_) (fun c78 => absurd c78 (fun h9 => h9 (by decide)))
    refine J.aload_n dX7_duel_93 rfl rfl ?_
    refine J.mg34 dX7_duel_94 rfl ?_
    refine J.aload_n dX7_duel_97 rfl rfl ?_
    refine J.mg26 dX7_duel_98 rfl ?_
    rw [(mlay_E q r 0 (r 6 0)).2.1]
    refine J.ml15 (r 6 3) dX7_duel_101 rfl (by have := hr.w; omega) ?_
    rw [hs9 _ hr.2.2.2.1]
    refine J.aload_n dX7_duel_102 rfl rfl ?_
    refine J.mg25 dX7_duel_103 rfl ?_
    refine J.iload_n dX7_duel_106 rfl rfl ?_
    refine J.imul dX7_duel_107 ?_
    rw [ix0 (r 6 0) N]
    refine J.cs (as := [.int _]) (is := []) okX7_tens jcX7_232 (mX7_tens ((r 6 0) * N) (by have := Nat.mul_le_mul hr.1 hN; omega)) dX7_duel_108 rfl rfl rfl rfl rfl rfl (fun r9 B9 hq => ?_)
    obtain ⟨rfl, rfl⟩ := hq
    refine ⟨rfl, ?_⟩
    show J _ _ _ _ _ (.long _ :: _) (wM s la r v c l tn p pa (r 6 0) (mlay q r (r 6 0)) (jB (0 < (mdz (oqR r) (r 6 0) r ka kb N N 0 (r 6 3)))) x h9) _ _
    refine J.iload dX7_duel_111 rfl ?_
    refine J.iconst (2) dX7_duel_113 (by decide) ?_
    refine J.irem dX7_duel_114 (by decide) ?_
    refine J.cs (as := [.long _, .long _, .int _]) (is := []) okX7_lowest jcX7_244 (mX7_lowest (mdz (oqR r) (r 6 0) r ka kb N N 1 (r 6 3)) (10 ^ ((r 6 0) * N)) (3 - 3 / 2 * 2) (by have := (mdz_le hr ka kb hN).2; omega) (by have := (mdz_le hr ka kb hN).2; omega) (by have := ten_10 hr.1 hN; omega) (by have := ten_10 hr.1 hN; omega)) dX7_duel_115 rfl rfl rfl rfl rfl rfl (fun r9 B9 hq => ?_)
    obtain ⟨rfl, rfl⟩ := hq
    refine ⟨rfl, ?_⟩
    show J _ _ _ _ _ (.long _ :: _) (wM s la r v c l tn p pa (r 6 0) (mlay q r (r 6 0)) (jB (0 < (mdz (oqR r) (r 6 0) r ka kb N N 0 (r 6 3)))) x h9) _ _
    exact J.lret dX7_duel_118 rfl (Nat.le_refl _) (Nat.le_refl _) ⟨congrArg (fun z => some (Value.long z)) (duel1E hr ka kb N _), _, _, _, _, _, rfl⟩
set_option maxRecDepth 100000 in
set_option maxHeartbeats 4000000 in
theorem mX7_duel_bad1 (s : Nat → Int32) (la : Nat → Int32) (r : rT) (v : vT) (c : Nat → Nat → Int32) (l : Nat → Int32) (tn : Int32) (p : Nat → Int32) (pa : Nat → Nat → Int32) (m : Nat) (q : rT) (b : Int32) (x : Nat → Nat) (h : Nat → Nat → Int64) (ka kb n0 wh : Int32) (hb : ¬ (0 ≤ ka ∧ ka ≤ nI (r 6 1) - 1) ∨ ¬ (0 ≤ kb ∧ kb ≤ nI (r 6 1) - 1) ∨ ka = kb) : J KX7_duel 21 (fun o B => o = some (.long (-1)) ∧ B = (wM s la r v c l tn p pa m q b x h)) 0 [some (.ref 0), some (.int ka), some (.int kb), some (.int n0), some (.int wh)] [] (wM s la r v c l tn p pa m q b x h) 0 0 := by
  refine J.aload_n dX7_duel_0 rfl rfl ?_
  refine J.iload_n dX7_duel_1 rfl rfl ?_
  refine J.cvM (as := [.int _]) s la r v c l tn p pa m q b x h okX7_isKing jcX7_203 (mX7_isKing s la r v c l tn p pa m q b x h ka) dX7_duel_2 rfl rfl rfl rfl (fun r9 B9 hq9 => ?_)
  obtain ⟨rfl, rfl⟩ := hq9
  refine ⟨_, _, _, _, _, _, _, _, _, _, _, _, _, _, rfl, ?_⟩
  show J _ _ _ _ _ (.int _ :: _) (wM s la r v c l tn p pa m q b x h) _ _
  refine J.if_eq (tgt := 41) dX7_duel_5 (by decide) (fun c5 => ?_) (fun c5 => ?_)
  · refine J.ldc2 (v := -1) dX7_duel_41 (jt 1049 rfl rfl) ?_
    exact J.lret dX7_duel_44 rfl (Nat.le_refl _) (Nat.le_refl _) ⟨rfl, rfl⟩
  · refine J.aload_n dX7_duel_8 rfl rfl ?_
    refine J.iload_n dX7_duel_9 rfl rfl ?_
    refine J.cvM (as := [.int _]) s la r v c l tn p pa m q b x h okX7_isKing jcX7_203 (mX7_isKing s la r v c l tn p pa m q b x h kb) dX7_duel_10 rfl rfl rfl rfl (fun r9 B9 hq9 => ?_)
    obtain ⟨rfl, rfl⟩ := hq9
    refine ⟨_, _, _, _, _, _, _, _, _, _, _, _, _, _, rfl, ?_⟩
    show J _ _ _ _ _ (.int _ :: _) (wM s la r v c l tn p pa m q b x h) _ _
    refine J.if_eq (tgt := 41) dX7_duel_13 (by decide) (fun c13 => ?_) (fun c13 => ?_)
    · refine J.ldc2 (v := -1) dX7_duel_41 (jt 1049 rfl rfl) ?_
      exact J.lret dX7_duel_44 rfl (Nat.le_refl _) (Nat.le_refl _) ⟨rfl, rfl⟩
    · refine J.iload_n dX7_duel_16 rfl rfl ?_
      refine J.iload_n dX7_duel_17 rfl rfl ?_
      refine J.icmp_eq (tgt := 41) dX7_duel_18 (by decide) (fun c18 => ?_) (fun c18 => absurd c18 (fun h9 => hb.elim (fun h => h (Decidable.not_not.mp (fun h9 => c5 ((jB_0 _).mpr h9)))) (fun h => h.elim (fun h => h (Decidable.not_not.mp (fun h9 => c13 ((jB_0 _).mpr h9)))) h9)))
      refine J.ldc2 (v := -1) dX7_duel_41 (jt 1049 rfl rfl) ?_
      exact J.lret dX7_duel_44 rfl (Nat.le_refl _) (Nat.le_refl _) ⟨rfl, rfl⟩
set_option maxRecDepth 100000 in
set_option maxHeartbeats 4000000 in
theorem mX7_duel_bad2 (s : Nat → Int32) (la : Nat → Int32) (r : rT) (v : vT) (c : Nat → Nat → Int32) (l : Nat → Int32) (tn : Int32) (p : Nat → Int32) (pa : Nat → Nat → Int32) (m : Nat) (q : rT) (b : Int32) (x : Nat → Nat) (h : Nat → Nat → Int64) (ka kb n0 wh : Int32) (hb : ¬ (0 ≤ n0 ∧ n0 ≤ 5) ∨ ¬ (0 ≤ wh ∧ wh ≤ 4)) : J KX7_duel 21 (fun o B => o = some (.long (-1)) ∧ B = (wM s la r v c l tn p pa m q b x h)) 0 [some (.ref 0), some (.int ka), some (.int kb), some (.int n0), some (.int wh)] [] (wM s la r v c l tn p pa m q b x h) 0 0 := by
  refine J.aload_n dX7_duel_0 rfl rfl ?_
  refine J.iload_n dX7_duel_1 rfl rfl ?_
  refine J.cvM (as := [.int _]) s la r v c l tn p pa m q b x h okX7_isKing jcX7_203 (mX7_isKing s la r v c l tn p pa m q b x h ka) dX7_duel_2 rfl rfl rfl rfl (fun r9 B9 hq9 => ?_)
  obtain ⟨rfl, rfl⟩ := hq9
  refine ⟨_, _, _, _, _, _, _, _, _, _, _, _, _, _, rfl, ?_⟩
  show J _ _ _ _ _ (.int _ :: _) (wM s la r v c l tn p pa m q b x h) _ _
  refine J.if_eq (tgt := 41) dX7_duel_5 (by decide) (fun c5 => ?_) (fun c5 => ?_)
  · refine J.ldc2 (v := -1) dX7_duel_41 (jt 1049 rfl rfl) ?_
    exact J.lret dX7_duel_44 rfl (Nat.le_refl _) (Nat.le_refl _) ⟨rfl, rfl⟩
  · refine J.aload_n dX7_duel_8 rfl rfl ?_
    refine J.iload_n dX7_duel_9 rfl rfl ?_
    refine J.cvM (as := [.int _]) s la r v c l tn p pa m q b x h okX7_isKing jcX7_203 (mX7_isKing s la r v c l tn p pa m q b x h kb) dX7_duel_10 rfl rfl rfl rfl (fun r9 B9 hq9 => ?_)
    obtain ⟨rfl, rfl⟩ := hq9
    refine ⟨_, _, _, _, _, _, _, _, _, _, _, _, _, _, rfl, ?_⟩
    show J _ _ _ _ _ (.int _ :: _) (wM s la r v c l tn p pa m q b x h) _ _
    refine J.if_eq (tgt := 41) dX7_duel_13 (by decide) (fun c13 => ?_) (fun c13 => ?_)
    · refine J.ldc2 (v := -1) dX7_duel_41 (jt 1049 rfl rfl) ?_
      exact J.lret dX7_duel_44 rfl (Nat.le_refl _) (Nat.le_refl _) ⟨rfl, rfl⟩
    · refine J.iload_n dX7_duel_16 rfl rfl ?_
      refine J.iload_n dX7_duel_17 rfl rfl ?_
      refine J.icmp_eq (tgt := 41) dX7_duel_18 (by decide) (fun c18 => ?_) (fun c18 => ?_)
      · refine J.ldc2 (v := -1) dX7_duel_41 (jt 1049 rfl rfl) ?_
        exact J.lret dX7_duel_44 rfl (Nat.le_refl _) (Nat.le_refl _) ⟨rfl, rfl⟩
      · refine J.iload_n dX7_duel_21 rfl rfl ?_
        refine J.cs (as := [.int _]) (is := []) okX7_isLong jcX7_236 (mX7_isLong n0) dX7_duel_22 rfl rfl rfl rfl rfl rfl (fun r9 B9 hq => ?_)
        obtain ⟨rfl, rfl⟩ := hq
        refine ⟨rfl, ?_⟩
        show J _ _ _ _ _ (.int _ :: _) (wM s la r v c l tn p pa m q b x h) _ _
        refine J.if_eq (tgt := 41) dX7_duel_25 (by decide) (fun c25 => ?_) (fun c25 => ?_)
        · refine J.ldc2 (v := -1) dX7_duel_41 (jt 1049 rfl rfl) ?_
          exact J.lret dX7_duel_44 rfl (Nat.le_refl _) (Nat.le_refl _) ⟨rfl, rfl⟩
        · refine J.iload dX7_duel_28 rfl ?_
          refine J.i2l dX7_duel_30 ?_
          refine J.lconst 0 dX7_duel_31 (by decide) ?_
          refine J.ldc2 (v := 4) dX7_duel_32 (jt 947 rfl rfl) ?_
          refine J.cs (as := [.long _, .long _, .long _]) (is := []) okX7_in jcX7_74 (mX7_inI wh 0 4 (by decide) (by decide)) dX7_duel_35 rfl rfl rfl rfl rfl rfl (fun r9 B9 hq => ?_)
          obtain ⟨rfl, rfl⟩ := hq
          refine ⟨rfl, ?_⟩
          show J _ _ _ _ _ (.int _ :: _) (wM s la r v c l tn p pa m q b x h) _ _
          refine J.if_ne (tgt := 45) dX7_duel_38 (by decide) (fun c38 => absurd c38 (fun h => h ((jB_0 _).mpr (fun hC => hb.elim (fun h => h (Decidable.not_not.mp (fun h9 => c25 ((jB_0 _).mpr h9)))) (fun h => h hC))))) (fun c38 => ?_)
          refine J.ldc2 (v := -1) dX7_duel_41 (jt 1049 rfl rfl) ?_
          exact J.lret dX7_duel_44 rfl (Nat.le_refl _) (Nat.le_refl _) ⟨rfl, rfl⟩
