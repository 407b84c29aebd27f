/-! ===== the reference's reader: a line ===== -/
set_option maxRecDepth 100000 in
set_option maxHeartbeats 4000000 in
theorem mX7_readLine_e (s : Nat → Int32) (la : Nat → Int32) (r : rT) (v : vT) (c : Nat → Nat → Int32) (l : Nat → Int32) (tn : Int32) (p : Nat → Int32) (pa : Nat → Nat → Int32) (m : Nat) (q : rT) (b : Int32) (x : Nat → Nat) (h : Nat → Nat → Int64) (y : Nat → Nat) (hb : ∀ j, v 1 j < 128) (hl : v 4 0 ≤ 160) (R0 : Bool × pT) (hQ : mQ v (y 2) p pa R0) (nn : Int32) : J KX7_readLine 21 (fun o B => o = none ∧ ∃ p9 pa9, B = (wM s la r v c l tn p9 pa9 m q b x h) ∧ mQ v (y 2 + 1) p9 pa9 (fin (v 1) (v 4 0) R0)) 126 [some (.ref 0), some (.int nn)] [] (wM s la r v c l tn p pa m q b x h) 0 0 := by
  by_cases h0 : R0.1 = true
  · have hT := hQ.1 h0
    have hA := hT.1
    by_cases hto : ntoB (v 1) (v 4 0) (R0.2.1 2) = true
    · have hok := hA.ok hto
      by_cases hs : (yN (v 1) (v 4 0) R0.2.1) 0 = 3
      · have eR : (fin (v 1) (v 4 0) R0) = (true, ((yN (v 1) (v 4 0) R0.2.1), R0.2.2)) := by unfold fin rdS; rw [if_pos h0, if_pos hto, if_pos hs]
        refine J.aload_n dX7_readLine_126 rfl rfl ?_
        refine J.mg15 dX7_readLine_127 rfl ?_
        refine J.if_ne (tgt := 146) dX7_readLine_130 (by decide) (fun c130 => absurd c130 (fun h => h hok.1)) (fun c130 => ?_)
        refine J.aload_n dX7_readLine_133 rfl rfl ?_
        refine J.mg19 dX7_readLine_134 rfl ?_
        rw [hok.2.2.2.1]
        refine J.iconst (3) dX7_readLine_137 (by decide) ?_
        refine J.icmp_eq (tgt := 146) dX7_readLine_138 (by decide) (fun c138 => ?_) (fun c138 => absurd c138 (fun h => h (congrArg nI hs)))
        refine J.aload_n dX7_readLine_146 rfl rfl ?_
        refine J.cvM (as := []) s la r v c l tn p pa m q b x h okX7_step jcX7_116 (mX7_step s la r v c l tn p pa m q b x h hb hl ((yN (v 1) (v 4 0) R0.2.1) 2) (yN_2 hT.2.2.2.2.2.1).2 hok.1 hok.2.1) dX7_readLine_147 rfl rfl rfl rfl (fun r9 B9 hq9 => ?_)
        obtain ⟨rfl, p9, rfl, hlo9, hA9⟩ := hq9
        refine ⟨_, _, _, _, _, _, _, _, _, _, _, _, _, _, rfl, ?_⟩
        show J _ _ _ _ _ [] (wM s la r v c l tn p9 pa m q b x h) _ _
        refine J.vret dX7_readLine_150 rfl (Nat.le_refl _) (Nat.le_refl _) ⟨rfl, p9, pa, rfl, ?_⟩
        rw [eR]
        refine mQ_t ⟨hA9, (hT.2.1.low hlo9).y (fun i h1 h2 => yN_hi _ _ _ hto i (by omega)), hT.2.2.1, by rw [yN_hi _ _ _ hto 7 (by decide)]; exact hT.2.2.2.1, ?_, hT.2.2.2.2.2.N.z⟩
        have e2 : (yN (v 1) (v 4 0) R0.2.1) 2 = ntf (v 1) (v 4 0) (R0.2.1 2) + 1 := if_pos hs
        have e3 := (ntf_le (b := v 1) hT.2.2.2.2.2.1).1
        have e4 := hT.2.2.2.2.1
        omega
      · have eR : (fin (v 1) (v 4 0) R0) = (false, (yF (yN (v 1) (v 4 0) R0.2.1) 2 ((yN (v 1) (v 4 0) R0.2.1) 1), R0.2.2)) := by unfold fin rdS; rw [if_pos h0, if_pos hto, if_neg hs]
        refine J.aload_n dX7_readLine_126 rfl rfl ?_
        refine J.mg15 dX7_readLine_127 rfl ?_
        refine J.if_ne (tgt := 146) dX7_readLine_130 (by decide) (fun c130 => absurd c130 (fun h => h hok.1)) (fun c130 => ?_)
        refine J.aload_n dX7_readLine_133 rfl rfl ?_
        refine J.mg19 dX7_readLine_134 rfl ?_
        rw [hok.2.2.2.1]
        refine J.iconst (3) dX7_readLine_137 (by decide) ?_
        refine J.icmp_eq (tgt := 146) dX7_readLine_138 (by decide) (fun c138 => absurd c138 (fun h => hs ((nI_eqi (b := 3) (by have := yN_0 (v 1) (v 4 0) R0.2.1; omega) (by decide)).mp h))) (fun c138 => ?_)
        refine J.aload_n dX7_readLine_141 rfl rfl ?_
        refine J.iconst (2) dX7_readLine_142 (by decide) ?_
        refine J.cvM (as := [.int _]) s la r v c l tn p pa m q b x h okX7_fails jcX7_112 (mX7_fails s la r v c l tn p pa m q b x h 2 hok.1) dX7_readLine_143 rfl rfl rfl rfl (fun r9 B9 hq9 => ?_)
        obtain ⟨rfl, rfl⟩ := hq9
        refine ⟨_, _, _, _, _, _, _, _, _, _, _, _, _, _, rfl, ?_⟩
        show J _ _ _ _ _ [] (wM s la r v c l tn (pset (pset p 5 (nI 2)) 6 (p 8)) pa m q b x h) _ _
        refine J.aload_n dX7_readLine_146 rfl rfl ?_
        refine J.cvM (as := []) s la r v c l tn (pset (pset p 5 (nI 2)) 6 (p 8)) pa m q b x h okX7_step jcX7_116 (mX7_stepx s la r v c l tn (pset (pset p 5 (nI 2)) 6 (p 8)) pa m q b x h 2 rfl (by decide) (by decide)) dX7_readLine_147 rfl rfl rfl rfl (fun r9 B9 hq9 => ?_)
        obtain ⟨rfl, rfl⟩ := hq9
        refine ⟨_, _, _, _, _, _, _, _, _, _, _, _, _, _, rfl, ?_⟩
        show J _ _ _ _ _ [] (wM s la r v c l tn (pset (pset p 5 (nI 2)) 6 (p 8)) pa m q b x h) _ _
        refine J.vret dX7_readLine_150 rfl (Nat.le_refl _) (Nat.le_refl _) ⟨rfl, _, pa, rfl, fun h9 => absurd h9 (by rw [eR]; exact Bool.false_ne_true), fun _ => ?_⟩
        rw [eR]
        exact ⟨rfl, hok.2.2.1, show 0 < 2 by decide, show 2 < 100 by decide⟩
    · have eR : (fin (v 1) (v 4 0) R0) = (false, ((yN (v 1) (v 4 0) R0.2.1), R0.2.2)) := by unfold fin rdS; rw [if_pos h0, if_neg hto]
      have h5 : ¬ p 5 = 0 := by rw [(hA.no hto).1]; decide
      refine J.aload_n dX7_readLine_126 rfl rfl ?_
      refine J.mg15 dX7_readLine_127 rfl ?_
      refine J.if_ne (tgt := 146) dX7_readLine_130 (by decide) (fun c130 => ?_) (fun c130 => absurd c130 h5)
      refine J.aload_n dX7_readLine_146 rfl rfl ?_
      refine J.cvM (as := []) s la r v c l tn p pa m q b x h okX7_step jcX7_116 (mX7_stepx s la r v c l tn p pa m q b x h 1 (hA.no hto).1 (by decide) (by decide)) dX7_readLine_147 rfl rfl rfl rfl (fun r9 B9 hq9 => ?_)
      obtain ⟨rfl, rfl⟩ := hq9
      refine ⟨_, _, _, _, _, _, _, _, _, _, _, _, _, _, rfl, ?_⟩
      show J _ _ _ _ _ [] (wM s la r v c l tn p pa m q b x h) _ _
      refine J.vret dX7_readLine_150 rfl (Nat.le_refl _) (Nat.le_refl _) ⟨rfl, p, pa, rfl, fun h9 => absurd h9 (by rw [eR]; exact Bool.false_ne_true), fun _ => ?_⟩
      rw [eR]
      show rF p ((yN (v 1) (v 4 0) R0.2.1) 7) ((yN (v 1) (v 4 0) R0.2.1) 8)
      have e7 : (yN (v 1) (v 4 0) R0.2.1) 7 = 1 := if_neg hto
      have e8 : (yN (v 1) (v 4 0) R0.2.1) 8 = ntf (v 1) (v 4 0) (R0.2.1 2) := if_neg hto
      rw [e7, e8]
      exact hA.no hto
  · have hF := hQ.2 h0
    have eR : (fin (v 1) (v 4 0) R0) = (false, R0.2) := by unfold fin; rw [if_neg h0]
    have h5 : ¬ p 5 = 0 := by rw [hF.1]; exact nI_ne0 hF.2.2.1 (by have := hF.2.2.2; omega)
    refine J.aload_n dX7_readLine_126 rfl rfl ?_
    refine J.mg15 dX7_readLine_127 rfl ?_
    refine J.if_ne (tgt := 146) dX7_readLine_130 (by decide) (fun c130 => ?_) (fun c130 => absurd c130 h5)
    refine J.aload_n dX7_readLine_146 rfl rfl ?_
    refine J.cvM (as := []) s la r v c l tn p pa m q b x h okX7_step jcX7_116 (mX7_stepx s la r v c l tn p pa m q b x h _ hF.1 hF.2.2.1 hF.2.2.2) dX7_readLine_147 rfl rfl rfl rfl (fun r9 B9 hq9 => ?_)
    obtain ⟨rfl, rfl⟩ := hq9
    refine ⟨_, _, _, _, _, _, _, _, _, _, _, _, _, _, rfl, ?_⟩
    show J _ _ _ _ _ [] (wM s la r v c l tn p pa m q b x h) _ _
    refine J.vret dX7_readLine_150 rfl (Nat.le_refl _) (Nat.le_refl _) ⟨rfl, p, pa, rfl, fun h9 => absurd h9 (by rw [eR]; exact Bool.false_ne_true), fun _ => ?_⟩
    rw [eR]
    exact hF
theorem to_ev : ∀ t, t < 64 → ∀ n, n < 6 → nI t ||| 1 <<< (nI n &&& 31) = nI (t ||| 2 ^ n) := by decide +kernel
theorem to_lt : ∀ t, t < 64 → ∀ n, n < 6 → t ||| 2 ^ n < 64 := by decide +kernel
theorem to_b : ∀ t, t < 64 → ∀ n, n < 6 → bit (t ||| 2 ^ n) 3 = (if n = 3 then 1 else bit t 3) ∧ bit (t ||| 2 ^ n) 4 = (if n = 4 then 1 else bit t 4) := by decide +kernel
theorem to_s : ∀ t, t < 64 → nI t >>> ((3 : Int32) &&& 31) &&& 1 = nI (bit t 3) ∧ nI t >>> ((4 : Int32) &&& 31) &&& 1 = nI (bit t 4) := by decide +kernel
theorem rdLi_0 (v : vT) (y : Nat → Nat) (d : rT) (h : spl (v 1) y (sg 0)) : rdLi (v 1) (v 4 0) y d = fin (v 1) (v 4 0) (rdHa (v 1) (v 4 0) y d) := by
  unfold rdLi
  rw [if_pos (show spl (v 1) y 0 from h)]
theorem rdLi_1 (v : vT) (y : Nat → Nat) (d : rT) (h : spl (v 1) y (sg 1)) : rdLi (v 1) (v 4 0) y d = fin (v 1) (v 4 0) (rdKi (v 1) (v 4 0) y d) := by
  unfold rdLi
  rw [if_neg (show ¬ spl (v 1) y 0 from fun h9 => absurd (spl_inj (n := 0) (k := 1) (by decide) (by decide) h9 h) (by decide)), if_pos (show spl (v 1) y 6 from h)]
theorem rdLi_2 (v : vT) (y : Nat → Nat) (d : rT) (h : spl (v 1) y (sg 2)) : rdLi (v 1) (v 4 0) y d = fin (v 1) (v 4 0) (rdLa (v 1) (v 4 0) y d) := by
  unfold rdLi
  rw [if_neg (show ¬ spl (v 1) y 0 from fun h9 => absurd (spl_inj (n := 0) (k := 2) (by decide) (by decide) h9 h) (by decide)), if_neg (show ¬ spl (v 1) y 6 from fun h9 => absurd (spl_inj (n := 1) (k := 2) (by decide) (by decide) h9 h) (by decide)), if_pos (show spl (v 1) y 7 from h)]
theorem rdLi_3 (v : vT) (y : Nat → Nat) (d : rT) (h : spl (v 1) y (sg 3)) : rdLi (v 1) (v 4 0) y d = fin (v 1) (v 4 0) (rdOnce (v 1) (v 4 0) 5 1 9 4 y d) := by
  unfold rdLi
  rw [if_neg (show ¬ spl (v 1) y 0 from fun h9 => absurd (spl_inj (n := 0) (k := 3) (by decide) (by decide) h9 h) (by decide)), if_neg (show ¬ spl (v 1) y 6 from fun h9 => absurd (spl_inj (n := 1) (k := 3) (by decide) (by decide) h9 h) (by decide)), if_neg (show ¬ spl (v 1) y 7 from fun h9 => absurd (spl_inj (n := 2) (k := 3) (by decide) (by decide) h9 h) (by decide)), if_pos (show spl (v 1) y 8 from h)]
theorem rdLi_4 (v : vT) (y : Nat → Nat) (d : rT) (h : spl (v 1) y (sg 4)) : rdLi (v 1) (v 4 0) y d = fin (v 1) (v 4 0) (rdOnce (v 1) (v 4 0) 6 0 99 5 y d) := by
  unfold rdLi
  rw [if_neg (show ¬ spl (v 1) y 0 from fun h9 => absurd (spl_inj (n := 0) (k := 4) (by decide) (by decide) h9 h) (by decide)), if_neg (show ¬ spl (v 1) y 6 from fun h9 => absurd (spl_inj (n := 1) (k := 4) (by decide) (by decide) h9 h) (by decide)), if_neg (show ¬ spl (v 1) y 7 from fun h9 => absurd (spl_inj (n := 2) (k := 4) (by decide) (by decide) h9 h) (by decide)), if_neg (show ¬ spl (v 1) y 8 from fun h9 => absurd (spl_inj (n := 3) (k := 4) (by decide) (by decide) h9 h) (by decide)), if_pos (show spl (v 1) y 9 from h)]
theorem rdLi_5 (v : vT) (y : Nat → Nat) (d : rT) (h : spl (v 1) y (sg 5)) : rdLi (v 1) (v 4 0) y d = fin (v 1) (v 4 0) (rdBr (v 1) (v 4 0) y d) := by
  unfold rdLi
  rw [if_neg (show ¬ spl (v 1) y 0 from fun h9 => absurd (spl_inj (n := 0) (k := 5) (by decide) (by decide) h9 h) (by decide)), if_neg (show ¬ spl (v 1) y 6 from fun h9 => absurd (spl_inj (n := 1) (k := 5) (by decide) (by decide) h9 h) (by decide)), if_neg (show ¬ spl (v 1) y 7 from fun h9 => absurd (spl_inj (n := 2) (k := 5) (by decide) (by decide) h9 h) (by decide)), if_neg (show ¬ spl (v 1) y 8 from fun h9 => absurd (spl_inj (n := 3) (k := 5) (by decide) (by decide) h9 h) (by decide)), if_neg (show ¬ spl (v 1) y 9 from fun h9 => absurd (spl_inj (n := 4) (k := 5) (by decide) (by decide) h9 h) (by decide)), if_pos (show spl (v 1) y 10 from h)]
theorem rdLi_no (v : vT) (y : Nat → Nat) (d : rT) (h : ∀ n, n < 6 → ¬ spl (v 1) y (sg n)) : rdLi (v 1) (v 4 0) y d = (false, (yF y 2 (y 1), d)) := by
  unfold rdLi
  rw [if_neg (show ¬ spl (v 1) y 0 from h 0 (by decide)), if_neg (show ¬ spl (v 1) y 6 from h 1 (by decide)), if_neg (show ¬ spl (v 1) y 7 from h 2 (by decide)), if_neg (show ¬ spl (v 1) y 8 from h 3 (by decide)), if_neg (show ¬ spl (v 1) y 9 from h 4 (by decide)), if_neg (show ¬ spl (v 1) y 10 from h 5 (by decide))]
set_option maxRecDepth 100000 in
set_option maxHeartbeats 4000000 in
theorem mX7_readLine_no (s : Nat → Int32) (la : Nat → Int32) (r : rT) (v : vT) (c : Nat → Nat → Int32) (l : Nat → Int32) (tn : Int32) (p : Nat → Int32) (pa : Nat → Nat → Int32) (m : Nat) (q : rT) (b : Int32) (x : Nat → Nat) (h : Nat → Nat → Int64) (y : Nat → Nat) (d : rT) (hb : ∀ j, v 1 j < 128) (hl : v 4 0 ≤ 160) (h5 : p 5 = 0) (ht : tkp v p (y 0) (y 1) (y 2)) (hy : yOK (v 4 0) y d) (hdr : dr p pa y d) (hd : dOK d) (h7 : y 7 = 0) (hno : ∀ n, n < 6 → ¬ spl (v 1) y (sg n)) : J KX7_readLine 21 (fun o B => o = none ∧ ∃ p9 pa9, B = (wM s la r v c l tn p9 pa9 m q b x h) ∧ mQ v (y 2 + 1) p9 pa9 (rdLi (v 1) (v 4 0) y d)) 0 [some (.ref 0), none] [] (wM s la r v c l tn p pa m q b x h) 0 0 := by
  refine J.aload_n dX7_readLine_0 rfl rfl ?_
  refine J.cvM (as := []) s la r v c l tn p pa m q b x h okX7_nameHere jcX7_119 (mX7_nameHere s la r v c l tn p pa m q b x h y ht.1 ht.2.1 ht.2.2.1 hy.1 hy.2.1 hy.2.2.1 hl) dX7_readLine_1 rfl rfl rfl rfl (fun r9 B9 hq9 => ?_)
  obtain ⟨rfl, rfl⟩ := hq9
  refine ⟨_, _, _, _, _, _, _, _, _, _, _, _, _, _, rfl, ?_⟩
  show J _ _ _ _ _ (.int _ :: _) (wM s la r v c l tn p pa m q b x h) _ _
  refine J.istore_n dX7_readLine_4 rfl (by decide) rfl ?_
  try dsimp only [List.set]
  refine J.iload_n dX7_readLine_5 rfl rfl ?_
  refine J.i2l dX7_readLine_6 ?_
  refine J.lconst 0 dX7_readLine_7 (by decide) ?_
  refine J.ldc2 (v := 5) dX7_readLine_8 (jt 945 rfl rfl) ?_
  refine J.cs (as := [.long _, .long _, .long _]) (is := []) okX7_in jcX7_74 (mX7_inI (nmF (v 1) y 11 0) 0 5 (by decide) (by decide)) dX7_readLine_11 rfl rfl rfl rfl rfl rfl (fun r9 B9 hq => ?_)
  obtain ⟨rfl, rfl⟩ := hq
  refine ⟨rfl, ?_⟩
  show J _ _ _ _ _ (.int _ :: _) (wM s la r v c l tn p pa m q b x h) _ _
  refine J.if_ne (tgt := 23) dX7_readLine_14 (by decide) (fun c14 => absurd c14 (fun h => h ((jB_0 _).mpr (nm_none hno)))) (fun c14 => ?_)
  refine J.aload_n dX7_readLine_17 rfl rfl ?_
  refine J.iconst (2) dX7_readLine_18 (by decide) ?_
  refine J.cvM (as := [.int _]) s la r v c l tn p pa m q b x h okX7_fails jcX7_112 (mX7_fails s la r v c l tn p pa m q b x h 2 h5) dX7_readLine_19 rfl rfl rfl rfl (fun r9 B9 hq9 => ?_)
  obtain ⟨rfl, rfl⟩ := hq9
  refine ⟨_, _, _, _, _, _, _, _, _, _, _, _, _, _, rfl, ?_⟩
  show J _ _ _ _ _ [] (wM s la r v c l tn (pset (pset p 5 (nI 2)) 6 (p 8)) pa m q b x h) _ _
  refine J.vret dX7_readLine_22 rfl (Nat.le_refl _) (Nat.le_refl _) ⟨rfl, _, pa, rfl, fun h9 => absurd h9 (by rw [rdLi_no v y d hno]; exact Bool.false_ne_true), fun _ => ?_⟩
  rw [rdLi_no v y d hno]
  exact ⟨rfl, ht.2.1, show 0 < 2 by decide, show 2 < 100 by decide⟩
theorem yst_i {y : Nat → Nat} {k i z : Nat} (h : i ≠ k) : yset y k z i = y i := if_neg h
theorem zOK.t3 {len : Nat} {y : Nat → Nat} {d : rT} (h : zOK len y d) : zOK len (yset y 5 1) d := ⟨h.1, h.2.1, Nat.le_refl 1, h.2.2.2.1, h.2.2.2.2⟩
theorem zOK.t4 {len : Nat} {y : Nat → Nat} {d : rT} (h : zOK len y d) : zOK len (yset y 6 1) d := ⟨h.1, h.2.1, h.2.2.1, Nat.le_refl 1, h.2.2.2.2⟩
def yto (y : Nat → Nat) (n : Nat) : Nat → Nat := if n = 3 then yset y 5 1 else if n = 4 then yset y 6 1 else y
theorem dr_to {p p9 : Nat → Int32} {pa : Nat → Nat → Int32} {y : Nat → Nat} {d : rT} (h : dr p pa y d) {z : Int32} (hlo : low5 (pset p 3 z) p9) (t3 : Nat) (ht3 : t3 < 64) (e5 : bit t3 3 = y 5) (e6 : bit t3 4 = y 6) (n : Nat) (hn : n < 6) (hz : z = nI (t3 ||| 2 ^ n) := by rfl) : dr p9 pa (yto y n) d := by
  have h4 : yto y n 4 = y 4 := by
    unfold yto
    split
    · rfl
    · split <;> rfl
  obtain ⟨⟨a0, a1, a2⟩, _, c1, c2, c3, c4⟩ := h
  have hb := to_b t3 ht3 n hn
  refine ⟨⟨(hlo 0 (by decide)).trans a0, (hlo 1 (by decide)).trans a1, (hlo 2 (by decide)).trans a2⟩, ⟨t3 ||| 2 ^ n, to_lt t3 ht3 n hn, (hlo 3 (by decide)).trans hz, ?_, ?_⟩, (hlo 4 (by decide)).trans (by rw [h4]; exact c1), c2, by rw [h4]; exact c3, c4⟩
  · rw [hb.1, e5]
    unfold yto
    by_cases h3 : n = 3
    · rw [if_pos h3, if_pos h3]; rfl
    · rw [if_neg h3, if_neg h3]
      split <;> rfl
  · rw [hb.2, e6]
    unfold yto
    by_cases h3 : n = 3
    · rw [if_pos h3, if_neg (by omega)]; rfl
    · rw [if_neg h3]
      by_cases h4 : n = 4
      · rw [if_pos h4, if_pos h4]; rfl
      · rw [if_neg h4, if_neg h4]
set_option maxRecDepth 100000 in
set_option maxHeartbeats 4000000 in
theorem mX7_readLine0 (s : Nat → Int32) (la : Nat → Int32) (r : rT) (v : vT) (c : Nat → Nat → Int32) (l : Nat → Int32) (tn : Int32) (p : Nat → Int32) (pa : Nat → Nat → Int32) (m : Nat) (q : rT) (b : Int32) (x : Nat → Nat) (h : Nat → Nat → Int64) (y : Nat → Nat) (d : rT) (hb : ∀ j, v 1 j < 128) (hl : v 4 0 ≤ 160) (h5 : p 5 = 0) (ht : tkp v p (y 0) (y 1) (y 2)) (hy : yOK (v 4 0) y d) (hdr : dr p pa y d) (hd : dOK d) (h7 : y 7 = 0) (hsp : spl (v 1) y (sg 0)) : J KX7_readLine 21 (fun o B => o = none ∧ ∃ p9 pa9, B = (wM s la r v c l tn p9 pa9 m q b x h) ∧ mQ v (y 2 + 1) p9 pa9 (rdLi (v 1) (v 4 0) y d)) 0 [some (.ref 0), none] [] (wM s la r v c l tn p pa m q b x h) 0 0 := by
  obtain ⟨t3, ht3, e3, e5, e6⟩ := hdr.2.1
  have hcm : d 6 0 ≤ 3 := hy.2.2.2.2.2.2.1
  by_cases hfull : d 6 0 = 3
  · skip
    refine J.aload_n dX7_readLine_0 rfl rfl ?_
    refine J.cvM (as := []) s la r v c l tn p pa m q b x h okX7_nameHere jcX7_119 (mX7_nameHere s la r v c l tn p pa m q b x h y ht.1 ht.2.1 ht.2.2.1 hy.1 hy.2.1 hy.2.2.1 hl) dX7_readLine_1 rfl rfl rfl rfl (fun r9 B9 hq9 => ?_)
    obtain ⟨rfl, rfl⟩ := hq9
    refine ⟨_, _, _, _, _, _, _, _, _, _, _, _, _, _, rfl, ?_⟩
    show J _ _ _ _ _ (.int _ :: _) (wM s la r v c l tn p pa m q b x h) _ _
    rw [nmF_at (n := 0) (by decide) hsp 11 0 rfl (Nat.zero_le _)]
    rw [show nI 0 = (0 : Int32) from rfl]
    refine J.istore_n dX7_readLine_4 rfl (by decide) rfl ?_
    try dsimp only [List.set]
    refine J.iload_n dX7_readLine_5 rfl rfl ?_
    refine J.i2l dX7_readLine_6 ?_
    refine J.lconst 0 dX7_readLine_7 (by decide) ?_
    refine J.ldc2 (v := 5) dX7_readLine_8 (jt 945 rfl rfl) ?_
    refine J.cs (as := [.long _, .long _, .long _]) (is := []) okX7_in jcX7_74 (mX7_inI 0 0 5 (by decide) (by decide)) dX7_readLine_11 rfl rfl rfl rfl rfl rfl (fun r9 B9 hq => ?_)
    obtain ⟨rfl, rfl⟩ := hq
    refine ⟨rfl, ?_⟩
    show J _ _ _ _ _ (.int _ :: _) (wM s la r v c l tn p pa m q b x h) _ _
    refine J.if_ne (tgt := 23) dX7_readLine_14 (by decide) (fun c14 => ?_) (fun c14 => absurd c14 (fun h => (jB_0 _).mp h (by decide)))
    refine J.iload_n dX7_readLine_23 rfl rfl ?_
    refine J.if_ne (tgt := 35) dX7_readLine_24 (by decide) (fun c24 => absurd c24 (fun h => h rfl)) (fun c24 => ?_)
    refine J.aload_n dX7_readLine_27 rfl rfl ?_
    refine J.mg7 dX7_readLine_28 rfl ?_
    rw [hdr.1.1]
    refine J.iconst (3) dX7_readLine_31 (by decide) ?_
    refine J.icmp_eq (tgt := 61) dX7_readLine_32 (by decide) (fun c32 => ?_) (fun c32 => absurd c32 (fun h => h (by rw [hfull] <;> rfl)))
    refine J.aload_n dX7_readLine_61 rfl rfl ?_
    refine J.iconst (5) dX7_readLine_62 (by decide) ?_
    refine J.cvM (as := [.int _]) s la r v c l tn p pa m q b x h okX7_fails jcX7_112 (mX7_fails s la r v c l tn p pa m q b x h 5 h5) dX7_readLine_63 rfl rfl rfl rfl (fun r9 B9 hq9 => ?_)
    obtain ⟨rfl, rfl⟩ := hq9
    refine ⟨_, _, _, _, _, _, _, _, _, _, _, _, _, _, rfl, ?_⟩
    show J _ _ _ _ _ [] (wM s la r v c l tn (pset (pset p 5 (nI 5)) 6 (p 8)) pa m q b x h) _ _
    refine J.iload_n dX7_readLine_66 rfl rfl ?_
    refine J.i2l dX7_readLine_67 ?_
    refine J.ldc2 (v := 3) dX7_readLine_68 (jt 946 rfl rfl) ?_
    refine J.ldc2 (v := 4) dX7_readLine_71 (jt 947 rfl rfl) ?_
    refine J.cs (as := [.long _, .long _, .long _]) (is := []) okX7_in jcX7_74 (mX7_inI 0 3 4 (by decide) (by decide)) dX7_readLine_74 rfl rfl rfl rfl rfl rfl (fun r9 B9 hq => ?_)
    obtain ⟨rfl, rfl⟩ := hq
    refine ⟨rfl, ?_⟩
    show J _ _ _ _ _ (.int _ :: _) (wM s la r v c l tn (pset (pset p 5 (nI 5)) 6 (p 8)) pa m q b x h) _ _
    refine J.if_eq (tgt := 97) dX7_readLine_77 (by decide) (fun c77 => ?_) (fun c77 => absurd c77 (fun h => h ((jB_0 _).mpr (by decide))))
    refine J.aload_n dX7_readLine_97 rfl rfl ?_
    refine J.dup dX7_readLine_98 rfl ?_
    refine J.mg10 dX7_readLine_99 rfl ?_
    rw [show (pset (pset p 5 (nI 5)) 6 (p 8)) 3 = nI t3 from e3]
    refine J.iconst (1) dX7_readLine_102 (by decide) ?_
    refine J.iload_n dX7_readLine_103 rfl rfl ?_
    refine J.ishl dX7_readLine_104 ?_
    refine J.ior dX7_readLine_105 ?_
    rw [show nI t3 ||| 1 <<< ((0 : Int32) &&& 31) = nI (t3 ||| 2 ^ 0) from to_ev t3 ht3 0 (by decide)]
    refine J.mp10 dX7_readLine_106 rfl ?_
    try dsimp only [List.set]
    refine J.aload_n dX7_readLine_109 rfl rfl ?_
    refine J.cvM (as := []) s la r v c l tn (pset (pset (pset p 5 (nI 5)) 6 (p 8)) 3 (nI (t3 ||| 2 ^ 0))) pa m q b x h okX7_step jcX7_116 (mX7_stepx s la r v c l tn (pset (pset (pset p 5 (nI 5)) 6 (p 8)) 3 (nI (t3 ||| 2 ^ 0))) pa m q b x h 5 rfl (by decide) (by decide)) dX7_readLine_110 rfl rfl rfl rfl (fun r9 B9 hq9 => ?_)
    obtain ⟨rfl, rfl⟩ := hq9
    refine ⟨_, _, _, _, _, _, _, _, _, _, _, _, _, _, rfl, ?_⟩
    show J _ _ _ _ _ [] (wM s la r v c l tn (pset (pset (pset p 5 (nI 5)) 6 (p 8)) 3 (nI (t3 ||| 2 ^ 0))) pa m q b x h) _ _
    refine J.aload_n dX7_readLine_113 rfl rfl ?_
    refine J.mg15 dX7_readLine_114 rfl ?_
    refine J.if_le (tgt := 121) dX7_readLine_117 (by decide) (fun c117 => absurd c117 (show ¬ nI 5 ≤ 0 by decide)) (fun c117 => ?_)
    have eR : (rdLi (v 1) (v 4 0) y d) = (false, (yF y 5 (y 1), d)) := by rw [rdLi_0 v y d hsp]; unfold rdHa; rw [if_neg (by omega)]; rfl
    refine J.vret dX7_readLine_120 rfl (Nat.le_refl _) (Nat.le_refl _) ⟨rfl, _, pa, rfl, fun h9 => absurd h9 (by rw [eR]; exact Bool.false_ne_true), fun _ => ?_⟩
    rw [eR]
    exact ⟨rfl, ht.2.1, show 0 < 5 by decide, show 5 < 100 by decide⟩
  · have hlt : d 6 0 < 3 := by omega
    refine J.aload_n dX7_readLine_0 rfl rfl ?_
    refine J.cvM (as := []) s la r v c l tn p pa m q b x h okX7_nameHere jcX7_119 (mX7_nameHere s la r v c l tn p pa m q b x h y ht.1 ht.2.1 ht.2.2.1 hy.1 hy.2.1 hy.2.2.1 hl) dX7_readLine_1 rfl rfl rfl rfl (fun r9 B9 hq9 => ?_)
    obtain ⟨rfl, rfl⟩ := hq9
    refine ⟨_, _, _, _, _, _, _, _, _, _, _, _, _, _, rfl, ?_⟩
    show J _ _ _ _ _ (.int _ :: _) (wM s la r v c l tn p pa m q b x h) _ _
    rw [nmF_at (n := 0) (by decide) hsp 11 0 rfl (Nat.zero_le _)]
    rw [show nI 0 = (0 : Int32) from rfl]
    refine J.istore_n dX7_readLine_4 rfl (by decide) rfl ?_
    try dsimp only [List.set]
    refine J.iload_n dX7_readLine_5 rfl rfl ?_
    refine J.i2l dX7_readLine_6 ?_
    refine J.lconst 0 dX7_readLine_7 (by decide) ?_
    refine J.ldc2 (v := 5) dX7_readLine_8 (jt 945 rfl rfl) ?_
    refine J.cs (as := [.long _, .long _, .long _]) (is := []) okX7_in jcX7_74 (mX7_inI 0 0 5 (by decide) (by decide)) dX7_readLine_11 rfl rfl rfl rfl rfl rfl (fun r9 B9 hq => ?_)
    obtain ⟨rfl, rfl⟩ := hq
    refine ⟨rfl, ?_⟩
    show J _ _ _ _ _ (.int _ :: _) (wM s la r v c l tn p pa m q b x h) _ _
    refine J.if_ne (tgt := 23) dX7_readLine_14 (by decide) (fun c14 => ?_) (fun c14 => absurd c14 (fun h => (jB_0 _).mp h (by decide)))
    refine J.iload_n dX7_readLine_23 rfl rfl ?_
    refine J.if_ne (tgt := 35) dX7_readLine_24 (by decide) (fun c24 => absurd c24 (fun h => h rfl)) (fun c24 => ?_)
    refine J.aload_n dX7_readLine_27 rfl rfl ?_
    refine J.mg7 dX7_readLine_28 rfl ?_
    rw [hdr.1.1]
    refine J.iconst (3) dX7_readLine_31 (by decide) ?_
    refine J.icmp_eq (tgt := 61) dX7_readLine_32 (by decide) (fun c32 => absurd c32 (fun h => hfull ((nI_eqi (b := 3) (by omega) (by decide)).mp h))) (fun c32 => ?_)
    refine J.iload_n dX7_readLine_35 rfl rfl ?_
    refine J.iconst (1) dX7_readLine_36 (by decide) ?_
    refine J.icmp_ne (tgt := 48) dX7_readLine_37 (by decide) (fun c37 => ?_) (fun c37 => absurd c37 (by decide))
    refine J.iload_n dX7_readLine_48 rfl rfl ?_
    refine J.iconst (2) dX7_readLine_49 (by decide) ?_
    refine J.icmp_ne (tgt := 66) dX7_readLine_50 (by decide) (fun c50 => ?_) (fun c50 => absurd c50 (by decide))
    refine J.iload_n dX7_readLine_66 rfl rfl ?_
    refine J.i2l dX7_readLine_67 ?_
    refine J.ldc2 (v := 3) dX7_readLine_68 (jt 946 rfl rfl) ?_
    refine J.ldc2 (v := 4) dX7_readLine_71 (jt 947 rfl rfl) ?_
    refine J.cs (as := [.long _, .long _, .long _]) (is := []) okX7_in jcX7_74 (mX7_inI 0 3 4 (by decide) (by decide)) dX7_readLine_74 rfl rfl rfl rfl rfl rfl (fun r9 B9 hq => ?_)
    obtain ⟨rfl, rfl⟩ := hq
    refine ⟨rfl, ?_⟩
    show J _ _ _ _ _ (.int _ :: _) (wM s la r v c l tn p pa m q b x h) _ _
    refine J.if_eq (tgt := 97) dX7_readLine_77 (by decide) (fun c77 => ?_) (fun c77 => absurd c77 (fun h => h ((jB_0 _).mpr (by decide))))
    refine J.aload_n dX7_readLine_97 rfl rfl ?_
    refine J.dup dX7_readLine_98 rfl ?_
    refine J.mg10 dX7_readLine_99 rfl ?_
    rw [show p 3 = nI t3 from e3]
    refine J.iconst (1) dX7_readLine_102 (by decide) ?_
    refine J.iload_n dX7_readLine_103 rfl rfl ?_
    refine J.ishl dX7_readLine_104 ?_
    refine J.ior dX7_readLine_105 ?_
    rw [show nI t3 ||| 1 <<< ((0 : Int32) &&& 31) = nI (t3 ||| 2 ^ 0) from to_ev t3 ht3 0 (by decide)]
    refine J.mp10 dX7_readLine_106 rfl ?_
    try dsimp only [List.set]
    refine J.aload_n dX7_readLine_109 rfl rfl ?_
    refine J.cvM (as := []) s la r v c l tn (pset p 3 (nI (t3 ||| 2 ^ 0))) pa m q b x h okX7_step jcX7_116 (mX7_step s la r v c l tn (pset p 3 (nI (t3 ||| 2 ^ 0))) pa m q b x h hb hl (y 2) hy.2.1 h5 ht.1) dX7_readLine_110 rfl rfl rfl rfl (fun r9 B9 hq9 => ?_)
    obtain ⟨rfl, p9, rfl, hlo9, hA9⟩ := hq9
    refine ⟨_, _, _, _, _, _, _, _, _, _, _, _, _, _, rfl, ?_⟩
    show J _ _ _ _ _ [] (wM s la r v c l tn p9 pa m q b x h) _ _
    by_cases hto : ntoB (v 1) (v 4 0) (y 2) = true
    · skip
      refine J.aload_n dX7_readLine_113 rfl rfl ?_
      refine J.mg15 dX7_readLine_114 rfl ?_
      refine J.if_le (tgt := 121) dX7_readLine_117 (by decide) (fun c117 => ?_) (fun c117 => absurd c117 (fun h => h (by rw [(hA9.ok hto).1]; decide)))
      refine J.aload_n dX7_readLine_121 rfl rfl ?_
      refine J.iload_n dX7_readLine_122 rfl rfl ?_
      refine J.cvM (as := [.int _]) s la r v c l tn p9 pa m q b x h okX7_readMore jcX7_150 (mX7_readMore0 s la r v c l tn p9 pa m q b x h y d hb hl hA9 hto hy.z (dr_to hdr hlo9 t3 ht3 e5 e6 0 (by decide)) hd h7 hlt) dX7_readLine_123 rfl rfl rfl rfl (fun r9 B9 hq9 => ?_)
      obtain ⟨rfl, p8, pa8, rfl, hQ8⟩ := hq9
      refine ⟨_, _, _, _, _, _, _, _, _, _, _, _, _, _, rfl, ?_⟩
      show J _ _ _ _ _ [] (wM s la r v c l tn p8 pa8 m q b x h) _ _
      have eR : (rdHa (v 1) (v 4 0) y d) = (rdHa (v 1) (v 4 0) y d) := rfl
      rw [rdLi_0 v y d hsp, eR]
      exact mX7_readLine_e s la r v c l tn p8 pa8 m q b x h y hb hl (rdHa (v 1) (v 4 0) y d) hQ8 0
    · have eR : (rdLi (v 1) (v 4 0) y d) = (false, (yN (v 1) (v 4 0) y, d)) := by rw [rdLi_0 v y d hsp]; unfold rdHa; rw [if_pos hlt, if_neg hto]; rfl
      refine J.aload_n dX7_readLine_113 rfl rfl ?_
      refine J.mg15 dX7_readLine_114 rfl ?_
      refine J.if_le (tgt := 121) dX7_readLine_117 (by decide) (fun c117 => absurd c117 (by rw [(hA9.no hto).1]; decide)) (fun c117 => ?_)
      refine J.vret dX7_readLine_120 rfl (Nat.le_refl _) (Nat.le_refl _) ⟨rfl, p9, pa, rfl, fun h9 => absurd h9 (by rw [eR]; exact Bool.false_ne_true), fun _ => ?_⟩
      rw [eR]
      show rF p9 (yN (v 1) (v 4 0) y 7) (yN (v 1) (v 4 0) y 8)
      have e7 : yN (v 1) (v 4 0) y 7 = 1 := if_neg hto
      have e8 : yN (v 1) (v 4 0) y 8 = ntf (v 1) (v 4 0) (y 2) := if_neg hto
      rw [e7, e8]
      exact hA9.no hto
set_option maxRecDepth 100000 in
set_option maxHeartbeats 4000000 in
theorem mX7_readLine1 (s : Nat → Int32) (la : Nat → Int32) (r : rT) (v : vT) (c : Nat → Nat → Int32) (l : Nat → Int32) (tn : Int32) (p : Nat → Int32) (pa : Nat → Nat → Int32) (m : Nat) (q : rT) (b : Int32) (x : Nat → Nat) (h : Nat → Nat → Int64) (y : Nat → Nat) (d : rT) (hb : ∀ j, v 1 j < 128) (hl : v 4 0 ≤ 160) (h5 : p 5 = 0) (ht : tkp v p (y 0) (y 1) (y 2)) (hy : yOK (v 4 0) y d) (hdr : dr p pa y d) (hd : dOK d) (h7 : y 7 = 0) (hsp : spl (v 1) y (sg 1)) : J KX7_readLine 21 (fun o B => o = none ∧ ∃ p9 pa9, B = (wM s la r v c l tn p9 pa9 m q b x h) ∧ mQ v (y 2 + 1) p9 pa9 (rdLi (v 1) (v 4 0) y d)) 0 [some (.ref 0), none] [] (wM s la r v c l tn p pa m q b x h) 0 0 := by
  obtain ⟨t3, ht3, e3, e5, e6⟩ := hdr.2.1
  have hcm : d 6 1 ≤ 4 := hy.2.2.2.2.2.2.2.1
  by_cases hfull : d 6 1 = 4
  · skip
    refine J.aload_n dX7_readLine_0 rfl rfl ?_
    refine J.cvM (as := []) s la r v c l tn p pa m q b x h okX7_nameHere jcX7_119 (mX7_nameHere s la r v c l tn p pa m q b x h y ht.1 ht.2.1 ht.2.2.1 hy.1 hy.2.1 hy.2.2.1 hl) dX7_readLine_1 rfl rfl rfl rfl (fun r9 B9 hq9 => ?_)
    obtain ⟨rfl, rfl⟩ := hq9
    refine ⟨_, _, _, _, _, _, _, _, _, _, _, _, _, _, rfl, ?_⟩
    show J _ _ _ _ _ (.int _ :: _) (wM s la r v c l tn p pa m q b x h) _ _
    rw [nmF_at (n := 1) (by decide) hsp 11 0 rfl (Nat.zero_le _)]
    rw [show nI 1 = (1 : Int32) from rfl]
    refine J.istore_n dX7_readLine_4 rfl (by decide) rfl ?_
    try dsimp only [List.set]
    refine J.iload_n dX7_readLine_5 rfl rfl ?_
    refine J.i2l dX7_readLine_6 ?_
    refine J.lconst 0 dX7_readLine_7 (by decide) ?_
    refine J.ldc2 (v := 5) dX7_readLine_8 (jt 945 rfl rfl) ?_
    refine J.cs (as := [.long _, .long _, .long _]) (is := []) okX7_in jcX7_74 (mX7_inI 1 0 5 (by decide) (by decide)) dX7_readLine_11 rfl rfl rfl rfl rfl rfl (fun r9 B9 hq => ?_)
    obtain ⟨rfl, rfl⟩ := hq
    refine ⟨rfl, ?_⟩
    show J _ _ _ _ _ (.int _ :: _) (wM s la r v c l tn p pa m q b x h) _ _
    refine J.if_ne (tgt := 23) dX7_readLine_14 (by decide) (fun c14 => ?_) (fun c14 => absurd c14 (fun h => (jB_0 _).mp h (by decide)))
    refine J.iload_n dX7_readLine_23 rfl rfl ?_
    refine J.if_ne (tgt := 35) dX7_readLine_24 (by decide) (fun c24 => ?_) (fun c24 => absurd c24 (by decide))
    refine J.iload_n dX7_readLine_35 rfl rfl ?_
    refine J.iconst (1) dX7_readLine_36 (by decide) ?_
    refine J.icmp_ne (tgt := 48) dX7_readLine_37 (by decide) (fun c37 => absurd c37 (fun h => h rfl)) (fun c37 => ?_)
    refine J.aload_n dX7_readLine_40 rfl rfl ?_
    refine J.mg8 dX7_readLine_41 rfl ?_
    rw [hdr.1.2.1]
    refine J.iconst (4) dX7_readLine_44 (by decide) ?_
    refine J.icmp_eq (tgt := 61) dX7_readLine_45 (by decide) (fun c45 => ?_) (fun c45 => absurd c45 (fun h => h (by rw [hfull] <;> rfl)))
    refine J.aload_n dX7_readLine_61 rfl rfl ?_
    refine J.iconst (5) dX7_readLine_62 (by decide) ?_
    refine J.cvM (as := [.int _]) s la r v c l tn p pa m q b x h okX7_fails jcX7_112 (mX7_fails s la r v c l tn p pa m q b x h 5 h5) dX7_readLine_63 rfl rfl rfl rfl (fun r9 B9 hq9 => ?_)
    obtain ⟨rfl, rfl⟩ := hq9
    refine ⟨_, _, _, _, _, _, _, _, _, _, _, _, _, _, rfl, ?_⟩
    show J _ _ _ _ _ [] (wM s la r v c l tn (pset (pset p 5 (nI 5)) 6 (p 8)) pa m q b x h) _ _
    refine J.iload_n dX7_readLine_66 rfl rfl ?_
    refine J.i2l dX7_readLine_67 ?_
    refine J.ldc2 (v := 3) dX7_readLine_68 (jt 946 rfl rfl) ?_
    refine J.ldc2 (v := 4) dX7_readLine_71 (jt 947 rfl rfl) ?_
    refine J.cs (as := [.long _, .long _, .long _]) (is := []) okX7_in jcX7_74 (mX7_inI 1 3 4 (by decide) (by decide)) dX7_readLine_74 rfl rfl rfl rfl rfl rfl (fun r9 B9 hq => ?_)
    obtain ⟨rfl, rfl⟩ := hq
    refine ⟨rfl, ?_⟩
    show J _ _ _ _ _ (.int _ :: _) (wM s la r v c l tn (pset (pset p 5 (nI 5)) 6 (p 8)) pa m q b x h) _ _
    refine J.if_eq (tgt := 97) dX7_readLine_77 (by decide) (fun c77 => ?_) (fun c77 => absurd c77 (fun h => h ((jB_0 _).mpr (by decide))))
    refine J.aload_n dX7_readLine_97 rfl rfl ?_
    refine J.dup dX7_readLine_98 rfl ?_
    refine J.mg10 dX7_readLine_99 rfl ?_
    rw [show (pset (pset p 5 (nI 5)) 6 (p 8)) 3 = nI t3 from e3]
    refine J.iconst (1) dX7_readLine_102 (by decide) ?_
    refine J.iload_n dX7_readLine_103 rfl rfl ?_
    refine J.ishl dX7_readLine_104 ?_
    refine J.ior dX7_readLine_105 ?_
    rw [show nI t3 ||| 1 <<< ((1 : Int32) &&& 31) = nI (t3 ||| 2 ^ 1) from to_ev t3 ht3 1 (by decide)]
    refine J.mp10 dX7_readLine_106 rfl ?_
    try dsimp only [List.set]
    refine J.aload_n dX7_readLine_109 rfl rfl ?_
    refine J.cvM (as := []) s la r v c l tn (pset (pset (pset p 5 (nI 5)) 6 (p 8)) 3 (nI (t3 ||| 2 ^ 1))) pa m q b x h okX7_step jcX7_116 (mX7_stepx s la r v c l tn (pset (pset (pset p 5 (nI 5)) 6 (p 8)) 3 (nI (t3 ||| 2 ^ 1))) pa m q b x h 5 rfl (by decide) (by decide)) dX7_readLine_110 rfl rfl rfl rfl (fun r9 B9 hq9 => ?_)
    obtain ⟨rfl, rfl⟩ := hq9
    refine ⟨_, _, _, _, _, _, _, _, _, _, _, _, _, _, rfl, ?_⟩
    show J _ _ _ _ _ [] (wM s la r v c l tn (pset (pset (pset p 5 (nI 5)) 6 (p 8)) 3 (nI (t3 ||| 2 ^ 1))) pa m q b x h) _ _
    refine J.aload_n dX7_readLine_113 rfl rfl ?_
    refine J.mg15 dX7_readLine_114 rfl ?_
    refine J.if_le (tgt := 121) dX7_readLine_117 (by decide) (fun c117 => absurd c117 (show ¬ nI 5 ≤ 0 by decide)) (fun c117 => ?_)
    have eR : (rdLi (v 1) (v 4 0) y d) = (false, (yF y 5 (y 1), d)) := by rw [rdLi_1 v y d hsp]; unfold rdKi; rw [if_neg (by omega)]; rfl
    refine J.vret dX7_readLine_120 rfl (Nat.le_refl _) (Nat.le_refl _) ⟨rfl, _, pa, rfl, fun h9 => absurd h9 (by rw [eR]; exact Bool.false_ne_true), fun _ => ?_⟩
    rw [eR]
    exact ⟨rfl, ht.2.1, show 0 < 5 by decide, show 5 < 100 by decide⟩
  · have hlt : d 6 1 < 4 := by omega
    refine J.aload_n dX7_readLine_0 rfl rfl ?_
    refine J.cvM (as := []) s la r v c l tn p pa m q b x h okX7_nameHere jcX7_119 (mX7_nameHere s la r v c l tn p pa m q b x h y ht.1 ht.2.1 ht.2.2.1 hy.1 hy.2.1 hy.2.2.1 hl) dX7_readLine_1 rfl rfl rfl rfl (fun r9 B9 hq9 => ?_)
    obtain ⟨rfl, rfl⟩ := hq9
    refine ⟨_, _, _, _, _, _, _, _, _, _, _, _, _, _, rfl, ?_⟩
    show J _ _ _ _ _ (.int _ :: _) (wM s la r v c l tn p pa m q b x h) _ _
    rw [nmF_at (n := 1) (by decide) hsp 11 0 rfl (Nat.zero_le _)]
    rw [show nI 1 = (1 : Int32) from rfl]
    refine J.istore_n dX7_readLine_4 rfl (by decide) rfl ?_
    try dsimp only [List.set]
    refine J.iload_n dX7_readLine_5 rfl rfl ?_
    refine J.i2l dX7_readLine_6 ?_
    refine J.lconst 0 dX7_readLine_7 (by decide) ?_
    refine J.ldc2 (v := 5) dX7_readLine_8 (jt 945 rfl rfl) ?_
    refine J.cs (as := [.long _, .long _, .long _]) (is := []) okX7_in jcX7_74 (mX7_inI 1 0 5 (by decide) (by decide)) dX7_readLine_11 rfl rfl rfl rfl rfl rfl (fun r9 B9 hq => ?_)
    obtain ⟨rfl, rfl⟩ := hq
    refine ⟨rfl, ?_⟩
    show J _ _ _ _ _ (.int _ :: _) (wM s la r v c l tn p pa m q b x h) _ _
    refine J.if_ne (tgt := 23) dX7_readLine_14 (by decide) (fun c14 => ?_) (fun c14 => absurd c14 (fun h => (jB_0 _).mp h (by decide)))
    refine J.iload_n dX7_readLine_23 rfl rfl ?_
    refine J.if_ne (tgt := 35) dX7_readLine_24 (by decide) (fun c24 => ?_) (fun c24 => absurd c24 (by decide))
    refine J.iload_n dX7_readLine_35 rfl rfl ?_
    refine J.iconst (1) dX7_readLine_36 (by decide) ?_
    refine J.icmp_ne (tgt := 48) dX7_readLine_37 (by decide) (fun c37 => absurd c37 (fun h => h rfl)) (fun c37 => ?_)
    refine J.aload_n dX7_readLine_40 rfl rfl ?_
    refine J.mg8 dX7_readLine_41 rfl ?_
    rw [hdr.1.2.1]
    refine J.iconst (4) dX7_readLine_44 (by decide) ?_
    refine J.icmp_eq (tgt := 61) dX7_readLine_45 (by decide) (fun c45 => absurd c45 (fun h => hfull ((nI_eqi (b := 4) (by omega) (by decide)).mp h))) (fun c45 => ?_)
    refine J.iload_n dX7_readLine_48 rfl rfl ?_
    refine J.iconst (2) dX7_readLine_49 (by decide) ?_
    refine J.icmp_ne (tgt := 66) dX7_readLine_50 (by decide) (fun c50 => ?_) (fun c50 => absurd c50 (by decide))
    refine J.iload_n dX7_readLine_66 rfl rfl ?_
    refine J.i2l dX7_readLine_67 ?_
    refine J.ldc2 (v := 3) dX7_readLine_68 (jt 946 rfl rfl) ?_
    refine J.ldc2 (v := 4) dX7_readLine_71 (jt 947 rfl rfl) ?_
    refine J.cs (as := [.long _, .long _, .long _]) (is := []) okX7_in jcX7_74 (mX7_inI 1 3 4 (by decide) (by decide)) dX7_readLine_74 rfl rfl rfl rfl rfl rfl (fun r9 B9 hq => ?_)
    obtain ⟨rfl, rfl⟩ := hq
    refine ⟨rfl, ?_⟩
    show J _ _ _ _ _ (.int _ :: _) (wM s la r v c l tn p pa m q b x h) _ _
    refine J.if_eq (tgt := 97) dX7_readLine_77 (by decide) (fun c77 => ?_) (fun c77 => absurd c77 (fun h => h ((jB_0 _).mpr (by decide))))
    refine J.aload_n dX7_readLine_97 rfl rfl ?_
    refine J.dup dX7_readLine_98 rfl ?_
    refine J.mg10 dX7_readLine_99 rfl ?_
    rw [show p 3 = nI t3 from e3]
    refine J.iconst (1) dX7_readLine_102 (by decide) ?_
    refine J.iload_n dX7_readLine_103 rfl rfl ?_
    refine J.ishl dX7_readLine_104 ?_
    refine J.ior dX7_readLine_105 ?_
    rw [show nI t3 ||| 1 <<< ((1 : Int32) &&& 31) = nI (t3 ||| 2 ^ 1) from to_ev t3 ht3 1 (by decide)]
    refine J.mp10 dX7_readLine_106 rfl ?_
    try dsimp only [List.set]
    refine J.aload_n dX7_readLine_109 rfl rfl ?_
    refine J.cvM (as := []) s la r v c l tn (pset p 3 (nI (t3 ||| 2 ^ 1))) pa m q b x h okX7_step jcX7_116 (mX7_step s la r v c l tn (pset p 3 (nI (t3 ||| 2 ^ 1))) pa m q b x h hb hl (y 2) hy.2.1 h5 ht.1) dX7_readLine_110 rfl rfl rfl rfl (fun r9 B9 hq9 => ?_)
    obtain ⟨rfl, p9, rfl, hlo9, hA9⟩ := hq9
    refine ⟨_, _, _, _, _, _, _, _, _, _, _, _, _, _, rfl, ?_⟩
    show J _ _ _ _ _ [] (wM s la r v c l tn p9 pa m q b x h) _ _
    by_cases hto : ntoB (v 1) (v 4 0) (y 2) = true
    · skip
      refine J.aload_n dX7_readLine_113 rfl rfl ?_
      refine J.mg15 dX7_readLine_114 rfl ?_
      refine J.if_le (tgt := 121) dX7_readLine_117 (by decide) (fun c117 => ?_) (fun c117 => absurd c117 (fun h => h (by rw [(hA9.ok hto).1]; decide)))
      refine J.aload_n dX7_readLine_121 rfl rfl ?_
      refine J.iload_n dX7_readLine_122 rfl rfl ?_
      refine J.cvM (as := [.int _]) s la r v c l tn p9 pa m q b x h okX7_readMore jcX7_150 (mX7_readMore1 s la r v c l tn p9 pa m q b x h y d hb hl hA9 hto hy.z (dr_to hdr hlo9 t3 ht3 e5 e6 1 (by decide)) hd h7 hlt) dX7_readLine_123 rfl rfl rfl rfl (fun r9 B9 hq9 => ?_)
      obtain ⟨rfl, p8, pa8, rfl, hQ8⟩ := hq9
      refine ⟨_, _, _, _, _, _, _, _, _, _, _, _, _, _, rfl, ?_⟩
      show J _ _ _ _ _ [] (wM s la r v c l tn p8 pa8 m q b x h) _ _
      have eR : (rdKi (v 1) (v 4 0) y d) = (rdTwo (v 1) (v 4 0) 0 9 0 99 raddK y d) := if_pos hlt
      rw [rdLi_1 v y d hsp, eR]
      exact mX7_readLine_e s la r v c l tn p8 pa8 m q b x h y hb hl (rdTwo (v 1) (v 4 0) 0 9 0 99 raddK y d) hQ8 1
    · have eR : (rdLi (v 1) (v 4 0) y d) = (false, (yN (v 1) (v 4 0) y, d)) := by rw [rdLi_1 v y d hsp]; unfold rdKi rdTwo rdN; rw [if_pos hlt, if_neg hto]; rfl
      refine J.aload_n dX7_readLine_113 rfl rfl ?_
      refine J.mg15 dX7_readLine_114 rfl ?_
      refine J.if_le (tgt := 121) dX7_readLine_117 (by decide) (fun c117 => absurd c117 (by rw [(hA9.no hto).1]; decide)) (fun c117 => ?_)
      refine J.vret dX7_readLine_120 rfl (Nat.le_refl _) (Nat.le_refl _) ⟨rfl, p9, pa, rfl, fun h9 => absurd h9 (by rw [eR]; exact Bool.false_ne_true), fun _ => ?_⟩
      rw [eR]
      show rF p9 (yN (v 1) (v 4 0) y 7) (yN (v 1) (v 4 0) y 8)
      have e7 : yN (v 1) (v 4 0) y 7 = 1 := if_neg hto
      have e8 : yN (v 1) (v 4 0) y 8 = ntf (v 1) (v 4 0) (y 2) := if_neg hto
      rw [e7, e8]
      exact hA9.no hto
set_option maxRecDepth 100000 in
set_option maxHeartbeats 4000000 in
theorem mX7_readLine2 (s : Nat → Int32) (la : Nat → Int32) (r : rT) (v : vT) (c : Nat → Nat → Int32) (l : Nat → Int32) (tn : Int32) (p : Nat → Int32) (pa : Nat → Nat → Int32) (m : Nat) (q : rT) (b : Int32) (x : Nat → Nat) (h : Nat → Nat → Int64) (y : Nat → Nat) (d : rT) (hb : ∀ j, v 1 j < 128) (hl : v 4 0 ≤ 160) (h5 : p 5 = 0) (ht : tkp v p (y 0) (y 1) (y 2)) (hy : yOK (v 4 0) y d) (hdr : dr p pa y d) (hd : dOK d) (h7 : y 7 = 0) (hsp : spl (v 1) y (sg 2)) : J KX7_readLine 21 (fun o B => o = none ∧ ∃ p9 pa9, B = (wM s la r v c l tn p9 pa9 m q b x h) ∧ mQ v (y 2 + 1) p9 pa9 (rdLi (v 1) (v 4 0) y d)) 0 [some (.ref 0), none] [] (wM s la r v c l tn p pa m q b x h) 0 0 := by
  obtain ⟨t3, ht3, e3, e5, e6⟩ := hdr.2.1
  have hcm : d 6 2 ≤ 3 := hy.2.2.2.2.2.2.2.2.1
  by_cases hfull : d 6 2 = 3
  · skip
    refine J.aload_n dX7_readLine_0 rfl rfl ?_
    refine J.cvM (as := []) s la r v c l tn p pa m q b x h okX7_nameHere jcX7_119 (mX7_nameHere s la r v c l tn p pa m q b x h y ht.1 ht.2.1 ht.2.2.1 hy.1 hy.2.1 hy.2.2.1 hl) dX7_readLine_1 rfl rfl rfl rfl (fun r9 B9 hq9 => ?_)
    obtain ⟨rfl, rfl⟩ := hq9
    refine ⟨_, _, _, _, _, _, _, _, _, _, _, _, _, _, rfl, ?_⟩
    show J _ _ _ _ _ (.int _ :: _) (wM s la r v c l tn p pa m q b x h) _ _
    rw [nmF_at (n := 2) (by decide) hsp 11 0 rfl (Nat.zero_le _)]
    rw [show nI 2 = (2 : Int32) from rfl]
    refine J.istore_n dX7_readLine_4 rfl (by decide) rfl ?_
    try dsimp only [List.set]
    refine J.iload_n dX7_readLine_5 rfl rfl ?_
    refine J.i2l dX7_readLine_6 ?_
    refine J.lconst 0 dX7_readLine_7 (by decide) ?_
    refine J.ldc2 (v := 5) dX7_readLine_8 (jt 945 rfl rfl) ?_
    refine J.cs (as := [.long _, .long _, .long _]) (is := []) okX7_in jcX7_74 (mX7_inI 2 0 5 (by decide) (by decide)) dX7_readLine_11 rfl rfl rfl rfl rfl rfl (fun r9 B9 hq => ?_)
    obtain ⟨rfl, rfl⟩ := hq
    refine ⟨rfl, ?_⟩
    show J _ _ _ _ _ (.int _ :: _) (wM s la r v c l tn p pa m q b x h) _ _
    refine J.if_ne (tgt := 23) dX7_readLine_14 (by decide) (fun c14 => ?_) (fun c14 => absurd c14 (fun h => (jB_0 _).mp h (by decide)))
    refine J.iload_n dX7_readLine_23 rfl rfl ?_
    refine J.if_ne (tgt := 35) dX7_readLine_24 (by decide) (fun c24 => ?_) (fun c24 => absurd c24 (by decide))
    refine J.iload_n dX7_readLine_35 rfl rfl ?_
    refine J.iconst (1) dX7_readLine_36 (by decide) ?_
    refine J.icmp_ne (tgt := 48) dX7_readLine_37 (by decide) (fun c37 => ?_) (fun c37 => absurd c37 (by decide))
    refine J.iload_n dX7_readLine_48 rfl rfl ?_
    refine J.iconst (2) dX7_readLine_49 (by decide) ?_
    refine J.icmp_ne (tgt := 66) dX7_readLine_50 (by decide) (fun c50 => absurd c50 (fun h => h rfl)) (fun c50 => ?_)
    refine J.aload_n dX7_readLine_53 rfl rfl ?_
    refine J.mg9 dX7_readLine_54 rfl ?_
    rw [hdr.1.2.2]
    refine J.iconst (3) dX7_readLine_57 (by decide) ?_
    refine J.icmp_ne (tgt := 66) dX7_readLine_58 (by decide) (fun c58 => absurd c58 (fun h => h (by rw [hfull] <;> rfl))) (fun c58 => ?_)
    refine J.aload_n dX7_readLine_61 rfl rfl ?_
    refine J.iconst (5) dX7_readLine_62 (by decide) ?_
    refine J.cvM (as := [.int _]) s la r v c l tn p pa m q b x h okX7_fails jcX7_112 (mX7_fails s la r v c l tn p pa m q b x h 5 h5) dX7_readLine_63 rfl rfl rfl rfl (fun r9 B9 hq9 => ?_)
    obtain ⟨rfl, rfl⟩ := hq9
    refine ⟨_, _, _, _, _, _, _, _, _, _, _, _, _, _, rfl, ?_⟩
    show J _ _ _ _ _ [] (wM s la r v c l tn (pset (pset p 5 (nI 5)) 6 (p 8)) pa m q b x h) _ _
    refine J.iload_n dX7_readLine_66 rfl rfl ?_
    refine J.i2l dX7_readLine_67 ?_
    refine J.ldc2 (v := 3) dX7_readLine_68 (jt 946 rfl rfl) ?_
    refine J.ldc2 (v := 4) dX7_readLine_71 (jt 947 rfl rfl) ?_
    refine J.cs (as := [.long _, .long _, .long _]) (is := []) okX7_in jcX7_74 (mX7_inI 2 3 4 (by decide) (by decide)) dX7_readLine_74 rfl rfl rfl rfl rfl rfl (fun r9 B9 hq => ?_)
    obtain ⟨rfl, rfl⟩ := hq
    refine ⟨rfl, ?_⟩
    show J _ _ _ _ _ (.int _ :: _) (wM s la r v c l tn (pset (pset p 5 (nI 5)) 6 (p 8)) pa m q b x h) _ _
    refine J.if_eq (tgt := 97) dX7_readLine_77 (by decide) (fun c77 => ?_) (fun c77 => absurd c77 (fun h => h ((jB_0 _).mpr (by decide))))
    refine J.aload_n dX7_readLine_97 rfl rfl ?_
    refine J.dup dX7_readLine_98 rfl ?_
    refine J.mg10 dX7_readLine_99 rfl ?_
    rw [show (pset (pset p 5 (nI 5)) 6 (p 8)) 3 = nI t3 from e3]
    refine J.iconst (1) dX7_readLine_102 (by decide) ?_
    refine J.iload_n dX7_readLine_103 rfl rfl ?_
    refine J.ishl dX7_readLine_104 ?_
    refine J.ior dX7_readLine_105 ?_
    rw [show nI t3 ||| 1 <<< ((2 : Int32) &&& 31) = nI (t3 ||| 2 ^ 2) from to_ev t3 ht3 2 (by decide)]
    refine J.mp10 dX7_readLine_106 rfl ?_
    try dsimp only [List.set]
    refine J.aload_n dX7_readLine_109 rfl rfl ?_
    refine J.cvM (as := []) s la r v c l tn (pset (pset (pset p 5 (nI 5)) 6 (p 8)) 3 (nI (t3 ||| 2 ^ 2))) pa m q b x h okX7_step jcX7_116 (mX7_stepx s la r v c l tn (pset (pset (pset p 5 (nI 5)) 6 (p 8)) 3 (nI (t3 ||| 2 ^ 2))) pa m q b x h 5 rfl (by decide) (by decide)) dX7_readLine_110 rfl rfl rfl rfl (fun r9 B9 hq9 => ?_)
    obtain ⟨rfl, rfl⟩ := hq9
    refine ⟨_, _, _, _, _, _, _, _, _, _, _, _, _, _, rfl, ?_⟩
    show J _ _ _ _ _ [] (wM s la r v c l tn (pset (pset (pset p 5 (nI 5)) 6 (p 8)) 3 (nI (t3 ||| 2 ^ 2))) pa m q b x h) _ _
    refine J.aload_n dX7_readLine_113 rfl rfl ?_
    refine J.mg15 dX7_readLine_114 rfl ?_
    refine J.if_le (tgt := 121) dX7_readLine_117 (by decide) (fun c117 => absurd c117 (show ¬ nI 5 ≤ 0 by decide)) (fun c117 => ?_)
    have eR : (rdLi (v 1) (v 4 0) y d) = (false, (yF y 5 (y 1), d)) := by rw [rdLi_2 v y d hsp]; unfold rdLa; rw [if_neg (by omega)]; rfl
    refine J.vret dX7_readLine_120 rfl (Nat.le_refl _) (Nat.le_refl _) ⟨rfl, _, pa, rfl, fun h9 => absurd h9 (by rw [eR]; exact Bool.false_ne_true), fun _ => ?_⟩
    rw [eR]
    exact ⟨rfl, ht.2.1, show 0 < 5 by decide, show 5 < 100 by decide⟩
  · have hlt : d 6 2 < 3 := by omega
    refine J.aload_n dX7_readLine_0 rfl rfl ?_
    refine J.cvM (as := []) s la r v c l tn p pa m q b x h okX7_nameHere jcX7_119 (mX7_nameHere s la r v c l tn p pa m q b x h y ht.1 ht.2.1 ht.2.2.1 hy.1 hy.2.1 hy.2.2.1 hl) dX7_readLine_1 rfl rfl rfl rfl (fun r9 B9 hq9 => ?_)
    obtain ⟨rfl, rfl⟩ := hq9
    refine ⟨_, _, _, _, _, _, _, _, _, _, _, _, _, _, rfl, ?_⟩
    show J _ _ _ _ _ (.int _ :: _) (wM s la r v c l tn p pa m q b x h) _ _
    rw [nmF_at (n := 2) (by decide) hsp 11 0 rfl (Nat.zero_le _)]
    rw [show nI 2 = (2 : Int32) from rfl]
    refine J.istore_n dX7_readLine_4 rfl (by decide) rfl ?_
    try dsimp only [List.set]
    refine J.iload_n dX7_readLine_5 rfl rfl ?_
    refine J.i2l dX7_readLine_6 ?_
    refine J.lconst 0 dX7_readLine_7 (by decide) ?_
    refine J.ldc2 (v := 5) dX7_readLine_8 (jt 945 rfl rfl) ?_
    refine J.cs (as := [.long _, .long _, .long _]) (is := []) okX7_in jcX7_74 (mX7_inI 2 0 5 (by decide) (by decide)) dX7_readLine_11 rfl rfl rfl rfl rfl rfl (fun r9 B9 hq => ?_)
    obtain ⟨rfl, rfl⟩ := hq
    refine ⟨rfl, ?_⟩
    show J _ _ _ _ _ (.int _ :: _) (wM s la r v c l tn p pa m q b x h) _ _
    refine J.if_ne (tgt := 23) dX7_readLine_14 (by decide) (fun c14 => ?_) (fun c14 => absurd c14 (fun h => (jB_0 _).mp h (by decide)))
    refine J.iload_n dX7_readLine_23 rfl rfl ?_
    refine J.if_ne (tgt := 35) dX7_readLine_24 (by decide) (fun c24 => ?_) (fun c24 => absurd c24 (by decide))
    refine J.iload_n dX7_readLine_35 rfl rfl ?_
    refine J.iconst (1) dX7_readLine_36 (by decide) ?_
    refine J.icmp_ne (tgt := 48) dX7_readLine_37 (by decide) (fun c37 => ?_) (fun c37 => absurd c37 (by decide))
    refine J.iload_n dX7_readLine_48 rfl rfl ?_
    refine J.iconst (2) dX7_readLine_49 (by decide) ?_
    refine J.icmp_ne (tgt := 66) dX7_readLine_50 (by decide) (fun c50 => absurd c50 (fun h => h rfl)) (fun c50 => ?_)
    refine J.aload_n dX7_readLine_53 rfl rfl ?_
    refine J.mg9 dX7_readLine_54 rfl ?_
    rw [hdr.1.2.2]
    refine J.iconst (3) dX7_readLine_57 (by decide) ?_
    refine J.icmp_ne (tgt := 66) dX7_readLine_58 (by decide) (fun c58 => ?_) (fun c58 => absurd c58 (fun h => hfull ((nI_eqi (b := 3) (by omega) (by decide)).mp h)))
    refine J.iload_n dX7_readLine_66 rfl rfl ?_
    refine J.i2l dX7_readLine_67 ?_
    refine J.ldc2 (v := 3) dX7_readLine_68 (jt 946 rfl rfl) ?_
    refine J.ldc2 (v := 4) dX7_readLine_71 (jt 947 rfl rfl) ?_
    refine J.cs (as := [.long _, .long _, .long _]) (is := []) okX7_in jcX7_74 (mX7_inI 2 3 4 (by decide) (by decide)) dX7_readLine_74 rfl rfl rfl rfl rfl rfl (fun r9 B9 hq => ?_)
    obtain ⟨rfl, rfl⟩ := hq
    refine ⟨rfl, ?_⟩
    show J _ _ _ _ _ (.int _ :: _) (wM s la r v c l tn p pa m q b x h) _ _
    refine J.if_eq (tgt := 97) dX7_readLine_77 (by decide) (fun c77 => ?_) (fun c77 => absurd c77 (fun h => h ((jB_0 _).mpr (by decide))))
    refine J.aload_n dX7_readLine_97 rfl rfl ?_
    refine J.dup dX7_readLine_98 rfl ?_
    refine J.mg10 dX7_readLine_99 rfl ?_
    rw [show p 3 = nI t3 from e3]
    refine J.iconst (1) dX7_readLine_102 (by decide) ?_
    refine J.iload_n dX7_readLine_103 rfl rfl ?_
    refine J.ishl dX7_readLine_104 ?_
    refine J.ior dX7_readLine_105 ?_
    rw [show nI t3 ||| 1 <<< ((2 : Int32) &&& 31) = nI (t3 ||| 2 ^ 2) from to_ev t3 ht3 2 (by decide)]
    refine J.mp10 dX7_readLine_106 rfl ?_
    try dsimp only [List.set]
    refine J.aload_n dX7_readLine_109 rfl rfl ?_
    refine J.cvM (as := []) s la r v c l tn (pset p 3 (nI (t3 ||| 2 ^ 2))) pa m q b x h okX7_step jcX7_116 (mX7_step s la r v c l tn (pset p 3 (nI (t3 ||| 2 ^ 2))) pa m q b x h hb hl (y 2) hy.2.1 h5 ht.1) dX7_readLine_110 rfl rfl rfl rfl (fun r9 B9 hq9 => ?_)
    obtain ⟨rfl, p9, rfl, hlo9, hA9⟩ := hq9
    refine ⟨_, _, _, _, _, _, _, _, _, _, _, _, _, _, rfl, ?_⟩
    show J _ _ _ _ _ [] (wM s la r v c l tn p9 pa m q b x h) _ _
    by_cases hto : ntoB (v 1) (v 4 0) (y 2) = true
    · skip
      refine J.aload_n dX7_readLine_113 rfl rfl ?_
      refine J.mg15 dX7_readLine_114 rfl ?_
      refine J.if_le (tgt := 121) dX7_readLine_117 (by decide) (fun c117 => ?_) (fun c117 => absurd c117 (fun h => h (by rw [(hA9.ok hto).1]; decide)))
      refine J.aload_n dX7_readLine_121 rfl rfl ?_
      refine J.iload_n dX7_readLine_122 rfl rfl ?_
      refine J.cvM (as := [.int _]) s la r v c l tn p9 pa m q b x h okX7_readMore jcX7_150 (mX7_readMore2 s la r v c l tn p9 pa m q b x h y d hb hl hA9 hto hy.z (dr_to hdr hlo9 t3 ht3 e5 e6 2 (by decide)) hd h7 hlt) dX7_readLine_123 rfl rfl rfl rfl (fun r9 B9 hq9 => ?_)
      obtain ⟨rfl, p8, pa8, rfl, hQ8⟩ := hq9
      refine ⟨_, _, _, _, _, _, _, _, _, _, _, _, _, _, rfl, ?_⟩
      show J _ _ _ _ _ [] (wM s la r v c l tn p8 pa8 m q b x h) _ _
      have eR : (rdLa (v 1) (v 4 0) y d) = (rdTwo (v 1) (v 4 0) 1 5 0 9 raddL y d) := if_pos hlt
      rw [rdLi_2 v y d hsp, eR]
      exact mX7_readLine_e s la r v c l tn p8 pa8 m q b x h y hb hl (rdTwo (v 1) (v 4 0) 1 5 0 9 raddL y d) hQ8 2
    · have eR : (rdLi (v 1) (v 4 0) y d) = (false, (yN (v 1) (v 4 0) y, d)) := by rw [rdLi_2 v y d hsp]; unfold rdLa rdTwo rdN; rw [if_pos hlt, if_neg hto]; rfl
      refine J.aload_n dX7_readLine_113 rfl rfl ?_
      refine J.mg15 dX7_readLine_114 rfl ?_
      refine J.if_le (tgt := 121) dX7_readLine_117 (by decide) (fun c117 => absurd c117 (by rw [(hA9.no hto).1]; decide)) (fun c117 => ?_)
      refine J.vret dX7_readLine_120 rfl (Nat.le_refl _) (Nat.le_refl _) ⟨rfl, p9, pa, rfl, fun h9 => absurd h9 (by rw [eR]; exact Bool.false_ne_true), fun _ => ?_⟩
      rw [eR]
      show rF p9 (yN (v 1) (v 4 0) y 7) (yN (v 1) (v 4 0) y 8)
      have e7 : yN (v 1) (v 4 0) y 7 = 1 := if_neg hto
      have e8 : yN (v 1) (v 4 0) y 8 = ntf (v 1) (v 4 0) (y 2) := if_neg hto
      rw [e7, e8]
      exact hA9.no hto
set_option maxRecDepth 100000 in
set_option maxHeartbeats 4000000 in
theorem mX7_readLine3 (s : Nat → Int32) (la : Nat → Int32) (r : rT) (v : vT) (c : Nat → Nat → Int32) (l : Nat → Int32) (tn : Int32) (p : Nat → Int32) (pa : Nat → Nat → Int32) (m : Nat) (q : rT) (b : Int32) (x : Nat → Nat) (h : Nat → Nat → Int64) (y : Nat → Nat) (d : rT) (hb : ∀ j, v 1 j < 128) (hl : v 4 0 ≤ 160) (h5 : p 5 = 0) (ht : tkp v p (y 0) (y 1) (y 2)) (hy : yOK (v 4 0) y d) (hdr : dr p pa y d) (hd : dOK d) (h7 : y 7 = 0) (hsp : spl (v 1) y (sg 3)) : J KX7_readLine 21 (fun o B => o = none ∧ ∃ p9 pa9, B = (wM s la r v c l tn p9 pa9 m q b x h) ∧ mQ v (y 2 + 1) p9 pa9 (rdLi (v 1) (v 4 0) y d)) 0 [some (.ref 0), none] [] (wM s la r v c l tn p pa m q b x h) 0 0 := by
  obtain ⟨t3, ht3, e3, e5, e6⟩ := hdr.2.1
  have hcm : y 5 ≤ 1 := hy.2.2.2.2.1
  by_cases hfull : y 5 = 1
  · skip
    refine J.aload_n dX7_readLine_0 rfl rfl ?_
    refine J.cvM (as := []) s la r v c l tn p pa m q b x h okX7_nameHere jcX7_119 (mX7_nameHere s la r v c l tn p pa m q b x h y ht.1 ht.2.1 ht.2.2.1 hy.1 hy.2.1 hy.2.2.1 hl) dX7_readLine_1 rfl rfl rfl rfl (fun r9 B9 hq9 => ?_)
    obtain ⟨rfl, rfl⟩ := hq9
    refine ⟨_, _, _, _, _, _, _, _, _, _, _, _, _, _, rfl, ?_⟩
    show J _ _ _ _ _ (.int _ :: _) (wM s la r v c l tn p pa m q b x h) _ _
    rw [nmF_at (n := 3) (by decide) hsp 11 0 rfl (Nat.zero_le _)]
    rw [show nI 3 = (3 : Int32) from rfl]
    refine J.istore_n dX7_readLine_4 rfl (by decide) rfl ?_
    try dsimp only [List.set]
    refine J.iload_n dX7_readLine_5 rfl rfl ?_
    refine J.i2l dX7_readLine_6 ?_
    refine J.lconst 0 dX7_readLine_7 (by decide) ?_
    refine J.ldc2 (v := 5) dX7_readLine_8 (jt 945 rfl rfl) ?_
    refine J.cs (as := [.long _, .long _, .long _]) (is := []) okX7_in jcX7_74 (mX7_inI 3 0 5 (by decide) (by decide)) dX7_readLine_11 rfl rfl rfl rfl rfl rfl (fun r9 B9 hq => ?_)
    obtain ⟨rfl, rfl⟩ := hq
    refine ⟨rfl, ?_⟩
    show J _ _ _ _ _ (.int _ :: _) (wM s la r v c l tn p pa m q b x h) _ _
    refine J.if_ne (tgt := 23) dX7_readLine_14 (by decide) (fun c14 => ?_) (fun c14 => absurd c14 (fun h => (jB_0 _).mp h (by decide)))
    refine J.iload_n dX7_readLine_23 rfl rfl ?_
    refine J.if_ne (tgt := 35) dX7_readLine_24 (by decide) (fun c24 => ?_) (fun c24 => absurd c24 (by decide))
    refine J.iload_n dX7_readLine_35 rfl rfl ?_
    refine J.iconst (1) dX7_readLine_36 (by decide) ?_
    refine J.icmp_ne (tgt := 48) dX7_readLine_37 (by decide) (fun c37 => ?_) (fun c37 => absurd c37 (by decide))
    refine J.iload_n dX7_readLine_48 rfl rfl ?_
    refine J.iconst (2) dX7_readLine_49 (by decide) ?_
    refine J.icmp_ne (tgt := 66) dX7_readLine_50 (by decide) (fun c50 => ?_) (fun c50 => absurd c50 (by decide))
    refine J.iload_n dX7_readLine_66 rfl rfl ?_
    refine J.i2l dX7_readLine_67 ?_
    refine J.ldc2 (v := 3) dX7_readLine_68 (jt 946 rfl rfl) ?_
    refine J.ldc2 (v := 4) dX7_readLine_71 (jt 947 rfl rfl) ?_
    refine J.cs (as := [.long _, .long _, .long _]) (is := []) okX7_in jcX7_74 (mX7_inI 3 3 4 (by decide) (by decide)) dX7_readLine_74 rfl rfl rfl rfl rfl rfl (fun r9 B9 hq => ?_)
    obtain ⟨rfl, rfl⟩ := hq
    refine ⟨rfl, ?_⟩
    show J _ _ _ _ _ (.int _ :: _) (wM s la r v c l tn p pa m q b x h) _ _
    refine J.if_eq (tgt := 97) dX7_readLine_77 (by decide) (fun c77 => absurd c77 (fun h => (jB_0 _).mp h (by decide))) (fun c77 => ?_)
    refine J.aload_n dX7_readLine_80 rfl rfl ?_
    refine J.mg10 dX7_readLine_81 rfl ?_
    rw [show p 3 = nI t3 from e3]
    refine J.iload_n dX7_readLine_84 rfl rfl ?_
    refine J.ishr dX7_readLine_85 ?_
    refine J.iconst (1) dX7_readLine_86 (by decide) ?_
    refine J.iand dX7_readLine_87 ?_
    refine J.iconst (1) dX7_readLine_88 (by decide) ?_
    rw [(to_s t3 ht3).1, e5]
    refine J.icmp_ne (tgt := 97) dX7_readLine_89 (by decide) (fun c89 => absurd c89 (fun h => h (by rw [hfull] <;> rfl))) (fun c89 => ?_)
    refine J.aload_n dX7_readLine_92 rfl rfl ?_
    refine J.iconst (4) dX7_readLine_93 (by decide) ?_
    refine J.cvM (as := [.int _]) s la r v c l tn p pa m q b x h okX7_fails jcX7_112 (mX7_fails s la r v c l tn p pa m q b x h 4 h5) dX7_readLine_94 rfl rfl rfl rfl (fun r9 B9 hq9 => ?_)
    obtain ⟨rfl, rfl⟩ := hq9
    refine ⟨_, _, _, _, _, _, _, _, _, _, _, _, _, _, rfl, ?_⟩
    show J _ _ _ _ _ [] (wM s la r v c l tn (pset (pset p 5 (nI 4)) 6 (p 8)) pa m q b x h) _ _
    refine J.aload_n dX7_readLine_97 rfl rfl ?_
    refine J.dup dX7_readLine_98 rfl ?_
    refine J.mg10 dX7_readLine_99 rfl ?_
    rw [show (pset (pset p 5 (nI 4)) 6 (p 8)) 3 = nI t3 from e3]
    refine J.iconst (1) dX7_readLine_102 (by decide) ?_
    refine J.iload_n dX7_readLine_103 rfl rfl ?_
    refine J.ishl dX7_readLine_104 ?_
    refine J.ior dX7_readLine_105 ?_
    rw [show nI t3 ||| 1 <<< ((3 : Int32) &&& 31) = nI (t3 ||| 2 ^ 3) from to_ev t3 ht3 3 (by decide)]
    refine J.mp10 dX7_readLine_106 rfl ?_
    try dsimp only [List.set]
    refine J.aload_n dX7_readLine_109 rfl rfl ?_
    refine J.cvM (as := []) s la r v c l tn (pset (pset (pset p 5 (nI 4)) 6 (p 8)) 3 (nI (t3 ||| 2 ^ 3))) pa m q b x h okX7_step jcX7_116 (mX7_stepx s la r v c l tn (pset (pset (pset p 5 (nI 4)) 6 (p 8)) 3 (nI (t3 ||| 2 ^ 3))) pa m q b x h 4 rfl (by decide) (by decide)) dX7_readLine_110 rfl rfl rfl rfl (fun r9 B9 hq9 => ?_)
    obtain ⟨rfl, rfl⟩ := hq9
    refine ⟨_, _, _, _, _, _, _, _, _, _, _, _, _, _, rfl, ?_⟩
    show J _ _ _ _ _ [] (wM s la r v c l tn (pset (pset (pset p 5 (nI 4)) 6 (p 8)) 3 (nI (t3 ||| 2 ^ 3))) pa m q b x h) _ _
    refine J.aload_n dX7_readLine_113 rfl rfl ?_
    refine J.mg15 dX7_readLine_114 rfl ?_
    refine J.if_le (tgt := 121) dX7_readLine_117 (by decide) (fun c117 => absurd c117 (show ¬ nI 4 ≤ 0 by decide)) (fun c117 => ?_)
    have eR : (rdLi (v 1) (v 4 0) y d) = (false, (yF y 4 (y 1), d)) := by rw [rdLi_3 v y d hsp]; unfold rdOnce; rw [if_neg (by omega)]; rfl
    refine J.vret dX7_readLine_120 rfl (Nat.le_refl _) (Nat.le_refl _) ⟨rfl, _, pa, rfl, fun h9 => absurd h9 (by rw [eR]; exact Bool.false_ne_true), fun _ => ?_⟩
    rw [eR]
    exact ⟨rfl, ht.2.1, show 0 < 4 by decide, show 4 < 100 by decide⟩
  · have hlt : y 5 = 0 := by omega
    refine J.aload_n dX7_readLine_0 rfl rfl ?_
    refine J.cvM (as := []) s la r v c l tn p pa m q b x h okX7_nameHere jcX7_119 (mX7_nameHere s la r v c l tn p pa m q b x h y ht.1 ht.2.1 ht.2.2.1 hy.1 hy.2.1 hy.2.2.1 hl) dX7_readLine_1 rfl rfl rfl rfl (fun r9 B9 hq9 => ?_)
    obtain ⟨rfl, rfl⟩ := hq9
    refine ⟨_, _, _, _, _, _, _, _, _, _, _, _, _, _, rfl, ?_⟩
    show J _ _ _ _ _ (.int _ :: _) (wM s la r v c l tn p pa m q b x h) _ _
    rw [nmF_at (n := 3) (by decide) hsp 11 0 rfl (Nat.zero_le _)]
    rw [show nI 3 = (3 : Int32) from rfl]
    refine J.istore_n dX7_readLine_4 rfl (by decide) rfl ?_
    try dsimp only [List.set]
    refine J.iload_n dX7_readLine_5 rfl rfl ?_
    refine J.i2l dX7_readLine_6 ?_
    refine J.lconst 0 dX7_readLine_7 (by decide) ?_
    refine J.ldc2 (v := 5) dX7_readLine_8 (jt 945 rfl rfl) ?_
    refine J.cs (as := [.long _, .long _, .long _]) (is := []) okX7_in jcX7_74 (mX7_inI 3 0 5 (by decide) (by decide)) dX7_readLine_11 rfl rfl rfl rfl rfl rfl (fun r9 B9 hq => ?_)
    obtain ⟨rfl, rfl⟩ := hq
    refine ⟨rfl, ?_⟩
    show J _ _ _ _ _ (.int _ :: _) (wM s la r v c l tn p pa m q b x h) _ _
    refine J.if_ne (tgt := 23) dX7_readLine_14 (by decide) (fun c14 => ?_) (fun c14 => absurd c14 (fun h => (jB_0 _).mp h (by decide)))
    refine J.iload_n dX7_readLine_23 rfl rfl ?_
    refine J.if_ne (tgt := 35) dX7_readLine_24 (by decide) (fun c24 => ?_) (fun c24 => absurd c24 (by decide))
    refine J.iload_n dX7_readLine_35 rfl rfl ?_
    refine J.iconst (1) dX7_readLine_36 (by decide) ?_
    refine J.icmp_ne (tgt := 48) dX7_readLine_37 (by decide) (fun c37 => ?_) (fun c37 => absurd c37 (by decide))
    refine J.iload_n dX7_readLine_48 rfl rfl ?_
    refine J.iconst (2) dX7_readLine_49 (by decide) ?_
    refine J.icmp_ne (tgt := 66) dX7_readLine_50 (by decide) (fun c50 => ?_) (fun c50 => absurd c50 (by decide))
    refine J.iload_n dX7_readLine_66 rfl rfl ?_
    refine J.i2l dX7_readLine_67 ?_
    refine J.ldc2 (v := 3) dX7_readLine_68 (jt 946 rfl rfl) ?_
    refine J.ldc2 (v := 4) dX7_readLine_71 (jt 947 rfl rfl) ?_
    refine J.cs (as := [.long _, .long _, .long _]) (is := []) okX7_in jcX7_74 (mX7_inI 3 3 4 (by decide) (by decide)) dX7_readLine_74 rfl rfl rfl rfl rfl rfl (fun r9 B9 hq => ?_)
    obtain ⟨rfl, rfl⟩ := hq
    refine ⟨rfl, ?_⟩
    show J _ _ _ _ _ (.int _ :: _) (wM s la r v c l tn p pa m q b x h) _ _
    refine J.if_eq (tgt := 97) dX7_readLine_77 (by decide) (fun c77 => absurd c77 (fun h => (jB_0 _).mp h (by decide))) (fun c77 => ?_)
    refine J.aload_n dX7_readLine_80 rfl rfl ?_
    refine J.mg10 dX7_readLine_81 rfl ?_
    rw [show p 3 = nI t3 from e3]
    refine J.iload_n dX7_readLine_84 rfl rfl ?_
    refine J.ishr dX7_readLine_85 ?_
    refine J.iconst (1) dX7_readLine_86 (by decide) ?_
    refine J.iand dX7_readLine_87 ?_
    refine J.iconst (1) dX7_readLine_88 (by decide) ?_
    rw [(to_s t3 ht3).1, e5]
    refine J.icmp_ne (tgt := 97) dX7_readLine_89 (by decide) (fun c89 => ?_) (fun c89 => absurd c89 (fun h => hfull ((nI_eqi (b := 1) (by omega) (by decide)).mp h)))
    refine J.aload_n dX7_readLine_97 rfl rfl ?_
    refine J.dup dX7_readLine_98 rfl ?_
    refine J.mg10 dX7_readLine_99 rfl ?_
    rw [show p 3 = nI t3 from e3]
    refine J.iconst (1) dX7_readLine_102 (by decide) ?_
    refine J.iload_n dX7_readLine_103 rfl rfl ?_
    refine J.ishl dX7_readLine_104 ?_
    refine J.ior dX7_readLine_105 ?_
    rw [show nI t3 ||| 1 <<< ((3 : Int32) &&& 31) = nI (t3 ||| 2 ^ 3) from to_ev t3 ht3 3 (by decide)]
    refine J.mp10 dX7_readLine_106 rfl ?_
    try dsimp only [List.set]
    refine J.aload_n dX7_readLine_109 rfl rfl ?_
    refine J.cvM (as := []) s la r v c l tn (pset p 3 (nI (t3 ||| 2 ^ 3))) pa m q b x h okX7_step jcX7_116 (mX7_step s la r v c l tn (pset p 3 (nI (t3 ||| 2 ^ 3))) pa m q b x h hb hl (y 2) hy.2.1 h5 ht.1) dX7_readLine_110 rfl rfl rfl rfl (fun r9 B9 hq9 => ?_)
    obtain ⟨rfl, p9, rfl, hlo9, hA9⟩ := hq9
    refine ⟨_, _, _, _, _, _, _, _, _, _, _, _, _, _, rfl, ?_⟩
    show J _ _ _ _ _ [] (wM s la r v c l tn p9 pa m q b x h) _ _
    by_cases hto : ntoB (v 1) (v 4 0) (y 2) = true
    · skip
      refine J.aload_n dX7_readLine_113 rfl rfl ?_
      refine J.mg15 dX7_readLine_114 rfl ?_
      refine J.if_le (tgt := 121) dX7_readLine_117 (by decide) (fun c117 => ?_) (fun c117 => absurd c117 (fun h => h (by rw [(hA9.ok hto).1]; decide)))
      refine J.aload_n dX7_readLine_121 rfl rfl ?_
      refine J.iload_n dX7_readLine_122 rfl rfl ?_
      refine J.cvM (as := [.int _]) s la r v c l tn p9 pa m q b x h okX7_readMore jcX7_150 (mX7_readMore3 s la r v c l tn p9 pa m q b x h (yset y 5 1) d hb hl hA9 hto (hy.z.t3) (dr_to hdr hlo9 t3 ht3 e5 e6 3 (by decide)) hd h7 ) dX7_readLine_123 rfl rfl rfl rfl (fun r9 B9 hq9 => ?_)
      obtain ⟨rfl, p8, pa8, rfl, hQ8⟩ := hq9
      refine ⟨_, _, _, _, _, _, _, _, _, _, _, _, _, _, rfl, ?_⟩
      show J _ _ _ _ _ [] (wM s la r v c l tn p8 pa8 m q b x h) _ _
      have eR : (rdOnce (v 1) (v 4 0) 5 1 9 4 y d) = (if (rdN (v 1) (v 4 0) 1 9 (yset y 5 1)).1 = true then (true, ((rdN (v 1) (v 4 0) 1 9 (yset y 5 1)).2, rset d 6 4 ((rdN (v 1) (v 4 0) 1 9 (yset y 5 1)).2 3))) else (false, ((rdN (v 1) (v 4 0) 1 9 (yset y 5 1)).2, d)) : Bool × pT) := if_pos hlt
      rw [rdLi_3 v y d hsp, eR]
      exact mX7_readLine_e s la r v c l tn p8 pa8 m q b x h y hb hl (if (rdN (v 1) (v 4 0) 1 9 (yset y 5 1)).1 = true then (true, ((rdN (v 1) (v 4 0) 1 9 (yset y 5 1)).2, rset d 6 4 ((rdN (v 1) (v 4 0) 1 9 (yset y 5 1)).2 3))) else (false, ((rdN (v 1) (v 4 0) 1 9 (yset y 5 1)).2, d)) : Bool × pT) hQ8 3
    · have eR : (rdLi (v 1) (v 4 0) y d) = (false, (yN (v 1) (v 4 0) (yset y 5 1), d)) := by rw [rdLi_3 v y d hsp]; unfold rdOnce; rw [if_pos hlt]; unfold rdN; rw [if_neg (show ¬ ntoB (v 1) (v 4 0) ((yset y 5 1) 2) = true from hto)]; rfl
      refine J.aload_n dX7_readLine_113 rfl rfl ?_
      refine J.mg15 dX7_readLine_114 rfl ?_
      refine J.if_le (tgt := 121) dX7_readLine_117 (by decide) (fun c117 => absurd c117 (by rw [(hA9.no hto).1]; decide)) (fun c117 => ?_)
      refine J.vret dX7_readLine_120 rfl (Nat.le_refl _) (Nat.le_refl _) ⟨rfl, p9, pa, rfl, fun h9 => absurd h9 (by rw [eR]; exact Bool.false_ne_true), fun _ => ?_⟩
      rw [eR]
      show rF p9 (yN (v 1) (v 4 0) (yset y 5 1) 7) (yN (v 1) (v 4 0) (yset y 5 1) 8)
      have e7 : yN (v 1) (v 4 0) (yset y 5 1) 7 = 1 := if_neg hto
      have e8 : yN (v 1) (v 4 0) (yset y 5 1) 8 = ntf (v 1) (v 4 0) (y 2) := if_neg hto
      rw [e7, e8]
      exact hA9.no hto
set_option maxRecDepth 100000 in
set_option maxHeartbeats 4000000 in
theorem mX7_readLine4 (s : Nat → Int32) (la : Nat → Int32) (r : rT) (v : vT) (c : Nat → Nat → Int32) (l : Nat → Int32) (tn : Int32) (p : Nat → Int32) (pa : Nat → Nat → Int32) (m : Nat) (q : rT) (b : Int32) (x : Nat → Nat) (h : Nat → Nat → Int64) (y : Nat → Nat) (d : rT) (hb : ∀ j, v 1 j < 128) (hl : v 4 0 ≤ 160) (h5 : p 5 = 0) (ht : tkp v p (y 0) (y 1) (y 2)) (hy : yOK (v 4 0) y d) (hdr : dr p pa y d) (hd : dOK d) (h7 : y 7 = 0) (hsp : spl (v 1) y (sg 4)) : J KX7_readLine 21 (fun o B => o = none ∧ ∃ p9 pa9, B = (wM s la r v c l tn p9 pa9 m q b x h) ∧ mQ v (y 2 + 1) p9 pa9 (rdLi (v 1) (v 4 0) y d)) 0 [some (.ref 0), none] [] (wM s la r v c l tn p pa m q b x h) 0 0 := by
  obtain ⟨t3, ht3, e3, e5, e6⟩ := hdr.2.1
  have hcm : y 6 ≤ 1 := hy.2.2.2.2.2.1
  by_cases hfull : y 6 = 1
  · skip
    refine J.aload_n dX7_readLine_0 rfl rfl ?_
    refine J.cvM (as := []) s la r v c l tn p pa m q b x h okX7_nameHere jcX7_119 (mX7_nameHere s la r v c l tn p pa m q b x h y ht.1 ht.2.1 ht.2.2.1 hy.1 hy.2.1 hy.2.2.1 hl) dX7_readLine_1 rfl rfl rfl rfl (fun r9 B9 hq9 => ?_)
    obtain ⟨rfl, rfl⟩ := hq9
    refine ⟨_, _, _, _, _, _, _, _, _, _, _, _, _, _, rfl, ?_⟩
    show J _ _ _ _ _ (.int _ :: _) (wM s la r v c l tn p pa m q b x h) _ _
    rw [nmF_at (n := 4) (by decide) hsp 11 0 rfl (Nat.zero_le _)]
    rw [show nI 4 = (4 : Int32) from rfl]
    refine J.istore_n dX7_readLine_4 rfl (by decide) rfl ?_
    try dsimp only [List.set]
    refine J.iload_n dX7_readLine_5 rfl rfl ?_
    refine J.i2l dX7_readLine_6 ?_
    refine J.lconst 0 dX7_readLine_7 (by decide) ?_
    refine J.ldc2 (v := 5) dX7_readLine_8 (jt 945 rfl rfl) ?_
    refine J.cs (as := [.long _, .long _, .long _]) (is := []) okX7_in jcX7_74 (mX7_inI 4 0 5 (by decide) (by decide)) dX7_readLine_11 rfl rfl rfl rfl rfl rfl (fun r9 B9 hq => ?_)
    obtain ⟨rfl, rfl⟩ := hq
    refine ⟨rfl, ?_⟩
    show J _ _ _ _ _ (.int _ :: _) (wM s la r v c l tn p pa m q b x h) _ _
    refine J.if_ne (tgt := 23) dX7_readLine_14 (by decide) (fun c14 => ?_) (fun c14 => absurd c14 (fun h => (jB_0 _).mp h (by decide)))
    refine J.iload_n dX7_readLine_23 rfl rfl ?_
    refine J.if_ne (tgt := 35) dX7_readLine_24 (by decide) (fun c24 => ?_) (fun c24 => absurd c24 (by decide))
    refine J.iload_n dX7_readLine_35 rfl rfl ?_
    refine J.iconst (1) dX7_readLine_36 (by decide) ?_
    refine J.icmp_ne (tgt := 48) dX7_readLine_37 (by decide) (fun c37 => ?_) (fun c37 => absurd c37 (by decide))
    refine J.iload_n dX7_readLine_48 rfl rfl ?_
    refine J.iconst (2) dX7_readLine_49 (by decide) ?_
    refine J.icmp_ne (tgt := 66) dX7_readLine_50 (by decide) (fun c50 => ?_) (fun c50 => absurd c50 (by decide))
    refine J.iload_n dX7_readLine_66 rfl rfl ?_
    refine J.i2l dX7_readLine_67 ?_
    refine J.ldc2 (v := 3) dX7_readLine_68 (jt 946 rfl rfl) ?_
    refine J.ldc2 (v := 4) dX7_readLine_71 (jt 947 rfl rfl) ?_
    refine J.cs (as := [.long _, .long _, .long _]) (is := []) okX7_in jcX7_74 (mX7_inI 4 3 4 (by decide) (by decide)) dX7_readLine_74 rfl rfl rfl rfl rfl rfl (fun r9 B9 hq => ?_)
    obtain ⟨rfl, rfl⟩ := hq
    refine ⟨rfl, ?_⟩
    show J _ _ _ _ _ (.int _ :: _) (wM s la r v c l tn p pa m q b x h) _ _
    refine J.if_eq (tgt := 97) dX7_readLine_77 (by decide) (fun c77 => absurd c77 (fun h => (jB_0 _).mp h (by decide))) (fun c77 => ?_)
    refine J.aload_n dX7_readLine_80 rfl rfl ?_
    refine J.mg10 dX7_readLine_81 rfl ?_
    rw [show p 3 = nI t3 from e3]
    refine J.iload_n dX7_readLine_84 rfl rfl ?_
    refine J.ishr dX7_readLine_85 ?_
    refine J.iconst (1) dX7_readLine_86 (by decide) ?_
    refine J.iand dX7_readLine_87 ?_
    refine J.iconst (1) dX7_readLine_88 (by decide) ?_
    rw [(to_s t3 ht3).2, e6]
    refine J.icmp_ne (tgt := 97) dX7_readLine_89 (by decide) (fun c89 => absurd c89 (fun h => h (by rw [hfull] <;> rfl))) (fun c89 => ?_)
    refine J.aload_n dX7_readLine_92 rfl rfl ?_
    refine J.iconst (4) dX7_readLine_93 (by decide) ?_
    refine J.cvM (as := [.int _]) s la r v c l tn p pa m q b x h okX7_fails jcX7_112 (mX7_fails s la r v c l tn p pa m q b x h 4 h5) dX7_readLine_94 rfl rfl rfl rfl (fun r9 B9 hq9 => ?_)
    obtain ⟨rfl, rfl⟩ := hq9
    refine ⟨_, _, _, _, _, _, _, _, _, _, _, _, _, _, rfl, ?_⟩
    show J _ _ _ _ _ [] (wM s la r v c l tn (pset (pset p 5 (nI 4)) 6 (p 8)) pa m q b x h) _ _
    refine J.aload_n dX7_readLine_97 rfl rfl ?_
    refine J.dup dX7_readLine_98 rfl ?_
    refine J.mg10 dX7_readLine_99 rfl ?_
    rw [show (pset (pset p 5 (nI 4)) 6 (p 8)) 3 = nI t3 from e3]
    refine J.iconst (1) dX7_readLine_102 (by decide) ?_
    refine J.iload_n dX7_readLine_103 rfl rfl ?_
    refine J.ishl dX7_readLine_104 ?_
    refine J.ior dX7_readLine_105 ?_
    rw [show nI t3 ||| 1 <<< ((4 : Int32) &&& 31) = nI (t3 ||| 2 ^ 4) from to_ev t3 ht3 4 (by decide)]
    refine J.mp10 dX7_readLine_106 rfl ?_
    try dsimp only [List.set]
    refine J.aload_n dX7_readLine_109 rfl rfl ?_
    refine J.cvM (as := []) s la r v c l tn (pset (pset (pset p 5 (nI 4)) 6 (p 8)) 3 (nI (t3 ||| 2 ^ 4))) pa m q b x h okX7_step jcX7_116 (mX7_stepx s la r v c l tn (pset (pset (pset p 5 (nI 4)) 6 (p 8)) 3 (nI (t3 ||| 2 ^ 4))) pa m q b x h 4 rfl (by decide) (by decide)) dX7_readLine_110 rfl rfl rfl rfl (fun r9 B9 hq9 => ?_)
    obtain ⟨rfl, rfl⟩ := hq9
    refine ⟨_, _, _, _, _, _, _, _, _, _, _, _, _, _, rfl, ?_⟩
    show J _ _ _ _ _ [] (wM s la r v c l tn (pset (pset (pset p 5 (nI 4)) 6 (p 8)) 3 (nI (t3 ||| 2 ^ 4))) pa m q b x h) _ _
    refine J.aload_n dX7_readLine_113 rfl rfl ?_
    refine J.mg15 dX7_readLine_114 rfl ?_
    refine J.if_le (tgt := 121) dX7_readLine_117 (by decide) (fun c117 => absurd c117 (show ¬ nI 4 ≤ 0 by decide)) (fun c117 => ?_)
    have eR : (rdLi (v 1) (v 4 0) y d) = (false, (yF y 4 (y 1), d)) := by rw [rdLi_4 v y d hsp]; unfold rdOnce; rw [if_neg (by omega)]; rfl
    refine J.vret dX7_readLine_120 rfl (Nat.le_refl _) (Nat.le_refl _) ⟨rfl, _, pa, rfl, fun h9 => absurd h9 (by rw [eR]; exact Bool.false_ne_true), fun _ => ?_⟩
    rw [eR]
    exact ⟨rfl, ht.2.1, show 0 < 4 by decide, show 4 < 100 by decide⟩
  · have hlt : y 6 = 0 := by omega
    refine J.aload_n dX7_readLine_0 rfl rfl ?_
    refine J.cvM (as := []) s la r v c l tn p pa m q b x h okX7_nameHere jcX7_119 (mX7_nameHere s la r v c l tn p pa m q b x h y ht.1 ht.2.1 ht.2.2.1 hy.1 hy.2.1 hy.2.2.1 hl) dX7_readLine_1 rfl rfl rfl rfl (fun r9 B9 hq9 => ?_)
    obtain ⟨rfl, rfl⟩ := hq9
    refine ⟨_, _, _, _, _, _, _, _, _, _, _, _, _, _, rfl, ?_⟩
    show J _ _ _ _ _ (.int _ :: _) (wM s la r v c l tn p pa m q b x h) _ _
    rw [nmF_at (n := 4) (by decide) hsp 11 0 rfl (Nat.zero_le _)]
    rw [show nI 4 = (4 : Int32) from rfl]
    refine J.istore_n dX7_readLine_4 rfl (by decide) rfl ?_
    try dsimp only [List.set]
    refine J.iload_n dX7_readLine_5 rfl rfl ?_
    refine J.i2l dX7_readLine_6 ?_
    refine J.lconst 0 dX7_readLine_7 (by decide) ?_
    refine J.ldc2 (v := 5) dX7_readLine_8 (jt 945 rfl rfl) ?_
    refine J.cs (as := [.long _, .long _, .long _]) (is := []) okX7_in jcX7_74 (mX7_inI 4 0 5 (by decide) (by decide)) dX7_readLine_11 rfl rfl rfl rfl rfl rfl (fun r9 B9 hq => ?_)
    obtain ⟨rfl, rfl⟩ := hq
    refine ⟨rfl, ?_⟩
    show J _ _ _ _ _ (.int _ :: _) (wM s la r v c l tn p pa m q b x h) _ _
    refine J.if_ne (tgt := 23) dX7_readLine_14 (by decide) (fun c14 => ?_) (fun c14 => absurd c14 (fun h => (jB_0 _).mp h (by decide)))
    refine J.iload_n dX7_readLine_23 rfl rfl ?_
    refine J.if_ne (tgt := 35) dX7_readLine_24 (by decide) (fun c24 => ?_) (fun c24 => absurd c24 (by decide))
    refine J.iload_n dX7_readLine_35 rfl rfl ?_
    refine J.iconst (1) dX7_readLine_36 (by decide) ?_
    refine J.icmp_ne (tgt := 48) dX7_readLine_37 (by decide) (fun c37 => ?_) (fun c37 => absurd c37 (by decide))
    refine J.iload_n dX7_readLine_48 rfl rfl ?_
    refine J.iconst (2) dX7_readLine_49 (by decide) ?_
    refine J.icmp_ne (tgt := 66) dX7_readLine_50 (by decide) (fun c50 => ?_) (fun c50 => absurd c50 (by decide))
    refine J.iload_n dX7_readLine_66 rfl rfl ?_
    refine J.i2l dX7_readLine_67 ?_
    refine J.ldc2 (v := 3) dX7_readLine_68 (jt 946 rfl rfl) ?_
    refine J.ldc2 (v := 4) dX7_readLine_71 (jt 947 rfl rfl) ?_
    refine J.cs (as := [.long _, .long _, .long _]) (is := []) okX7_in jcX7_74 (mX7_inI 4 3 4 (by decide) (by decide)) dX7_readLine_74 rfl rfl rfl rfl rfl rfl (fun r9 B9 hq => ?_)
    obtain ⟨rfl, rfl⟩ := hq
    refine ⟨rfl, ?_⟩
    show J _ _ _ _ _ (.int _ :: _) (wM s la r v c l tn p pa m q b x h) _ _
    refine J.if_eq (tgt := 97) dX7_readLine_77 (by decide) (fun c77 => absurd c77 (fun h => (jB_0 _).mp h (by decide))) (fun c77 => ?_)
    refine J.aload_n dX7_readLine_80 rfl rfl ?_
    refine J.mg10 dX7_readLine_81 rfl ?_
    rw [show p 3 = nI t3 from e3]
    refine J.iload_n dX7_readLine_84 rfl rfl ?_
    refine J.ishr dX7_readLine_85 ?_
    refine J.iconst (1) dX7_readLine_86 (by decide) ?_
    refine J.iand dX7_readLine_87 ?_
    refine J.iconst (1) dX7_readLine_88 (by decide) ?_
    rw [(to_s t3 ht3).2, e6]
    refine J.icmp_ne (tgt := 97) dX7_readLine_89 (by decide) (fun c89 => ?_) (fun c89 => absurd c89 (fun h => hfull ((nI_eqi (b := 1) (by omega) (by decide)).mp h)))
    refine J.aload_n dX7_readLine_97 rfl rfl ?_
    refine J.dup dX7_readLine_98 rfl ?_
    refine J.mg10 dX7_readLine_99 rfl ?_
    rw [show p 3 = nI t3 from e3]
    refine J.iconst (1) dX7_readLine_102 (by decide) ?_
    refine J.iload_n dX7_readLine_103 rfl rfl ?_
    refine J.ishl dX7_readLine_104 ?_
    refine J.ior dX7_readLine_105 ?_
    rw [show nI t3 ||| 1 <<< ((4 : Int32) &&& 31) = nI (t3 ||| 2 ^ 4) from to_ev t3 ht3 4 (by decide)]
    refine J.mp10 dX7_readLine_106 rfl ?_
    try dsimp only [List.set]
    refine J.aload_n dX7_readLine_109 rfl rfl ?_
    refine J.cvM (as := []) s la r v c l tn (pset p 3 (nI (t3 ||| 2 ^ 4))) pa m q b x h okX7_step jcX7_116 (mX7_step s la r v c l tn (pset p 3 (nI (t3 ||| 2 ^ 4))) pa m q b x h hb hl (y 2) hy.2.1 h5 ht.1) dX7_readLine_110 rfl rfl rfl rfl (fun r9 B9 hq9 => ?_)
    obtain ⟨rfl, p9, rfl, hlo9, hA9⟩ := hq9
    refine ⟨_, _, _, _, _, _, _, _, _, _, _, _, _, _, rfl, ?_⟩
    show J _ _ _ _ _ [] (wM s la r v c l tn p9 pa m q b x h) _ _
    by_cases hto : ntoB (v 1) (v 4 0) (y 2) = true
    · skip
      refine J.aload_n dX7_readLine_113 rfl rfl ?_
      refine J.mg15 dX7_readLine_114 rfl ?_
      refine J.if_le (tgt := 121) dX7_readLine_117 (by decide) (fun c117 => ?_) (fun c117 => absurd c117 (fun h => h (by rw [(hA9.ok hto).1]; decide)))
      refine J.aload_n dX7_readLine_121 rfl rfl ?_
      refine J.iload_n dX7_readLine_122 rfl rfl ?_
      refine J.cvM (as := [.int _]) s la r v c l tn p9 pa m q b x h okX7_readMore jcX7_150 (mX7_readMore4 s la r v c l tn p9 pa m q b x h (yset y 6 1) d hb hl hA9 hto (hy.z.t4) (dr_to hdr hlo9 t3 ht3 e5 e6 4 (by decide)) hd h7 ) dX7_readLine_123 rfl rfl rfl rfl (fun r9 B9 hq9 => ?_)
      obtain ⟨rfl, p8, pa8, rfl, hQ8⟩ := hq9
      refine ⟨_, _, _, _, _, _, _, _, _, _, _, _, _, _, rfl, ?_⟩
      show J _ _ _ _ _ [] (wM s la r v c l tn p8 pa8 m q b x h) _ _
      have eR : (rdOnce (v 1) (v 4 0) 6 0 99 5 y d) = (if (rdN (v 1) (v 4 0) 0 99 (yset y 6 1)).1 = true then (true, ((rdN (v 1) (v 4 0) 0 99 (yset y 6 1)).2, rset d 6 5 ((rdN (v 1) (v 4 0) 0 99 (yset y 6 1)).2 3))) else (false, ((rdN (v 1) (v 4 0) 0 99 (yset y 6 1)).2, d)) : Bool × pT) := if_pos hlt
      rw [rdLi_4 v y d hsp, eR]
      exact mX7_readLine_e s la r v c l tn p8 pa8 m q b x h y hb hl (if (rdN (v 1) (v 4 0) 0 99 (yset y 6 1)).1 = true then (true, ((rdN (v 1) (v 4 0) 0 99 (yset y 6 1)).2, rset d 6 5 ((rdN (v 1) (v 4 0) 0 99 (yset y 6 1)).2 3))) else (false, ((rdN (v 1) (v 4 0) 0 99 (yset y 6 1)).2, d)) : Bool × pT) hQ8 4
    · have eR : (rdLi (v 1) (v 4 0) y d) = (false, (yN (v 1) (v 4 0) (yset y 6 1), d)) := by rw [rdLi_4 v y d hsp]; unfold rdOnce; rw [if_pos hlt]; unfold rdN; rw [if_neg (show ¬ ntoB (v 1) (v 4 0) ((yset y 6 1) 2) = true from hto)]; rfl
      refine J.aload_n dX7_readLine_113 rfl rfl ?_
      refine J.mg15 dX7_readLine_114 rfl ?_
      refine J.if_le (tgt := 121) dX7_readLine_117 (by decide) (fun c117 => absurd c117 (by rw [(hA9.no hto).1]; decide)) (fun c117 => ?_)
      refine J.vret dX7_readLine_120 rfl (Nat.le_refl _) (Nat.le_refl _) ⟨rfl, p9, pa, rfl, fun h9 => absurd h9 (by rw [eR]; exact Bool.false_ne_true), fun _ => ?_⟩
      rw [eR]
      show rF p9 (yN (v 1) (v 4 0) (yset y 6 1) 7) (yN (v 1) (v 4 0) (yset y 6 1) 8)
      have e7 : yN (v 1) (v 4 0) (yset y 6 1) 7 = 1 := if_neg hto
      have e8 : yN (v 1) (v 4 0) (yset y 6 1) 8 = ntf (v 1) (v 4 0) (y 2) := if_neg hto
      rw [e7, e8]
      exact hA9.no hto
set_option maxRecDepth 100000 in
set_option maxHeartbeats 4000000 in
theorem mX7_readLine5 (s : Nat → Int32) (la : Nat → Int32) (r : rT) (v : vT) (c : Nat → Nat → Int32) (l : Nat → Int32) (tn : Int32) (p : Nat → Int32) (pa : Nat → Nat → Int32) (m : Nat) (q : rT) (b : Int32) (x : Nat → Nat) (h : Nat → Nat → Int64) (y : Nat → Nat) (d : rT) (hb : ∀ j, v 1 j < 128) (hl : v 4 0 ≤ 160) (h5 : p 5 = 0) (ht : tkp v p (y 0) (y 1) (y 2)) (hy : yOK (v 4 0) y d) (hdr : dr p pa y d) (hd : dOK d) (h7 : y 7 = 0) (hsp : spl (v 1) y (sg 5)) : J KX7_readLine 21 (fun o B => o = none ∧ ∃ p9 pa9, B = (wM s la r v c l tn p9 pa9 m q b x h) ∧ mQ v (y 2 + 1) p9 pa9 (rdLi (v 1) (v 4 0) y d)) 0 [some (.ref 0), none] [] (wM s la r v c l tn p pa m q b x h) 0 0 := by
  obtain ⟨t3, ht3, e3, e5, e6⟩ := hdr.2.1
  skip
  refine J.aload_n dX7_readLine_0 rfl rfl ?_
  refine J.cvM (as := []) s la r v c l tn p pa m q b x h okX7_nameHere jcX7_119 (mX7_nameHere s la r v c l tn p pa m q b x h y ht.1 ht.2.1 ht.2.2.1 hy.1 hy.2.1 hy.2.2.1 hl) dX7_readLine_1 rfl rfl rfl rfl (fun r9 B9 hq9 => ?_)
  obtain ⟨rfl, rfl⟩ := hq9
  refine ⟨_, _, _, _, _, _, _, _, _, _, _, _, _, _, rfl, ?_⟩
  show J _ _ _ _ _ (.int _ :: _) (wM s la r v c l tn p pa m q b x h) _ _
  rw [nmF_at (n := 5) (by decide) hsp 11 0 rfl (Nat.zero_le _)]
  rw [show nI 5 = (5 : Int32) from rfl]
  refine J.istore_n dX7_readLine_4 rfl (by decide) rfl ?_
  try dsimp only [List.set]
  refine J.iload_n dX7_readLine_5 rfl rfl ?_
  refine J.i2l dX7_readLine_6 ?_
  refine J.lconst 0 dX7_readLine_7 (by decide) ?_
  refine J.ldc2 (v := 5) dX7_readLine_8 (jt 945 rfl rfl) ?_
  refine J.cs (as := [.long _, .long _, .long _]) (is := []) okX7_in jcX7_74 (mX7_inI 5 0 5 (by decide) (by decide)) dX7_readLine_11 rfl rfl rfl rfl rfl rfl (fun r9 B9 hq => ?_)
  obtain ⟨rfl, rfl⟩ := hq
  refine ⟨rfl, ?_⟩
  show J _ _ _ _ _ (.int _ :: _) (wM s la r v c l tn p pa m q b x h) _ _
  refine J.if_ne (tgt := 23) dX7_readLine_14 (by decide) (fun c14 => ?_) (fun c14 => absurd c14 (fun h => (jB_0 _).mp h (by decide)))
  refine J.iload_n dX7_readLine_23 rfl rfl ?_
  refine J.if_ne (tgt := 35) dX7_readLine_24 (by decide) (fun c24 => ?_) (fun c24 => absurd c24 (by decide))
  refine J.iload_n dX7_readLine_35 rfl rfl ?_
  refine J.iconst (1) dX7_readLine_36 (by decide) ?_
  refine J.icmp_ne (tgt := 48) dX7_readLine_37 (by decide) (fun c37 => ?_) (fun c37 => absurd c37 (by decide))
  refine J.iload_n dX7_readLine_48 rfl rfl ?_
  refine J.iconst (2) dX7_readLine_49 (by decide) ?_
  refine J.icmp_ne (tgt := 66) dX7_readLine_50 (by decide) (fun c50 => ?_) (fun c50 => absurd c50 (by decide))
  refine J.iload_n dX7_readLine_66 rfl rfl ?_
  refine J.i2l dX7_readLine_67 ?_
  refine J.ldc2 (v := 3) dX7_readLine_68 (jt 946 rfl rfl) ?_
  refine J.ldc2 (v := 4) dX7_readLine_71 (jt 947 rfl rfl) ?_
  refine J.cs (as := [.long _, .long _, .long _]) (is := []) okX7_in jcX7_74 (mX7_inI 5 3 4 (by decide) (by decide)) dX7_readLine_74 rfl rfl rfl rfl rfl rfl (fun r9 B9 hq => ?_)
  obtain ⟨rfl, rfl⟩ := hq
  refine ⟨rfl, ?_⟩
  show J _ _ _ _ _ (.int _ :: _) (wM s la r v c l tn p pa m q b x h) _ _
  refine J.if_eq (tgt := 97) dX7_readLine_77 (by decide) (fun c77 => ?_) (fun c77 => absurd c77 (fun h => h ((jB_0 _).mpr (by decide))))
  refine J.aload_n dX7_readLine_97 rfl rfl ?_
  refine J.dup dX7_readLine_98 rfl ?_
  refine J.mg10 dX7_readLine_99 rfl ?_
  rw [show p 3 = nI t3 from e3]
  refine J.iconst (1) dX7_readLine_102 (by decide) ?_
  refine J.iload_n dX7_readLine_103 rfl rfl ?_
  refine J.ishl dX7_readLine_104 ?_
  refine J.ior dX7_readLine_105 ?_
  rw [show nI t3 ||| 1 <<< ((5 : Int32) &&& 31) = nI (t3 ||| 2 ^ 5) from to_ev t3 ht3 5 (by decide)]
  refine J.mp10 dX7_readLine_106 rfl ?_
  try dsimp only [List.set]
  refine J.aload_n dX7_readLine_109 rfl rfl ?_
  refine J.cvM (as := []) s la r v c l tn (pset p 3 (nI (t3 ||| 2 ^ 5))) pa m q b x h okX7_step jcX7_116 (mX7_step s la r v c l tn (pset p 3 (nI (t3 ||| 2 ^ 5))) pa m q b x h hb hl (y 2) hy.2.1 h5 ht.1) dX7_readLine_110 rfl rfl rfl rfl (fun r9 B9 hq9 => ?_)
  obtain ⟨rfl, p9, rfl, hlo9, hA9⟩ := hq9
  refine ⟨_, _, _, _, _, _, _, _, _, _, _, _, _, _, rfl, ?_⟩
  show J _ _ _ _ _ [] (wM s la r v c l tn p9 pa m q b x h) _ _
  by_cases hto : ntoB (v 1) (v 4 0) (y 2) = true
  · skip
    refine J.aload_n dX7_readLine_113 rfl rfl ?_
    refine J.mg15 dX7_readLine_114 rfl ?_
    refine J.if_le (tgt := 121) dX7_readLine_117 (by decide) (fun c117 => ?_) (fun c117 => absurd c117 (fun h => h (by rw [(hA9.ok hto).1]; decide)))
    refine J.aload_n dX7_readLine_121 rfl rfl ?_
    refine J.iload_n dX7_readLine_122 rfl rfl ?_
    refine J.cvM (as := [.int _]) s la r v c l tn p9 pa m q b x h okX7_readMore jcX7_150 (mX7_readMore5 s la r v c l tn p9 pa m q b x h y d hb hl hA9 hto hy.z (dr_to hdr hlo9 t3 ht3 e5 e6 5 (by decide)) hd h7 ) dX7_readLine_123 rfl rfl rfl rfl (fun r9 B9 hq9 => ?_)
    obtain ⟨rfl, p8, pa8, rfl, hQ8⟩ := hq9
    refine ⟨_, _, _, _, _, _, _, _, _, _, _, _, _, _, rfl, ?_⟩
    show J _ _ _ _ _ [] (wM s la r v c l tn p8 pa8 m q b x h) _ _
    have eR : (rdBr (v 1) (v 4 0) y d) = (rdBr (v 1) (v 4 0) y d) := rfl
    rw [rdLi_5 v y d hsp, eR]
    exact mX7_readLine_e s la r v c l tn p8 pa8 m q b x h y hb hl (rdBr (v 1) (v 4 0) y d) hQ8 5
  · have eR : (rdLi (v 1) (v 4 0) y d) = (false, (yN (v 1) (v 4 0) y, d)) := by rw [rdLi_5 v y d hsp]; unfold rdBr rdN; rw [if_neg hto]; rfl
    refine J.aload_n dX7_readLine_113 rfl rfl ?_
    refine J.mg15 dX7_readLine_114 rfl ?_
    refine J.if_le (tgt := 121) dX7_readLine_117 (by decide) (fun c117 => absurd c117 (by rw [(hA9.no hto).1]; decide)) (fun c117 => ?_)
    refine J.vret dX7_readLine_120 rfl (Nat.le_refl _) (Nat.le_refl _) ⟨rfl, p9, pa, rfl, fun h9 => absurd h9 (by rw [eR]; exact Bool.false_ne_true), fun _ => ?_⟩
    rw [eR]
    show rF p9 (yN (v 1) (v 4 0) y 7) (yN (v 1) (v 4 0) y 8)
    have e7 : yN (v 1) (v 4 0) y 7 = 1 := if_neg hto
    have e8 : yN (v 1) (v 4 0) y 8 = ntf (v 1) (v 4 0) (y 2) := if_neg hto
    rw [e7, e8]
    exact hA9.no hto
theorem mX7_readLine (s : Nat → Int32) (la : Nat → Int32) (r : rT) (v : vT) (c : Nat → Nat → Int32) (l : Nat → Int32) (tn : Int32) (p : Nat → Int32) (pa : Nat → Nat → Int32) (m : Nat) (q : rT) (b : Int32) (x : Nat → Nat) (h : Nat → Nat → Int64) (y : Nat → Nat) (d : rT) (hb : ∀ j, v 1 j < 128) (hl : v 4 0 ≤ 160) (h5 : p 5 = 0) (ht : tkp v p (y 0) (y 1) (y 2)) (hy : yOK (v 4 0) y d) (hdr : dr p pa y d) (hd : dOK d) (h7 : y 7 = 0) : J KX7_readLine 21 (fun o B => o = none ∧ ∃ p9 pa9, B = (wM s la r v c l tn p9 pa9 m q b x h) ∧ mQ v (y 2 + 1) p9 pa9 (rdLi (v 1) (v 4 0) y d)) 0 [some (.ref 0), none] [] (wM s la r v c l tn p pa m q b x h) 0 0 := by
  by_cases q0 : spl (v 1) y (sg 0)
  · exact mX7_readLine0 s la r v c l tn p pa m q b x h y d hb hl h5 ht hy hdr hd h7 q0
  by_cases q1 : spl (v 1) y (sg 1)
  · exact mX7_readLine1 s la r v c l tn p pa m q b x h y d hb hl h5 ht hy hdr hd h7 q1
  by_cases q2 : spl (v 1) y (sg 2)
  · exact mX7_readLine2 s la r v c l tn p pa m q b x h y d hb hl h5 ht hy hdr hd h7 q2
  by_cases q3 : spl (v 1) y (sg 3)
  · exact mX7_readLine3 s la r v c l tn p pa m q b x h y d hb hl h5 ht hy hdr hd h7 q3
  by_cases q4 : spl (v 1) y (sg 4)
  · exact mX7_readLine4 s la r v c l tn p pa m q b x h y d hb hl h5 ht hy hdr hd h7 q4
  by_cases q5 : spl (v 1) y (sg 5)
  · exact mX7_readLine5 s la r v c l tn p pa m q b x h y d hb hl h5 ht hy hdr hd h7 q5
  refine mX7_readLine_no s la r v c l tn p pa m q b x h y d hb hl h5 ht hy hdr hd h7 (fun n hn => ?_)
  have : n = 0 ∨ n = 1 ∨ n = 2 ∨ n = 3 ∨ n = 4 ∨ n = 5 := by omega
  rcases this with rfl | rfl | rfl | rfl | rfl | rfl <;> assumption
