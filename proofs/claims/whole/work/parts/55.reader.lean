/-! ===== the reference's reader: lines ===== -/
/-- what the reference has read beside the draft -/
def dpa (pa : Nat → Nat → Int32) (y : Nat → Nat) (d : rT) : Prop := (∀ i, i < d 6 0 → pa 0 (3 * i) = nI (d 0 i) ∧ pa 0 (3 * i + 1) = nI (d 1 i)) ∧ (∀ i, i < 3 → pa 0 (3 * i + 2) = nI (bit (y 4) i)) ∧ pa 0 9 = nI (d 6 4) - 3 ∧ (∀ k, k < d 6 1 → pa 0 (10 + 2 * k) = nI (d 2 k) ∧ pa 0 (10 + 2 * k + 1) = nI (d 3 k)) ∧ pa 0 18 = nI (d 6 5) - 9 ∧ pa 0 19 = 0 ∧ ∀ i, i < d 6 2 → pa 1 (2 * i) = nI (d 4 i) ∧ pa 1 (2 * i + 1) = nI (d 5 i)
def dtl (p : Nat → Int32) (y : Nat → Nat) : Prop := ∃ t3, t3 < 64 ∧ p 3 = nI t3 ∧ bit t3 3 = y 5 ∧ bit t3 4 = y 6
def dr (p : Nat → Int32) (pa : Nat → Nat → Int32) (y : Nat → Nat) (d : rT) : Prop := (p 0 = nI (d 6 0) ∧ p 1 = nI (d 6 1) ∧ p 2 = nI (d 6 2)) ∧ dtl p y ∧ p 4 = nI (y 4) ∧ dpa pa y d
def dOK (d : rT) : Prop := (d 6 3 = 2 ^ d 6 0 - 1 ∧ d 6 6 = 0) ∧ (1 ≤ d 6 4 ∧ d 6 4 ≤ 9 ∧ d 6 5 ≤ 99) ∧ (∀ i, d 0 i ≤ 4) ∧ (∀ i, d 1 i ≤ 9) ∧ (∀ i, d 2 i ≤ 9) ∧ (∀ i, d 3 i ≤ 99) ∧ (∀ i, d 4 i ≤ 5) ∧ ∀ i, d 5 i ≤ 9
/-- behind a piece of a line, R as the class has it -/
def mQ (v : vT) (P : Nat) (p : Nat → Int32) (pa : Nat → Nat → Int32) (R : Bool × pT) : Prop := (R.1 = true → rA v p (R.2.1 2) ∧ dr p pa R.2.1 R.2.2 ∧ dOK R.2.2 ∧ R.2.1 7 = 0 ∧ P ≤ R.2.1 2 ∧ zOK (v 4 0) R.2.1 R.2.2) ∧ (¬ R.1 = true → rF p (R.2.1 7) (R.2.1 8))
theorem mQ_t {v : vT} {P : Nat} {p : Nat → Int32} {pa : Nat → Nat → Int32} {Y : Nat → Nat} {D : rT} (h : rA v p (Y 2) ∧ dr p pa Y D ∧ dOK D ∧ Y 7 = 0 ∧ P ≤ Y 2 ∧ zOK (v 4 0) Y D) : mQ v P p pa (true, (Y, D)) := ⟨fun _ => h, fun h => absurd rfl h⟩
theorem dr.low {p p' : Nat → Int32} {pa : Nat → Nat → Int32} {y : Nat → Nat} {d : rT} (h : dr p pa y d) (e : low5 p p') : dr p' pa y d := by
  obtain ⟨⟨a0, a1, a2⟩, ⟨t3, b1, b2, b3⟩, c1, c2⟩ := h
  exact ⟨⟨(e 0 (by decide)).trans a0, (e 1 (by decide)).trans a1, (e 2 (by decide)).trans a2⟩, ⟨t3, b1, (e 3 (by decide)).trans b2, b3⟩, (e 4 (by decide)).trans c1, c2⟩
theorem low5.tr {p p' p'' : Nat → Int32} (h : low5 p p') (h' : low5 p' p'') : low5 p p'' := fun i hi => (h' i hi).trans (h i hi)
theorem yN_hi (b : Nat → Nat) (len : Nat) (y : Nat → Nat) (h : ntoB b len (y 2) = true) : ∀ i, 3 ≤ i → yN b len y i = y i := by
  intro i hi
  match i, hi with
  | 3, _ => rfl
  | 4, _ => rfl
  | 5, _ => rfl
  | 6, _ => rfl
  | 7, _ => exact if_pos h
  | 8, _ => exact if_pos h
  | i + 9, _ => rfl
theorem rdN_t {b : Nat → Nat} {len lo up : Nat} {y : Nat → Nat} (h : (rdN b len lo up y).1 = true) : lo ≤ (rdN b len lo up y).2 3 ∧ (rdN b len lo up y).2 3 ≤ up ∧ (∀ i, 4 ≤ i → (rdN b len lo up y).2 i = y i) ∧ ntoB b len (y 2) = true := by
  unfold rdN at h ⊢
  by_cases h1 : ntoB b len (y 2) = true
  · rw [if_pos h1] at h ⊢
    by_cases h2 : yN b len y 0 = 2
    · rw [if_pos h2] at h ⊢
      by_cases h3 : lo ≤ vl b (yN b len y 1) (yN b len y 2 - yN b len y 1) ∧ vl b (yN b len y 1) (yN b len y 2 - yN b len y 1) ≤ up
      · rw [if_pos h3]
        refine ⟨h3.1, h3.2, fun i hi => ?_, h1⟩
        show (if i = 3 then _ else yN b len y i) = y i
        rw [if_neg (by omega)]
        exact yN_hi b len y h1 i (by omega)
      · rw [if_neg h3] at h; exact absurd h Bool.false_ne_true
    · rw [if_neg h2] at h; exact absurd h Bool.false_ne_true
  · rw [if_neg h1] at h; exact absurd h Bool.false_ne_true
theorem rdN_p {b : Nat → Nat} {len lo up : Nat} {y : Nat → Nat} (hy : y 2 ≤ len) : y 2 ≤ (rdN b len lo up y).2 2 ∧ (rdN b len lo up y).2 2 ≤ len := by
  rw [rdN_2]
  have h1 := ntf_le (b := b) hy
  have h2 := yN_2 (b := b) hy
  have h3 : yN b len y 1 = ntf b len (y 2) := rfl
  omega
theorem zOK.n {b : Nat → Nat} {len lo up : Nat} {y : Nat → Nat} {d : rT} (hz : zOK len y d) (h : (rdN b len lo up y).1 = true) : zOK len (rdN b len lo up y).2 d := by
  have e := (rdN_t h).2.2.1
  obtain ⟨a, b1, b2, b3, b4⟩ := hz
  exact ⟨(rdN_p a).2, by rw [e 4 (by decide)]; exact b1, by rw [e 5 (by decide)]; exact b2, by rw [e 6 (by decide)]; exact b3, b4⟩
theorem dr.y {p : Nat → Int32} {pa : Nat → Nat → Int32} {y y' : Nat → Nat} {d : rT} (h : dr p pa y d) (e : ∀ i, 4 ≤ i → i ≤ 6 → y' i = y i) : dr p pa y' d := by
  obtain ⟨a, ⟨t3, b1, b2, b3, b4⟩, c1, c2, c3, c4⟩ := h
  refine ⟨a, ⟨t3, b1, b2, by rw [e 5 (by decide) (by decide)]; exact b3, by rw [e 6 (by decide) (by decide)]; exact b4⟩, by rw [e 4 (by decide) (by decide)]; exact c1, c2, ?_, c4⟩
  intro i hi
  rw [e 4 (by decide) (by decide)]
  exact c3 i hi
theorem h3_or : ∀ h, h < 3 → (2 ^ h - 1) ||| 2 ^ h = 2 ^ (h + 1) - 1 := by decide
theorem aset_s (pa : Nat → Nat → Int32) (k i : Nat) (z : Int32) : aset pa k i z k i = z := by
  show (if k = k then upd (pa k) i z else pa k) i = z
  rw [if_pos rfl]
  exact pk_us
theorem aset_n (pa : Nat → Nat → Int32) {k i j : Nat} {z : Int32} (h : j ≠ i) : aset pa k i z k j = pa k j := by
  show (if k = k then upd (pa k) i z else pa k) j = _
  rw [if_pos rfl]
  exact pk_un h
theorem aset_o (pa : Nat → Nat → Int32) {k k' i j : Nat} {z : Int32} (h : k' ≠ k) : aset pa k i z k' j = pa k' j := by
  show (if k' = k then upd (pa k) i z else pa k') j = _
  rw [if_neg h]
theorem mQ_hair {v : vT} {p p8 : Nat → Int32} {pa : Nat → Nat → Int32} {y : Nat → Nat} {d : rT} {a8 : Int32} (hh3 : d 6 0 < 3) (hto : ntoB (v 1) (v 4 0) (y 2) = true) (hz : zOK (v 4 0) y d) (hdr : dr p pa y d) (hd : dOK d) (h7 : y 7 = 0) (hk5 : ¬ kd (v 1) (yN (v 1) (v 4 0) y) = 5) (hlo : low5 p p8) (ht8 : (rdN (v 1) (v 4 0) 0 9 (yN (v 1) (v 4 0) y)).1 = true → a8 = nI ((rdN (v 1) (v 4 0) 0 9 (yN (v 1) (v 4 0) y)).2 3) ∧ rA v p8 ((rdN (v 1) (v 4 0) 0 9 (yN (v 1) (v 4 0) y)).2 2)) (hf8 : ¬ (rdN (v 1) (v 4 0) 0 9 (yN (v 1) (v 4 0) y)).1 = true → a8 = nI 0 ∧ rF p8 ((rdN (v 1) (v 4 0) 0 9 (yN (v 1) (v 4 0) y)).2 7) ((rdN (v 1) (v 4 0) 0 9 (yN (v 1) (v 4 0) y)).2 8)) : mQ v (y 2) (pset p8 0 (nI (d 6 0 + 1))) (aset (aset pa 0 (3 * d 6 0) (nI (kd (v 1) (yN (v 1) (v 4 0) y)))) 0 (3 * d 6 0 + 1) a8) (rdHa (v 1) (v 4 0) y d) := by
  have hzN : zOK (v 4 0) (yN (v 1) (v 4 0) y) d := hz.N.z
  have hYe := yN_hi (v 1) (v 4 0) y hto
  by_cases h2 : (rdN (v 1) (v 4 0) 0 9 (yN (v 1) (v 4 0) y)).1 = true
  · have eR : (rdHa (v 1) (v 4 0) y d) = (true, ((rdN (v 1) (v 4 0) 0 9 (yN (v 1) (v 4 0) y)).2, raddH d (kd (v 1) (yN (v 1) (v 4 0) y)) ((rdN (v 1) (v 4 0) 0 9 (yN (v 1) (v 4 0) y)).2 3))) := by unfold rdHa; rw [if_pos hh3, if_pos hto, if_neg hk5, if_pos h2]
    obtain ⟨rfl, hA8⟩ := ht8 h2
    obtain ⟨n1, n2, n3, n4⟩ := rdN_t h2
    have hp := rdN_p (b := v 1) (lo := 0) (up := 9) (y := (yN (v 1) (v 4 0) y)) hzN.1
    have hp0 := yN_2 (b := v 1) hz.1
    have hp1 := ntf_le (b := v 1) hz.1
    have hp2 : (yN (v 1) (v 4 0) y) 1 = ntf (v 1) (v 4 0) (y 2) := rfl
    have e4 : ∀ i, 4 ≤ i → (rdN (v 1) (v 4 0) 0 9 (yN (v 1) (v 4 0) y)).2 i = y i := fun i hi => (n3 i hi).trans (hYe i (by omega))
    have hd8 := hdr.low hlo
    obtain ⟨⟨a0, a1, a2⟩, ⟨t3, b1, b2, b3, b4⟩, c1, c2, c3, c4, c5, c6, c7, c8⟩ := hd8
    obtain ⟨⟨g1, g2⟩, g3, g4, g5, g6⟩ := hd
    rw [eR]
    refine mQ_t ⟨hA8.up (pset_hi (by decide)), ⟨⟨rfl, a1, a2⟩, ⟨t3, b1, b2, by rw [e4 5 (by decide)]; exact b3, by rw [e4 6 (by decide)]; exact b4⟩, by show p8 4 = _; rw [e4 4 (by decide)]; exact c1, ?_, ?_, ?_, ?_, ?_, ?_, ?_⟩, ⟨⟨?_, g2⟩, g3, ?_, ?_, g6⟩, by show (rdN (v 1) (v 4 0) 0 9 (yN (v 1) (v 4 0) y)).2 7 = 0; rw [e4 7 (by decide)]; exact h7, ?_, ?_⟩
    · intro i hi
      have hi : i < d 6 0 + 1 := hi
      by_cases e : i = d 6 0
      · subst e
        rw [aset_n _ (by omega), aset_s, aset_s]
        exact ⟨congrArg nI (if_pos rfl).symm, congrArg nI (if_pos rfl).symm⟩
      · rw [aset_n _ (by omega), aset_n _ (by omega), aset_n _ (by omega), aset_n _ (by omega)]
        have := c2 i (by omega)
        exact ⟨this.1.trans (congrArg nI (if_neg e).symm), this.2.trans (congrArg nI (if_neg e).symm)⟩
    · intro i hi
      rw [aset_n _ (by omega), aset_n _ (by omega), e4 4 (by decide)]
      exact c3 i hi
    · rw [aset_n _ (by omega), aset_n _ (by omega)]; exact c4
    · intro k hk
      have hk4 := hz.2.2.2.2.2.1
      rw [aset_n _ (by omega), aset_n _ (by omega), aset_n _ (by omega), aset_n _ (by omega)]
      exact c5 k hk
    · rw [aset_n _ (by omega), aset_n _ (by omega)]; exact c6
    · rw [aset_n _ (by omega), aset_n _ (by omega)]; exact c7
    · intro i hi
      rw [aset_o _ (by decide), aset_o _ (by decide), aset_o _ (by decide), aset_o _ (by decide)]
      exact c8 i hi
    · show d 6 3 ||| 2 ^ d 6 0 = 2 ^ (d 6 0 + 1) - 1
      rw [g1]
      exact h3_or _ hh3
    · intro i
      show (if i = d 6 0 then kd (v 1) (yN (v 1) (v 4 0) y) else d 0 i) ≤ 4
      have := kd_lt hk5
      have := g4 i
      split <;> omega
    · intro i
      show (if i = d 6 0 then (rdN (v 1) (v 4 0) 0 9 (yN (v 1) (v 4 0) y)).2 3 else d 1 i) ≤ 9
      have := g5 i
      split <;> omega
    · show y 2 ≤ (rdN (v 1) (v 4 0) 0 9 (yN (v 1) (v 4 0) y)).2 2
      omega
    · exact ⟨hp.2, by rw [e4 4 (by decide)]; exact hz.2.1, by rw [e4 5 (by decide)]; exact hz.2.2.1, by rw [e4 6 (by decide)]; exact hz.2.2.2.1, show d 6 0 + 1 ≤ 3 by omega, hz.2.2.2.2.2.1, hz.2.2.2.2.2.2.1, by show d 6 3 ||| 2 ^ d 6 0 < 8; exact ws_lt _ hz.2.2.2.2.2.2.2 _ hh3⟩
  · have eR : (rdHa (v 1) (v 4 0) y d) = (false, ((rdN (v 1) (v 4 0) 0 9 (yN (v 1) (v 4 0) y)).2, d)) := by unfold rdHa; rw [if_pos hh3, if_pos hto, if_neg hk5, if_neg h2]
    rw [eR]
    exact ⟨fun h => absurd h Bool.false_ne_true, fun _ => (hf8 h2).2.up (pset_hi (by decide))⟩
set_option maxRecDepth 100000 in
set_option maxHeartbeats 4000000 in
theorem mX7_readMore0 (s : Nat → Int32) (la : Nat → Int32) (r : rT) (v : vT) (c : Nat → Nat → Int32) (l : Nat → Int32) (tn : Int32) (p : Nat → Int32) (pa : Nat → Nat → Int32) (m : Nat) (q : rT) (b : Int32) (x : Nat → Nat) (h : Nat → Nat → Int64) (y : Nat → Nat) (d : rT) (hb : ∀ j, v 1 j < 128) (hl : v 4 0 ≤ 160) (hA : rA v p (y 2)) (hto : ntoB (v 1) (v 4 0) (y 2) = true) (hz : zOK (v 4 0) y d) (hdr : dr p pa y d) (hd : dOK d) (h7 : y 7 = 0) (hh3 : d 6 0 < 3) : J KX7_readMore 21 (fun o B => o = none ∧ ∃ p9 pa9, B = (wM s la r v c l tn p9 pa9 m q b x h) ∧ mQ v (y 2) p9 pa9 (rdHa (v 1) (v 4 0) y d)) 0 [some (.ref 0), some (.int 0), none] [] (wM s la r v c l tn p pa m q b x h) 0 0 := by
  have hok := hA.ok hto
  by_cases hk5 : kd (v 1) (yN (v 1) (v 4 0) y) = 5
  · skip
    refine J.iload_n dX7_readMore_0 rfl rfl ?_
    refine J.if_ne (tgt := 77) dX7_readMore_1 (by decide) (fun c1 => absurd c1 (fun h => h rfl)) (fun c1 => ?_)
    refine J.aload_n dX7_readMore_4 rfl rfl ?_
    refine J.cvM (as := []) s la r v c l tn p pa m q b x h okX7_nameHere jcX7_119 (mX7_nameHere s la r v c l tn p pa m q b x h (yN (v 1) (v 4 0) y) hok.2.1 hok.2.2.1 hok.2.2.2.1 (yN_2 hz.1).1 (yN_2 hz.1).2 (yN_0 _ _ _) hl) dX7_readMore_5 rfl rfl rfl rfl (fun r9 B9 hq9 => ?_)
    obtain ⟨rfl, rfl⟩ := hq9
    refine ⟨_, _, _, _, _, _, _, _, _, _, _, _, _, _, rfl, ?_⟩
    show J _ _ _ _ _ (.int _ :: _) (wM s la r v c l tn p pa m q b x h) _ _
    refine J.bipush (6) dX7_readMore_8 (by decide) ?_
    refine J.isub dX7_readMore_10 ?_
    refine J.istore_n dX7_readMore_11 rfl (by decide) rfl ?_
    try dsimp only [List.set]
    refine J.aload_n dX7_readMore_12 rfl rfl ?_
    refine J.mg15 dX7_readMore_13 rfl ?_
    refine J.if_ne (tgt := 28) dX7_readMore_16 (by decide) (fun c16 => absurd c16 (fun h => h hok.1)) (fun c16 => ?_)
    refine J.iload_n dX7_readMore_19 rfl rfl ?_
    refine J.if_ge (tgt := 28) dX7_readMore_20 (by decide) (fun c20 => absurd c20 (Int32.not_le.mpr (nm_kd.1 hk5))) (fun c20 => ?_)
    refine J.aload_n dX7_readMore_23 rfl rfl ?_
    refine J.iconst (2) dX7_readMore_24 (by decide) ?_
    refine J.cvM (as := [.int _]) s la r v c l tn p pa m q b x h okX7_fails jcX7_112 (mX7_fails s la r v c l tn p pa m q b x h 2 hok.1) dX7_readMore_25 rfl rfl rfl rfl (fun r9 B9 hq9 => ?_)
    obtain ⟨rfl, rfl⟩ := hq9
    refine ⟨_, _, _, _, _, _, _, _, _, _, _, _, _, _, rfl, ?_⟩
    show J _ _ _ _ _ [] (wM s la r v c l tn (pset (pset p 5 (nI 2)) 6 (p 8)) pa m q b x h) _ _
    refine J.aload_n dX7_readMore_28 rfl rfl ?_
    refine J.mg5 dX7_readMore_29 rfl ?_
    refine J.iconst (3) dX7_readMore_32 (by decide) ?_
    refine J.aload_n dX7_readMore_33 rfl rfl ?_
    refine J.mg7 dX7_readMore_34 rfl ?_
    rw [show (pset (pset p 5 (nI 2)) 6 (p 8)) 0 = nI (d 6 0) from hdr.1.1]
    refine J.imul dX7_readMore_37 ?_
    refine J.iload_n dX7_readMore_38 rfl rfl ?_
    refine J.ms3 (3 * d 6 0) dX7_readMore_39 (ix0 3 (d 6 0)) (by omega) ?_
    try dsimp only [List.set]
    refine J.aload_n dX7_readMore_40 rfl rfl ?_
    refine J.cvM (as := []) s la r v c l tn (pset (pset p 5 (nI 2)) 6 (p 8)) (aset pa 0 (3 * d 6 0) (nmF (v 1) (yN (v 1) (v 4 0) y) 11 0 - 6)) m q b x h okX7_step jcX7_116 (mX7_stepx s la r v c l tn (pset (pset p 5 (nI 2)) 6 (p 8)) (aset pa 0 (3 * d 6 0) (nmF (v 1) (yN (v 1) (v 4 0) y) 11 0 - 6)) m q b x h 2 rfl (by decide) (by decide)) dX7_readMore_41 rfl rfl rfl rfl (fun r9 B9 hq9 => ?_)
    obtain ⟨rfl, rfl⟩ := hq9
    refine ⟨_, _, _, _, _, _, _, _, _, _, _, _, _, _, rfl, ?_⟩
    show J _ _ _ _ _ [] (wM s la r v c l tn (pset (pset p 5 (nI 2)) 6 (p 8)) (aset pa 0 (3 * d 6 0) (nmF (v 1) (yN (v 1) (v 4 0) y) 11 0 - 6)) m q b x h) _ _
    refine J.aload_n dX7_readMore_44 rfl rfl ?_
    refine J.mg5 dX7_readMore_45 rfl ?_
    refine J.iconst (3) dX7_readMore_48 (by decide) ?_
    refine J.aload_n dX7_readMore_49 rfl rfl ?_
    refine J.mg7 dX7_readMore_50 rfl ?_
    rw [show (pset (pset p 5 (nI 2)) 6 (p 8)) 0 = nI (d 6 0) from hdr.1.1]
    refine J.imul dX7_readMore_53 ?_
    refine J.iconst (1) dX7_readMore_54 (by decide) ?_
    refine J.iadd dX7_readMore_55 ?_
    refine J.aload_n dX7_readMore_56 rfl rfl ?_
    refine J.iconst (0) dX7_readMore_57 (by decide) ?_
    refine J.bipush (9) dX7_readMore_58 (by decide) ?_
    refine J.cvM (as := [.int _, .int _]) s la r v c l tn (pset (pset p 5 (nI 2)) 6 (p 8)) (aset pa 0 (3 * d 6 0) (nmF (v 1) (yN (v 1) (v 4 0) y) 11 0 - 6)) m q b x h okX7_number jcX7_126 (mX7_numberx s la r v c l tn (pset (pset p 5 (nI 2)) 6 (p 8)) (aset pa 0 (3 * d 6 0) (nmF (v 1) (yN (v 1) (v 4 0) y) 11 0 - 6)) m q b x h 0 9 2 (yN (v 1) (v 4 0) y 1) ⟨rfl, hok.2.2.1, by decide, by decide⟩) dX7_readMore_60 rfl rfl rfl rfl (fun r9 B9 hq9 => ?_)
    obtain ⟨rfl, rfl⟩ := hq9
    refine ⟨_, _, _, _, _, _, _, _, _, _, _, _, _, _, rfl, ?_⟩
    show J _ _ _ _ _ (.int _ :: _) (wM s la r v c l tn (pset (pset p 5 (nI 2)) 6 (p 8)) (aset pa 0 (3 * d 6 0) (nmF (v 1) (yN (v 1) (v 4 0) y) 11 0 - 6)) m q b x h) _ _
    refine J.ms3 (3 * d 6 0 + 1) dX7_readMore_63 (ix 3 (d 6 0) 1) (by omega) ?_
    try dsimp only [List.set]
    refine J.aload_n dX7_readMore_64 rfl rfl ?_
    refine J.dup dX7_readMore_65 rfl ?_
    refine J.mg7 dX7_readMore_66 rfl ?_
    rw [show (pset (pset p 5 (nI 2)) 6 (p 8)) 0 = nI (d 6 0) from hdr.1.1]
    refine J.iconst (1) dX7_readMore_69 (by decide) ?_
    refine J.iadd dX7_readMore_70 ?_
    refine J.mp7 dX7_readMore_71 rfl ?_
    try dsimp only [List.set]
    refine J.goto (tgt := 323) dX7_readMore_74 (by decide) ?_
    have eR : (rdHa (v 1) (v 4 0) y d) = (false, (yF (yN (v 1) (v 4 0) y) 2 ((yN (v 1) (v 4 0) y) 1), d)) := by unfold rdHa; rw [if_pos hh3, if_pos hto, if_pos hk5]
    refine J.vret dX7_readMore_323 rfl (Nat.le_refl _) (Nat.le_refl _) ⟨rfl, _, _, rfl, fun h9 => absurd h9 (by rw [eR]; exact Bool.false_ne_true), fun _ => ?_⟩
    rw [eR]
    exact rF.up (p := (pset (pset p 5 (nI 2)) 6 (p 8))) ⟨rfl, hok.2.2.1, show 0 < 2 by decide, show 2 < 100 by decide⟩ (fun i hi => if_neg (by omega))
  · skip
    refine J.iload_n dX7_readMore_0 rfl rfl ?_
    refine J.if_ne (tgt := 77) dX7_readMore_1 (by decide) (fun c1 => absurd c1 (fun h => h rfl)) (fun c1 => ?_)
    refine J.aload_n dX7_readMore_4 rfl rfl ?_
    refine J.cvM (as := []) s la r v c l tn p pa m q b x h okX7_nameHere jcX7_119 (mX7_nameHere s la r v c l tn p pa m q b x h (yN (v 1) (v 4 0) y) hok.2.1 hok.2.2.1 hok.2.2.2.1 (yN_2 hz.1).1 (yN_2 hz.1).2 (yN_0 _ _ _) hl) dX7_readMore_5 rfl rfl rfl rfl (fun r9 B9 hq9 => ?_)
    obtain ⟨rfl, rfl⟩ := hq9
    refine ⟨_, _, _, _, _, _, _, _, _, _, _, _, _, _, rfl, ?_⟩
    show J _ _ _ _ _ (.int _ :: _) (wM s la r v c l tn p pa m q b x h) _ _
    refine J.bipush (6) dX7_readMore_8 (by decide) ?_
    refine J.isub dX7_readMore_10 ?_
    rw [nm_kd.2 hk5]
    refine J.istore_n dX7_readMore_11 rfl (by decide) rfl ?_
    try dsimp only [List.set]
    refine J.aload_n dX7_readMore_12 rfl rfl ?_
    refine J.mg15 dX7_readMore_13 rfl ?_
    refine J.if_ne (tgt := 28) dX7_readMore_16 (by decide) (fun c16 => absurd c16 (fun h => h hok.1)) (fun c16 => ?_)
    refine J.iload_n dX7_readMore_19 rfl rfl ?_
    refine J.if_ge (tgt := 28) dX7_readMore_20 (by decide) (fun c20 => ?_) (fun c20 => absurd c20 (fun h => h (nI_pos' (by have := kd_le (v 1) (yN (v 1) (v 4 0) y); omega))))
    refine J.aload_n dX7_readMore_28 rfl rfl ?_
    refine J.mg5 dX7_readMore_29 rfl ?_
    refine J.iconst (3) dX7_readMore_32 (by decide) ?_
    refine J.aload_n dX7_readMore_33 rfl rfl ?_
    refine J.mg7 dX7_readMore_34 rfl ?_
    rw [hdr.1.1]
    refine J.imul dX7_readMore_37 ?_
    refine J.iload_n dX7_readMore_38 rfl rfl ?_
    refine J.ms3 (3 * d 6 0) dX7_readMore_39 (ix0 3 (d 6 0)) (by omega) ?_
    try dsimp only [List.set]
    refine J.aload_n dX7_readMore_40 rfl rfl ?_
    refine J.cvM (as := []) s la r v c l tn p (aset pa 0 (3 * d 6 0) (nI (kd (v 1) (yN (v 1) (v 4 0) y)))) m q b x h okX7_step jcX7_116 (mX7_step s la r v c l tn p (aset pa 0 (3 * d 6 0) (nI (kd (v 1) (yN (v 1) (v 4 0) y)))) m q b x h hb hl ((yN (v 1) (v 4 0) y) 2) (yN_2 hz.1).2 hok.1 hok.2.1) dX7_readMore_41 rfl rfl rfl rfl (fun r9 B9 hq9 => ?_)
    obtain ⟨rfl, p9, rfl, hlo9, hA9⟩ := hq9
    refine ⟨_, _, _, _, _, _, _, _, _, _, _, _, _, _, rfl, ?_⟩
    show J _ _ _ _ _ [] (wM s la r v c l tn p9 (aset pa 0 (3 * d 6 0) (nI (kd (v 1) (yN (v 1) (v 4 0) y)))) m q b x h) _ _
    refine J.aload_n dX7_readMore_44 rfl rfl ?_
    refine J.mg5 dX7_readMore_45 rfl ?_
    refine J.iconst (3) dX7_readMore_48 (by decide) ?_
    refine J.aload_n dX7_readMore_49 rfl rfl ?_
    refine J.mg7 dX7_readMore_50 rfl ?_
    rw [hlo9 0 (by decide), hdr.1.1]
    refine J.imul dX7_readMore_53 ?_
    refine J.iconst (1) dX7_readMore_54 (by decide) ?_
    refine J.iadd dX7_readMore_55 ?_
    refine J.aload_n dX7_readMore_56 rfl rfl ?_
    refine J.iconst (0) dX7_readMore_57 (by decide) ?_
    refine J.bipush (9) dX7_readMore_58 (by decide) ?_
    refine J.cvM (as := [.int _, .int _]) s la r v c l tn p9 (aset pa 0 (3 * d 6 0) (nI (kd (v 1) (yN (v 1) (v 4 0) y)))) m q b x h okX7_number jcX7_126 (mX7_number s la r v c l tn p9 (aset pa 0 (3 * d 6 0) (nI (kd (v 1) (yN (v 1) (v 4 0) y)))) m q b x h (yN (v 1) (v 4 0) y) hb hl 0 9 (by decide) (by decide) (yN_2 hz.1).2 hA9) dX7_readMore_60 rfl rfl rfl rfl (fun r9 B9 hq9 => ?_)
    obtain ⟨a8, p8, rfl, rfl, hlo8, ht8, hf8⟩ := hq9
    refine ⟨_, _, _, _, _, _, _, _, _, _, _, _, _, _, rfl, ?_⟩
    show J _ _ _ _ _ (.int _ :: _) (wM s la r v c l tn p8 (aset pa 0 (3 * d 6 0) (nI (kd (v 1) (yN (v 1) (v 4 0) y)))) m q b x h) _ _
    refine J.ms3 (3 * d 6 0 + 1) dX7_readMore_63 (ix 3 (d 6 0) 1) (by omega) ?_
    try dsimp only [List.set]
    refine J.aload_n dX7_readMore_64 rfl rfl ?_
    refine J.dup dX7_readMore_65 rfl ?_
    refine J.mg7 dX7_readMore_66 rfl ?_
    rw [hlo8 0 (by decide), hlo9 0 (by decide), hdr.1.1]
    refine J.iconst (1) dX7_readMore_69 (by decide) ?_
    refine J.iadd dX7_readMore_70 ?_
    rw [nI_1]
    refine J.mp7 dX7_readMore_71 rfl ?_
    try dsimp only [List.set]
    refine J.goto (tgt := 323) dX7_readMore_74 (by decide) ?_
    refine J.vret dX7_readMore_323 rfl (Nat.le_refl _) (Nat.le_refl _) ⟨rfl, pset p8 0 (nI (d 6 0 + 1)), (aset (aset pa 0 (3 * d 6 0) (nI (kd (v 1) (yN (v 1) (v 4 0) y)))) 0 (3 * d 6 0 + 1) a8), rfl, ?_⟩
    exact mQ_hair hh3 hto hz hdr hd h7 hk5 (hlo9.tr hlo8) ht8 hf8
theorem mQ_king {v : vT} {p p8 : Nat → Int32} {pa : Nat → Nat → Int32} {y : Nat → Nat} {d : rT} {a9 a8 : Int32} (hc4 : d 6 1 < 4) (hz : zOK (v 4 0) y d) (hdr : dr p pa y d) (hd : dOK d) (h7 : y 7 = 0) (h1 : (rdN (v 1) (v 4 0) 0 9 y).1 = true) (hlo : low5 p p8) (ha9 : a9 = nI ((rdN (v 1) (v 4 0) 0 9 y).2 3)) (ht8 : (rdN (v 1) (v 4 0) 0 99 (rdN (v 1) (v 4 0) 0 9 y).2).1 = true → a8 = nI ((rdN (v 1) (v 4 0) 0 99 (rdN (v 1) (v 4 0) 0 9 y).2).2 3) ∧ rA v p8 ((rdN (v 1) (v 4 0) 0 99 (rdN (v 1) (v 4 0) 0 9 y).2).2 2)) (hf8 : ¬ (rdN (v 1) (v 4 0) 0 99 (rdN (v 1) (v 4 0) 0 9 y).2).1 = true → a8 = nI 0 ∧ rF p8 ((rdN (v 1) (v 4 0) 0 99 (rdN (v 1) (v 4 0) 0 9 y).2).2 7) ((rdN (v 1) (v 4 0) 0 99 (rdN (v 1) (v 4 0) 0 9 y).2).2 8)) : mQ v (y 2) (pset p8 1 (nI (d 6 1 + 1))) (aset (aset pa 0 (10 + 2 * d 6 1) a9) 0 (10 + 2 * d 6 1 + 1) a8) (rdTwo (v 1) (v 4 0) 0 9 0 99 raddK y d) := by
  have m1 := rdN_t h1
  have hzN : zOK (v 4 0) (rdN (v 1) (v 4 0) 0 9 y).2 d := hz.n h1
  by_cases h2 : (rdN (v 1) (v 4 0) 0 99 (rdN (v 1) (v 4 0) 0 9 y).2).1 = true
  · have eR : (rdTwo (v 1) (v 4 0) 0 9 0 99 raddK y d) = (true, ((rdN (v 1) (v 4 0) 0 99 (rdN (v 1) (v 4 0) 0 9 y).2).2, raddK d ((rdN (v 1) (v 4 0) 0 9 y).2 3) ((rdN (v 1) (v 4 0) 0 99 (rdN (v 1) (v 4 0) 0 9 y).2).2 3))) := by unfold rdTwo; rw [if_pos h1, if_pos h2]
    obtain ⟨rfl, hA8⟩ := ht8 h2
    subst ha9
    obtain ⟨n1, n2, n3, n4⟩ := rdN_t h2
    have hp := rdN_p (b := v 1) (lo := 0) (up := 99) hzN.1
    have hp0 := rdN_p (b := v 1) (lo := 0) (up := 9) hz.1
    have e4 : ∀ i, 4 ≤ i → (rdN (v 1) (v 4 0) 0 99 (rdN (v 1) (v 4 0) 0 9 y).2).2 i = y i := fun i hi => (n3 i hi).trans (m1.2.2.1 i hi)
    have hd8 := hdr.low hlo
    obtain ⟨⟨a0, a1, a2⟩, ⟨t3, b1, b2, b3, b4⟩, c1, c2, c3, c4, c5, c6, c7, c8⟩ := hd8
    obtain ⟨⟨g1, g2⟩, g3, g4, g5, g6, g7, g8⟩ := hd
    have hk4 := hz.2.2.2.2.2.1
    rw [eR]
    refine mQ_t ⟨hA8.up (pset_hi (by decide)), ⟨⟨a0, rfl, a2⟩, ⟨t3, b1, b2, by rw [e4 5 (by decide)]; exact b3, by rw [e4 6 (by decide)]; exact b4⟩, by show p8 4 = _; rw [e4 4 (by decide)]; exact c1, ?_, ?_, ?_, ?_, ?_, ?_, ?_⟩, ⟨⟨g1, g2⟩, g3, g4, g5, ?_, ?_, g8⟩, by show (rdN (v 1) (v 4 0) 0 99 (rdN (v 1) (v 4 0) 0 9 y).2).2 7 = 0; rw [e4 7 (by decide)]; exact h7, ?_, ?_⟩
    · intro i hi
      have hi3 := hz.2.2.2.2.1
      have hi : i < d 6 0 := hi
      rw [aset_n _ (by omega), aset_n _ (by omega), aset_n _ (by omega), aset_n _ (by omega)]
      exact c2 i hi
    · intro i hi
      rw [aset_n _ (by omega), aset_n _ (by omega), e4 4 (by decide)]
      exact c3 i hi
    · rw [aset_n _ (by omega), aset_n _ (by omega)]; exact c4
    · intro i hi
      have hi : i < d 6 1 + 1 := hi
      by_cases e : i = d 6 1
      · subst e
        rw [aset_n _ (by omega), aset_s, aset_s]
        exact ⟨congrArg nI (if_pos rfl).symm, congrArg nI (if_pos rfl).symm⟩
      · rw [aset_n _ (by omega), aset_n _ (by omega), aset_n _ (by omega), aset_n _ (by omega)]
        have := c5 i (by omega)
        exact ⟨this.1.trans (congrArg nI (if_neg e).symm), this.2.trans (congrArg nI (if_neg e).symm)⟩
    · rw [aset_n _ (by omega), aset_n _ (by omega)]; exact c6
    · rw [aset_n _ (by omega), aset_n _ (by omega)]; exact c7
    · intro i hi
      rw [aset_o _ (by decide), aset_o _ (by decide), aset_o _ (by decide), aset_o _ (by decide)]
      exact c8 i hi
    · intro i
      show (if i = d 6 1 then (rdN (v 1) (v 4 0) 0 9 y).2 3 else d 2 i) ≤ 9
      have := g6 i
      have := m1.2.1
      split <;> omega
    · intro i
      show (if i = d 6 1 then (rdN (v 1) (v 4 0) 0 99 (rdN (v 1) (v 4 0) 0 9 y).2).2 3 else d 3 i) ≤ 99
      have := g7 i
      split <;> omega
    · show y 2 ≤ (rdN (v 1) (v 4 0) 0 99 (rdN (v 1) (v 4 0) 0 9 y).2).2 2
      omega
    · exact ⟨hp.2, by rw [e4 4 (by decide)]; exact hz.2.1, by rw [e4 5 (by decide)]; exact hz.2.2.1, by rw [e4 6 (by decide)]; exact hz.2.2.2.1, hz.2.2.2.2.1, show d 6 1 + 1 ≤ 4 by omega, hz.2.2.2.2.2.2⟩
  · have eR : (rdTwo (v 1) (v 4 0) 0 9 0 99 raddK y d) = (false, ((rdN (v 1) (v 4 0) 0 99 (rdN (v 1) (v 4 0) 0 9 y).2).2, d)) := by unfold rdTwo; rw [if_pos h1, if_neg h2]
    rw [eR]
    exact ⟨fun h => absurd h Bool.false_ne_true, fun _ => (hf8 h2).2.up (pset_hi (by decide))⟩
set_option maxRecDepth 100000 in
set_option maxHeartbeats 4000000 in
theorem mX7_readMore1 (s : Nat → Int32) (la : Nat → Int32) (r : rT) (v : vT) (c : Nat → Nat → Int32) (l : Nat → Int32) (tn : Int32) (p : Nat → Int32) (pa : Nat → Nat → Int32) (m : Nat) (q : rT) (b : Int32) (x : Nat → Nat) (h : Nat → Nat → Int64) (y : Nat → Nat) (d : rT) (hb : ∀ j, v 1 j < 128) (hl : v 4 0 ≤ 160) (hA : rA v p (y 2)) (hto : ntoB (v 1) (v 4 0) (y 2) = true) (hz : zOK (v 4 0) y d) (hdr : dr p pa y d) (hd : dOK d) (h7 : y 7 = 0) (hc4 : d 6 1 < 4) : J KX7_readMore 21 (fun o B => o = none ∧ ∃ p9 pa9, B = (wM s la r v c l tn p9 pa9 m q b x h) ∧ mQ v (y 2) p9 pa9 (rdTwo (v 1) (v 4 0) 0 9 0 99 raddK y d)) 0 [some (.ref 0), some (.int 1), none] [] (wM s la r v c l tn p pa m q b x h) 0 0 := by
  refine J.iload_n dX7_readMore_0 rfl rfl ?_
  refine J.if_ne (tgt := 77) dX7_readMore_1 (by decide) (fun c1 => ?_) (fun c1 => absurd c1 (by decide))
  refine J.iload_n dX7_readMore_77 rfl rfl ?_
  refine J.iconst (1) dX7_readMore_78 (by decide) ?_
  refine J.icmp_ne (tgt := 139) dX7_readMore_79 (by decide) (fun c79 => absurd c79 (fun h => h rfl)) (fun c79 => ?_)
  refine J.aload_n dX7_readMore_82 rfl rfl ?_
  refine J.mg5 dX7_readMore_83 rfl ?_
  refine J.bipush (10) dX7_readMore_86 (by decide) ?_
  refine J.iconst (2) dX7_readMore_88 (by decide) ?_
  refine J.aload_n dX7_readMore_89 rfl rfl ?_
  refine J.mg8 dX7_readMore_90 rfl ?_
  rw [hdr.1.2.1]
  refine J.imul dX7_readMore_93 ?_
  refine J.iadd dX7_readMore_94 ?_
  refine J.aload_n dX7_readMore_95 rfl rfl ?_
  refine J.iconst (0) dX7_readMore_96 (by decide) ?_
  refine J.bipush (9) dX7_readMore_97 (by decide) ?_
  refine J.cvM (as := [.int _, .int _]) s la r v c l tn p pa m q b x h okX7_number jcX7_126 (mX7_number s la r v c l tn p pa m q b x h y hb hl 0 9 (by decide) (by decide) hz.1 hA) dX7_readMore_99 rfl rfl rfl rfl (fun r9 B9 hq9 => ?_)
  obtain ⟨a9, p9, rfl, rfl, hlo9, ht9, hf9⟩ := hq9
  refine ⟨_, _, _, _, _, _, _, _, _, _, _, _, _, _, rfl, ?_⟩
  show J _ _ _ _ _ (.int _ :: _) (wM s la r v c l tn p9 pa m q b x h) _ _
  by_cases h1 : (rdN (v 1) (v 4 0) 0 9 y).1 = true
  · skip
    refine J.ms3 (10 + 2 * d 6 1) dX7_readMore_102 (ixk 10 2 (d 6 1)) (by omega) ?_
    try dsimp only [List.set]
    refine J.aload_n dX7_readMore_103 rfl rfl ?_
    refine J.mg5 dX7_readMore_104 rfl ?_
    refine J.bipush (10) dX7_readMore_107 (by decide) ?_
    refine J.iconst (2) dX7_readMore_109 (by decide) ?_
    refine J.aload_n dX7_readMore_110 rfl rfl ?_
    refine J.mg8 dX7_readMore_111 rfl ?_
    rw [hlo9 1 (by decide), hdr.1.2.1]
    refine J.imul dX7_readMore_114 ?_
    refine J.iadd dX7_readMore_115 ?_
    refine J.iconst (1) dX7_readMore_116 (by decide) ?_
    refine J.iadd dX7_readMore_117 ?_
    refine J.aload_n dX7_readMore_118 rfl rfl ?_
    refine J.iconst (0) dX7_readMore_119 (by decide) ?_
    refine J.bipush (99) dX7_readMore_120 (by decide) ?_
    refine J.cvM (as := [.int _, .int _]) s la r v c l tn p9 (aset pa 0 (10 + 2 * d 6 1) a9) m q b x h okX7_number jcX7_126 (mX7_number s la r v c l tn p9 (aset pa 0 (10 + 2 * d 6 1) a9) m q b x h (rdN (v 1) (v 4 0) 0 9 y).2 hb hl 0 99 (by decide) (by decide) (rdN_p hz.1).2 (ht9 h1).2) dX7_readMore_122 rfl rfl rfl rfl (fun r9 B9 hq9 => ?_)
    obtain ⟨a8, p8, rfl, rfl, hlo8, ht8, hf8⟩ := hq9
    refine ⟨_, _, _, _, _, _, _, _, _, _, _, _, _, _, rfl, ?_⟩
    show J _ _ _ _ _ (.int _ :: _) (wM s la r v c l tn p8 (aset pa 0 (10 + 2 * d 6 1) a9) m q b x h) _ _
    refine J.ms3 (10 + 2 * d 6 1 + 1) dX7_readMore_125 (ixk1 10 2 (d 6 1) 1) (by omega) ?_
    try dsimp only [List.set]
    refine J.aload_n dX7_readMore_126 rfl rfl ?_
    refine J.dup dX7_readMore_127 rfl ?_
    refine J.mg8 dX7_readMore_128 rfl ?_
    rw [hlo8 1 (by decide), hlo9 1 (by decide), hdr.1.2.1]
    refine J.iconst (1) dX7_readMore_131 (by decide) ?_
    refine J.iadd dX7_readMore_132 ?_
    rw [nI_1]
    refine J.mp8 dX7_readMore_133 rfl ?_
    try dsimp only [List.set]
    refine J.goto (tgt := 323) dX7_readMore_136 (by decide) ?_
    refine J.vret dX7_readMore_323 rfl (Nat.le_refl _) (Nat.le_refl _) ⟨rfl, pset p8 1 (nI (d 6 1 + 1)), (aset (aset pa 0 (10 + 2 * d 6 1) a9) 0 (10 + 2 * d 6 1 + 1) a8), rfl, ?_⟩
    exact mQ_king hc4 hz hdr hd h7 h1 (hlo9.tr hlo8) (ht9 h1).1 ht8 hf8
  · skip
    refine J.ms3 (10 + 2 * d 6 1) dX7_readMore_102 (ixk 10 2 (d 6 1)) (by omega) ?_
    try dsimp only [List.set]
    refine J.aload_n dX7_readMore_103 rfl rfl ?_
    refine J.mg5 dX7_readMore_104 rfl ?_
    refine J.bipush (10) dX7_readMore_107 (by decide) ?_
    refine J.iconst (2) dX7_readMore_109 (by decide) ?_
    refine J.aload_n dX7_readMore_110 rfl rfl ?_
    refine J.mg8 dX7_readMore_111 rfl ?_
    rw [hlo9 1 (by decide), hdr.1.2.1]
    refine J.imul dX7_readMore_114 ?_
    refine J.iadd dX7_readMore_115 ?_
    refine J.iconst (1) dX7_readMore_116 (by decide) ?_
    refine J.iadd dX7_readMore_117 ?_
    refine J.aload_n dX7_readMore_118 rfl rfl ?_
    refine J.iconst (0) dX7_readMore_119 (by decide) ?_
    refine J.bipush (99) dX7_readMore_120 (by decide) ?_
    refine J.cvM (as := [.int _, .int _]) s la r v c l tn p9 (aset pa 0 (10 + 2 * d 6 1) a9) m q b x h okX7_number jcX7_126 (mX7_numberx s la r v c l tn p9 (aset pa 0 (10 + 2 * d 6 1) a9) m q b x h 0 99 _ _ (hf9 h1).2) dX7_readMore_122 rfl rfl rfl rfl (fun r9 B9 hq9 => ?_)
    obtain ⟨rfl, rfl⟩ := hq9
    refine ⟨_, _, _, _, _, _, _, _, _, _, _, _, _, _, rfl, ?_⟩
    show J _ _ _ _ _ (.int _ :: _) (wM s la r v c l tn p9 (aset pa 0 (10 + 2 * d 6 1) a9) m q b x h) _ _
    refine J.ms3 (10 + 2 * d 6 1 + 1) dX7_readMore_125 (ixk1 10 2 (d 6 1) 1) (by omega) ?_
    try dsimp only [List.set]
    refine J.aload_n dX7_readMore_126 rfl rfl ?_
    refine J.dup dX7_readMore_127 rfl ?_
    refine J.mg8 dX7_readMore_128 rfl ?_
    rw [hlo9 1 (by decide), hdr.1.2.1]
    refine J.iconst (1) dX7_readMore_131 (by decide) ?_
    refine J.iadd dX7_readMore_132 ?_
    rw [nI_1]
    refine J.mp8 dX7_readMore_133 rfl ?_
    try dsimp only [List.set]
    refine J.goto (tgt := 323) dX7_readMore_136 (by decide) ?_
    have eR : (rdTwo (v 1) (v 4 0) 0 9 0 99 raddK y d) = (false, ((rdN (v 1) (v 4 0) 0 9 y).2, d)) := by unfold rdTwo; rw [if_neg h1]
    refine J.vret dX7_readMore_323 rfl (Nat.le_refl _) (Nat.le_refl _) ⟨rfl, _, _, rfl, fun h9 => absurd h9 (by rw [eR]; exact Bool.false_ne_true), fun _ => ?_⟩
    rw [eR]
    exact (hf9 h1).2.up (pset_hi (by decide))
theorem mQ_law {v : vT} {p p8 : Nat → Int32} {pa : Nat → Nat → Int32} {y : Nat → Nat} {d : rT} {a9 a8 : Int32} (hc4 : d 6 2 < 3) (hz : zOK (v 4 0) y d) (hdr : dr p pa y d) (hd : dOK d) (h7 : y 7 = 0) (h1 : (rdN (v 1) (v 4 0) 1 5 y).1 = true) (hlo : low5 p p8) (ha9 : a9 = nI ((rdN (v 1) (v 4 0) 1 5 y).2 3)) (ht8 : (rdN (v 1) (v 4 0) 0 9 (rdN (v 1) (v 4 0) 1 5 y).2).1 = true → a8 = nI ((rdN (v 1) (v 4 0) 0 9 (rdN (v 1) (v 4 0) 1 5 y).2).2 3) ∧ rA v p8 ((rdN (v 1) (v 4 0) 0 9 (rdN (v 1) (v 4 0) 1 5 y).2).2 2)) (hf8 : ¬ (rdN (v 1) (v 4 0) 0 9 (rdN (v 1) (v 4 0) 1 5 y).2).1 = true → a8 = nI 0 ∧ rF p8 ((rdN (v 1) (v 4 0) 0 9 (rdN (v 1) (v 4 0) 1 5 y).2).2 7) ((rdN (v 1) (v 4 0) 0 9 (rdN (v 1) (v 4 0) 1 5 y).2).2 8)) : mQ v (y 2) (pset p8 2 (nI (d 6 2 + 1))) (aset (aset pa 1 (2 * d 6 2) a9) 1 (2 * d 6 2 + 1) a8) (rdTwo (v 1) (v 4 0) 1 5 0 9 raddL y d) := by
  have m1 := rdN_t h1
  have hzN : zOK (v 4 0) (rdN (v 1) (v 4 0) 1 5 y).2 d := hz.n h1
  by_cases h2 : (rdN (v 1) (v 4 0) 0 9 (rdN (v 1) (v 4 0) 1 5 y).2).1 = true
  · have eR : (rdTwo (v 1) (v 4 0) 1 5 0 9 raddL y d) = (true, ((rdN (v 1) (v 4 0) 0 9 (rdN (v 1) (v 4 0) 1 5 y).2).2, raddL d ((rdN (v 1) (v 4 0) 1 5 y).2 3) ((rdN (v 1) (v 4 0) 0 9 (rdN (v 1) (v 4 0) 1 5 y).2).2 3))) := by unfold rdTwo; rw [if_pos h1, if_pos h2]
    obtain ⟨rfl, hA8⟩ := ht8 h2
    subst ha9
    obtain ⟨n1, n2, n3, n4⟩ := rdN_t h2
    have hp := rdN_p (b := v 1) (lo := 0) (up := 9) hzN.1
    have hp0 := rdN_p (b := v 1) (lo := 1) (up := 5) hz.1
    have e4 : ∀ i, 4 ≤ i → (rdN (v 1) (v 4 0) 0 9 (rdN (v 1) (v 4 0) 1 5 y).2).2 i = y i := fun i hi => (n3 i hi).trans (m1.2.2.1 i hi)
    have hd8 := hdr.low hlo
    obtain ⟨⟨a0, a1, a2⟩, ⟨t3, b1, b2, b3, b4⟩, c1, c2, c3, c4, c5, c6, c7, c8⟩ := hd8
    obtain ⟨⟨g1, g2⟩, g3, g4, g5, g6, g7, g8, g9⟩ := hd
    have hk4 := hz.2.2.2.2.2.1
    rw [eR]
    refine mQ_t ⟨hA8.up (pset_hi (by decide)), ⟨⟨a0, a1, rfl⟩, ⟨t3, b1, b2, by rw [e4 5 (by decide)]; exact b3, by rw [e4 6 (by decide)]; exact b4⟩, by show p8 4 = _; rw [e4 4 (by decide)]; exact c1, ?_, ?_, ?_, ?_, ?_, ?_, ?_⟩, ⟨⟨g1, g2⟩, g3, g4, g5, g6, g7, ?_, ?_⟩, by show (rdN (v 1) (v 4 0) 0 9 (rdN (v 1) (v 4 0) 1 5 y).2).2 7 = 0; rw [e4 7 (by decide)]; exact h7, ?_, ?_⟩
    · intro i hi
      rw [aset_o _ (by decide), aset_o _ (by decide), aset_o _ (by decide), aset_o _ (by decide)]
      exact c2 i hi
    · intro i hi
      rw [aset_o _ (by decide), aset_o _ (by decide), e4 4 (by decide)]
      exact c3 i hi
    · rw [aset_o _ (by decide), aset_o _ (by decide)]; exact c4
    · intro i hi
      rw [aset_o _ (by decide), aset_o _ (by decide), aset_o _ (by decide), aset_o _ (by decide)]
      exact c5 i hi
    · rw [aset_o _ (by decide), aset_o _ (by decide)]; exact c6
    · rw [aset_o _ (by decide), aset_o _ (by decide)]; exact c7
    · intro i hi
      have hi : i < d 6 2 + 1 := hi
      by_cases e : i = d 6 2
      · subst e
        rw [aset_n _ (by omega), aset_s, aset_s]
        exact ⟨congrArg nI (if_pos rfl).symm, congrArg nI (if_pos rfl).symm⟩
      · rw [aset_n _ (by omega), aset_n _ (by omega), aset_n _ (by omega), aset_n _ (by omega)]
        have := c8 i (by omega)
        exact ⟨this.1.trans (congrArg nI (if_neg e).symm), this.2.trans (congrArg nI (if_neg e).symm)⟩
    · intro i
      show (if i = d 6 2 then (rdN (v 1) (v 4 0) 1 5 y).2 3 else d 4 i) ≤ 5
      have := g8 i
      have := m1.2.1
      split <;> omega
    · intro i
      show (if i = d 6 2 then (rdN (v 1) (v 4 0) 0 9 (rdN (v 1) (v 4 0) 1 5 y).2).2 3 else d 5 i) ≤ 9
      have := g9 i
      split <;> omega
    · show y 2 ≤ (rdN (v 1) (v 4 0) 0 9 (rdN (v 1) (v 4 0) 1 5 y).2).2 2
      omega
    · exact ⟨hp.2, by rw [e4 4 (by decide)]; exact hz.2.1, by rw [e4 5 (by decide)]; exact hz.2.2.1, by rw [e4 6 (by decide)]; exact hz.2.2.2.1, hz.2.2.2.2.1, hz.2.2.2.2.2.1, show d 6 2 + 1 ≤ 3 by omega, hz.2.2.2.2.2.2.2⟩
  · have eR : (rdTwo (v 1) (v 4 0) 1 5 0 9 raddL y d) = (false, ((rdN (v 1) (v 4 0) 0 9 (rdN (v 1) (v 4 0) 1 5 y).2).2, d)) := by unfold rdTwo; rw [if_pos h1, if_neg h2]
    rw [eR]
    exact ⟨fun h => absurd h Bool.false_ne_true, fun _ => (hf8 h2).2.up (pset_hi (by decide))⟩
set_option maxRecDepth 100000 in
set_option maxHeartbeats 4000000 in
theorem mX7_readMore2 (s : Nat → Int32) (la : Nat → Int32) (r : rT) (v : vT) (c : Nat → Nat → Int32) (l : Nat → Int32) (tn : Int32) (p : Nat → Int32) (pa : Nat → Nat → Int32) (m : Nat) (q : rT) (b : Int32) (x : Nat → Nat) (h : Nat → Nat → Int64) (y : Nat → Nat) (d : rT) (hb : ∀ j, v 1 j < 128) (hl : v 4 0 ≤ 160) (hA : rA v p (y 2)) (hto : ntoB (v 1) (v 4 0) (y 2) = true) (hz : zOK (v 4 0) y d) (hdr : dr p pa y d) (hd : dOK d) (h7 : y 7 = 0) (hc4 : d 6 2 < 3) : J KX7_readMore 21 (fun o B => o = none ∧ ∃ p9 pa9, B = (wM s la r v c l tn p9 pa9 m q b x h) ∧ mQ v (y 2) p9 pa9 (rdTwo (v 1) (v 4 0) 1 5 0 9 raddL y d)) 0 [some (.ref 0), some (.int 2), none] [] (wM s la r v c l tn p pa m q b x h) 0 0 := by
  refine J.iload_n dX7_readMore_0 rfl rfl ?_
  refine J.if_ne (tgt := 77) dX7_readMore_1 (by decide) (fun c1 => ?_) (fun c1 => absurd c1 (by decide))
  refine J.iload_n dX7_readMore_77 rfl rfl ?_
  refine J.iconst (1) dX7_readMore_78 (by decide) ?_
  refine J.icmp_ne (tgt := 139) dX7_readMore_79 (by decide) (fun c79 => ?_) (fun c79 => absurd c79 (by decide))
  refine J.iload_n dX7_readMore_139 rfl rfl ?_
  refine J.iconst (2) dX7_readMore_140 (by decide) ?_
  refine J.icmp_ne (tgt := 194) dX7_readMore_141 (by decide) (fun c141 => absurd c141 (fun h => h rfl)) (fun c141 => ?_)
  refine J.aload_n dX7_readMore_144 rfl rfl ?_
  refine J.mg6 dX7_readMore_145 rfl ?_
  refine J.iconst (2) dX7_readMore_148 (by decide) ?_
  refine J.aload_n dX7_readMore_149 rfl rfl ?_
  refine J.mg9 dX7_readMore_150 rfl ?_
  rw [hdr.1.2.2]
  refine J.imul dX7_readMore_153 ?_
  refine J.aload_n dX7_readMore_154 rfl rfl ?_
  refine J.iconst (1) dX7_readMore_155 (by decide) ?_
  refine J.iconst (5) dX7_readMore_156 (by decide) ?_
  refine J.cvM (as := [.int _, .int _]) s la r v c l tn p pa m q b x h okX7_number jcX7_126 (mX7_number s la r v c l tn p pa m q b x h y hb hl 1 5 (by decide) (by decide) hz.1 hA) dX7_readMore_157 rfl rfl rfl rfl (fun r9 B9 hq9 => ?_)
  obtain ⟨a9, p9, rfl, rfl, hlo9, ht9, hf9⟩ := hq9
  refine ⟨_, _, _, _, _, _, _, _, _, _, _, _, _, _, rfl, ?_⟩
  show J _ _ _ _ _ (.int _ :: _) (wM s la r v c l tn p9 pa m q b x h) _ _
  by_cases h1 : (rdN (v 1) (v 4 0) 1 5 y).1 = true
  · skip
    refine J.ms4 (2 * d 6 2) dX7_readMore_160 (ix0 2 (d 6 2)) (by omega) ?_
    try dsimp only [List.set]
    refine J.aload_n dX7_readMore_161 rfl rfl ?_
    refine J.mg6 dX7_readMore_162 rfl ?_
    refine J.iconst (2) dX7_readMore_165 (by decide) ?_
    refine J.aload_n dX7_readMore_166 rfl rfl ?_
    refine J.mg9 dX7_readMore_167 rfl ?_
    rw [hlo9 2 (by decide), hdr.1.2.2]
    refine J.imul dX7_readMore_170 ?_
    refine J.iconst (1) dX7_readMore_171 (by decide) ?_
    refine J.iadd dX7_readMore_172 ?_
    refine J.aload_n dX7_readMore_173 rfl rfl ?_
    refine J.iconst (0) dX7_readMore_174 (by decide) ?_
    refine J.bipush (9) dX7_readMore_175 (by decide) ?_
    refine J.cvM (as := [.int _, .int _]) s la r v c l tn p9 (aset pa 1 (2 * d 6 2) a9) m q b x h okX7_number jcX7_126 (mX7_number s la r v c l tn p9 (aset pa 1 (2 * d 6 2) a9) m q b x h (rdN (v 1) (v 4 0) 1 5 y).2 hb hl 0 9 (by decide) (by decide) (rdN_p hz.1).2 (ht9 h1).2) dX7_readMore_177 rfl rfl rfl rfl (fun r9 B9 hq9 => ?_)
    obtain ⟨a8, p8, rfl, rfl, hlo8, ht8, hf8⟩ := hq9
    refine ⟨_, _, _, _, _, _, _, _, _, _, _, _, _, _, rfl, ?_⟩
    show J _ _ _ _ _ (.int _ :: _) (wM s la r v c l tn p8 (aset pa 1 (2 * d 6 2) a9) m q b x h) _ _
    refine J.ms4 (2 * d 6 2 + 1) dX7_readMore_180 (ix 2 (d 6 2) 1) (by omega) ?_
    try dsimp only [List.set]
    refine J.aload_n dX7_readMore_181 rfl rfl ?_
    refine J.dup dX7_readMore_182 rfl ?_
    refine J.mg9 dX7_readMore_183 rfl ?_
    rw [hlo8 2 (by decide), hlo9 2 (by decide), hdr.1.2.2]
    refine J.iconst (1) dX7_readMore_186 (by decide) ?_
    refine J.iadd dX7_readMore_187 ?_
    rw [nI_1]
    refine J.mp9 dX7_readMore_188 rfl ?_
    try dsimp only [List.set]
    refine J.goto (tgt := 323) dX7_readMore_191 (by decide) ?_
    refine J.vret dX7_readMore_323 rfl (Nat.le_refl _) (Nat.le_refl _) ⟨rfl, pset p8 2 (nI (d 6 2 + 1)), (aset (aset pa 1 (2 * d 6 2) a9) 1 (2 * d 6 2 + 1) a8), rfl, ?_⟩
    exact mQ_law hc4 hz hdr hd h7 h1 (hlo9.tr hlo8) (ht9 h1).1 ht8 hf8
  · skip
    refine J.ms4 (2 * d 6 2) dX7_readMore_160 (ix0 2 (d 6 2)) (by omega) ?_
    try dsimp only [List.set]
    refine J.aload_n dX7_readMore_161 rfl rfl ?_
    refine J.mg6 dX7_readMore_162 rfl ?_
    refine J.iconst (2) dX7_readMore_165 (by decide) ?_
    refine J.aload_n dX7_readMore_166 rfl rfl ?_
    refine J.mg9 dX7_readMore_167 rfl ?_
    rw [hlo9 2 (by decide), hdr.1.2.2]
    refine J.imul dX7_readMore_170 ?_
    refine J.iconst (1) dX7_readMore_171 (by decide) ?_
    refine J.iadd dX7_readMore_172 ?_
    refine J.aload_n dX7_readMore_173 rfl rfl ?_
    refine J.iconst (0) dX7_readMore_174 (by decide) ?_
    refine J.bipush (9) dX7_readMore_175 (by decide) ?_
    refine J.cvM (as := [.int _, .int _]) s la r v c l tn p9 (aset pa 1 (2 * d 6 2) a9) m q b x h okX7_number jcX7_126 (mX7_numberx s la r v c l tn p9 (aset pa 1 (2 * d 6 2) a9) m q b x h 0 9 _ _ (hf9 h1).2) dX7_readMore_177 rfl rfl rfl rfl (fun r9 B9 hq9 => ?_)
    obtain ⟨rfl, rfl⟩ := hq9
    refine ⟨_, _, _, _, _, _, _, _, _, _, _, _, _, _, rfl, ?_⟩
    show J _ _ _ _ _ (.int _ :: _) (wM s la r v c l tn p9 (aset pa 1 (2 * d 6 2) a9) m q b x h) _ _
    refine J.ms4 (2 * d 6 2 + 1) dX7_readMore_180 (ix 2 (d 6 2) 1) (by omega) ?_
    try dsimp only [List.set]
    refine J.aload_n dX7_readMore_181 rfl rfl ?_
    refine J.dup dX7_readMore_182 rfl ?_
    refine J.mg9 dX7_readMore_183 rfl ?_
    rw [hlo9 2 (by decide), hdr.1.2.2]
    refine J.iconst (1) dX7_readMore_186 (by decide) ?_
    refine J.iadd dX7_readMore_187 ?_
    rw [nI_1]
    refine J.mp9 dX7_readMore_188 rfl ?_
    try dsimp only [List.set]
    refine J.goto (tgt := 323) dX7_readMore_191 (by decide) ?_
    have eR : (rdTwo (v 1) (v 4 0) 1 5 0 9 raddL y d) = (false, ((rdN (v 1) (v 4 0) 1 5 y).2, d)) := by unfold rdTwo; rw [if_neg h1]
    refine J.vret dX7_readMore_323 rfl (Nat.le_refl _) (Nat.le_refl _) ⟨rfl, _, _, rfl, fun h9 => absurd h9 (by rw [eR]; exact Bool.false_ne_true), fun _ => ?_⟩
    rw [eR]
    exact (hf9 h1).2.up (pset_hi (by decide))
theorem mQ_load {v : vT} {p p9 : Nat → Int32} {pa : Nat → Nat → Int32} {y : Nat → Nat} {d : rT} {a9 : Int32} (hz : zOK (v 4 0) y d) (hdr : dr p pa y d) (hd : dOK d) (h7 : y 7 = 0) (hlo : low5 p p9) (ht9 : (rdN (v 1) (v 4 0) 1 9 y).1 = true → a9 = nI ((rdN (v 1) (v 4 0) 1 9 y).2 3) ∧ rA v p9 ((rdN (v 1) (v 4 0) 1 9 y).2 2)) (hf9 : ¬ (rdN (v 1) (v 4 0) 1 9 y).1 = true → a9 = nI 1 ∧ rF p9 ((rdN (v 1) (v 4 0) 1 9 y).2 7) ((rdN (v 1) (v 4 0) 1 9 y).2 8)) : mQ v (y 2) p9 (aset pa 0 9 (a9 - 3)) (if (rdN (v 1) (v 4 0) 1 9 y).1 = true then (true, ((rdN (v 1) (v 4 0) 1 9 y).2, rset d 6 4 ((rdN (v 1) (v 4 0) 1 9 y).2 3))) else (false, ((rdN (v 1) (v 4 0) 1 9 y).2, d)) : Bool × pT) := by
  by_cases h1 : (rdN (v 1) (v 4 0) 1 9 y).1 = true
  · rw [if_pos h1]
    obtain ⟨rfl, hA8⟩ := ht9 h1
    obtain ⟨n1, n2, n3, n4⟩ := rdN_t h1
    have hp := rdN_p (b := v 1) (lo := 1) (up := 9) hz.1
    have hd8 := hdr.low hlo
    obtain ⟨⟨a0, a1, a2⟩, ⟨t3, b1, b2, b3, b4⟩, c1, c2, c3, c4, c5, c6, c7, c8⟩ := hd8
    obtain ⟨⟨g1, g2⟩, ⟨g3, g4, g5⟩, g6⟩ := hd
    have hk3 := hz.2.2.2.2.1
    have hk4 := hz.2.2.2.2.2.1
    refine mQ_t ⟨hA8, ⟨⟨a0, a1, a2⟩, ⟨t3, b1, b2, by rw [n3 5 (by decide)]; exact b3, by rw [n3 6 (by decide)]; exact b4⟩, by show p9 4 = _; rw [n3 4 (by decide)]; exact c1, ?_, ?_, ?_, ?_, ?_, ?_, ?_⟩, ⟨⟨g1, g2⟩, ⟨n1, n2, g5⟩, g6⟩, by show (rdN (v 1) (v 4 0) 1 9 y).2 7 = 0; rw [n3 7 (by decide)]; exact h7, hp.1, ?_⟩
    · intro i hi
      have hi : i < d 6 0 := hi
      rw [aset_n _ (by omega), aset_n _ (by omega)]
      exact c2 i hi
    · intro i hi
      rw [aset_n _ (by omega), n3 4 (by decide)]
      exact c3 i hi
    · rw [aset_s] <;> rfl
    · intro k hk
      have hk : k < d 6 1 := hk
      rw [aset_n _ (by omega), aset_n _ (by omega)]
      exact c5 k hk
    · rw [aset_n _ (by omega)]; exact c6
    · rw [aset_n _ (by omega)]; exact c7
    · intro i hi
      rw [aset_o _ (by decide), aset_o _ (by decide)]
      exact c8 i hi
    · exact ⟨hp.2, by rw [n3 4 (by decide)]; exact hz.2.1, by rw [n3 5 (by decide)]; exact hz.2.2.1, by rw [n3 6 (by decide)]; exact hz.2.2.2.1, hz.2.2.2.2⟩
  · rw [if_neg h1]
    exact ⟨fun h => absurd h Bool.false_ne_true, fun _ => (hf9 h1).2⟩
set_option maxRecDepth 100000 in
set_option maxHeartbeats 4000000 in
theorem mX7_readMore3 (s : Nat → Int32) (la : Nat → Int32) (r : rT) (v : vT) (c : Nat → Nat → Int32) (l : Nat → Int32) (tn : Int32) (p : Nat → Int32) (pa : Nat → Nat → Int32) (m : Nat) (q : rT) (b : Int32) (x : Nat → Nat) (h : Nat → Nat → Int64) (y : Nat → Nat) (d : rT) (hb : ∀ j, v 1 j < 128) (hl : v 4 0 ≤ 160) (hA : rA v p (y 2)) (hto : ntoB (v 1) (v 4 0) (y 2) = true) (hz : zOK (v 4 0) y d) (hdr : dr p pa y d) (hd : dOK d) (h7 : y 7 = 0) : J KX7_readMore 21 (fun o B => o = none ∧ ∃ p9 pa9, B = (wM s la r v c l tn p9 pa9 m q b x h) ∧ mQ v (y 2) p9 pa9 (if (rdN (v 1) (v 4 0) 1 9 y).1 = true then (true, ((rdN (v 1) (v 4 0) 1 9 y).2, rset d 6 4 ((rdN (v 1) (v 4 0) 1 9 y).2 3))) else (false, ((rdN (v 1) (v 4 0) 1 9 y).2, d)) : Bool × pT)) 0 [some (.ref 0), some (.int 3), none] [] (wM s la r v c l tn p pa m q b x h) 0 0 := by
  refine J.iload_n dX7_readMore_0 rfl rfl ?_
  refine J.if_ne (tgt := 77) dX7_readMore_1 (by decide) (fun c1 => ?_) (fun c1 => absurd c1 (by decide))
  refine J.iload_n dX7_readMore_77 rfl rfl ?_
  refine J.iconst (1) dX7_readMore_78 (by decide) ?_
  refine J.icmp_ne (tgt := 139) dX7_readMore_79 (by decide) (fun c79 => ?_) (fun c79 => absurd c79 (by decide))
  refine J.iload_n dX7_readMore_139 rfl rfl ?_
  refine J.iconst (2) dX7_readMore_140 (by decide) ?_
  refine J.icmp_ne (tgt := 194) dX7_readMore_141 (by decide) (fun c141 => ?_) (fun c141 => absurd c141 (by decide))
  refine J.iload_n dX7_readMore_194 rfl rfl ?_
  refine J.iconst (3) dX7_readMore_195 (by decide) ?_
  refine J.icmp_ne (tgt := 218) dX7_readMore_196 (by decide) (fun c196 => absurd c196 (fun h => h rfl)) (fun c196 => ?_)
  refine J.aload_n dX7_readMore_199 rfl rfl ?_
  refine J.mg5 dX7_readMore_200 rfl ?_
  refine J.bipush (9) dX7_readMore_203 (by decide) ?_
  refine J.aload_n dX7_readMore_205 rfl rfl ?_
  refine J.iconst (1) dX7_readMore_206 (by decide) ?_
  refine J.bipush (9) dX7_readMore_207 (by decide) ?_
  refine J.cvM (as := [.int _, .int _]) s la r v c l tn p pa m q b x h okX7_number jcX7_126 (mX7_number s la r v c l tn p pa m q b x h y hb hl 1 9 (by decide) (by decide) hz.1 hA) dX7_readMore_209 rfl rfl rfl rfl (fun r9 B9 hq9 => ?_)
  obtain ⟨a9, p9, rfl, rfl, hlo9, ht9, hf9⟩ := hq9
  refine ⟨_, _, _, _, _, _, _, _, _, _, _, _, _, _, rfl, ?_⟩
  show J _ _ _ _ _ (.int _ :: _) (wM s la r v c l tn p9 pa m q b x h) _ _
  refine J.iconst (3) dX7_readMore_212 (by decide) ?_
  refine J.isub dX7_readMore_213 ?_
  refine J.ms3 (9) dX7_readMore_214 rfl (by decide) ?_
  try dsimp only [List.set]
  refine J.goto (tgt := 323) dX7_readMore_215 (by decide) ?_
  refine J.vret dX7_readMore_323 rfl (Nat.le_refl _) (Nat.le_refl _) ⟨rfl, p9, aset pa 0 9 (a9 - 3), rfl, ?_⟩
  exact mQ_load hz hdr hd h7 hlo9 ht9 hf9
theorem mQ_prize {v : vT} {p p9 : Nat → Int32} {pa : Nat → Nat → Int32} {y : Nat → Nat} {d : rT} {a9 : Int32} (hz : zOK (v 4 0) y d) (hdr : dr p pa y d) (hd : dOK d) (h7 : y 7 = 0) (hlo : low5 p p9) (ht9 : (rdN (v 1) (v 4 0) 0 99 y).1 = true → a9 = nI ((rdN (v 1) (v 4 0) 0 99 y).2 3) ∧ rA v p9 ((rdN (v 1) (v 4 0) 0 99 y).2 2)) (hf9 : ¬ (rdN (v 1) (v 4 0) 0 99 y).1 = true → a9 = nI 0 ∧ rF p9 ((rdN (v 1) (v 4 0) 0 99 y).2 7) ((rdN (v 1) (v 4 0) 0 99 y).2 8)) : mQ v (y 2) p9 (aset pa 0 18 (a9 - 9)) (if (rdN (v 1) (v 4 0) 0 99 y).1 = true then (true, ((rdN (v 1) (v 4 0) 0 99 y).2, rset d 6 5 ((rdN (v 1) (v 4 0) 0 99 y).2 3))) else (false, ((rdN (v 1) (v 4 0) 0 99 y).2, d)) : Bool × pT) := by
  by_cases h1 : (rdN (v 1) (v 4 0) 0 99 y).1 = true
  · rw [if_pos h1]
    obtain ⟨rfl, hA8⟩ := ht9 h1
    obtain ⟨n1, n2, n3, n4⟩ := rdN_t h1
    have hp := rdN_p (b := v 1) (lo := 0) (up := 99) hz.1
    have hd8 := hdr.low hlo
    obtain ⟨⟨a0, a1, a2⟩, ⟨t3, b1, b2, b3, b4⟩, c1, c2, c3, c4, c5, c6, c7, c8⟩ := hd8
    obtain ⟨⟨g1, g2⟩, ⟨g3, g4, g5⟩, g6⟩ := hd
    have hk3 := hz.2.2.2.2.1
    have hk4 := hz.2.2.2.2.2.1
    refine mQ_t ⟨hA8, ⟨⟨a0, a1, a2⟩, ⟨t3, b1, b2, by rw [n3 5 (by decide)]; exact b3, by rw [n3 6 (by decide)]; exact b4⟩, by show p9 4 = _; rw [n3 4 (by decide)]; exact c1, ?_, ?_, ?_, ?_, ?_, ?_, ?_⟩, ⟨⟨g1, g2⟩, ⟨g3, g4, n2⟩, g6⟩, by show (rdN (v 1) (v 4 0) 0 99 y).2 7 = 0; rw [n3 7 (by decide)]; exact h7, hp.1, ?_⟩
    · intro i hi
      have hi : i < d 6 0 := hi
      rw [aset_n _ (by omega), aset_n _ (by omega)]
      exact c2 i hi
    · intro i hi
      rw [aset_n _ (by omega), n3 4 (by decide)]
      exact c3 i hi
    · rw [aset_n _ (by omega)]; exact c4
    · intro k hk
      have hk : k < d 6 1 := hk
      rw [aset_n _ (by omega), aset_n _ (by omega)]
      exact c5 k hk
    · rw [aset_s] <;> rfl
    · rw [aset_n _ (by omega)]; exact c7
    · intro i hi
      rw [aset_o _ (by decide), aset_o _ (by decide)]
      exact c8 i hi
    · exact ⟨hp.2, by rw [n3 4 (by decide)]; exact hz.2.1, by rw [n3 5 (by decide)]; exact hz.2.2.1, by rw [n3 6 (by decide)]; exact hz.2.2.2.1, hz.2.2.2.2⟩
  · rw [if_neg h1]
    exact ⟨fun h => absurd h Bool.false_ne_true, fun _ => (hf9 h1).2⟩
set_option maxRecDepth 100000 in
set_option maxHeartbeats 4000000 in
theorem mX7_readMore4 (s : Nat → Int32) (la : Nat → Int32) (r : rT) (v : vT) (c : Nat → Nat → Int32) (l : Nat → Int32) (tn : Int32) (p : Nat → Int32) (pa : Nat → Nat → Int32) (m : Nat) (q : rT) (b : Int32) (x : Nat → Nat) (h : Nat → Nat → Int64) (y : Nat → Nat) (d : rT) (hb : ∀ j, v 1 j < 128) (hl : v 4 0 ≤ 160) (hA : rA v p (y 2)) (hto : ntoB (v 1) (v 4 0) (y 2) = true) (hz : zOK (v 4 0) y d) (hdr : dr p pa y d) (hd : dOK d) (h7 : y 7 = 0) : J KX7_readMore 21 (fun o B => o = none ∧ ∃ p9 pa9, B = (wM s la r v c l tn p9 pa9 m q b x h) ∧ mQ v (y 2) p9 pa9 (if (rdN (v 1) (v 4 0) 0 99 y).1 = true then (true, ((rdN (v 1) (v 4 0) 0 99 y).2, rset d 6 5 ((rdN (v 1) (v 4 0) 0 99 y).2 3))) else (false, ((rdN (v 1) (v 4 0) 0 99 y).2, d)) : Bool × pT)) 0 [some (.ref 0), some (.int 4), none] [] (wM s la r v c l tn p pa m q b x h) 0 0 := by
  refine J.iload_n dX7_readMore_0 rfl rfl ?_
  refine J.if_ne (tgt := 77) dX7_readMore_1 (by decide) (fun c1 => ?_) (fun c1 => absurd c1 (by decide))
  refine J.iload_n dX7_readMore_77 rfl rfl ?_
  refine J.iconst (1) dX7_readMore_78 (by decide) ?_
  refine J.icmp_ne (tgt := 139) dX7_readMore_79 (by decide) (fun c79 => ?_) (fun c79 => absurd c79 (by decide))
  refine J.iload_n dX7_readMore_139 rfl rfl ?_
  refine J.iconst (2) dX7_readMore_140 (by decide) ?_
  refine J.icmp_ne (tgt := 194) dX7_readMore_141 (by decide) (fun c141 => ?_) (fun c141 => absurd c141 (by decide))
  refine J.iload_n dX7_readMore_194 rfl rfl ?_
  refine J.iconst (3) dX7_readMore_195 (by decide) ?_
  refine J.icmp_ne (tgt := 218) dX7_readMore_196 (by decide) (fun c196 => ?_) (fun c196 => absurd c196 (by decide))
  refine J.iload_n dX7_readMore_218 rfl rfl ?_
  refine J.iconst (4) dX7_readMore_219 (by decide) ?_
  refine J.icmp_ne (tgt := 243) dX7_readMore_220 (by decide) (fun c220 => absurd c220 (fun h => h rfl)) (fun c220 => ?_)
  refine J.aload_n dX7_readMore_223 rfl rfl ?_
  refine J.mg5 dX7_readMore_224 rfl ?_
  refine J.bipush (18) dX7_readMore_227 (by decide) ?_
  refine J.aload_n dX7_readMore_229 rfl rfl ?_
  refine J.iconst (0) dX7_readMore_230 (by decide) ?_
  refine J.bipush (99) dX7_readMore_231 (by decide) ?_
  refine J.cvM (as := [.int _, .int _]) s la r v c l tn p pa m q b x h okX7_number jcX7_126 (mX7_number s la r v c l tn p pa m q b x h y hb hl 0 99 (by decide) (by decide) hz.1 hA) dX7_readMore_233 rfl rfl rfl rfl (fun r9 B9 hq9 => ?_)
  obtain ⟨a9, p9, rfl, rfl, hlo9, ht9, hf9⟩ := hq9
  refine ⟨_, _, _, _, _, _, _, _, _, _, _, _, _, _, rfl, ?_⟩
  show J _ _ _ _ _ (.int _ :: _) (wM s la r v c l tn p9 pa m q b x h) _ _
  refine J.bipush (9) dX7_readMore_236 (by decide) ?_
  refine J.isub dX7_readMore_238 ?_
  refine J.ms3 (18) dX7_readMore_239 rfl (by decide) ?_
  try dsimp only [List.set]
  refine J.goto (tgt := 323) dX7_readMore_240 (by decide) ?_
  refine J.vret dX7_readMore_323 rfl (Nat.le_refl _) (Nat.le_refl _) ⟨rfl, p9, aset pa 0 18 (a9 - 9), rfl, ?_⟩
  exact mQ_prize hz hdr hd h7 hlo9 ht9 hf9
theorem br_ev : ∀ w, w < 8 → ∀ i, i < 3 → nI w ||| 1 <<< (nI i &&& 31) = nI (w ||| 2 ^ i) := by decide +kernel
theorem br_b : ∀ w, w < 8 → ∀ i, i < 3 → ∀ j, j < 3 → bit (w ||| 2 ^ i) j = if j = i then 1 else bit w j := by decide +kernel
theorem br_l : ∀ w, w < 8 → ∀ i, i < 3 → w ||| 2 ^ i < 8 := by decide
theorem rdN_t4 {b : Nat → Nat} {len lo up : Nat} {y : Nat → Nat} (h : (rdN b len lo up y).1 = true) : (rdN b len lo up y).2 4 = y 4 := (rdN_t h).2.2.1 4 (by decide)
theorem mQ_broken {v : vT} {p p9 : Nat → Int32} {pa : Nat → Nat → Int32} {y : Nat → Nat} {d : rT} {V : Nat} (hz : zOK (v 4 0) y d) (hdr : dr p pa y d) (hd : dOK d) (h7 : y 7 = 0) (h1 : (rdN (v 1) (v 4 0) 0 2 y).1 = true) (e3 : (rdN (v 1) (v 4 0) 0 2 y).2 3 = V) (hV : V < 3) (hbt : ¬ bit (y 4) V = 1) (hlo : low5 p p9) (hA8 : rA v p9 ((rdN (v 1) (v 4 0) 0 2 y).2 2)) : mQ v (y 2) (pset p9 4 (nI (y 4 ||| 2 ^ V))) (aset pa 0 (3 * V + 2) 1) (rdBr (v 1) (v 4 0) y d) := by
  have eR : (rdBr (v 1) (v 4 0) y d) = (true, (yset (rdN (v 1) (v 4 0) 0 2 y).2 4 (y 4 ||| 2 ^ V), d)) := by unfold rdBr; rw [if_pos h1, e3, rdN_t4 h1, if_neg hbt]
  obtain ⟨n1, n2, n3, n4⟩ := rdN_t h1
  have hp := rdN_p (b := v 1) (lo := 0) (up := 2) hz.1
  have hd8 := hdr.low hlo
  obtain ⟨⟨a0, a1, a2⟩, ⟨t3, b1, b2, b3, b4⟩, c1, c2, c3, c4, c5, c6, c7, c8⟩ := hd8
  have hk3 := hz.2.2.2.2.1
  have hk4 := hz.2.2.2.2.2.1
  rw [eR]
  refine mQ_t ⟨hA8.up (pset_hi (by decide)), ⟨⟨a0, a1, a2⟩, ⟨t3, b1, b2, by show _ = (rdN (v 1) (v 4 0) 0 2 y).2 5; rw [n3 5 (by decide)]; exact b3, by show _ = (rdN (v 1) (v 4 0) 0 2 y).2 6; rw [n3 6 (by decide)]; exact b4⟩, rfl, ?_, ?_, ?_, ?_, ?_, ?_, ?_⟩, hd, by show (rdN (v 1) (v 4 0) 0 2 y).2 7 = 0; rw [n3 7 (by decide)]; exact h7, hp.1, ?_⟩
  · intro i hi
    have hi : i < d 6 0 := hi
    rw [aset_n _ (by omega), aset_n _ (by omega)]
    exact c2 i hi
  · intro i hi
    show _ = nI (bit (y 4 ||| 2 ^ V) i)
    rw [br_b _ hz.2.1 V hV i hi]
    by_cases e : i = V
    · subst e
      rw [aset_s, if_pos rfl]
      rfl
    · rw [aset_n _ (by omega), if_neg e]
      exact c3 i hi
  · rw [aset_n _ (by omega)]; exact c4
  · intro k hk
    have hk : k < d 6 1 := hk
    rw [aset_n _ (by omega), aset_n _ (by omega)]
    exact c5 k hk
  · rw [aset_n _ (by omega)]; exact c6
  · rw [aset_n _ (by omega)]; exact c7
  · intro i hi
    rw [aset_o _ (by decide), aset_o _ (by decide)]
    exact c8 i hi
  · exact ⟨hp.2, br_l _ hz.2.1 V hV, by show (rdN (v 1) (v 4 0) 0 2 y).2 5 ≤ 1; rw [n3 5 (by decide)]; exact hz.2.2.1, by show (rdN (v 1) (v 4 0) 0 2 y).2 6 ≤ 1; rw [n3 6 (by decide)]; exact hz.2.2.2.1, hz.2.2.2.2⟩
set_option maxRecDepth 100000 in
set_option maxHeartbeats 4000000 in
theorem mX7_readMore5 (s : Nat → Int32) (la : Nat → Int32) (r : rT) (v : vT) (c : Nat → Nat → Int32) (l : Nat → Int32) (tn : Int32) (p : Nat → Int32) (pa : Nat → Nat → Int32) (m : Nat) (q : rT) (b : Int32) (x : Nat → Nat) (h : Nat → Nat → Int64) (y : Nat → Nat) (d : rT) (hb : ∀ j, v 1 j < 128) (hl : v 4 0 ≤ 160) (hA : rA v p (y 2)) (hto : ntoB (v 1) (v 4 0) (y 2) = true) (hz : zOK (v 4 0) y d) (hdr : dr p pa y d) (hd : dOK d) (h7 : y 7 = 0) : J KX7_readMore 21 (fun o B => o = none ∧ ∃ p9 pa9, B = (wM s la r v c l tn p9 pa9 m q b x h) ∧ mQ v (y 2) p9 pa9 (rdBr (v 1) (v 4 0) y d)) 0 [some (.ref 0), some (.int 5), none] [] (wM s la r v c l tn p pa m q b x h) 0 0 := by
  have hok := hA.ok hto
  by_cases hs : (yN (v 1) (v 4 0) y) 0 = 2
  · have hv9 : (vl (v 1) ((yN (v 1) (v 4 0) y) 1) ((yN (v 1) (v 4 0) y) 2 - (yN (v 1) (v 4 0) y) 1)) < 2147483648 := by
      have h1 := (yN_d hz.1 hb hto hs).1
      have h2 := vl_lem (v 1) hb ((yN (v 1) (v 4 0) y) 1) ((yN (v 1) (v 4 0) y) 2 - (yN (v 1) (v 4 0) y) 1)
      have h3 : 11 ^ ((yN (v 1) (v 4 0) y) 2 - (yN (v 1) (v 4 0) y) 1) ≤ 11 ^ 2 := Nat.pow_le_pow_right (by decide) h1
      omega
    by_cases hv2 : (vl (v 1) ((yN (v 1) (v 4 0) y) 1) ((yN (v 1) (v 4 0) y) 2 - (yN (v 1) (v 4 0) y) 1)) ≤ 2
    · have h1 : (rdN (v 1) (v 4 0) 0 2 y).1 = true := by unfold rdN; rw [if_pos hto, if_pos hs, if_pos ⟨Nat.zero_le _, hv2⟩]
      have e3 : (rdN (v 1) (v 4 0) 0 2 y).2 3 = (vl (v 1) ((yN (v 1) (v 4 0) y) 1) ((yN (v 1) (v 4 0) y) 2 - (yN (v 1) (v 4 0) y) 1)) := by unfold rdN; rw [if_pos hto, if_pos hs, if_pos ⟨Nat.zero_le _, hv2⟩]; rfl
      by_cases hbt : bit (y 4) (vl (v 1) ((yN (v 1) (v 4 0) y) 1) ((yN (v 1) (v 4 0) y) 2 - (yN (v 1) (v 4 0) y) 1)) = 1
      · skip
        refine J.iload_n dX7_readMore_0 rfl rfl ?_
        refine J.if_ne (tgt := 77) dX7_readMore_1 (by decide) (fun c1 => ?_) (fun c1 => absurd c1 (by decide))
        refine J.iload_n dX7_readMore_77 rfl rfl ?_
        refine J.iconst (1) dX7_readMore_78 (by decide) ?_
        refine J.icmp_ne (tgt := 139) dX7_readMore_79 (by decide) (fun c79 => ?_) (fun c79 => absurd c79 (by decide))
        refine J.iload_n dX7_readMore_139 rfl rfl ?_
        refine J.iconst (2) dX7_readMore_140 (by decide) ?_
        refine J.icmp_ne (tgt := 194) dX7_readMore_141 (by decide) (fun c141 => ?_) (fun c141 => absurd c141 (by decide))
        refine J.iload_n dX7_readMore_194 rfl rfl ?_
        refine J.iconst (3) dX7_readMore_195 (by decide) ?_
        refine J.icmp_ne (tgt := 218) dX7_readMore_196 (by decide) (fun c196 => ?_) (fun c196 => absurd c196 (by decide))
        refine J.iload_n dX7_readMore_218 rfl rfl ?_
        refine J.iconst (4) dX7_readMore_219 (by decide) ?_
        refine J.icmp_ne (tgt := 243) dX7_readMore_220 (by decide) (fun c220 => ?_) (fun c220 => absurd c220 (by decide))
        refine J.aload_n dX7_readMore_243 rfl rfl ?_
        refine J.mg15 dX7_readMore_244 rfl ?_
        refine J.if_ne (tgt := 293) dX7_readMore_247 (by decide) (fun c247 => absurd c247 (fun h => h hok.1)) (fun c247 => ?_)
        refine J.aload_n dX7_readMore_250 rfl rfl ?_
        refine J.mg19 dX7_readMore_251 rfl ?_
        rw [hok.2.2.2.1]
        refine J.iconst (2) dX7_readMore_254 (by decide) ?_
        refine J.icmp_ne (tgt := 293) dX7_readMore_255 (by decide) (fun c255 => absurd c255 (fun h => h (congrArg nI hs))) (fun c255 => ?_)
        refine J.aload_n dX7_readMore_258 rfl rfl ?_
        refine J.mg20 dX7_readMore_259 rfl ?_
        rw [show p 10 = nI (vl (v 1) ((yN (v 1) (v 4 0) y) 1) ((yN (v 1) (v 4 0) y) 2 - (yN (v 1) (v 4 0) y) 1)) from hok.2.2.2.2 hs]
        refine J.i2l dX7_readMore_262 ?_
        refine J.lconst 0 dX7_readMore_263 (by decide) ?_
        refine J.ldc2 (v := 2) dX7_readMore_264 (jt 956 rfl rfl) ?_
        refine J.cs (as := [.long _, .long _, .long _]) (is := []) okX7_in jcX7_74 (mX7_inI (nI (vl (v 1) ((yN (v 1) (v 4 0) y) 1) ((yN (v 1) (v 4 0) y) 2 - (yN (v 1) (v 4 0) y) 1))) 0 2 (by decide) (by decide)) dX7_readMore_267 rfl rfl rfl rfl rfl rfl (fun r9 B9 hq => ?_)
        obtain ⟨rfl, rfl⟩ := hq
        refine ⟨rfl, ?_⟩
        show J _ _ _ _ _ (.int _ :: _) (wM s la r v c l tn p pa m q b x h) _ _
        refine J.if_eq (tgt := 293) dX7_readMore_270 (by decide) (fun c270 => absurd c270 (fun h => (jB_0 _).mp h ⟨nI_pos' hv9, (nI_lei (b := 2) hv9 (by decide)).mpr hv2⟩)) (fun c270 => ?_)
        refine J.aload_n dX7_readMore_273 rfl rfl ?_
        refine J.mg11 dX7_readMore_274 rfl ?_
        rw [hdr.2.2.1]
        refine J.aload_n dX7_readMore_277 rfl rfl ?_
        refine J.mg20 dX7_readMore_278 rfl ?_
        rw [show p 10 = nI (vl (v 1) ((yN (v 1) (v 4 0) y) 1) ((yN (v 1) (v 4 0) y) 2 - (yN (v 1) (v 4 0) y) 1)) from hok.2.2.2.2 hs]
        refine J.ishr dX7_readMore_281 ?_
        refine J.iconst (1) dX7_readMore_282 (by decide) ?_
        refine J.iand dX7_readMore_283 ?_
        refine J.iconst (1) dX7_readMore_284 (by decide) ?_
        rw [bit_eval _ hz.2.1 (vl (v 1) ((yN (v 1) (v 4 0) y) 1) ((yN (v 1) (v 4 0) y) 2 - (yN (v 1) (v 4 0) y) 1)) (by omega)]
        refine J.icmp_ne (tgt := 293) dX7_readMore_285 (by decide) (fun c285 => absurd c285 (fun h => h (by rw [hbt] <;> rfl))) (fun c285 => ?_)
        refine J.aload_n dX7_readMore_288 rfl rfl ?_
        refine J.iconst (4) dX7_readMore_289 (by decide) ?_
        refine J.cvM (as := [.int _]) s la r v c l tn p pa m q b x h okX7_fails jcX7_112 (mX7_fails s la r v c l tn p pa m q b x h 4 hok.1) dX7_readMore_290 rfl rfl rfl rfl (fun r9 B9 hq9 => ?_)
        obtain ⟨rfl, rfl⟩ := hq9
        refine ⟨_, _, _, _, _, _, _, _, _, _, _, _, _, _, rfl, ?_⟩
        show J _ _ _ _ _ [] (wM s la r v c l tn (pset (pset p 5 (nI 4)) 6 (p 8)) pa m q b x h) _ _
        refine J.aload_n dX7_readMore_293 rfl rfl ?_
        refine J.iconst (0) dX7_readMore_294 (by decide) ?_
        refine J.iconst (2) dX7_readMore_295 (by decide) ?_
        refine J.cvM (as := [.int _, .int _]) s la r v c l tn (pset (pset p 5 (nI 4)) 6 (p 8)) pa m q b x h okX7_number jcX7_126 (mX7_numberx s la r v c l tn (pset (pset p 5 (nI 4)) 6 (p 8)) pa m q b x h 0 2 4 ((yN (v 1) (v 4 0) y) 1) ⟨rfl, hok.2.2.1, by decide, by decide⟩) dX7_readMore_296 rfl rfl rfl rfl (fun r9 B9 hq9 => ?_)
        obtain ⟨rfl, rfl⟩ := hq9
        refine ⟨_, _, _, _, _, _, _, _, _, _, _, _, _, _, rfl, ?_⟩
        show J _ _ _ _ _ (.int _ :: _) (wM s la r v c l tn (pset (pset p 5 (nI 4)) 6 (p 8)) pa m q b x h) _ _
        refine J.istore_n dX7_readMore_299 rfl (by decide) rfl ?_
        try dsimp only [List.set]
        refine J.aload_n dX7_readMore_300 rfl rfl ?_
        refine J.dup dX7_readMore_301 rfl ?_
        refine J.mg11 dX7_readMore_302 rfl ?_
        rw [show (pset (pset p 5 (nI 4)) 6 (p 8)) 4 = nI (y 4) from hdr.2.2.1]
        refine J.iconst (1) dX7_readMore_305 (by decide) ?_
        refine J.iload_n dX7_readMore_306 rfl rfl ?_
        refine J.ishl dX7_readMore_307 ?_
        refine J.ior dX7_readMore_308 ?_
        rw [show (0 : Int32) = nI 0 from rfl, br_ev _ hz.2.1 0 (by decide)]
        refine J.mp11 dX7_readMore_309 rfl ?_
        try dsimp only [List.set]
        refine J.aload_n dX7_readMore_312 rfl rfl ?_
        refine J.mg5 dX7_readMore_313 rfl ?_
        refine J.iconst (3) dX7_readMore_316 (by decide) ?_
        refine J.iload_n dX7_readMore_317 rfl rfl ?_
        refine J.imul dX7_readMore_318 ?_
        refine J.iconst (2) dX7_readMore_319 (by decide) ?_
        refine J.iadd dX7_readMore_320 ?_
        refine J.iconst (1) dX7_readMore_321 (by decide) ?_
        refine J.ms3 (2) dX7_readMore_322 rfl (by decide) ?_
        try dsimp only [List.set]
        have eR : (rdBr (v 1) (v 4 0) y d) = (false, (yF (rdN (v 1) (v 4 0) 0 2 y).2 4 ((rdN (v 1) (v 4 0) 0 2 y).2 1), d)) := by unfold rdBr; rw [if_pos h1, e3, rdN_t4 h1, if_pos hbt]
        refine J.vret dX7_readMore_323 rfl (Nat.le_refl _) (Nat.le_refl _) ⟨rfl, _, _, rfl, fun h9 => absurd h9 (by rw [eR]; exact Bool.false_ne_true), fun _ => ?_⟩
        rw [eR]
        exact rF.up (p := (pset (pset p 5 (nI 4)) 6 (p 8))) ⟨rfl, by show _ = nI ((rdN (v 1) (v 4 0) 0 2 y).2 1); rw [rdN_1]; exact hok.2.2.1, show 0 < 4 by decide, show 4 < 100 by decide⟩ (pset_hi (by decide))
      · skip
        refine J.iload_n dX7_readMore_0 rfl rfl ?_
        refine J.if_ne (tgt := 77) dX7_readMore_1 (by decide) (fun c1 => ?_) (fun c1 => absurd c1 (by decide))
        refine J.iload_n dX7_readMore_77 rfl rfl ?_
        refine J.iconst (1) dX7_readMore_78 (by decide) ?_
        refine J.icmp_ne (tgt := 139) dX7_readMore_79 (by decide) (fun c79 => ?_) (fun c79 => absurd c79 (by decide))
        refine J.iload_n dX7_readMore_139 rfl rfl ?_
        refine J.iconst (2) dX7_readMore_140 (by decide) ?_
        refine J.icmp_ne (tgt := 194) dX7_readMore_141 (by decide) (fun c141 => ?_) (fun c141 => absurd c141 (by decide))
        refine J.iload_n dX7_readMore_194 rfl rfl ?_
        refine J.iconst (3) dX7_readMore_195 (by decide) ?_
        refine J.icmp_ne (tgt := 218) dX7_readMore_196 (by decide) (fun c196 => ?_) (fun c196 => absurd c196 (by decide))
        refine J.iload_n dX7_readMore_218 rfl rfl ?_
        refine J.iconst (4) dX7_readMore_219 (by decide) ?_
        refine J.icmp_ne (tgt := 243) dX7_readMore_220 (by decide) (fun c220 => ?_) (fun c220 => absurd c220 (by decide))
        refine J.aload_n dX7_readMore_243 rfl rfl ?_
        refine J.mg15 dX7_readMore_244 rfl ?_
        refine J.if_ne (tgt := 293) dX7_readMore_247 (by decide) (fun c247 => absurd c247 (fun h => h hok.1)) (fun c247 => ?_)
        refine J.aload_n dX7_readMore_250 rfl rfl ?_
        refine J.mg19 dX7_readMore_251 rfl ?_
        rw [hok.2.2.2.1]
        refine J.iconst (2) dX7_readMore_254 (by decide) ?_
        refine J.icmp_ne (tgt := 293) dX7_readMore_255 (by decide) (fun c255 => absurd c255 (fun h => h (congrArg nI hs))) (fun c255 => ?_)
        refine J.aload_n dX7_readMore_258 rfl rfl ?_
        refine J.mg20 dX7_readMore_259 rfl ?_
        rw [show p 10 = nI (vl (v 1) ((yN (v 1) (v 4 0) y) 1) ((yN (v 1) (v 4 0) y) 2 - (yN (v 1) (v 4 0) y) 1)) from hok.2.2.2.2 hs]
        refine J.i2l dX7_readMore_262 ?_
        refine J.lconst 0 dX7_readMore_263 (by decide) ?_
        refine J.ldc2 (v := 2) dX7_readMore_264 (jt 956 rfl rfl) ?_
        refine J.cs (as := [.long _, .long _, .long _]) (is := []) okX7_in jcX7_74 (mX7_inI (nI (vl (v 1) ((yN (v 1) (v 4 0) y) 1) ((yN (v 1) (v 4 0) y) 2 - (yN (v 1) (v 4 0) y) 1))) 0 2 (by decide) (by decide)) dX7_readMore_267 rfl rfl rfl rfl rfl rfl (fun r9 B9 hq => ?_)
        obtain ⟨rfl, rfl⟩ := hq
        refine ⟨rfl, ?_⟩
        show J _ _ _ _ _ (.int _ :: _) (wM s la r v c l tn p pa m q b x h) _ _
        refine J.if_eq (tgt := 293) dX7_readMore_270 (by decide) (fun c270 => absurd c270 (fun h => (jB_0 _).mp h ⟨nI_pos' hv9, (nI_lei (b := 2) hv9 (by decide)).mpr hv2⟩)) (fun c270 => ?_)
        refine J.aload_n dX7_readMore_273 rfl rfl ?_
        refine J.mg11 dX7_readMore_274 rfl ?_
        rw [hdr.2.2.1]
        refine J.aload_n dX7_readMore_277 rfl rfl ?_
        refine J.mg20 dX7_readMore_278 rfl ?_
        rw [show p 10 = nI (vl (v 1) ((yN (v 1) (v 4 0) y) 1) ((yN (v 1) (v 4 0) y) 2 - (yN (v 1) (v 4 0) y) 1)) from hok.2.2.2.2 hs]
        refine J.ishr dX7_readMore_281 ?_
        refine J.iconst (1) dX7_readMore_282 (by decide) ?_
        refine J.iand dX7_readMore_283 ?_
        refine J.iconst (1) dX7_readMore_284 (by decide) ?_
        rw [bit_eval _ hz.2.1 (vl (v 1) ((yN (v 1) (v 4 0) y) 1) ((yN (v 1) (v 4 0) y) 2 - (yN (v 1) (v 4 0) y) 1)) (by omega)]
        refine J.icmp_ne (tgt := 293) dX7_readMore_285 (by decide) (fun c285 => ?_) (fun c285 => absurd c285 (fun h => hbt ((nI_eqi (b := 1) (by have := bit_le (y 4) (vl (v 1) ((yN (v 1) (v 4 0) y) 1) ((yN (v 1) (v 4 0) y) 2 - (yN (v 1) (v 4 0) y) 1)); omega) (by decide)).mp h)))
        refine J.aload_n dX7_readMore_293 rfl rfl ?_
        refine J.iconst (0) dX7_readMore_294 (by decide) ?_
        refine J.iconst (2) dX7_readMore_295 (by decide) ?_
        refine J.cvM (as := [.int _, .int _]) s la r v c l tn p pa m q b x h okX7_number jcX7_126 (mX7_number s la r v c l tn p pa m q b x h y hb hl 0 2 (by decide) (by decide) hz.1 hA) dX7_readMore_296 rfl rfl rfl rfl (fun r9 B9 hq9 => ?_)
        obtain ⟨a9, p9, rfl, rfl, hlo9, ht9, hf9⟩ := hq9
        refine ⟨_, _, _, _, _, _, _, _, _, _, _, _, _, _, rfl, ?_⟩
        show J _ _ _ _ _ (.int _ :: _) (wM s la r v c l tn p9 pa m q b x h) _ _
        have ha9 : a9 = nI (vl (v 1) ((yN (v 1) (v 4 0) y) 1) ((yN (v 1) (v 4 0) y) 2 - (yN (v 1) (v 4 0) y) 1)) := (ht9 h1).1.trans (congrArg nI e3)
        refine J.istore_n dX7_readMore_299 rfl (by decide) rfl ?_
        try dsimp only [List.set]
        refine J.aload_n dX7_readMore_300 rfl rfl ?_
        refine J.dup dX7_readMore_301 rfl ?_
        refine J.mg11 dX7_readMore_302 rfl ?_
        rw [hlo9 4 (by decide), hdr.2.2.1, ha9]
        refine J.iconst (1) dX7_readMore_305 (by decide) ?_
        refine J.iload_n dX7_readMore_306 rfl rfl ?_
        refine J.ishl dX7_readMore_307 ?_
        refine J.ior dX7_readMore_308 ?_
        rw [br_ev _ hz.2.1 (vl (v 1) ((yN (v 1) (v 4 0) y) 1) ((yN (v 1) (v 4 0) y) 2 - (yN (v 1) (v 4 0) y) 1)) (by omega)]
        refine J.mp11 dX7_readMore_309 rfl ?_
        try dsimp only [List.set]
        refine J.aload_n dX7_readMore_312 rfl rfl ?_
        refine J.mg5 dX7_readMore_313 rfl ?_
        refine J.iconst (3) dX7_readMore_316 (by decide) ?_
        refine J.iload_n dX7_readMore_317 rfl rfl ?_
        refine J.imul dX7_readMore_318 ?_
        refine J.iconst (2) dX7_readMore_319 (by decide) ?_
        refine J.iadd dX7_readMore_320 ?_
        refine J.iconst (1) dX7_readMore_321 (by decide) ?_
        refine J.ms3 (3 * (vl (v 1) ((yN (v 1) (v 4 0) y) 1) ((yN (v 1) (v 4 0) y) 2 - (yN (v 1) (v 4 0) y) 1)) + 2) dX7_readMore_322 (ix 3 (vl (v 1) ((yN (v 1) (v 4 0) y) 1) ((yN (v 1) (v 4 0) y) 2 - (yN (v 1) (v 4 0) y) 1)) 2) (by omega) ?_
        try dsimp only [List.set]
        refine J.vret dX7_readMore_323 rfl (Nat.le_refl _) (Nat.le_refl _) ⟨rfl, pset p9 4 (nI (y 4 ||| 2 ^ (vl (v 1) ((yN (v 1) (v 4 0) y) 1) ((yN (v 1) (v 4 0) y) 2 - (yN (v 1) (v 4 0) y) 1)))), aset pa 0 (3 * (vl (v 1) ((yN (v 1) (v 4 0) y) 1) ((yN (v 1) (v 4 0) y) 2 - (yN (v 1) (v 4 0) y) 1)) + 2) 1, rfl, ?_⟩
        exact mQ_broken hz hdr hd h7 h1 e3 (by omega) hbt hlo9 (ht9 h1).2
    · have h1 : ¬ (rdN (v 1) (v 4 0) 0 2 y).1 = true := by unfold rdN; rw [if_pos hto, if_pos hs, if_neg (fun h => hv2 h.2)]; exact Bool.false_ne_true
      refine J.iload_n dX7_readMore_0 rfl rfl ?_
      refine J.if_ne (tgt := 77) dX7_readMore_1 (by decide) (fun c1 => ?_) (fun c1 => absurd c1 (by decide))
      refine J.iload_n dX7_readMore_77 rfl rfl ?_
      refine J.iconst (1) dX7_readMore_78 (by decide) ?_
      refine J.icmp_ne (tgt := 139) dX7_readMore_79 (by decide) (fun c79 => ?_) (fun c79 => absurd c79 (by decide))
      refine J.iload_n dX7_readMore_139 rfl rfl ?_
      refine J.iconst (2) dX7_readMore_140 (by decide) ?_
      refine J.icmp_ne (tgt := 194) dX7_readMore_141 (by decide) (fun c141 => ?_) (fun c141 => absurd c141 (by decide))
      refine J.iload_n dX7_readMore_194 rfl rfl ?_
      refine J.iconst (3) dX7_readMore_195 (by decide) ?_
      refine J.icmp_ne (tgt := 218) dX7_readMore_196 (by decide) (fun c196 => ?_) (fun c196 => absurd c196 (by decide))
      refine J.iload_n dX7_readMore_218 rfl rfl ?_
      refine J.iconst (4) dX7_readMore_219 (by decide) ?_
      refine J.icmp_ne (tgt := 243) dX7_readMore_220 (by decide) (fun c220 => ?_) (fun c220 => absurd c220 (by decide))
      refine J.aload_n dX7_readMore_243 rfl rfl ?_
      refine J.mg15 dX7_readMore_244 rfl ?_
      refine J.if_ne (tgt := 293) dX7_readMore_247 (by decide) (fun c247 => absurd c247 (fun h => h hok.1)) (fun c247 => ?_)
      refine J.aload_n dX7_readMore_250 rfl rfl ?_
      refine J.mg19 dX7_readMore_251 rfl ?_
      rw [hok.2.2.2.1]
      refine J.iconst (2) dX7_readMore_254 (by decide) ?_
      refine J.icmp_ne (tgt := 293) dX7_readMore_255 (by decide) (fun c255 => absurd c255 (fun h => h (congrArg nI hs))) (fun c255 => ?_)
      refine J.aload_n dX7_readMore_258 rfl rfl ?_
      refine J.mg20 dX7_readMore_259 rfl ?_
      rw [show p 10 = nI (vl (v 1) ((yN (v 1) (v 4 0) y) 1) ((yN (v 1) (v 4 0) y) 2 - (yN (v 1) (v 4 0) y) 1)) from hok.2.2.2.2 hs]
      refine J.i2l dX7_readMore_262 ?_
      refine J.lconst 0 dX7_readMore_263 (by decide) ?_
      refine J.ldc2 (v := 2) dX7_readMore_264 (jt 956 rfl rfl) ?_
      refine J.cs (as := [.long _, .long _, .long _]) (is := []) okX7_in jcX7_74 (mX7_inI (nI (vl (v 1) ((yN (v 1) (v 4 0) y) 1) ((yN (v 1) (v 4 0) y) 2 - (yN (v 1) (v 4 0) y) 1))) 0 2 (by decide) (by decide)) dX7_readMore_267 rfl rfl rfl rfl rfl rfl (fun r9 B9 hq => ?_)
      obtain ⟨rfl, rfl⟩ := hq
      refine ⟨rfl, ?_⟩
      show J _ _ _ _ _ (.int _ :: _) (wM s la r v c l tn p pa m q b x h) _ _
      refine J.if_eq (tgt := 293) dX7_readMore_270 (by decide) (fun c270 => ?_) (fun c270 => absurd c270 (fun h => h ((jB_0 _).mpr (fun h => hv2 ((nI_lei (b := 2) hv9 (by decide)).mp h.2)))))
      refine J.aload_n dX7_readMore_293 rfl rfl ?_
      refine J.iconst (0) dX7_readMore_294 (by decide) ?_
      refine J.iconst (2) dX7_readMore_295 (by decide) ?_
      refine J.cvM (as := [.int _, .int _]) s la r v c l tn p pa m q b x h okX7_number jcX7_126 (mX7_number s la r v c l tn p pa m q b x h y hb hl 0 2 (by decide) (by decide) hz.1 hA) dX7_readMore_296 rfl rfl rfl rfl (fun r9 B9 hq9 => ?_)
      obtain ⟨a9, p9, rfl, rfl, hlo9, ht9, hf9⟩ := hq9
      refine ⟨_, _, _, _, _, _, _, _, _, _, _, _, _, _, rfl, ?_⟩
      show J _ _ _ _ _ (.int _ :: _) (wM s la r v c l tn p9 pa m q b x h) _ _
      refine J.istore_n dX7_readMore_299 rfl (by decide) rfl ?_
      try dsimp only [List.set]
      refine J.aload_n dX7_readMore_300 rfl rfl ?_
      refine J.dup dX7_readMore_301 rfl ?_
      refine J.mg11 dX7_readMore_302 rfl ?_
      rw [hlo9 4 (by decide), hdr.2.2.1, (hf9 h1).1]
      refine J.iconst (1) dX7_readMore_305 (by decide) ?_
      refine J.iload_n dX7_readMore_306 rfl rfl ?_
      refine J.ishl dX7_readMore_307 ?_
      refine J.ior dX7_readMore_308 ?_
      rw [br_ev _ hz.2.1 0 (by decide)]
      refine J.mp11 dX7_readMore_309 rfl ?_
      try dsimp only [List.set]
      refine J.aload_n dX7_readMore_312 rfl rfl ?_
      refine J.mg5 dX7_readMore_313 rfl ?_
      refine J.iconst (3) dX7_readMore_316 (by decide) ?_
      refine J.iload_n dX7_readMore_317 rfl rfl ?_
      refine J.imul dX7_readMore_318 ?_
      refine J.iconst (2) dX7_readMore_319 (by decide) ?_
      refine J.iadd dX7_readMore_320 ?_
      refine J.iconst (1) dX7_readMore_321 (by decide) ?_
      refine J.ms3 (2) dX7_readMore_322 rfl (by decide) ?_
      try dsimp only [List.set]
      have eR : (rdBr (v 1) (v 4 0) y d) = (false, ((rdN (v 1) (v 4 0) 0 2 y).2, d)) := by unfold rdBr; rw [if_neg h1]
      refine J.vret dX7_readMore_323 rfl (Nat.le_refl _) (Nat.le_refl _) ⟨rfl, _, _, rfl, fun h9 => absurd h9 (by rw [eR]; exact Bool.false_ne_true), fun _ => ?_⟩
      rw [eR]
      exact (hf9 h1).2.up (pset_hi (by decide))
  · have h1 : ¬ (rdN (v 1) (v 4 0) 0 2 y).1 = true := by unfold rdN; rw [if_pos hto, if_neg hs]; exact Bool.false_ne_true
    refine J.iload_n dX7_readMore_0 rfl rfl ?_
    refine J.if_ne (tgt := 77) dX7_readMore_1 (by decide) (fun c1 => ?_) (fun c1 => absurd c1 (by decide))
    refine J.iload_n dX7_readMore_77 rfl rfl ?_
    refine J.iconst (1) dX7_readMore_78 (by decide) ?_
    refine J.icmp_ne (tgt := 139) dX7_readMore_79 (by decide) (fun c79 => ?_) (fun c79 => absurd c79 (by decide))
    refine J.iload_n dX7_readMore_139 rfl rfl ?_
    refine J.iconst (2) dX7_readMore_140 (by decide) ?_
    refine J.icmp_ne (tgt := 194) dX7_readMore_141 (by decide) (fun c141 => ?_) (fun c141 => absurd c141 (by decide))
    refine J.iload_n dX7_readMore_194 rfl rfl ?_
    refine J.iconst (3) dX7_readMore_195 (by decide) ?_
    refine J.icmp_ne (tgt := 218) dX7_readMore_196 (by decide) (fun c196 => ?_) (fun c196 => absurd c196 (by decide))
    refine J.iload_n dX7_readMore_218 rfl rfl ?_
    refine J.iconst (4) dX7_readMore_219 (by decide) ?_
    refine J.icmp_ne (tgt := 243) dX7_readMore_220 (by decide) (fun c220 => ?_) (fun c220 => absurd c220 (by decide))
    refine J.aload_n dX7_readMore_243 rfl rfl ?_
    refine J.mg15 dX7_readMore_244 rfl ?_
    refine J.if_ne (tgt := 293) dX7_readMore_247 (by decide) (fun c247 => absurd c247 (fun h => h hok.1)) (fun c247 => ?_)
    refine J.aload_n dX7_readMore_250 rfl rfl ?_
    refine J.mg19 dX7_readMore_251 rfl ?_
    rw [hok.2.2.2.1]
    refine J.iconst (2) dX7_readMore_254 (by decide) ?_
    refine J.icmp_ne (tgt := 293) dX7_readMore_255 (by decide) (fun c255 => ?_) (fun c255 => absurd c255 (fun h => hs ((nI_eqi (b := 2) (by have := yN_0 (v 1) (v 4 0) y; omega) (by decide)).mp h)))
    refine J.aload_n dX7_readMore_293 rfl rfl ?_
    refine J.iconst (0) dX7_readMore_294 (by decide) ?_
    refine J.iconst (2) dX7_readMore_295 (by decide) ?_
    refine J.cvM (as := [.int _, .int _]) s la r v c l tn p pa m q b x h okX7_number jcX7_126 (mX7_number s la r v c l tn p pa m q b x h y hb hl 0 2 (by decide) (by decide) hz.1 hA) dX7_readMore_296 rfl rfl rfl rfl (fun r9 B9 hq9 => ?_)
    obtain ⟨a9, p9, rfl, rfl, hlo9, ht9, hf9⟩ := hq9
    refine ⟨_, _, _, _, _, _, _, _, _, _, _, _, _, _, rfl, ?_⟩
    show J _ _ _ _ _ (.int _ :: _) (wM s la r v c l tn p9 pa m q b x h) _ _
    refine J.istore_n dX7_readMore_299 rfl (by decide) rfl ?_
    try dsimp only [List.set]
    refine J.aload_n dX7_readMore_300 rfl rfl ?_
    refine J.dup dX7_readMore_301 rfl ?_
    refine J.mg11 dX7_readMore_302 rfl ?_
    rw [hlo9 4 (by decide), hdr.2.2.1, (hf9 h1).1]
    refine J.iconst (1) dX7_readMore_305 (by decide) ?_
    refine J.iload_n dX7_readMore_306 rfl rfl ?_
    refine J.ishl dX7_readMore_307 ?_
    refine J.ior dX7_readMore_308 ?_
    rw [br_ev _ hz.2.1 0 (by decide)]
    refine J.mp11 dX7_readMore_309 rfl ?_
    try dsimp only [List.set]
    refine J.aload_n dX7_readMore_312 rfl rfl ?_
    refine J.mg5 dX7_readMore_313 rfl ?_
    refine J.iconst (3) dX7_readMore_316 (by decide) ?_
    refine J.iload_n dX7_readMore_317 rfl rfl ?_
    refine J.imul dX7_readMore_318 ?_
    refine J.iconst (2) dX7_readMore_319 (by decide) ?_
    refine J.iadd dX7_readMore_320 ?_
    refine J.iconst (1) dX7_readMore_321 (by decide) ?_
    refine J.ms3 (2) dX7_readMore_322 rfl (by decide) ?_
    try dsimp only [List.set]
    have eR : (rdBr (v 1) (v 4 0) y d) = (false, ((rdN (v 1) (v 4 0) 0 2 y).2, d)) := by unfold rdBr; rw [if_neg h1]
    refine J.vret dX7_readMore_323 rfl (Nat.le_refl _) (Nat.le_refl _) ⟨rfl, _, _, rfl, fun h9 => absurd h9 (by rw [eR]; exact Bool.false_ne_true), fun _ => ?_⟩
    rw [eR]
    exact (hf9 h1).2.up (pset_hi (by decide))
