/-! ===== what the class's world and the reference's keep to, together ===== -/
def sameC (a b : rT) : Prop := a 6 0 = b 6 0 ∧ a 6 1 = b 6 1 ∧ a 6 2 = b 6 2 ∧ a 4 = b 4 ∧ a 5 = b 5
theorem sC_try (r : rT) (x : Int32) : sameC (tryR r x) r := by
  unfold tryR
  split
  · exact ⟨rfl, rfl, rfl, rfl, rfl⟩
  · split
    · exact ⟨rfl, rfl, rfl, rfl, rfl⟩
    · split
      · exact ⟨rfl, rfl, rfl, rfl, rfl⟩
      · exact ⟨rfl, rfl, rfl, rfl, rfl⟩
theorem sameC.trans {a b c : rT} (h : sameC a b) (g : sameC b c) : sameC a c := ⟨h.1.trans g.1, h.2.1.trans g.2.1, h.2.2.1.trans g.2.2.1, h.2.2.2.1.trans g.2.2.2.1, h.2.2.2.2.trans g.2.2.2.2⟩
theorem rdO_ok {ln : Int32} {len : Nat} {c : Nat → Int32} {la f : Int32} : ∀ (k i : Nat) (T : rT), rOK T → ∀ p, (rdO ln len c la f k i T).2 = some p → rOK p.1 ∧ sameC p.1 T
  | 0, i, T, h, p, e => by
    simp only [rdO, Option.some.injEq] at e
    subst e
    exact ⟨h, rfl, rfl, rfl, rfl, rfl⟩
  | k + 1, i, T, h, p, e => by
    simp only [rdO] at e
    split at e
    · simp only [Option.some.injEq] at e
      subst e
      exact ⟨h, rfl, rfl, rfl, rfl, rfl⟩
    · split at e
      · obtain ⟨h1, h2⟩ := rdO_ok k (i + 1) _ (rOK_try h _) p e
        exact ⟨h1, h2.trans (sC_try T _)⟩
      · cases e
theorem rdT_ok {ln : Int32} {len : Nat} {c : Nat → Int32} {la f : Int32} {N : Nat} {r : rT} (h : rOK r) : rOK (rdT (rdO ln len c la f N 0 r).2 r) ∧ sameC (rdT (rdO ln len c la f N 0 r).2 r) r := by
  cases e : (rdO ln len c la f N 0 r).2 with
  | none => exact ⟨h, rfl, rfl, rfl, rfl, rfl⟩
  | some p => exact rdO_ok N 0 r h p e
theorem mS_eq {s s' : Nat → Int32} {r : rT} (hr : rOK r) (h : ∀ j, j < 20 → s' j = s j) (hS : mS s r) : mS s' r := by
  obtain ⟨h1, h2, h3, h4, h5⟩ := hS
  have a0 := hr.1
  have a1 := hr.2.1
  refine ⟨fun i hi => ?_, ?_, fun k hk => ?_, ?_, ?_⟩
  · rw [h _ (by omega), h _ (by omega), h _ (by omega)]
    exact h1 i hi
  · rw [h _ (by omega)]
    exact h2
  · rw [h _ (by omega), h _ (by omega)]
    exact h3 k hk
  · rw [h _ (by omega)]
    exact h4
  · rw [h _ (by omega)]
    exact h5
theorem mL_eq {la : Nat → Int32} {r r' : rT} (hC : sameC r' r) (h : mL la r) : mL la r' := by
  intro i hi
  rw [hC.2.2.2.1, hC.2.2.2.2]
  exact h i (by rw [← hC.2.2.1]; exact hi)
def jIm (r0 r : rT) (s la : Nat → Int32) (o : Nat) : Prop := rOK r ∧ mS (fun j => s (o + j)) r ∧ (r 6 0 = r0 6 0 ∧ r 6 1 = r0 6 1 ∧ r 6 2 = r0 6 2) ∧ mL la r
def jIv (rs : rsT) (v : vT) (l s la : Nat → Int32) : Prop := (rOK (rs 0) ∧ mS s (rs 0) ∧ mL la (rs 0)) ∧ (vOK v ∧ (∀ j, v 1 j < 128) ∧ v 4 0 ≤ 160 ∧ v 0 0 ≤ 1 ∧ v 0 1 ≤ 1) ∧ (∀ k, k < 4 → lnOK (l k) ∧ v 4 (2 + k) ≤ 40) ∧ dBd (rs 4) ∧ (v 0 0 = 1 → jIm (rs 0) (rs 2) s la 20) ∧ (v 0 1 = 1 → jIm (rs 0) (rs 3) s la 40)
def jP6 (rs : rsT) (v : vT) (c : Nat → Nat → Int32) (l : Nat → Int32) (tn : Int32) (B : jW) : Prop := ∃ r9 q x n u, B = wC (rsN rs 1 r9) v q x n u c l tn
def jP7 (rs : rsT) (v : vT) (c : Nat → Nat → Int32) (l : Nat → Int32) (tn : Int32) (B : jW) : Prop := ∃ s la p pa m q b x h, B = wM s la (rs 0) v c l tn p pa m q b x h ∧ jIv rs v l s la
def jnum (lg : Bool) (o : Value) : Bool := match lg, o with
  | false, .int _ => true
  | true, .long _ => true
  | _, _ => false
/-- a method of the class and its like of the reference answer alike, and keep to it -/
def jBo (lg : Bool) (K6 K7 : jM) (as : List Value) (B C : jW) : Prop := ∃ (o : Value) (rs : rsT) (v : vT) (c : Nat → Nat → Int32) (l : Nat → Int32) (tn : Int32), jnum lg o = true ∧ J K6 62 (fun r B' => r = some o ∧ jP6 rs v c l tn B') 0 (jent K6.2.2.1 (.ref 0 :: as)) [] B 0 0 ∧ J K7 21 (fun r C' => r = some o ∧ jP7 rs v c l tn C') 0 (jent K7.2.2.1 (.ref 0 :: as)) [] C 0 0
theorem rsN_self (rs : rsT) (i : Nat) : rsN rs i (rs i) = rs := by
  funext k
  by_cases h : k = i
  · subst h; exact if_pos rfl
  · exact if_neg h
theorem rsN_sw (rs : rsT) (a b : rT) : rsN (rsN rs 1 a) 0 b = rsN (rsN rs 0 b) 1 a := by
  funext k
  by_cases h : k = 0
  · subst h; rfl
  · by_cases h1 : k = 1
    · subst h1; rfl
    · show (if k = 0 then _ else if k = 1 then _ else _) = (if k = 1 then _ else if k = 0 then _ else _)
      rw [if_neg h, if_neg h1, if_neg h1, if_neg h]
section JB
variable {K : jM} {pc : Nat} {L : List (Option Value)} {st : List Value} {A : jW} {ov : Value} {rs : rsT} {v : vT} {q : rT} {x : Nat → Nat} {n : Nat → Int64} {u : uT} {c : Nat → Nat → Int32} {l : Nat → Int32} {tn : Int32} {s la : Nat → Int32} {p : Nat → Int32} {pa : Nat → Nat → Int32} {m : Nat} {b : Int32} {h : Nat → Nat → Int64}
theorem j6a (hJ : J K 62 (fun o B => o = some ov ∧ B = wC rs v q x n u c l tn) pc L st A 0 0) : J K 62 (fun r B' => r = some ov ∧ jP6 rs v c l tn B') pc L st A 0 0 := hJ.weaken (fun r A' g => ⟨g.1, rs 1, q, x, n, u, by rw [rsN_self]; exact g.2⟩)
theorem j6b (hJ : J K 62 (fun o B => o = some ov ∧ ∃ q9 x9 n9 u9, B = wC rs v q9 x9 n9 u9 c l tn) pc L st A 0 0) : J K 62 (fun r B' => r = some ov ∧ jP6 rs v c l tn B') pc L st A 0 0 := hJ.weaken (fun r A' g => by
  obtain ⟨g1, q9, x9, n9, u9, g2⟩ := g
  exact ⟨g1, rs 1, q9, x9, n9, u9, by rw [rsN_self]; exact g2⟩)
theorem j7a (hI : jIv rs v l s la) (hJ : J K 21 (fun o B => o = some ov ∧ B = wM s la (rs 0) v c l tn p pa m q b x h) pc L st A 0 0) : J K 21 (fun r B' => r = some ov ∧ jP7 rs v c l tn B') pc L st A 0 0 := hJ.weaken (fun r A' g => ⟨g.1, s, la, p, pa, m, q, b, x, h, g.2, hI⟩)
theorem j7b (hI : jIv rs v l s la) (hJ : J K 21 (fun o B => o = some ov ∧ ∃ m9 q9 b9 x9 h9, B = wM s la (rs 0) v c l tn p pa m9 q9 b9 x9 h9) pc L st A 0 0) : J K 21 (fun r B' => r = some ov ∧ jP7 rs v c l tn B') pc L st A 0 0 := hJ.weaken (fun r A' g => by
  obtain ⟨g1, m9, q9, b9, x9, h9, g2⟩ := g
  exact ⟨g1, s, la, p, pa, m9, q9, b9, x9, h9, g2, hI⟩)
end JB
/-- the realm is another; the images' places stay -/
theorem jIv.now {rs : rsT} {v : vT} {l s la s' : Nat → Int32} (hI : jIv rs v l s la) {R : rT} (hR : rOK R) (hS : mS s' R) (hC : sameC R (rs 0)) (hs : ∀ j, 20 ≤ j → j < 60 → s' j = s j) : jIv (rsN rs 0 R) v l s' la := by
  obtain ⟨⟨a1, a2, a3⟩, b1, c1, d1, e1, f1⟩ := hI
  refine ⟨⟨hR, hS, mL_eq hC a3⟩, b1, c1, d1, fun h => ?_, fun h => ?_⟩
  · obtain ⟨g1, g2, ⟨g3, g4, g5⟩, g6⟩ := e1 h
    exact ⟨g1, mS_eq g1 (fun j hj => hs (20 + j) (by omega) (by omega)) g2, ⟨g3.trans hC.1.symm, g4.trans hC.2.1.symm, g5.trans hC.2.2.1.symm⟩, g6⟩
  · obtain ⟨g1, g2, ⟨g3, g4, g5⟩, g6⟩ := f1 h
    exact ⟨g1, mS_eq g1 (fun j hj => hs (40 + j) (by omega) (by omega)) g2, ⟨g3.trans hC.1.symm, g4.trans hC.2.1.symm, g5.trans hC.2.2.1.symm⟩, g6⟩
theorem jIv.v {rs : rsT} {v v' : vT} {l s la : Nat → Int32} (hI : jIv rs v l s la) (hv : vOK v') (h1 : ∀ j, v' 1 j < 128) (h4 : v' 4 0 ≤ 160) (h0 : v' 0 = v 0) (hs : ∀ k, k < 4 → v' 4 (2 + k) = v 4 (2 + k)) : jIv rs v' l s la := by
  obtain ⟨a1, ⟨b1, b2, b3, b4, b5⟩, c1, d1, e1, f1⟩ := hI
  refine ⟨a1, ⟨hv, h1, h4, by rw [h0]; exact b4, by rw [h0]; exact b5⟩, fun k hk => ⟨(c1 k hk).1, by rw [hs k hk]; exact (c1 k hk).2⟩, d1, fun h => e1 (by rw [← h0]; exact h), fun h => f1 (by rw [← h0]; exact h)⟩
/-! how the reference's page follows the realm -/
theorem mS_set0 {s : Nat → Int32} {r : rT} {z : Nat} (hr : rOK r) (h : mS s r) : mS (upd s 9 (nI z - 3)) (rset r 6 4 z) := by
  obtain ⟨h1, h2, h3, h4, h5⟩ := h
  have a0 := hr.1
  have a1 := hr.2.1
  refine ⟨fun i hi => ?_, ?_, fun k hk => ?_, ?_, ?_⟩
  · have hi : i < r 6 0 := hi
    rw [pk_un (by omega), pk_un (by omega), pk_un (by omega)]
    exact h1 i hi
  · rw [pk_us]
    rfl
  · have hk : k < r 6 1 := hk
    rw [pk_un (by omega), pk_un (by omega)]
    exact h3 k hk
  · rw [pk_un (by omega)]
    exact h4
  · rw [pk_un (by omega)]
    exact h5
theorem mS_set1 {s : Nat → Int32} {r : rT} {z : Nat} (hr : rOK r) (h : mS s r) : mS (upd s 18 (nI z - 9)) (rset r 6 5 z) := by
  obtain ⟨h1, h2, h3, h4, h5⟩ := h
  have a0 := hr.1
  have a1 := hr.2.1
  refine ⟨fun i hi => ?_, ?_, fun k hk => ?_, ?_, ?_⟩
  · have hi : i < r 6 0 := hi
    rw [pk_un (by omega), pk_un (by omega), pk_un (by omega)]
    exact h1 i hi
  · rw [pk_un (by omega)]
    exact h2
  · have hk : k < r 6 1 := hk
    rw [pk_un (by omega), pk_un (by omega)]
    exact h3 k hk
  · rw [pk_us]
    rfl
  · rw [pk_un (by omega)]
    exact h5
theorem mS_age {s : Nat → Int32} {r : rT} {i z : Nat} (hr : rOK r) (hi : i < r 6 0) (h : mS s r) : mS (upd s (3 * i + 1) (nI z)) (rset r 1 i z) := by
  obtain ⟨h1, h2, h3, h4, h5⟩ := h
  have a0 := hr.1
  have a1 := hr.2.1
  refine ⟨fun j hj => ?_, ?_, fun k hk => ?_, ?_, ?_⟩
  · have hj : j < r 6 0 := hj
    by_cases e : j = i
    · subst e
      rw [pk_un (by omega), pk_us, pk_un (by omega)]
      exact ⟨(h1 j hj).1, congrArg nI (if_pos rfl).symm, (h1 j hj).2.2⟩
    · rw [pk_un (by omega), pk_un (by omega), pk_un (by omega)]
      exact ⟨(h1 j hj).1, (h1 j hj).2.1.trans (congrArg nI (if_neg e).symm), (h1 j hj).2.2⟩
  · rw [pk_un (by omega)]
    exact h2
  · have hk : k < r 6 1 := hk
    rw [pk_un (by omega), pk_un (by omega)]
    exact h3 k hk
  · rw [pk_un (by omega)]
    exact h4
  · rw [pk_un (by omega)]
    exact h5
theorem mS_dye {s : Nat → Int32} {r : rT} {i z : Nat} (hr : rOK r) (hi : i < r 6 0) (h : mS s r) : mS (upd s (3 * i) (nI z)) (rset r 0 i z) := by
  obtain ⟨h1, h2, h3, h4, h5⟩ := h
  have a0 := hr.1
  have a1 := hr.2.1
  refine ⟨fun j hj => ?_, ?_, fun k hk => ?_, ?_, ?_⟩
  · have hj : j < r 6 0 := hj
    by_cases e : j = i
    · subst e
      rw [pk_us, pk_un (by omega), pk_un (by omega)]
      exact ⟨congrArg nI (if_pos rfl).symm, (h1 j hj).2⟩
    · rw [pk_un (by omega), pk_un (by omega), pk_un (by omega)]
      exact ⟨(h1 j hj).1.trans (congrArg nI (if_neg e).symm), (h1 j hj).2⟩
  · rw [pk_un (by omega)]
    exact h2
  · have hk : k < r 6 1 := hk
    rw [pk_un (by omega), pk_un (by omega)]
    exact h3 k hk
  · rw [pk_un (by omega)]
    exact h4
  · rw [pk_un (by omega)]
    exact h5
theorem mS_pay0 {s : Nat → Int32} {r : rT} {i z : Nat} (hr : rOK r) (hi : i < r 6 1) (h : mS s r) : mS (upd s (10 + 2 * i) (nI z)) (rset r 2 i z) := by
  obtain ⟨h1, h2, h3, h4, h5⟩ := h
  have a0 := hr.1
  have a1 := hr.2.1
  refine ⟨fun j hj => ?_, ?_, fun k hk => ?_, ?_, ?_⟩
  · have hj : j < r 6 0 := hj
    rw [pk_un (by omega), pk_un (by omega), pk_un (by omega)]
    exact h1 j hj
  · rw [pk_un (by omega)]
    exact h2
  · have hk : k < r 6 1 := hk
    by_cases e : k = i
    · subst e
      rw [pk_us, pk_un (by omega)]
      exact ⟨congrArg nI (if_pos rfl).symm, (h3 k hk).2⟩
    · rw [pk_un (by omega), pk_un (by omega)]
      exact ⟨(h3 k hk).1.trans (congrArg nI (if_neg e).symm), (h3 k hk).2⟩
  · rw [pk_un (by omega)]
    exact h4
  · rw [pk_un (by omega)]
    exact h5
theorem mS_pay1 {s : Nat → Int32} {r : rT} {i z : Nat} (hr : rOK r) (hi : i < r 6 1) (h : mS s r) : mS (upd s (10 + 2 * i + 1) (nI z)) (rset r 3 i z) := by
  obtain ⟨h1, h2, h3, h4, h5⟩ := h
  have a0 := hr.1
  have a1 := hr.2.1
  refine ⟨fun j hj => ?_, ?_, fun k hk => ?_, ?_, ?_⟩
  · have hj : j < r 6 0 := hj
    rw [pk_un (by omega), pk_un (by omega), pk_un (by omega)]
    exact h1 j hj
  · rw [pk_un (by omega)]
    exact h2
  · have hk : k < r 6 1 := hk
    by_cases e : k = i
    · subst e
      rw [pk_un (by omega), pk_us]
      exact ⟨(h3 k hk).1, congrArg nI (if_pos rfl).symm⟩
    · rw [pk_un (by omega), pk_un (by omega)]
      exact ⟨(h3 k hk).1, (h3 k hk).2.trans (congrArg nI (if_neg e).symm)⟩
  · rw [pk_un (by omega)]
    exact h4
  · rw [pk_un (by omega)]
    exact h5
theorem kn1_ev : ∀ w, w < 8 → ∀ i, i < 3 → ∀ j, j < 3 → bit (w ||| 2 ^ i) j = if j = i then 1 else bit w j := br_b
theorem kn0_ev : ∀ w, w < 8 → ∀ i, i < 3 → ∀ j, j < 3 → bit (w &&& (7 - 2 ^ i)) j = if j = i then 0 else bit w j := by decide +kernel
theorem kn_lt : ∀ h, h < 4 → ∀ w, w < 8 → w < 2 ^ h → ∀ i, i < h → w ||| 2 ^ i < 2 ^ h := by decide +kernel
theorem mS_knot1 {s : Nat → Int32} {r : rT} {i : Nat} (hr : rOK r) (hi : i < r 6 0) (h : mS s r) : mS (upd (upd s (3 * i + 1) 0) (3 * i + 2) 0) (rset (rset r 6 3 (r 6 3 ||| 2 ^ i)) 1 i 0) := by
  obtain ⟨h1, h2, h3, h4, h5⟩ := h
  have a0 := hr.1
  have a1 := hr.2.1
  refine ⟨fun j hj => ?_, ?_, fun k hk => ?_, ?_, ?_⟩
  · have hj : j < r 6 0 := hj
    have e9 : bit (rset (rset r 6 3 (r 6 3 ||| 2 ^ i)) 1 i 0 6 3) j = if j = i then 1 else bit (r 6 3) j := kn1_ev _ hr.w i (by omega) j (by omega)
    rw [e9]
    by_cases e : j = i
    · subst e
      rw [pk_un (by omega), pk_un (by omega), pk_un (by omega), pk_us, pk_us, if_pos rfl]
      exact ⟨(h1 j hj).1, congrArg nI (if_pos rfl).symm, rfl⟩
    · rw [pk_un (by omega), pk_un (by omega), pk_un (by omega), pk_un (by omega), pk_un (by omega), pk_un (by omega), if_neg e]
      exact ⟨(h1 j hj).1, (h1 j hj).2.1.trans (congrArg nI (if_neg e).symm), (h1 j hj).2.2⟩
  · rw [pk_un (by omega), pk_un (by omega)]
    exact h2
  · have hk : k < r 6 1 := hk
    rw [pk_un (by omega), pk_un (by omega), pk_un (by omega), pk_un (by omega)]
    exact h3 k hk
  · rw [pk_un (by omega), pk_un (by omega)]
    exact h4
  · rw [pk_un (by omega), pk_un (by omega)]
    exact h5
theorem mS_knot0 {s : Nat → Int32} {r : rT} {i : Nat} (hr : rOK r) (hi : i < r 6 0) (h : mS s r) : mS (upd (upd s (3 * i + 1) (nI (r 1 i))) (3 * i + 2) 1) (rset r 6 3 (r 6 3 &&& (7 - 2 ^ i))) := by
  obtain ⟨h1, h2, h3, h4, h5⟩ := h
  have a0 := hr.1
  have a1 := hr.2.1
  refine ⟨fun j hj => ?_, ?_, fun k hk => ?_, ?_, ?_⟩
  · have hj : j < r 6 0 := hj
    have e9 : bit (rset r 6 3 (r 6 3 &&& (7 - 2 ^ i)) 6 3) j = if j = i then 0 else bit (r 6 3) j := kn0_ev _ hr.w i (by omega) j (by omega)
    rw [e9]
    by_cases e : j = i
    · subst e
      rw [pk_un (by omega), pk_un (by omega), pk_un (by omega), pk_us, pk_us, if_pos rfl]
      exact ⟨(h1 j hj).1, rfl, rfl⟩
    · rw [pk_un (by omega), pk_un (by omega), pk_un (by omega), pk_un (by omega), pk_un (by omega), pk_un (by omega), if_neg e]
      exact h1 j hj
  · rw [pk_un (by omega), pk_un (by omega)]
    exact h2
  · have hk : k < r 6 1 := hk
    rw [pk_un (by omega), pk_un (by omega), pk_un (by omega), pk_un (by omega)]
    exact h3 k hk
  · rw [pk_un (by omega), pk_un (by omega)]
    exact h4
  · rw [pk_un (by omega), pk_un (by omega)]
    exact h5
theorem rset_le {f : Nat → Nat} {i z m : Nat} (h : ∀ j, f j ≤ m) (hz : z ≤ m) : ∀ j, (if j = i then z else f j) ≤ m := by
  intro j
  split
  · exact hz
  · exact h j
theorem rOK_set0 {r : rT} {z : Nat} (h : rOK r) (h1 : 1 ≤ z) (h2 : z ≤ 9) : rOK (rset r 6 4 z) := by
  obtain ⟨a0, a1, a2, a3, a4, a5, a6, a7, a8⟩ := h
  exact ⟨a0, a1, a2, a3, h1, h2, a6, a7, a8⟩
theorem rOK_set1 {r : rT} {z : Nat} (h : rOK r) (h2 : z ≤ 99) : rOK (rset r 6 5 z) := by
  obtain ⟨a0, a1, a2, a3, a4, a5, a6, a7, a8⟩ := h
  exact ⟨a0, a1, a2, a3, a4, a5, h2, a7, a8⟩
theorem rOK_age {r : rT} {i z : Nat} (h : rOK r) (h2 : z ≤ 9) : rOK (rset r 1 i z) := by
  obtain ⟨a0, a1, a2, a3, a4, a5, a6, a7, a8, a9, b0, b1, b2, b3⟩ := h
  exact ⟨a0, a1, a2, a3, a4, a5, a6, a7, a8, rset_le a9 h2, b0, b1, b2, b3⟩
theorem rOK_dye {r : rT} {i z : Nat} (h : rOK r) (h2 : z ≤ 4) : rOK (rset r 0 i z) := by
  obtain ⟨a0, a1, a2, a3, a4, a5, a6, a7, a8, a9, b0, b1, b2, b3⟩ := h
  exact ⟨a0, a1, a2, a3, a4, a5, a6, a7, rset_le a8 h2, a9, b0, b1, b2, b3⟩
theorem rOK_pay0 {r : rT} {i z : Nat} (h : rOK r) (h2 : z ≤ 9) : rOK (rset r 2 i z) := by
  obtain ⟨a0, a1, a2, a3, a4, a5, a6, a7, a8, a9, b0, b1, b2, b3⟩ := h
  exact ⟨a0, a1, a2, a3, a4, a5, a6, a7, a8, a9, rset_le b0 h2, b1, b2, b3⟩
theorem rOK_pay1 {r : rT} {i z : Nat} (h : rOK r) (h2 : z ≤ 99) : rOK (rset r 3 i z) := by
  obtain ⟨a0, a1, a2, a3, a4, a5, a6, a7, a8, a9, b0, b1, b2, b3⟩ := h
  exact ⟨a0, a1, a2, a3, a4, a5, a6, a7, a8, a9, b0, rset_le b1 h2, b2, b3⟩
theorem rOK_knot1 {r : rT} {i : Nat} (h : rOK r) (hi : i < r 6 0) : rOK (rset (rset r 6 3 (r 6 3 ||| 2 ^ i)) 1 i 0) := by
  have hw := h.w
  obtain ⟨a0, a1, a2, a3, a4, a5, a6, a7, a8, a9, b0, b1, b2, b3⟩ := h
  exact ⟨a0, a1, a2, kn_lt _ (by omega) _ hw a3 i hi, a4, a5, a6, a7, a8, rset_le a9 (by decide), b0, b1, b2, b3⟩
theorem rOK_knot0 {r : rT} {i : Nat} (h : rOK r) : rOK (rset r 6 3 (r 6 3 &&& (7 - 2 ^ i))) := by
  obtain ⟨a0, a1, a2, a3, a4, a5, a6, a7, a8⟩ := h
  exact ⟨a0, a1, a2, Nat.lt_of_le_of_lt Nat.and_le_left a3, a4, a5, a6, a7, a8⟩
/-! the draft keeps within its bounds, also behind a FAULT -/
theorem dBd_fin {b : Nat → Nat} {len : Nat} {p : Bool × pT} (h : dBd p.2.2) : dBd (fin b len p).2.2 := by
  unfold fin
  split
  · exact h
  · exact h
theorem dBd_Li {b : Nat → Nat} {len : Nat} {y : Nat → Nat} {d : rT} (h : dBd d) : dBd (rdLi b len y d).2.2 := by
  have hd := h
  obtain ⟨h0, h1, h2, h3, h4, h5⟩ := h
  unfold rdLi
  split
  · apply dBd_fin
    unfold rdHa
    split
    · split
      · split
        · exact hd
        · split
          · next hk hn =>
            have hk2 := kd_le b (yN b len y)
            exact ⟨rset_le h0 (by omega), rset_le h1 (rdN_3 hn).2, h2, h3, h4, h5⟩
          · exact hd
      · exact hd
    · exact hd
  · split
    · apply dBd_fin
      unfold rdKi
      split
      · unfold rdTwo
        split
        · next g1 =>
          split
          · next g2 => exact ⟨h0, h1, rset_le h2 (rdN_3 g1).2, rset_le h3 (rdN_3 g2).2, h4, h5⟩
          · exact hd
        · exact hd
      · exact hd
    · split
      · apply dBd_fin
        unfold rdLa
        split
        · unfold rdTwo
          split
          · next g1 =>
            split
            · next g2 => exact ⟨h0, h1, h2, h3, rset_le h4 (rdN_3 g1).2, rset_le h5 (rdN_3 g2).2⟩
            · exact hd
          · exact hd
        · exact hd
      · split
        · apply dBd_fin
          unfold rdOnce
          split
          · split
            · exact hd
            · exact hd
          · exact hd
        · split
          · apply dBd_fin
            unfold rdOnce
            split
            · split
              · exact hd
              · exact hd
            · exact hd
          · split
            · apply dBd_fin
              unfold rdBr
              split
              · split
                · exact hd
                · exact hd
              · exact hd
            · exact hd
theorem dBd_A {b : Nat → Nat} {len : Nat} : ∀ (k l : Nat) (y : Nat → Nat) (d : rT), dBd d → dBd (rdA b len k l y d).2.2
  | 0, l, y, d, h => h
  | k + 1, l, y, d, h => by
    simp only [rdA]
    split
    · split
      · exact h
      · split
        · exact dBd_A k (l + 1) _ _ (dBd_Li h)
        · exact dBd_Li h
    · exact h
theorem dBd_tx {v : vT} {d : rT} (h : dBd d) : dBd (txD v d) := dBd_A (b := v 1) (len := v 4 0) 161 0 (yA0 (v 5)) (rclear d) h
