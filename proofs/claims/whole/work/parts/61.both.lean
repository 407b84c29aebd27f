theorem fat_in {ln : Int32} {len : Nat} {i : Int32} (hl : len ≤ 40) (h : fat ln len i = 0) : ∃ j, j < len ∧ i = nI j := by
  unfold fat at h
  split at h
  · exact absurd h (by decide)
  · split at h
    · next h9 => exact jin_lt (by omega) h9.1 h9.2
    · exact absurd h (by decide)
theorem jb01 {z : Int32} (h : 0 ≤ z ∧ z ≤ 1) : z = 0 ∨ z = 1 := by
  obtain ⟨a, ha, rfl⟩ := jin_of (n := 1) (by decide) h.1 h.2
  match a, ha with
  | 0, _ => exact Or.inl rfl
  | 1, _ => exact Or.inr rfl
theorem jb2 {z : Int32} (h : 0 ≤ z ∧ z ≤ 2) (h1 : ¬ (0 ≤ z ∧ z ≤ 1)) : z = 2 := by
  obtain ⟨a, ha, rfl⟩ := jin_of (n := 2) (by decide) h.1 h.2
  match a, ha with
  | 0, _ => exact absurd (by decide) h1
  | 1, _ => exact absurd (by decide) h1
  | 2, _ => rfl
theorem jb4 {z : Int32} (h : 0 ≤ z ∧ z ≤ 4) (h1 : ¬ (0 ≤ z ∧ z ≤ 1)) (h2 : ¬ (2 ≤ z ∧ z ≤ 3)) : z = 4 := by
  obtain ⟨a, ha, rfl⟩ := jin_of (n := 4) (by decide) h.1 h.2
  match a, ha with
  | 0, _ => exact absurd (by decide) h1
  | 1, _ => exact absurd (by decide) h1
  | 2, _ => exact absurd (by decide) h2
  | 3, _ => exact absurd (by decide) h2
  | 4, _ => rfl
theorem wM_rr {s la : Nat → Int32} {r r' : rT} {v : vT} {c : Nat → Nat → Int32} {l : Nat → Int32} {tn : Int32} {p : Nat → Int32} {pa : Nat → Nat → Int32} {m : Nat} {q : rT} {b : Int32} {x : Nat → Nat} {h : Nat → Nat → Int64} (h0 : r 6 0 = r' 6 0) (h1 : r 6 1 = r' 6 1) (h2 : r 6 2 = r' 6 2) : wM s la r v c l tn p pa m q b x h = wM s la r' v c l tn p pa m q b x h := by
  unfold wM
  rw [h0, h1, h2]
theorem mcpI {s : Nat → Int32} {f t i j : Nat} (h : j < i) : mcp s f t i (t + j) = s (f + j) := by
  show (if t ≤ t + j ∧ t + j < t + i then s (f + (t + j - t)) else s (t + j)) = _
  rw [if_pos ⟨by omega, by omega⟩, Nat.add_sub_cancel_left]
theorem mcpO {s : Nat → Int32} {f t i j : Nat} (h : j < t ∨ t + i ≤ j) : mcp s f t i j = s j := if_neg (by omega)
section KB
variable {rs : rsT} {v : vT} {l s la : Nat → Int32}
theorem jIv.keep0 (hI : jIv rs v l s la) : jIv (rsN rs 2 (rs 0)) (vset v 0 0 1) l (mcp s 0 20 20) la := by
  obtain ⟨⟨a1, a2, a3⟩, ⟨b1, b2, b3, b4, b5⟩, c1, d1, e1, f1⟩ := hI
  refine ⟨⟨a1, mS_eq a1 (fun j hj => mcpO (Or.inl hj)) a2, a3⟩, ⟨b1, b2, b3, Nat.le_refl _, b5⟩, c1, d1, fun _ => ⟨a1, mS_eq a1 (fun j hj => ?_) a2, ⟨rfl, rfl, rfl⟩, a3⟩, fun h => ?_⟩
  · show mcp s 0 20 20 (20 + j) = s j
    rw [mcpI hj, Nat.zero_add]
  · obtain ⟨g1, g2, g3, g4⟩ := f1 h
    exact ⟨g1, mS_eq g1 (fun j hj => mcpO (Or.inr (by omega))) g2, g3, g4⟩
theorem jIv.keep1 (hI : jIv rs v l s la) : jIv (rsN rs 3 (rs 0)) (vset v 0 1 1) l (mcp s 0 40 20) la := by
  obtain ⟨⟨a1, a2, a3⟩, ⟨b1, b2, b3, b4, b5⟩, c1, d1, e1, f1⟩ := hI
  refine ⟨⟨a1, mS_eq a1 (fun j hj => mcpO (Or.inl (by omega))) a2, a3⟩, ⟨b1, b2, b3, b4, Nat.le_refl _⟩, c1, d1, fun h => ?_, fun _ => ⟨a1, mS_eq a1 (fun j hj => ?_) a2, ⟨rfl, rfl, rfl⟩, a3⟩⟩
  · obtain ⟨g1, g2, g3, g4⟩ := e1 h
    exact ⟨g1, mS_eq g1 (fun j hj => mcpO (Or.inl (by omega))) g2, g3, g4⟩
  · show mcp s 0 40 20 (40 + j) = s j
    rw [mcpI hj, Nat.zero_add]
theorem jIv.back0 (hI : jIv rs v l s la) (hk : v 0 0 = 1) : jIv (rsN rs 0 (rs 2)) v l (mcp s 20 0 20) la := by
  obtain ⟨⟨a1, a2, a3⟩, b1, c1, d1, e1, f1⟩ := hI
  obtain ⟨k1, k2, ⟨k3, k4, k5⟩, k6⟩ := e1 hk
  refine ⟨⟨k1, mS_eq k1 (fun j hj => ?_) k2, k6⟩, b1, c1, d1, fun _ => ⟨k1, mS_eq k1 (fun j hj => mcpO (Or.inr (by omega))) k2, ⟨rfl, rfl, rfl⟩, k6⟩, fun h => ?_⟩
  · have := mcpI (s := s) (f := 20) (t := 0) hj
    rw [Nat.zero_add] at this
    exact this
  · obtain ⟨g1, g2, ⟨g3, g4, g5⟩, g6⟩ := f1 h
    exact ⟨g1, mS_eq g1 (fun j hj => mcpO (Or.inr (by omega))) g2, ⟨g3.trans k3.symm, g4.trans k4.symm, g5.trans k5.symm⟩, g6⟩
theorem jIv.back1 (hI : jIv rs v l s la) (hk : v 0 1 = 1) : jIv (rsN rs 0 (rs 3)) v l (mcp s 40 0 20) la := by
  obtain ⟨⟨a1, a2, a3⟩, b1, c1, d1, e1, f1⟩ := hI
  obtain ⟨k1, k2, ⟨k3, k4, k5⟩, k6⟩ := f1 hk
  refine ⟨⟨k1, mS_eq k1 (fun j hj => ?_) k2, k6⟩, b1, c1, d1, fun h => ?_, fun _ => ⟨k1, mS_eq k1 (fun j hj => mcpO (Or.inr (by omega))) k2, ⟨rfl, rfl, rfl⟩, k6⟩⟩
  · have := mcpI (s := s) (f := 40) (t := 0) hj
    rw [Nat.zero_add] at this
    exact this
  · obtain ⟨g1, g2, ⟨g3, g4, g5⟩, g6⟩ := e1 h
    exact ⟨g1, mS_eq g1 (fun j hj => mcpO (Or.inr (by omega))) g2, ⟨g3.trans k3.symm, g4.trans k4.symm, g5.trans k5.symm⟩, g6⟩
theorem jIv.sheet (hI : jIv rs v l s la) (k : Nat) (hk : k < 4) {y : Int32} (hy : 0 ≤ y ∧ y ≤ 2) {M : Nat} (hM : M ≤ 40) : jIv rs (vset v 4 (2 + k) M) (lset l k y) s la := by
  obtain ⟨a1, ⟨⟨b1, b2, b3⟩, b4, b5, b6, b7⟩, c1, d1, e1, f1⟩ := hI
  have h0 : vset v 4 (2 + k) M 4 0 = v 4 0 := if_neg (by omega)
  have h1 : vset v 4 (2 + k) M 4 1 = v 4 1 := if_neg (by omega)
  refine ⟨a1, ⟨⟨b1, b2, by rw [h1]; exact b3⟩, b4, by rw [h0]; exact b5, b6, b7⟩, fun i hi => ?_, d1, e1, f1⟩
  by_cases e : i = k
  · subst e
    refine ⟨?_, ?_⟩
    · have : lset l i y i = y := if_pos rfl
      rw [this]
      exact Or.inr hy
    · have : vset v 4 (2 + i) M 4 (2 + i) = M := if_pos rfl
      rw [this]
      exact hM
  · refine ⟨?_, ?_⟩
    · have : lset l k y i = l i := if_neg e
      rw [this]
      exact (c1 i hi).1
    · have : vset v 4 (2 + k) M 4 (2 + i) = v 4 (2 + i) := if_neg (by omega)
      rw [this]
      exact (c1 i hi).2
end KB
set_option maxRecDepth 100000 in
set_option maxHeartbeats 4000000 in
theorem b_feed {rs : rsT} {v : vT} {q : rT} {x : Nat → Nat} {n : Nat → Int64} {u : uT} {c : Nat → Nat → Int32} {l : Nat → Int32} {tn : Int32} {s la : Nat → Int32} {p : Nat → Int32} {pa : Nat → Nat → Int32} {m : Nat} {q' : rT} {b : Int32} {x' : Nat → Nat} {h : Nat → Nat → Int64} (hI : jIv rs v l s la) (z : Int32) : jBo false KX6_feed KX7_feed [.int z] (wC rs v q x n u c l tn) (wM s la (rs 0) v c l tn p pa m q' b x' h) := by
  by_cases hz : 0 ≤ z ∧ z ≤ 127
  · obtain ⟨a, ha, rfl⟩ := jin_of (n := 127) (by decide) hz.1 hz.2
    have h160 := hI.2.1.2.2.1
    by_cases hm : v 4 0 < 160
    · refine ⟨_, rs, _, c, l, tn, rfl, j6a (mX6_feed rs v q x n u c l tn a ha hm), j7a ?_ (mX7_feed s la (rs 0) v c l tn p pa m q' b x' h a ha hm)⟩
      refine hI.v ⟨hI.2.1.1.1, hI.2.1.1.2.1, hI.2.1.1.2.2⟩ (fun j => ?_) (show v 4 0 + 1 ≤ 160 by omega) rfl (fun k hk => ?_)
      · show (if j = v 4 0 then a else v 1 j) < 128
        have := hI.2.1.2.1 j
        split <;> omega
      · show (if 2 + k = 0 then v 4 0 + 1 else v 4 (2 + k)) = _
        exact if_neg (by omega)
    · exact ⟨_, rs, v, c, l, tn, rfl, j6a (mX6_feed_full rs v q x n u c l tn a ha (by omega)), j7a hI (mX7_feed_full s la (rs 0) v c l tn p pa m q' b x' h a ha (by omega))⟩
  · exact ⟨_, rs, v, c, l, tn, rfl, j6a (mX6_feed_bad rs v q x n u c l tn z hz), j7a hI (mX7_feed_bad s la (rs 0) v c l tn p pa m q' b x' h z hz)⟩
set_option maxRecDepth 100000 in
set_option maxHeartbeats 4000000 in
theorem b_end {rs : rsT} {v : vT} {q : rT} {x : Nat → Nat} {n : Nat → Int64} {u : uT} {c : Nat → Nat → Int32} {l : Nat → Int32} {tn : Int32} {s la : Nat → Int32} {p : Nat → Int32} {pa : Nat → Nat → Int32} {m : Nat} {q' : rT} {b : Int32} {x' : Nat → Nat} {h : Nat → Nat → Int64} (hI : jIv rs v l s la) (z : Int32) : jBo false KX6_end KX7_end [.int z] (wC rs v q x n u c l tn) (wM s la (rs 0) v c l tn p pa m q' b x' h) := by
  have h160 := hI.2.1.2.2.1
  by_cases hz : 0 ≤ z ∧ z ≤ nI (v 4 0)
  · obtain ⟨a, ha, rfl⟩ := jin_of (n := v 4 0) (by omega) hz.1 hz.2
    refine ⟨_, rs, _, c, l, tn, rfl, j6a (mX6_end rs v q x n u c l tn a ha h160), j7a ?_ (mX7_end s la (rs 0) v c l tn p pa m q' b x' h a ha h160)⟩
    refine hI.v ⟨hI.2.1.1.1, hI.2.1.1.2.1, hI.2.1.1.2.2⟩ hI.2.1.2.1 (show a ≤ 160 by omega) rfl (fun k hk => ?_)
    show (if 2 + k = 0 then a else v 4 (2 + k)) = _
    exact if_neg (by omega)
  · exact ⟨_, rs, v, c, l, tn, rfl, j6a (mX6_end_bad rs v q x n u c l tn z hz), j7a hI (mX7_end_bad s la (rs 0) v c l tn p pa m q' b x' h z hz)⟩
set_option maxRecDepth 100000 in
set_option maxHeartbeats 4000000 in
theorem b_fault {rs : rsT} {v : vT} {q : rT} {x : Nat → Nat} {n : Nat → Int64} {u : uT} {c : Nat → Nat → Int32} {l : Nat → Int32} {tn : Int32} {s la : Nat → Int32} {p : Nat → Int32} {pa : Nat → Nat → Int32} {m : Nat} {q' : rT} {b : Int32} {x' : Nat → Nat} {h : Nat → Nat → Int64} (hI : jIv rs v l s la)  : jBo false KX6_fault KX7_fault [] (wC rs v q x n u c l tn) (wM s la (rs 0) v c l tn p pa m q' b x' h) := by
  exact ⟨_, rs, v, c, l, tn, rfl, j6a (mX6_fault rs v q x n u c l tn ), j7a hI (mX7_fault s la (rs 0) v c l tn p pa m q' b x' h )⟩
set_option maxRecDepth 100000 in
set_option maxHeartbeats 4000000 in
theorem b_torn {rs : rsT} {v : vT} {q : rT} {x : Nat → Nat} {n : Nat → Int64} {u : uT} {c : Nat → Nat → Int32} {l : Nat → Int32} {tn : Int32} {s la : Nat → Int32} {p : Nat → Int32} {pa : Nat → Nat → Int32} {m : Nat} {q' : rT} {b : Int32} {x' : Nat → Nat} {h : Nat → Nat → Int64} (hI : jIv rs v l s la)  : jBo false KX6_torn KX7_torn [] (wC rs v q x n u c l tn) (wM s la (rs 0) v c l tn p pa m q' b x' h) := by
  exact ⟨_, rs, v, c, l, tn, rfl, j6a (mX6_torn rs v q x n u c l tn ), j7a hI (mX7_torn s la (rs 0) v c l tn p pa m q' b x' h )⟩
set_option maxRecDepth 100000 in
set_option maxHeartbeats 4000000 in
theorem b_rule {rs : rsT} {v : vT} {q : rT} {x : Nat → Nat} {n : Nat → Int64} {u : uT} {c : Nat → Nat → Int32} {l : Nat → Int32} {tn : Int32} {s la : Nat → Int32} {p : Nat → Int32} {pa : Nat → Nat → Int32} {m : Nat} {q' : rT} {b : Int32} {x' : Nat → Nat} {h : Nat → Nat → Int64} (hI : jIv rs v l s la) (z : Int32) : jBo false KX6_rule KX7_rule [.int z] (wC rs v q x n u c l tn) (wM s la (rs 0) v c l tn p pa m q' b x' h) := by
  exact ⟨_, rs, v, c, l, tn, rfl, j6a (mX6_rule rs v q x n u c l tn z hI.1.1), j7a hI (mX7_rule s la (rs 0) v c l tn p pa m q' b x' h z hI.1.2.1 hI.1.1)⟩
set_option maxRecDepth 100000 in
set_option maxHeartbeats 4000000 in
theorem b_hair {rs : rsT} {v : vT} {q : rT} {x : Nat → Nat} {n : Nat → Int64} {u : uT} {c : Nat → Nat → Int32} {l : Nat → Int32} {tn : Int32} {s la : Nat → Int32} {p : Nat → Int32} {pa : Nat → Nat → Int32} {m : Nat} {q' : rT} {b : Int32} {x' : Nat → Nat} {h : Nat → Nat → Int64} (hI : jIv rs v l s la) (i : Int32) (z : Int32) : jBo false KX6_hair KX7_hair [.int i, .int z] (wC rs v q x n u c l tn) (wM s la (rs 0) v c l tn p pa m q' b x' h) := by
  by_cases hz : 0 ≤ i ∧ i ≤ nI (rs 0 6 0) - 1
  · obtain ⟨a, ha, rfl⟩ := jin_lt (by have := hI.1.1.1; omega) hz.1 hz.2
    exact ⟨_, rs, v, c, l, tn, rfl, j6a (mX6_hair rs v q x n u c l tn a z hI.1.1 ha), j7a hI (mX7_hair s la (rs 0) v c l tn p pa m q' b x' h a z hI.1.2.1 hI.1.1 ha)⟩
  · exact ⟨_, rs, v, c, l, tn, rfl, j6a (mX6_hair_bad rs v q x n u c l tn i z hz), j7a hI (mX7_hair_bad s la (rs 0) v c l tn p pa m q' b x' h i z hz)⟩
set_option maxRecDepth 100000 in
set_option maxHeartbeats 4000000 in
theorem b_king {rs : rsT} {v : vT} {q : rT} {x : Nat → Nat} {n : Nat → Int64} {u : uT} {c : Nat → Nat → Int32} {l : Nat → Int32} {tn : Int32} {s la : Nat → Int32} {p : Nat → Int32} {pa : Nat → Nat → Int32} {m : Nat} {q' : rT} {b : Int32} {x' : Nat → Nat} {h : Nat → Nat → Int64} (hI : jIv rs v l s la) (i : Int32) (z : Int32) : jBo false KX6_king KX7_king [.int i, .int z] (wC rs v q x n u c l tn) (wM s la (rs 0) v c l tn p pa m q' b x' h) := by
  by_cases hz : 0 ≤ i ∧ i ≤ nI (rs 0 6 1) - 1
  · by_cases hb : 0 ≤ z ∧ z ≤ 1
    · obtain ⟨a, ha, rfl⟩ := jin_lt (by have := hI.1.1.1; have := hI.1.1.2.1; have := hI.1.1.2.2.1; omega) hz.1 hz.2
      obtain rfl | rfl := jb01 hb
      · exact ⟨_, rs, v, c, l, tn, rfl, j6a (mX6_king0 rs v q x n u c l tn a hI.1.1 ha), j7a hI (mX7_king0 s la (rs 0) v c l tn p pa m q' b x' h a hI.1.2.1 hI.1.1 ha)⟩
      · exact ⟨_, rs, v, c, l, tn, rfl, j6a (mX6_king1 rs v q x n u c l tn a hI.1.1 ha), j7a hI (mX7_king1 s la (rs 0) v c l tn p pa m q' b x' h a hI.1.2.1 hI.1.1 ha)⟩
    · exact ⟨_, rs, v, c, l, tn, rfl, j6a (mX6_king_bad rs v q x n u c l tn i z (Or.inr hb)), j7a hI (mX7_king_bad s la (rs 0) v c l tn p pa m q' b x' h i z (Or.inr hb))⟩
  · exact ⟨_, rs, v, c, l, tn, rfl, j6a (mX6_king_bad rs v q x n u c l tn i z (Or.inl hz)), j7a hI (mX7_king_bad s la (rs 0) v c l tn p pa m q' b x' h i z (Or.inl hz))⟩
set_option maxRecDepth 100000 in
set_option maxHeartbeats 4000000 in
theorem b_law {rs : rsT} {v : vT} {q : rT} {x : Nat → Nat} {n : Nat → Int64} {u : uT} {c : Nat → Nat → Int32} {l : Nat → Int32} {tn : Int32} {s la : Nat → Int32} {p : Nat → Int32} {pa : Nat → Nat → Int32} {m : Nat} {q' : rT} {b : Int32} {x' : Nat → Nat} {h : Nat → Nat → Int64} (hI : jIv rs v l s la) (i : Int32) (z : Int32) : jBo false KX6_law KX7_law [.int i, .int z] (wC rs v q x n u c l tn) (wM s la (rs 0) v c l tn p pa m q' b x' h) := by
  by_cases hz : 0 ≤ i ∧ i ≤ nI (rs 0 6 2) - 1
  · by_cases hb : 0 ≤ z ∧ z ≤ 1
    · obtain ⟨a, ha, rfl⟩ := jin_lt (by have := hI.1.1.1; have := hI.1.1.2.1; have := hI.1.1.2.2.1; omega) hz.1 hz.2
      obtain rfl | rfl := jb01 hb
      · exact ⟨_, rs, v, c, l, tn, rfl, j6a (mX6_law0 rs v q x n u c l tn a hI.1.1 ha), j7a hI (mX7_law0 s la (rs 0) v c l tn p pa m q' b x' h a hI.1.2.2 hI.1.1 ha)⟩
      · exact ⟨_, rs, v, c, l, tn, rfl, j6a (mX6_law1 rs v q x n u c l tn a hI.1.1 ha), j7a hI (mX7_law1 s la (rs 0) v c l tn p pa m q' b x' h a hI.1.2.2 hI.1.1 ha)⟩
    · exact ⟨_, rs, v, c, l, tn, rfl, j6a (mX6_law_bad rs v q x n u c l tn i z (Or.inr hb)), j7a hI (mX7_law_bad s la (rs 0) v c l tn p pa m q' b x' h i z (Or.inr hb))⟩
  · exact ⟨_, rs, v, c, l, tn, rfl, j6a (mX6_law_bad rs v q x n u c l tn i z (Or.inl hz)), j7a hI (mX7_law_bad s la (rs 0) v c l tn p pa m q' b x' h i z (Or.inl hz))⟩
set_option maxRecDepth 100000 in
set_option maxHeartbeats 4000000 in
theorem b_set {rs : rsT} {v : vT} {q : rT} {x : Nat → Nat} {n : Nat → Int64} {u : uT} {c : Nat → Nat → Int32} {l : Nat → Int32} {tn : Int32} {s la : Nat → Int32} {p : Nat → Int32} {pa : Nat → Nat → Int32} {m : Nat} {q' : rT} {b : Int32} {x' : Nat → Nat} {h : Nat → Nat → Int64} (hI : jIv rs v l s la) (a : Int32) (z : Int32) : jBo false KX6_set KX7_set [.int a, .int z] (wC rs v q x n u c l tn) (wM s la (rs 0) v c l tn p pa m q' b x' h) := by
  by_cases h0 : a = 0 ∧ 1 ≤ z ∧ z ≤ 9
  · obtain ⟨rfl, h1, h2⟩ := h0
    obtain ⟨y, hy, rfl⟩ := jin_of (n := 9) (by decide) (Int32.le_trans (by decide) h1) h2
    have h1 : 1 ≤ y := (nI_lei (a := 1) (by decide) (by omega)).mp h1
    refine ⟨_, rsN rs 0 (rset (rs 0) 6 4 y), v, c, l, tn, rfl, j6a (mX6_set0 rs v q x n u c l tn y h1 hy), j7a ?_ (mX7_set0 s la (rs 0) v c l tn p pa m q' b x' h y h1 hy hI.1.2.1)⟩
    exact hI.now (rOK_set0 hI.1.1 h1 hy) (mS_set0 hI.1.1 hI.1.2.1) ⟨rfl, rfl, rfl, rfl, rfl⟩ (fun j h1 h2 => pk_un (by omega))
  · by_cases h1 : a = 1 ∧ 0 ≤ z ∧ z ≤ 99
    · obtain ⟨rfl, h1, h2⟩ := h1
      obtain ⟨y, hy, rfl⟩ := jin_of (n := 99) (by decide) h1 h2
      refine ⟨_, rsN rs 0 (rset (rs 0) 6 5 y), v, c, l, tn, rfl, j6a (mX6_set1 rs v q x n u c l tn y (Nat.zero_le _) hy), j7a ?_ (mX7_set1 s la (rs 0) v c l tn p pa m q' b x' h y (Nat.zero_le _) hy hI.1.2.1)⟩
      exact hI.now (rOK_set1 hI.1.1 hy) (mS_set1 hI.1.1 hI.1.2.1) ⟨rfl, rfl, rfl, rfl, rfl⟩ (fun j h1 h2 => pk_un (by omega))
    · exact ⟨_, rs, v, c, l, tn, rfl, j6a (mX6_set_bad rs v q x n u c l tn a z h0 h1), j7a hI (mX7_set_bad s la (rs 0) v c l tn p pa m q' b x' h a z h0 h1)⟩
set_option maxRecDepth 100000 in
set_option maxHeartbeats 4000000 in
theorem b_age {rs : rsT} {v : vT} {q : rT} {x : Nat → Nat} {n : Nat → Int64} {u : uT} {c : Nat → Nat → Int32} {l : Nat → Int32} {tn : Int32} {s la : Nat → Int32} {p : Nat → Int32} {pa : Nat → Nat → Int32} {m : Nat} {q' : rT} {b : Int32} {x' : Nat → Nat} {h : Nat → Nat → Int64} (hI : jIv rs v l s la) (i : Int32) (z : Int32) : jBo false KX6_age KX7_age [.int i, .int z] (wC rs v q x n u c l tn) (wM s la (rs 0) v c l tn p pa m q' b x' h) := by
  have hh := hI.1.1.1
  by_cases hz : 0 ≤ i ∧ i ≤ nI (rs 0 6 0) - 1
  · by_cases hb : 0 ≤ z ∧ z ≤ 9
    · obtain ⟨a, ha, rfl⟩ := jin_lt (by omega) hz.1 hz.2
      obtain ⟨y, hy, rfl⟩ := jin_of (n := 9) (by decide) hb.1 hb.2
      refine ⟨_, rsN rs 0 (rset (rs 0) 1 a y), v, c, l, tn, rfl, j6a (mX6_age rs v q x n u c l tn a y hI.1.1 ha hy), j7a ?_ (mX7_age s la (rs 0) v c l tn p pa m q' b x' h a y hI.1.2.1 hI.1.1 ha hy)⟩
      exact hI.now (rOK_age hI.1.1 hy) (mS_age hI.1.1 ha hI.1.2.1) ⟨rfl, rfl, rfl, rfl, rfl⟩ (fun j h1 h2 => pk_un (by omega))
    · exact ⟨_, rs, v, c, l, tn, rfl, j6a (mX6_age_bad rs v q x n u c l tn i z (Or.inr hb)), j7a hI (mX7_age_bad s la (rs 0) v c l tn p pa m q' b x' h i z (Or.inr hb))⟩
  · exact ⟨_, rs, v, c, l, tn, rfl, j6a (mX6_age_bad rs v q x n u c l tn i z (Or.inl hz)), j7a hI (mX7_age_bad s la (rs 0) v c l tn p pa m q' b x' h i z (Or.inl hz))⟩
set_option maxRecDepth 100000 in
set_option maxHeartbeats 4000000 in
theorem b_dye {rs : rsT} {v : vT} {q : rT} {x : Nat → Nat} {n : Nat → Int64} {u : uT} {c : Nat → Nat → Int32} {l : Nat → Int32} {tn : Int32} {s la : Nat → Int32} {p : Nat → Int32} {pa : Nat → Nat → Int32} {m : Nat} {q' : rT} {b : Int32} {x' : Nat → Nat} {h : Nat → Nat → Int64} (hI : jIv rs v l s la) (i : Int32) (z : Int32) : jBo false KX6_dye KX7_dye [.int i, .int z] (wC rs v q x n u c l tn) (wM s la (rs 0) v c l tn p pa m q' b x' h) := by
  have hh := hI.1.1.1
  by_cases hz : 0 ≤ i ∧ i ≤ nI (rs 0 6 0) - 1
  · by_cases hb : 0 ≤ z ∧ z ≤ 4
    · obtain ⟨a, ha, rfl⟩ := jin_lt (by omega) hz.1 hz.2
      obtain ⟨y, hy, rfl⟩ := jin_of (n := 4) (by decide) hb.1 hb.2
      refine ⟨_, rsN rs 0 (rset (rs 0) 0 a y), v, c, l, tn, rfl, j6a (mX6_dye rs v q x n u c l tn a y hI.1.1 ha hy), j7a ?_ (mX7_dye s la (rs 0) v c l tn p pa m q' b x' h a y hI.1.2.1 hI.1.1 ha hy)⟩
      exact hI.now (rOK_dye hI.1.1 hy) (mS_dye hI.1.1 ha hI.1.2.1) ⟨rfl, rfl, rfl, rfl, rfl⟩ (fun j h1 h2 => pk_un (by omega))
    · exact ⟨_, rs, v, c, l, tn, rfl, j6a (mX6_dye_bad rs v q x n u c l tn i z (Or.inr hb)), j7a hI (mX7_dye_bad s la (rs 0) v c l tn p pa m q' b x' h i z (Or.inr hb))⟩
  · exact ⟨_, rs, v, c, l, tn, rfl, j6a (mX6_dye_bad rs v q x n u c l tn i z (Or.inl hz)), j7a hI (mX7_dye_bad s la (rs 0) v c l tn p pa m q' b x' h i z (Or.inl hz))⟩
set_option maxRecDepth 100000 in
set_option maxHeartbeats 4000000 in
theorem b_knot {rs : rsT} {v : vT} {q : rT} {x : Nat → Nat} {n : Nat → Int64} {u : uT} {c : Nat → Nat → Int32} {l : Nat → Int32} {tn : Int32} {s la : Nat → Int32} {p : Nat → Int32} {pa : Nat → Nat → Int32} {m : Nat} {q' : rT} {b : Int32} {x' : Nat → Nat} {h : Nat → Nat → Int64} (hI : jIv rs v l s la) (i z : Int32) (hb : z = 0 ∨ z = 1) : jBo false KX6_knot KX7_knot [.int i, .int z] (wC rs v q x n u c l tn) (wM s la (rs 0) v c l tn p pa m q' b x' h) := by
  have hh := hI.1.1.1
  by_cases hz : 0 ≤ i ∧ i ≤ nI (rs 0 6 0) - 1
  · obtain ⟨a, ha, rfl⟩ := jin_lt (by omega) hz.1 hz.2
    obtain rfl | rfl := hb
    · refine ⟨_, rsN rs 0 (rset (rs 0) 6 3 (rs 0 6 3 &&& (7 - 2 ^ a))), v, c, l, tn, rfl, j6a (mX6_knot0 rs v q x n u c l tn a hI.1.1 ha), j7a ?_ (mX7_knot0 s la (rs 0) v c l tn p pa m q' b x' h a hI.1.2.1 hI.1.1 ha)⟩
      exact hI.now (rOK_knot0 hI.1.1) (mS_knot0 hI.1.1 ha hI.1.2.1) ⟨rfl, rfl, rfl, rfl, rfl⟩ (fun j h1 h2 => (pk_un (by omega)).trans (pk_un (by omega)))
    · refine ⟨_, rsN rs 0 (rset (rset (rs 0) 6 3 (rs 0 6 3 ||| 2 ^ a)) 1 a 0), v, c, l, tn, rfl, j6a (mX6_knot1 rs v q x n u c l tn a hI.1.1 ha), j7a ?_ (mX7_knot1 s la (rs 0) v c l tn p pa m q' b x' h a hI.1.2.1 hI.1.1 ha)⟩
      exact hI.now (rOK_knot1 hI.1.1 ha) (mS_knot1 hI.1.1 ha hI.1.2.1) ⟨rfl, rfl, rfl, rfl, rfl⟩ (fun j h1 h2 => (pk_un (by omega)).trans (pk_un (by omega)))
  · exact ⟨_, rs, v, c, l, tn, rfl, j6a (mX6_knot_bad rs v q x n u c l tn i z hz), j7a hI (mX7_knot_bad s la (rs 0) v c l tn p pa m q' b x' h i z hz)⟩
set_option maxRecDepth 100000 in
set_option maxHeartbeats 4000000 in
theorem b_pay {rs : rsT} {v : vT} {q : rT} {x : Nat → Nat} {n : Nat → Int64} {u : uT} {c : Nat → Nat → Int32} {l : Nat → Int32} {tn : Int32} {s la : Nat → Int32} {p : Nat → Int32} {pa : Nat → Nat → Int32} {m : Nat} {q' : rT} {b : Int32} {x' : Nat → Nat} {h : Nat → Nat → Int64} (hI : jIv rs v l s la) (i : Int32) (a : Int32) (z : Int32) : jBo false KX6_pay KX7_pay [.int i, .int a, .int z] (wC rs v q x n u c l tn) (wM s la (rs 0) v c l tn p pa m q' b x' h) := by
  have hh := hI.1.1.2.1
  by_cases hz : 0 ≤ i ∧ i ≤ nI (rs 0 6 1) - 1
  · by_cases h0 : a = 0 ∧ 0 ≤ z ∧ z ≤ 9
    · obtain ⟨k, hk, rfl⟩ := jin_lt (by omega) hz.1 hz.2
      obtain ⟨rfl, h1, h2⟩ := h0
      obtain ⟨y, hy, rfl⟩ := jin_of (n := 9) (by decide) h1 h2
      refine ⟨_, rsN rs 0 (rset (rs 0) 2 k y), v, c, l, tn, rfl, j6a (mX6_pay0 rs v q x n u c l tn k y hI.1.1 hk hy), j7a ?_ (mX7_pay0 s la (rs 0) v c l tn p pa m q' b x' h k y hI.1.2.1 hI.1.1 hk hy)⟩
      exact hI.now (rOK_pay0 hI.1.1 hy) (mS_pay0 hI.1.1 hk hI.1.2.1) ⟨rfl, rfl, rfl, rfl, rfl⟩ (fun j h1 h2 => pk_un (by omega))
    · by_cases h1 : a = 1 ∧ 0 ≤ z ∧ z ≤ 99
      · obtain ⟨k, hk, rfl⟩ := jin_lt (by omega) hz.1 hz.2
        obtain ⟨rfl, h1, h2⟩ := h1
        obtain ⟨y, hy, rfl⟩ := jin_of (n := 99) (by decide) h1 h2
        refine ⟨_, rsN rs 0 (rset (rs 0) 3 k y), v, c, l, tn, rfl, j6a (mX6_pay1 rs v q x n u c l tn k y hI.1.1 hk hy), j7a ?_ (mX7_pay1 s la (rs 0) v c l tn p pa m q' b x' h k y hI.1.2.1 hI.1.1 hk hy)⟩
        exact hI.now (rOK_pay1 hI.1.1 hy) (mS_pay1 hI.1.1 hk hI.1.2.1) ⟨rfl, rfl, rfl, rfl, rfl⟩ (fun j h1 h2 => pk_un (by omega))
      · exact ⟨_, rs, v, c, l, tn, rfl, j6a (mX6_pay_bad rs v q x n u c l tn i a z (fun _ => ⟨h0, h1⟩)), j7a hI (mX7_pay_bad s la (rs 0) v c l tn p pa m q' b x' h i a z (fun _ => ⟨h0, h1⟩))⟩
  · exact ⟨_, rs, v, c, l, tn, rfl, j6a (mX6_pay_bad rs v q x n u c l tn i a z (fun h => absurd h hz)), j7a hI (mX7_pay_bad s la (rs 0) v c l tn p pa m q' b x' h i a z (fun h => absurd h hz))⟩
set_option maxRecDepth 100000 in
set_option maxHeartbeats 4000000 in
theorem b_hour {rs : rsT} {v : vT} {q : rT} {x : Nat → Nat} {n : Nat → Int64} {u : uT} {c : Nat → Nat → Int32} {l : Nat → Int32} {tn : Int32} {s la : Nat → Int32} {p : Nat → Int32} {pa : Nat → Nat → Int32} {m : Nat} {q' : rT} {b : Int32} {x' : Nat → Nat} {h : Nat → Nat → Int64} (hI : jIv rs v l s la) (z : Int32) : jBo false KX6_hour KX7_hour [.int z] (wC rs v q x n u c l tn) (wM s la (rs 0) v c l tn p pa m q' b x' h) := by
  refine ⟨_, rsN rs 0 (tryR (rs 0) z), v, c, l, tn, rfl, j6a (mX6_hour rs v q x n u c l tn z hI.1.1), (mX7_hour s la (rs 0) v c l tn p pa m q' b x' h z hI.1.2.1 hI.1.1).weaken (fun r A g => ?_)⟩
  obtain ⟨g1, s9, g2, g3, g4⟩ := g
  have hc := sC_try (rs 0) z
  refine ⟨g1, s9, la, p, pa, m, q', b, x', h, ?_, hI.now (rOK_try hI.1.1 z) g3 hc (fun j h1 h2 => g4 j h1)⟩
  rw [g2]
  exact wM_rr hc.1.symm hc.2.1.symm hc.2.2.1.symm
set_option maxRecDepth 100000 in
set_option maxHeartbeats 4000000 in
theorem b_falls {rs : rsT} {v : vT} {q : rT} {x : Nat → Nat} {n : Nat → Int64} {u : uT} {c : Nat → Nat → Int32} {l : Nat → Int32} {tn : Int32} {s la : Nat → Int32} {p : Nat → Int32} {pa : Nat → Nat → Int32} {m : Nat} {q' : rT} {b : Int32} {x' : Nat → Nat} {h : Nat → Nat → Int64} (hI : jIv rs v l s la) (N : Int32) (z : Int32) : jBo true KX6_falls KX7_falls [.int N, .int z] (wC rs v q x n u c l tn) (wM s la (rs 0) v c l tn p pa m q' b x' h) := by
  by_cases hN : 0 ≤ N ∧ N ≤ 5
  · by_cases hz : 0 ≤ z ∧ z ≤ 1
    · skip
      obtain ⟨N9, gN, rfl⟩ := jin_of (n := 5) (by decide) hN.1 hN.2
      exact ⟨_, rs, v, c, l, tn, rfl, j6b (mX6_falls rs v q x n u c l tn N9 gN z hz hI.1.1), j7b hI (mX7_falls s la (rs 0) v c l tn p pa m q' b x' h N9 gN z hz hI.1.2.1 hI.1.1)⟩
    · exact ⟨_, rs, v, c, l, tn, rfl, j6a (mX6_falls_bad rs v q x n u c l tn N z (Or.inr hz)), j7a hI (mX7_falls_bad s la (rs 0) v c l tn p pa m q' b x' h N z (Or.inr hz))⟩
  · exact ⟨_, rs, v, c, l, tn, rfl, j6a (mX6_falls_bad rs v q x n u c l tn N z (Or.inl hN)), j7a hI (mX7_falls_bad s la (rs 0) v c l tn p pa m q' b x' h N z (Or.inl hN))⟩
set_option maxRecDepth 100000 in
set_option maxHeartbeats 4000000 in
theorem b_left {rs : rsT} {v : vT} {q : rT} {x : Nat → Nat} {n : Nat → Int64} {u : uT} {c : Nat → Nat → Int32} {l : Nat → Int32} {tn : Int32} {s la : Nat → Int32} {p : Nat → Int32} {pa : Nat → Nat → Int32} {m : Nat} {q' : rT} {b : Int32} {x' : Nat → Nat} {h : Nat → Nat → Int64} (hI : jIv rs v l s la) (N : Int32) (k : Int32) (z : Int32) : jBo true KX6_left KX7_left [.int N, .int k, .int z] (wC rs v q x n u c l tn) (wM s la (rs 0) v c l tn p pa m q' b x' h) := by
  by_cases hN : 0 ≤ N ∧ N ≤ 5
  · by_cases hk : 0 ≤ k ∧ k ≤ 3
    · by_cases hz : 0 ≤ z ∧ z ≤ 1
      · skip
        obtain ⟨N9, gN, rfl⟩ := jin_of (n := 5) (by decide) hN.1 hN.2
        obtain ⟨k9, gk, rfl⟩ := jin_of (n := 3) (by decide) hk.1 hk.2
        exact ⟨_, rs, v, c, l, tn, rfl, j6b (mX6_left rs v q x n u c l tn N9 k9 gN gk z hz hI.1.1), j7b hI (mX7_left s la (rs 0) v c l tn p pa m q' b x' h N9 k9 gN gk z hz hI.1.2.1 hI.1.1)⟩
      · exact ⟨_, rs, v, c, l, tn, rfl, j6a (mX6_left_bad rs v q x n u c l tn N k z (Or.inr (Or.inr hz))), j7a hI (mX7_left_bad s la (rs 0) v c l tn p pa m q' b x' h N k z (Or.inr (Or.inr hz)))⟩
    · exact ⟨_, rs, v, c, l, tn, rfl, j6a (mX6_left_bad rs v q x n u c l tn N k z (Or.inr (Or.inl hk))), j7a hI (mX7_left_bad s la (rs 0) v c l tn p pa m q' b x' h N k z (Or.inr (Or.inl hk)))⟩
  · exact ⟨_, rs, v, c, l, tn, rfl, j6a (mX6_left_bad rs v q x n u c l tn N k z (Or.inl hN)), j7a hI (mX7_left_bad s la (rs 0) v c l tn p pa m q' b x' h N k z (Or.inl hN))⟩
set_option maxRecDepth 100000 in
set_option maxHeartbeats 4000000 in
theorem b_mean {rs : rsT} {v : vT} {q : rT} {x : Nat → Nat} {n : Nat → Int64} {u : uT} {c : Nat → Nat → Int32} {l : Nat → Int32} {tn : Int32} {s la : Nat → Int32} {p : Nat → Int32} {pa : Nat → Nat → Int32} {m : Nat} {q' : rT} {b : Int32} {x' : Nat → Nat} {h : Nat → Nat → Int64} (hI : jIv rs v l s la) (N : Int32) (z : Int32) : jBo true KX6_mean KX7_mean [.int N, .int z] (wC rs v q x n u c l tn) (wM s la (rs 0) v c l tn p pa m q' b x' h) := by
  by_cases hN : 0 ≤ N ∧ N ≤ 5
  · by_cases hz : 0 ≤ z ∧ z ≤ 1
    · skip
      obtain ⟨N9, gN, rfl⟩ := jin_of (n := 5) (by decide) hN.1 hN.2
      exact ⟨_, rs, v, c, l, tn, rfl, j6b (mX6_mean rs v q x n u c l tn N9 gN z hz hI.1.1), j7b hI (mX7_mean s la (rs 0) v c l tn p pa m q' b x' h N9 gN z hz hI.1.2.1 hI.1.1)⟩
    · exact ⟨_, rs, v, c, l, tn, rfl, j6a (mX6_mean_bad rs v q x n u c l tn N z (Or.inr hz)), j7a hI (mX7_mean_bad s la (rs 0) v c l tn p pa m q' b x' h N z (Or.inr hz))⟩
  · exact ⟨_, rs, v, c, l, tn, rfl, j6a (mX6_mean_bad rs v q x n u c l tn N z (Or.inl hN)), j7a hI (mX7_mean_bad s la (rs 0) v c l tn p pa m q' b x' h N z (Or.inl hN))⟩
set_option maxRecDepth 100000 in
set_option maxHeartbeats 4000000 in
theorem b_sits {rs : rsT} {v : vT} {q : rT} {x : Nat → Nat} {n : Nat → Int64} {u : uT} {c : Nat → Nat → Int32} {l : Nat → Int32} {tn : Int32} {s la : Nat → Int32} {p : Nat → Int32} {pa : Nat → Nat → Int32} {m : Nat} {q' : rT} {b : Int32} {x' : Nat → Nat} {h : Nat → Nat → Int64} (hI : jIv rs v l s la) (k : Int32) (N : Int32) (z : Int32) : jBo true KX6_sits KX7_sits [.int k, .int N, .int z] (wC rs v q x n u c l tn) (wM s la (rs 0) v c l tn p pa m q' b x' h) := by
  by_cases hk : 0 ≤ k ∧ k ≤ nI (rs 0 6 1) - 1
  · by_cases hN : 0 ≤ N ∧ N ≤ 5
    · by_cases hz : 0 ≤ z ∧ z ≤ 1
      · skip
        obtain ⟨k9, gk, rfl⟩ := jin_lt (by have := hI.1.1.2.1; omega) hk.1 hk.2
        obtain ⟨N9, gN, rfl⟩ := jin_of (n := 5) (by decide) hN.1 hN.2
        exact ⟨_, rs, v, c, l, tn, rfl, j6b (mX6_sits rs v q x n u c l tn k9 N9 gk gN z hz hI.1.1), j7b hI (mX7_sits s la (rs 0) v c l tn p pa m q' b x' h k9 N9 gk gN z hz hI.1.2.1 hI.1.1)⟩
      · exact ⟨_, rs, v, c, l, tn, rfl, j6a (mX6_sits_bad rs v q x n u c l tn k N z (Or.inr (Or.inr hz))), j7a hI (mX7_sits_bad s la (rs 0) v c l tn p pa m q' b x' h k N z (Or.inr (Or.inr hz)))⟩
    · exact ⟨_, rs, v, c, l, tn, rfl, j6a (mX6_sits_bad rs v q x n u c l tn k N z (Or.inr (Or.inl hN))), j7a hI (mX7_sits_bad s la (rs 0) v c l tn p pa m q' b x' h k N z (Or.inr (Or.inl hN)))⟩
  · exact ⟨_, rs, v, c, l, tn, rfl, j6a (mX6_sits_bad rs v q x n u c l tn k N z (Or.inl hk)), j7a hI (mX7_sits_bad s la (rs 0) v c l tn p pa m q' b x' h k N z (Or.inl hk))⟩
set_option maxRecDepth 100000 in
set_option maxHeartbeats 4000000 in
theorem b_best {rs : rsT} {v : vT} {q : rT} {x : Nat → Nat} {n : Nat → Int64} {u : uT} {c : Nat → Nat → Int32} {l : Nat → Int32} {tn : Int32} {s la : Nat → Int32} {p : Nat → Int32} {pa : Nat → Nat → Int32} {m : Nat} {q' : rT} {b : Int32} {x' : Nat → Nat} {h : Nat → Nat → Int64} (hI : jIv rs v l s la) (k : Int32) (N : Int32) (z : Int32) : jBo true KX6_best KX7_best [.int k, .int N, .int z] (wC rs v q x n u c l tn) (wM s la (rs 0) v c l tn p pa m q' b x' h) := by
  by_cases hk : 0 ≤ k ∧ k ≤ nI (rs 0 6 1) - 1
  · by_cases hN : 0 ≤ N ∧ N ≤ 5
    · by_cases hz : 0 ≤ z ∧ z ≤ 2
      · skip
        obtain ⟨k9, gk, rfl⟩ := jin_lt (by have := hI.1.1.2.1; omega) hk.1 hk.2
        obtain ⟨N9, gN, rfl⟩ := jin_of (n := 5) (by decide) hN.1 hN.2
        by_cases hz1 : 0 ≤ z ∧ z ≤ 1
        · exact ⟨_, rs, v, c, l, tn, rfl, j6b (mX6_best rs v q x n u c l tn k9 N9 gk gN z hz1 hI.1.1), j7b hI (mX7_best s la (rs 0) v c l tn p pa m q' b x' h k9 N9 gk gN z hz1 hI.1.2.1 hI.1.1)⟩
        · obtain rfl : z = 2 := jb2 hz hz1
          exact ⟨_, rs, v, c, l, tn, rfl, j6b (mX6_best2 rs v q x n u c l tn k9 N9 gk gN hI.1.1), j7b hI (mX7_best2 s la (rs 0) v c l tn p pa m q' b x' h k9 N9 gk gN hI.1.2.1 hI.1.1)⟩
      · exact ⟨_, rs, v, c, l, tn, rfl, j6a (mX6_best_bad rs v q x n u c l tn k N z (Or.inr (Or.inr hz))), j7a hI (mX7_best_bad s la (rs 0) v c l tn p pa m q' b x' h k N z (Or.inr (Or.inr hz)))⟩
    · exact ⟨_, rs, v, c, l, tn, rfl, j6a (mX6_best_bad rs v q x n u c l tn k N z (Or.inr (Or.inl hN))), j7a hI (mX7_best_bad s la (rs 0) v c l tn p pa m q' b x' h k N z (Or.inr (Or.inl hN)))⟩
  · exact ⟨_, rs, v, c, l, tn, rfl, j6a (mX6_best_bad rs v q x n u c l tn k N z (Or.inl hk)), j7a hI (mX7_best_bad s la (rs 0) v c l tn p pa m q' b x' h k N z (Or.inl hk))⟩
set_option maxRecDepth 100000 in
set_option maxHeartbeats 4000000 in
theorem b_test {rs : rsT} {v : vT} {q : rT} {x : Nat → Nat} {n : Nat → Int64} {u : uT} {c : Nat → Nat → Int32} {l : Nat → Int32} {tn : Int32} {s la : Nat → Int32} {p : Nat → Int32} {pa : Nat → Nat → Int32} {m : Nat} {q' : rT} {b : Int32} {x' : Nat → Nat} {h : Nat → Nat → Int64} (hI : jIv rs v l s la) (V : Int32) (N : Int32) (z : Int32) : jBo true KX6_test KX7_test [.int V, .int N, .int z] (wC rs v q x n u c l tn) (wM s la (rs 0) v c l tn p pa m q' b x' h) := by
  by_cases hV : 1 ≤ V ∧ V ≤ 9
  · by_cases hN : 0 ≤ N ∧ N ≤ 4
    · by_cases hz : 0 ≤ z ∧ z ≤ 1
      · skip
        obtain ⟨V9, gV, rfl⟩ := jin_of (n := 9) (by decide) (Int32.le_trans (by decide) hV.1) hV.2
        have fV : 1 ≤ V9 := (nI_lei (a := 1) (by decide) (by omega)).mp hV.1
        obtain ⟨N9, gN, rfl⟩ := jin_of (n := 4) (by decide) hN.1 hN.2
        exact ⟨_, rs, v, c, l, tn, rfl, j6b (mX6_test rs v q x n u c l tn V9 N9 fV gV gN z hz hI.1.1), j7b hI (mX7_test s la (rs 0) v c l tn p pa m q' b x' h V9 N9 fV gV gN z hz hI.1.2.1 hI.1.1)⟩
      · exact ⟨_, rs, v, c, l, tn, rfl, j6a (mX6_test_bad rs v q x n u c l tn V N z (Or.inr (Or.inr hz))), j7a hI (mX7_test_bad s la (rs 0) v c l tn p pa m q' b x' h V N z (Or.inr (Or.inr hz)))⟩
    · exact ⟨_, rs, v, c, l, tn, rfl, j6a (mX6_test_bad rs v q x n u c l tn V N z (Or.inr (Or.inl hN))), j7a hI (mX7_test_bad s la (rs 0) v c l tn p pa m q' b x' h V N z (Or.inr (Or.inl hN)))⟩
  · exact ⟨_, rs, v, c, l, tn, rfl, j6a (mX6_test_bad rs v q x n u c l tn V N z (Or.inl hV)), j7a hI (mX7_test_bad s la (rs 0) v c l tn p pa m q' b x' h V N z (Or.inl hV))⟩
set_option maxRecDepth 100000 in
set_option maxHeartbeats 4000000 in
theorem b_plait {rs : rsT} {v : vT} {q : rT} {x : Nat → Nat} {n : Nat → Int64} {u : uT} {c : Nat → Nat → Int32} {l : Nat → Int32} {tn : Int32} {s la : Nat → Int32} {p : Nat → Int32} {pa : Nat → Nat → Int32} {m : Nat} {q' : rT} {b : Int32} {x' : Nat → Nat} {h : Nat → Nat → Int64} (hI : jIv rs v l s la) (d : Int32) (N : Int32) (k : Int32) : jBo false KX6_plait KX7_plait [.int d, .int N, .int k] (wC rs v q x n u c l tn) (wM s la (rs 0) v c l tn p pa m q' b x' h) := by
  by_cases hd : 0 ≤ d ∧ d ≤ 4
  · by_cases hN : 0 ≤ N ∧ N ≤ 5
    · by_cases hk : 1 ≤ k ∧ k ≤ 10
      · skip
        obtain ⟨d9, gd, rfl⟩ := jin_of (n := 4) (by decide) hd.1 hd.2
        obtain ⟨N9, gN, rfl⟩ := jin_of (n := 5) (by decide) hN.1 hN.2
        obtain ⟨k9, gk, rfl⟩ := jin_of (n := 10) (by decide) (Int32.le_trans (by decide) hk.1) hk.2
        have fk : 1 ≤ k9 := (nI_lei (a := 1) (by decide) (by omega)).mp hk.1
        exact ⟨_, rs, v, c, l, tn, rfl, j6b (mX6_plait rs v q x n u c l tn d9 N9 k9 gd gN fk gk hI.1.1), j7b hI (mX7_plait s la (rs 0) v c l tn p pa m q' b x' h d9 N9 k9 gd gN fk gk hI.1.2.1 hI.1.1)⟩
      · exact ⟨_, rs, v, c, l, tn, rfl, j6a (mX6_plait_bad rs v q x n u c l tn d N k (Or.inr (Or.inr hk))), j7a hI (mX7_plait_bad s la (rs 0) v c l tn p pa m q' b x' h d N k (Or.inr (Or.inr hk)))⟩
    · exact ⟨_, rs, v, c, l, tn, rfl, j6a (mX6_plait_bad rs v q x n u c l tn d N k (Or.inr (Or.inl hN))), j7a hI (mX7_plait_bad s la (rs 0) v c l tn p pa m q' b x' h d N k (Or.inr (Or.inl hN)))⟩
  · exact ⟨_, rs, v, c, l, tn, rfl, j6a (mX6_plait_bad rs v q x n u c l tn d N k (Or.inl hd)), j7a hI (mX7_plait_bad s la (rs 0) v c l tn p pa m q' b x' h d N k (Or.inl hd))⟩
set_option maxRecDepth 100000 in
set_option maxHeartbeats 4000000 in
theorem b_bears {rs : rsT} {v : vT} {q : rT} {x : Nat → Nat} {n : Nat → Int64} {u : uT} {c : Nat → Nat → Int32} {l : Nat → Int32} {tn : Int32} {s la : Nat → Int32} {p : Nat → Int32} {pa : Nat → Nat → Int32} {m : Nat} {q' : rT} {b : Int32} {x' : Nat → Nat} {h : Nat → Nat → Int64} (hI : jIv rs v l s la) (N : Int32) (k : Int32) : jBo false KX6_bears KX7_bears [.int N, .int k] (wC rs v q x n u c l tn) (wM s la (rs 0) v c l tn p pa m q' b x' h) := by
  by_cases hN : 0 ≤ N ∧ N ≤ 5
  · by_cases hk : 1 ≤ k ∧ k ≤ 10
    · skip
      obtain ⟨N9, gN, rfl⟩ := jin_of (n := 5) (by decide) hN.1 hN.2
      obtain ⟨k9, gk, rfl⟩ := jin_of (n := 10) (by decide) (Int32.le_trans (by decide) hk.1) hk.2
      have fk : 1 ≤ k9 := (nI_lei (a := 1) (by decide) (by omega)).mp hk.1
      exact ⟨_, rs, v, c, l, tn, rfl, j6b (mX6_bears rs v q x n u c l tn N9 k9 gN fk gk hI.1.1), j7b hI (mX7_bears s la (rs 0) v c l tn p pa m q' b x' h N9 k9 gN fk gk hI.1.2.1 hI.1.1)⟩
    · exact ⟨_, rs, v, c, l, tn, rfl, j6a (mX6_bears_bad rs v q x n u c l tn N k (Or.inr hk)), j7a hI (mX7_bears_bad s la (rs 0) v c l tn p pa m q' b x' h N k (Or.inr hk))⟩
  · exact ⟨_, rs, v, c, l, tn, rfl, j6a (mX6_bears_bad rs v q x n u c l tn N k (Or.inl hN)), j7a hI (mX7_bears_bad s la (rs 0) v c l tn p pa m q' b x' h N k (Or.inl hN))⟩
set_option maxRecDepth 100000 in
set_option maxHeartbeats 4000000 in
theorem b_mend {rs : rsT} {v : vT} {q : rT} {x : Nat → Nat} {n : Nat → Int64} {u : uT} {c : Nat → Nat → Int32} {l : Nat → Int32} {tn : Int32} {s la : Nat → Int32} {p : Nat → Int32} {pa : Nat → Nat → Int32} {m : Nat} {q' : rT} {b : Int32} {x' : Nat → Nat} {h : Nat → Nat → Int64} (hI : jIv rs v l s la) (N : Int32) (z : Int32) : jBo true KX6_mend KX7_mend [.int N, .int z] (wC rs v q x n u c l tn) (wM s la (rs 0) v c l tn p pa m q' b x' h) := by
  by_cases hN : 0 ≤ N ∧ N ≤ 5
  · by_cases hz : 0 ≤ z ∧ z ≤ 2
    · skip
      obtain ⟨N9, gN, rfl⟩ := jin_of (n := 5) (by decide) hN.1 hN.2
      exact ⟨_, rs, v, c, l, tn, rfl, j6b (mX6_mend rs v q x n u c l tn N9 gN z hz hI.1.1), j7b hI (mX7_mend s la (rs 0) v c l tn p pa m q' b x' h N9 gN z hz hI.1.2.1 hI.1.1)⟩
    · exact ⟨_, rs, v, c, l, tn, rfl, j6a (mX6_mend_bad rs v q x n u c l tn N z (Or.inr hz)), j7a hI (mX7_mend_bad s la (rs 0) v c l tn p pa m q' b x' h N z (Or.inr hz))⟩
  · exact ⟨_, rs, v, c, l, tn, rfl, j6a (mX6_mend_bad rs v q x n u c l tn N z (Or.inl hN)), j7a hI (mX7_mend_bad s la (rs 0) v c l tn p pa m q' b x' h N z (Or.inl hN))⟩
set_option maxRecDepth 100000 in
set_option maxHeartbeats 4000000 in
theorem b_crown {rs : rsT} {v : vT} {q : rT} {x : Nat → Nat} {n : Nat → Int64} {u : uT} {c : Nat → Nat → Int32} {l : Nat → Int32} {tn : Int32} {s la : Nat → Int32} {p : Nat → Int32} {pa : Nat → Nat → Int32} {m : Nat} {q' : rT} {b : Int32} {x' : Nat → Nat} {h : Nat → Nat → Int64} (hI : jIv rs v l s la) (N : Int32) (z : Int32) : jBo true KX6_crown KX7_crown [.int N, .int z] (wC rs v q x n u c l tn) (wM s la (rs 0) v c l tn p pa m q' b x' h) := by
  by_cases hN : 0 ≤ N ∧ N ≤ 5
  · by_cases hz : 0 ≤ z ∧ z ≤ 2
    · skip
      obtain ⟨N9, gN, rfl⟩ := jin_of (n := 5) (by decide) hN.1 hN.2
      by_cases hK : 1 ≤ rs 0 6 1
      · exact ⟨_, rs, v, c, l, tn, rfl, j6b (mX6_crown rs v q x n u c l tn N9 gN z hz hI.1.1 hK), j7b hI (mX7_crown s la (rs 0) v c l tn p pa m q' b x' h N9 gN z hz hI.1.2.1 hI.1.1 hK)⟩
      · exact ⟨_, rs, v, c, l, tn, rfl, j6a (mX6_crown_none rs v q x n u c l tn N9 gN z hz (by omega)), j7a hI (mX7_crown_none s la (rs 0) v c l tn p pa m q' b x' h N9 gN z hz (by omega))⟩
    · exact ⟨_, rs, v, c, l, tn, rfl, j6a (mX6_crown_bad rs v q x n u c l tn N z (Or.inr hz)), j7a hI (mX7_crown_bad s la (rs 0) v c l tn p pa m q' b x' h N z (Or.inr hz))⟩
  · exact ⟨_, rs, v, c, l, tn, rfl, j6a (mX6_crown_bad rs v q x n u c l tn N z (Or.inl hN)), j7a hI (mX7_crown_bad s la (rs 0) v c l tn p pa m q' b x' h N z (Or.inl hN))⟩
set_option maxRecDepth 100000 in
set_option maxHeartbeats 4000000 in
theorem b_reads {rs : rsT} {v : vT} {q : rT} {x : Nat → Nat} {n : Nat → Int64} {u : uT} {c : Nat → Nat → Int32} {l : Nat → Int32} {tn : Int32} {s la : Nat → Int32} {p : Nat → Int32} {pa : Nat → Nat → Int32} {m : Nat} {q' : rT} {b : Int32} {x' : Nat → Nat} {h : Nat → Nat → Int64} (hI : jIv rs v l s la) (i : Int32) (z : Int32) : jBo true KX6_reads KX7_reads [.int i, .int z] (wC rs v q x n u c l tn) (wM s la (rs 0) v c l tn p pa m q' b x' h) := by
  have h3 := hI.1.1.2.2.1
  have hp : 2 ^ rs 0 6 2 ≤ 2 ^ 3 := Nat.pow_le_pow_right (by decide) h3
  have hp0 := Nat.two_pow_pos (rs 0 6 2)
  by_cases hi : 0 ≤ i ∧ i ≤ nI (2 ^ rs 0 6 2 - 1)
  · by_cases hz : 0 ≤ z ∧ z ≤ 1
    · obtain ⟨a, ha, rfl⟩ := jin_of (n := 2 ^ rs 0 6 2 - 1) (by omega) hi.1 hi.2
      exact ⟨_, rs, v, c, l, tn, rfl, j6b (mX6_reads rs v q x n u c l tn a (by omega) z hz hI.1.1), j7b hI (mX7_reads s la (rs 0) v c l tn p pa m q' b x' h a (by omega) z hz hI.1.2.1 hI.1.1 hI.1.2.2)⟩
    · exact ⟨_, rs, v, c, l, tn, rfl, j6a (mX6_reads_bad rs v q x n u c l tn i z hI.1.1 (Or.inr hz)), j7a hI (mX7_reads_bad s la (rs 0) v c l tn p pa m q' b x' h i z hI.1.1 (Or.inr hz))⟩
  · exact ⟨_, rs, v, c, l, tn, rfl, j6a (mX6_reads_bad rs v q x n u c l tn i z hI.1.1 (Or.inl hi)), j7a hI (mX7_reads_bad s la (rs 0) v c l tn p pa m q' b x' h i z hI.1.1 (Or.inl hi))⟩
set_option maxRecDepth 100000 in
set_option maxHeartbeats 4000000 in
theorem b_laws {rs : rsT} {v : vT} {q : rT} {x : Nat → Nat} {n : Nat → Int64} {u : uT} {c : Nat → Nat → Int32} {l : Nat → Int32} {tn : Int32} {s la : Nat → Int32} {p : Nat → Int32} {pa : Nat → Nat → Int32} {m : Nat} {q' : rT} {b : Int32} {x' : Nat → Nat} {h : Nat → Nat → Int64} (hI : jIv rs v l s la) (z : Int32) : jBo true KX6_laws KX7_laws [.int z] (wC rs v q x n u c l tn) (wM s la (rs 0) v c l tn p pa m q' b x' h) := by
  by_cases hz : 0 ≤ z ∧ z ≤ 2
  · exact ⟨_, rs, v, c, l, tn, rfl, j6b (mX6_laws rs v q x n u c l tn z hz hI.1.1), j7b hI (mX7_laws s la (rs 0) v c l tn p pa m q' b x' h z hz hI.1.2.1 hI.1.1 hI.1.2.2)⟩
  · exact ⟨_, rs, v, c, l, tn, rfl, j6a (mX6_laws_bad rs v q x n u c l tn z hz), j7a hI (mX7_laws_bad s la (rs 0) v c l tn p pa m q' b x' h z hz)⟩
set_option maxRecDepth 100000 in
set_option maxHeartbeats 4000000 in
theorem b_guess {rs : rsT} {v : vT} {q : rT} {x : Nat → Nat} {n : Nat → Int64} {u : uT} {c : Nat → Nat → Int32} {l : Nat → Int32} {tn : Int32} {s la : Nat → Int32} {p : Nat → Int32} {pa : Nat → Nat → Int32} {m : Nat} {q' : rT} {b : Int32} {x' : Nat → Nat} {h : Nat → Nat → Int64} (hI : jIv rs v l s la) (z : Int32) : jBo true KX6_guess KX7_guess [.int z] (wC rs v q x n u c l tn) (wM s la (rs 0) v c l tn p pa m q' b x' h) := by
  by_cases hz : 0 ≤ z ∧ z ≤ 2
  · exact ⟨_, rs, v, c, l, tn, rfl, j6b (mX6_guess rs v q x n u c l tn z hz hI.2.1.1 hI.1.1), j7b hI (mX7_guess s la (rs 0) v c l tn p pa m q' b x' h z hz hI.2.1.1 hI.1.2.1 hI.1.1)⟩
  · exact ⟨_, rs, v, c, l, tn, rfl, j6a (mX6_guess_bad rs v q x n u c l tn z hz), j7a hI (mX7_guess_bad s la (rs 0) v c l tn p pa m q' b x' h z hz)⟩
set_option maxRecDepth 100000 in
set_option maxHeartbeats 4000000 in
theorem b_likely {rs : rsT} {v : vT} {q : rT} {x : Nat → Nat} {n : Nat → Int64} {u : uT} {c : Nat → Nat → Int32} {l : Nat → Int32} {tn : Int32} {s la : Nat → Int32} {p : Nat → Int32} {pa : Nat → Nat → Int32} {m : Nat} {q' : rT} {b : Int32} {x' : Nat → Nat} {h : Nat → Nat → Int64} (hI : jIv rs v l s la) (d : Int32) (k : Int32) (z : Int32) : jBo true KX6_likely KX7_likely [.int d, .int k, .int z] (wC rs v q x n u c l tn) (wM s la (rs 0) v c l tn p pa m q' b x' h) := by
  by_cases hd : 0 ≤ d ∧ d ≤ 4
  · by_cases hk : 1 ≤ k ∧ k ≤ 3
    · by_cases hz : 0 ≤ z ∧ z ≤ 1
      · skip
        obtain ⟨d9, gd, rfl⟩ := jin_of (n := 4) (by decide) hd.1 hd.2
        obtain ⟨k9, gk, rfl⟩ := jin_of (n := 3) (by decide) (Int32.le_trans (by decide) hk.1) hk.2
        have fk : 1 ≤ k9 := (nI_lei (a := 1) (by decide) (by omega)).mp hk.1
        exact ⟨_, rs, v, c, l, tn, rfl, j6b (mX6_likely rs v q x n u c l tn d9 k9 gd fk gk z hz hI.2.1.1 hI.1.1), j7b hI (mX7_likely s la (rs 0) v c l tn p pa m q' b x' h d9 k9 gd fk gk z hz hI.2.1.1 hI.1.2.1 hI.1.1)⟩
      · exact ⟨_, rs, v, c, l, tn, rfl, j6a (mX6_likely_bad rs v q x n u c l tn d k z (Or.inr (Or.inr hz))), j7a hI (mX7_likely_bad s la (rs 0) v c l tn p pa m q' b x' h d k z (Or.inr (Or.inr hz)))⟩
    · exact ⟨_, rs, v, c, l, tn, rfl, j6a (mX6_likely_bad rs v q x n u c l tn d k z (Or.inr (Or.inl hk))), j7a hI (mX7_likely_bad s la (rs 0) v c l tn p pa m q' b x' h d k z (Or.inr (Or.inl hk)))⟩
  · exact ⟨_, rs, v, c, l, tn, rfl, j6a (mX6_likely_bad rs v q x n u c l tn d k z (Or.inl hd)), j7a hI (mX7_likely_bad s la (rs 0) v c l tn p pa m q' b x' h d k z (Or.inl hd))⟩
set_option maxRecDepth 100000 in
set_option maxHeartbeats 4000000 in
theorem b_duel {rs : rsT} {v : vT} {q : rT} {x : Nat → Nat} {n : Nat → Int64} {u : uT} {c : Nat → Nat → Int32} {l : Nat → Int32} {tn : Int32} {s la : Nat → Int32} {p : Nat → Int32} {pa : Nat → Nat → Int32} {m : Nat} {q' : rT} {b : Int32} {x' : Nat → Nat} {h : Nat → Nat → Int64} (hI : jIv rs v l s la) (i : Int32) (j : Int32) (N : Int32) (z : Int32) : jBo true KX6_duel KX7_duel [.int i, .int j, .int N, .int z] (wC rs v q x n u c l tn) (wM s la (rs 0) v c l tn p pa m q' b x' h) := by
  by_cases hi : ¬ (0 ≤ i ∧ i ≤ nI (rs 0 6 1) - 1) ∨ ¬ (0 ≤ j ∧ j ≤ nI (rs 0 6 1) - 1) ∨ i = j
  · exact ⟨_, rs, v, c, l, tn, rfl, j6a (mX6_duel_bad1 rs v q x n u c l tn i j N z hi), j7a hI (mX7_duel_bad1 s la (rs 0) v c l tn p pa m q' b x' h i j N z hi)⟩
  by_cases hN : ¬ (0 ≤ N ∧ N ≤ 5) ∨ ¬ (0 ≤ z ∧ z ≤ 4)
  · exact ⟨_, rs, v, c, l, tn, rfl, j6a (mX6_duel_bad2 rs v q x n u c l tn i j N z hN), j7a hI (mX7_duel_bad2 s la (rs 0) v c l tn p pa m q' b x' h i j N z hN)⟩
  have h1 : 0 ≤ i ∧ i ≤ nI (rs 0 6 1) - 1 := Decidable.not_not.mp (fun h => hi (Or.inl h))
  have h2 : 0 ≤ j ∧ j ≤ nI (rs 0 6 1) - 1 := Decidable.not_not.mp (fun h => hi (Or.inr (Or.inl h)))
  have h3 : i ≠ j := fun h => hi (Or.inr (Or.inr h))
  have h4 : 0 ≤ N ∧ N ≤ 5 := Decidable.not_not.mp (fun h => hN (Or.inl h))
  have h5 : 0 ≤ z ∧ z ≤ 4 := Decidable.not_not.mp (fun h => hN (Or.inr h))
  have hk := hI.1.1.2.1
  obtain ⟨a, ha, rfl⟩ := jin_lt (by omega) h1.1 h1.2
  obtain ⟨d, hd, rfl⟩ := jin_lt (by omega) h2.1 h2.2
  obtain ⟨N9, gN, rfl⟩ := jin_of (n := 5) (by decide) h4.1 h4.2
  have hne : a ≠ d := fun e => h3 (by rw [e])
  by_cases h01 : 0 ≤ z ∧ z ≤ 1
  · exact ⟨_, rs, v, c, l, tn, rfl, j6b (mX6_duel0 rs v q x n u c l tn a d N9 ha hd hne gN z h01 hI.1.1), j7b hI (mX7_duel0 s la (rs 0) v c l tn p pa m q' b x' h a d N9 ha hd hne gN z h01 hI.1.2.1 hI.1.1)⟩
  by_cases h23 : 2 ≤ z ∧ z ≤ 3
  · exact ⟨_, rs, v, c, l, tn, rfl, j6b (mX6_duel1 rs v q x n u c l tn a d N9 ha hd hne gN z h23 hI.1.1), j7b hI (mX7_duel1 s la (rs 0) v c l tn p pa m q' b x' h a d N9 ha hd hne gN z h23 hI.1.2.1 hI.1.1)⟩
  obtain rfl : z = 4 := jb4 h5 h01 h23
  exact ⟨_, rs, v, c, l, tn, rfl, j6b (mX6_duel4 rs v q x n u c l tn a d N9 ha hd hne gN hI.1.1), j7b hI (mX7_duel4 s la (rs 0) v c l tn p pa m q' b x' h a d N9 ha hd hne gN hI.1.2.1 hI.1.1)⟩
set_option maxRecDepth 100000 in
set_option maxHeartbeats 4000000 in
theorem b_see {rs : rsT} {v : vT} {q : rT} {x : Nat → Nat} {n : Nat → Int64} {u : uT} {c : Nat → Nat → Int32} {l : Nat → Int32} {tn : Int32} {s la : Nat → Int32} {p : Nat → Int32} {pa : Nat → Nat → Int32} {m : Nat} {q' : rT} {b : Int32} {x' : Nat → Nat} {h : Nat → Nat → Int64} (hI : jIv rs v l s la) (a : Int32) (k : Int32) : jBo false KX6_see KX7_see [.int a, .int k] (wC rs v q x n u c l tn) (wM s la (rs 0) v c l tn p pa m q' b x' h) := by
  by_cases ha : 0 ≤ a ∧ a ≤ 5
  · by_cases hk : 0 ≤ k ∧ k ≤ 3
    · obtain ⟨a9, ga, rfl⟩ := jin_of (n := 5) (by decide) ha.1 ha.2
      obtain ⟨k9, gk, rfl⟩ := jin_of (n := 3) (by decide) hk.1 hk.2
      have h6 := hI.2.1.1.2.2
      by_cases hm : v 4 1 < 6
      · refine ⟨_, rs, _, c, l, tn, rfl, j6a (mX6_see rs v q x n u c l tn a9 k9 ga gk hm), j7a ?_ (mX7_see s la (rs 0) v c l tn p pa m q' b x' h a9 k9 ga gk hm)⟩
        refine hI.v ⟨fun i => ?_, fun i => ?_, show v 4 1 + 1 ≤ 6 by omega⟩ hI.2.1.2.1 hI.2.1.2.2.1 rfl (fun k hk => ?_)
        · show (if i = v 4 1 then a9 else v 2 i) ≤ 5
          have := hI.2.1.1.1 i
          split <;> omega
        · show (if i = v 4 1 then k9 else v 3 i) ≤ 3
          have := hI.2.1.1.2.1 i
          split <;> omega
        · show (if 2 + k = 1 then v 4 1 + 1 else v 4 (2 + k)) = _
          exact if_neg (by omega)
      · exact ⟨_, rs, v, c, l, tn, rfl, j6a (mX6_see_full rs v q x n u c l tn a9 k9 ga gk (by omega)), j7a hI (mX7_see_full s la (rs 0) v c l tn p pa m q' b x' h a9 k9 ga gk (by omega))⟩
    · exact ⟨_, rs, v, c, l, tn, rfl, j6a (mX6_see_bad rs v q x n u c l tn a k (Or.inr hk)), j7a hI (mX7_see_bad s la (rs 0) v c l tn p pa m q' b x' h a k (Or.inr hk))⟩
  · exact ⟨_, rs, v, c, l, tn, rfl, j6a (mX6_see_bad rs v q x n u c l tn a k (Or.inl ha)), j7a hI (mX7_see_bad s la (rs 0) v c l tn p pa m q' b x' h a k (Or.inl ha))⟩
set_option maxRecDepth 100000 in
set_option maxHeartbeats 4000000 in
theorem b_forget {rs : rsT} {v : vT} {q : rT} {x : Nat → Nat} {n : Nat → Int64} {u : uT} {c : Nat → Nat → Int32} {l : Nat → Int32} {tn : Int32} {s la : Nat → Int32} {p : Nat → Int32} {pa : Nat → Nat → Int32} {m : Nat} {q' : rT} {b : Int32} {x' : Nat → Nat} {h : Nat → Nat → Int64} (hI : jIv rs v l s la) (z : Int32) : jBo false KX6_forget KX7_forget [.int z] (wC rs v q x n u c l tn) (wM s la (rs 0) v c l tn p pa m q' b x' h) := by
  have h6 := hI.2.1.1.2.2
  by_cases hz : 0 ≤ z ∧ z ≤ nI (v 4 1)
  · obtain ⟨a, ha, rfl⟩ := jin_of (n := v 4 1) (by omega) hz.1 hz.2
    refine ⟨_, rs, _, c, l, tn, rfl, j6a (mX6_forget rs v q x n u c l tn a ha h6), j7a ?_ (mX7_forget s la (rs 0) v c l tn p pa m q' b x' h a ha h6)⟩
    refine hI.v ⟨hI.2.1.1.1, hI.2.1.1.2.1, show a ≤ 6 by omega⟩ hI.2.1.2.1 hI.2.1.2.2.1 rfl (fun k hk => ?_)
    show (if 2 + k = 1 then a else v 4 (2 + k)) = _
    exact if_neg (by omega)
  · exact ⟨_, rs, v, c, l, tn, rfl, j6a (mX6_forget_bad rs v q x n u c l tn z hz), j7a hI (mX7_forget_bad s la (rs 0) v c l tn p pa m q' b x' h z hz)⟩
set_option maxRecDepth 100000 in
set_option maxHeartbeats 4000000 in
theorem b_drift {rs : rsT} {v : vT} {q : rT} {x : Nat → Nat} {n : Nat → Int64} {u : uT} {c : Nat → Nat → Int32} {l : Nat → Int32} {tn : Int32} {s la : Nat → Int32} {p : Nat → Int32} {pa : Nat → Nat → Int32} {m : Nat} {q' : rT} {b : Int32} {x' : Nat → Nat} {h : Nat → Nat → Int64} (hI : jIv rs v l s la) (y : Int32) (N : Int32) (z : Int32) : jBo false KX6_drift KX7_drift [.int y, .int N, .int z] (wC rs v q x n u c l tn) (wM s la (rs 0) v c l tn p pa m q' b x' h) := by
  by_cases hN : 1 ≤ N ∧ N ≤ 60
  · by_cases hz : 0 ≤ z ∧ z ≤ 1
    · obtain ⟨N9, gN, rfl⟩ := jin_of (n := 60) (by decide) (Int32.le_trans (by decide) hN.1) hN.2
      have fN : 1 ≤ N9 := (nI_lei (a := 1) (by decide) (by omega)).mp hN.1
      refine ⟨_, rs, v, c, l, tn, rfl, (mX6_drift rs v q x n u c l tn y N9 fN gN z hz hI.1.1).weaken (fun r A g => ?_), j7b hI (mX7_drift s la (rs 0) v c l tn p pa m q' b x' h y N9 fN gN z hz hI.1.2.1 hI.1.1)⟩
      obtain ⟨g1, r9, g2⟩ := g
      exact ⟨g1, r9, q, x, n, u, g2⟩
    · exact ⟨_, rs, v, c, l, tn, rfl, j6a (mX6_drift_bad rs v q x n u c l tn y N z (Or.inr hz)), j7a hI (mX7_drift_bad s la (rs 0) v c l tn p pa m q' b x' h y N z (Or.inr hz))⟩
  · exact ⟨_, rs, v, c, l, tn, rfl, j6a (mX6_drift_bad rs v q x n u c l tn y N z (Or.inl hN)), j7a hI (mX7_drift_bad s la (rs 0) v c l tn p pa m q' b x' h y N z (Or.inl hN))⟩
set_option maxRecDepth 100000 in
set_option maxHeartbeats 4000000 in
theorem b_count {rs : rsT} {v : vT} {q : rT} {x : Nat → Nat} {n : Nat → Int64} {u : uT} {c : Nat → Nat → Int32} {l : Nat → Int32} {tn : Int32} {s la : Nat → Int32} {p : Nat → Int32} {pa : Nat → Nat → Int32} {m : Nat} {q' : rT} {b : Int32} {x' : Nat → Nat} {h : Nat → Nat → Int64} (hI : jIv rs v l s la) (z : Int32) : jBo false KX6_count KX7_count [.int z] (wC rs v q x n u c l tn) (wM s la (rs 0) v c l tn p pa m q' b x' h) := by
  exact ⟨_, rs, v, c, l, tn, rfl, j6a (mX6_count rs v q x n u c l tn z hI.1.1 hI.2.1.2.2.2.1 hI.2.1.2.2.2.2), j7a hI (mX7_count s la (rs 0) v c l tn p pa m q' b x' h z hI.1.2.1 hI.1.1 hI.2.1.2.2.2.1 hI.2.1.2.2.2.2 (hI.2.2.1 0 (by decide)).1)⟩
set_option maxRecDepth 100000 in
set_option maxHeartbeats 4000000 in
theorem b_keep {rs : rsT} {v : vT} {q : rT} {x : Nat → Nat} {n : Nat → Int64} {u : uT} {c : Nat → Nat → Int32} {l : Nat → Int32} {tn : Int32} {s la : Nat → Int32} {p : Nat → Int32} {pa : Nat → Nat → Int32} {m : Nat} {q' : rT} {b : Int32} {x' : Nat → Nat} {h : Nat → Nat → Int64} (hI : jIv rs v l s la) (z : Int32) : jBo false KX6_keep KX7_keep [.int z] (wC rs v q x n u c l tn) (wM s la (rs 0) v c l tn p pa m q' b x' h) := by
  by_cases hz : 0 ≤ z ∧ z ≤ 1
  · obtain rfl | rfl := jb01 hz
    · refine ⟨_, rsN rs 2 (rs 0), vset v 0 0 1, c, l, tn, rfl, j6a (mX6_keep0 rs v q x n u c l tn hI.2.1.2.2.2.1), j7a ?_ (mX7_keep0 s la (rs 0) v c l tn p pa m q' b x' h hI.2.1.2.2.2.1)⟩
      exact hI.keep0
    · refine ⟨_, rsN rs 3 (rs 0), vset v 0 1 1, c, l, tn, rfl, j6a (mX6_keep1 rs v q x n u c l tn hI.2.1.2.2.2.2), j7a ?_ (mX7_keep1 s la (rs 0) v c l tn p pa m q' b x' h hI.2.1.2.2.2.2)⟩
      exact hI.keep1
  · exact ⟨_, rs, v, c, l, tn, rfl, j6a (mX6_keep_bad rs v q x n u c l tn z hz), j7a hI (mX7_keep_bad s la (rs 0) v c l tn p pa m q' b x' h z hz)⟩
set_option maxRecDepth 100000 in
set_option maxHeartbeats 4000000 in
theorem b_back {rs : rsT} {v : vT} {q : rT} {x : Nat → Nat} {n : Nat → Int64} {u : uT} {c : Nat → Nat → Int32} {l : Nat → Int32} {tn : Int32} {s la : Nat → Int32} {p : Nat → Int32} {pa : Nat → Nat → Int32} {m : Nat} {q' : rT} {b : Int32} {x' : Nat → Nat} {h : Nat → Nat → Int64} (hI : jIv rs v l s la) (z : Int32) : jBo false KX6_back KX7_back [.int z] (wC rs v q x n u c l tn) (wM s la (rs 0) v c l tn p pa m q' b x' h) := by
  by_cases hz : 0 ≤ z ∧ z ≤ 1
  · obtain rfl | rfl := jb01 hz
    · have hk := hI.2.1.2.2.2.1
      by_cases h1 : v 0 0 = 1
      · have hi := hI.2.2.2.2.1 h1
        have e : s (20 + 19) = nI (rs 2 6 6) := hi.2.1.2.2.2.2
        have h7 := mX7_back0 s la (rs 0) v c l tn p pa m q' b x' h h1
        rw [e] at h7
        refine ⟨_, rsN rs 0 (rs 2), v, c, l, tn, rfl, j6a (mX6_back0 rs v q x n u c l tn h1), h7.weaken (fun r A g => ?_)⟩
        refine ⟨g.1, mcp s 20 0 20, la, p, pa, m, q', b, x', h, g.2.trans (wM_rr hi.2.2.1.1.symm hi.2.2.1.2.1.symm hi.2.2.1.2.2.symm), hI.back0 h1⟩
      · exact ⟨_, rs, v, c, l, tn, rfl, j6a (mX6_back0n rs v q x n u c l tn (by omega)), j7a hI (mX7_back0n s la (rs 0) v c l tn p pa m q' b x' h (by omega))⟩
    · have hk := hI.2.1.2.2.2.2
      by_cases h1 : v 0 1 = 1
      · have hi := hI.2.2.2.2.2 h1
        have e : s (40 + 19) = nI (rs 3 6 6) := hi.2.1.2.2.2.2
        have h7 := mX7_back1 s la (rs 0) v c l tn p pa m q' b x' h h1
        rw [e] at h7
        refine ⟨_, rsN rs 0 (rs 3), v, c, l, tn, rfl, j6a (mX6_back1 rs v q x n u c l tn h1), h7.weaken (fun r A g => ?_)⟩
        refine ⟨g.1, mcp s 40 0 20, la, p, pa, m, q', b, x', h, g.2.trans (wM_rr hi.2.2.1.1.symm hi.2.2.1.2.1.symm hi.2.2.1.2.2.symm), hI.back1 h1⟩
      · exact ⟨_, rs, v, c, l, tn, rfl, j6a (mX6_back1n rs v q x n u c l tn (by omega)), j7a hI (mX7_back1n s la (rs 0) v c l tn p pa m q' b x' h (by omega))⟩
  · exact ⟨_, rs, v, c, l, tn, rfl, j6a (mX6_back_bad rs v q x n u c l tn z hz), j7a hI (mX7_back_bad s la (rs 0) v c l tn p pa m q' b x' h z hz)⟩
set_option maxRecDepth 100000 in
set_option maxHeartbeats 4000000 in
theorem b_sheet {rs : rsT} {v : vT} {q : rT} {x : Nat → Nat} {n : Nat → Int64} {u : uT} {c : Nat → Nat → Int32} {l : Nat → Int32} {tn : Int32} {s la : Nat → Int32} {p : Nat → Int32} {pa : Nat → Nat → Int32} {m : Nat} {q' : rT} {b : Int32} {x' : Nat → Nat} {h : Nat → Nat → Int64} (hI : jIv rs v l s la) (k : Int32) (y : Int32) (z : Int32) : jBo false KX6_sheet KX7_sheet [.int k, .int y, .int z] (wC rs v q x n u c l tn) (wM s la (rs 0) v c l tn p pa m q' b x' h) := by
  by_cases hk : 0 ≤ k ∧ k ≤ 3
  · by_cases hy : 0 ≤ y ∧ y ≤ 2
    · by_cases h40 : z ≤ 40
      · by_cases hz : z < 0
        · exact ⟨_, rs, v, c, l, tn, rfl, j6a (mX6_sheet_neg rs v q x n u c l tn k y z hk hy hz), j7a hI (mX7_sheet_neg s la (rs 0) v c l tn p pa m q' b x' h k y z hk hy hz)⟩
        · obtain ⟨M, hM, rfl⟩ := jin_of (n := 40) (by decide) (Int32.not_lt.mp hz) h40
          obtain ⟨k9, gk, rfl⟩ := jin_of (n := 3) (by decide) hk.1 hk.2
          match k9, gk with
          | 0, _ =>
            refine ⟨_, rs, vset v 4 2 M, cset c 0 (fun _ => 0), lset l 0 y, tn, rfl, j6a (mX6_sheet0 rs v q x n u c l tn y hy M hM), j7a ?_ (mX7_sheet0 s la (rs 0) v c l tn p pa m q' b x' h y hy M hM)⟩
            exact hI.sheet 0 (by decide) hy hM
          | 1, _ =>
            refine ⟨_, rs, vset v 4 3 M, cset c 1 (fun _ => 0), lset l 1 y, tn, rfl, j6a (mX6_sheet1 rs v q x n u c l tn y hy M hM), j7a ?_ (mX7_sheet1 s la (rs 0) v c l tn p pa m q' b x' h y hy M hM)⟩
            exact hI.sheet 1 (by decide) hy hM
          | 2, _ =>
            refine ⟨_, rs, vset v 4 4 M, cset c 2 (fun _ => 0), lset l 2 y, tn, rfl, j6a (mX6_sheet2 rs v q x n u c l tn y hy M hM), j7a ?_ (mX7_sheet2 s la (rs 0) v c l tn p pa m q' b x' h y hy M hM)⟩
            exact hI.sheet 2 (by decide) hy hM
          | 3, _ =>
            refine ⟨_, rs, vset v 4 5 M, cset c 3 (fun _ => 0), lset l 3 y, tn, rfl, j6a (mX6_sheet3 rs v q x n u c l tn y hy M hM), j7a ?_ (mX7_sheet3 s la (rs 0) v c l tn p pa m q' b x' h y hy M hM)⟩
            exact hI.sheet 3 (by decide) hy hM
      · exact ⟨_, rs, v, c, l, tn, rfl, j6a (mX6_sheet_bad rs v q x n u c l tn k y z (Or.inr (Or.inr h40))), j7a hI (mX7_sheet_bad s la (rs 0) v c l tn p pa m q' b x' h k y z (Or.inr (Or.inr h40)))⟩
    · exact ⟨_, rs, v, c, l, tn, rfl, j6a (mX6_sheet_bad rs v q x n u c l tn k y z (Or.inr (Or.inl hy))), j7a hI (mX7_sheet_bad s la (rs 0) v c l tn p pa m q' b x' h k y z (Or.inr (Or.inl hy)))⟩
  · exact ⟨_, rs, v, c, l, tn, rfl, j6a (mX6_sheet_bad rs v q x n u c l tn k y z (Or.inl hk)), j7a hI (mX7_sheet_bad s la (rs 0) v c l tn p pa m q' b x' h k y z (Or.inl hk))⟩
set_option maxRecDepth 100000 in
set_option maxHeartbeats 4000000 in
theorem b_lay {rs : rsT} {v : vT} {q : rT} {x : Nat → Nat} {n : Nat → Int64} {u : uT} {c : Nat → Nat → Int32} {l : Nat → Int32} {tn : Int32} {s la : Nat → Int32} {p : Nat → Int32} {pa : Nat → Nat → Int32} {m : Nat} {q' : rT} {b : Int32} {x' : Nat → Nat} {h : Nat → Nat → Int64} (hI : jIv rs v l s la) (k : Int32) (i : Int32) (z : Int32) : jBo false KX6_lay KX7_lay [.int k, .int i, .int z] (wC rs v q x n u c l tn) (wM s la (rs 0) v c l tn p pa m q' b x' h) := by
  by_cases hk : 0 ≤ k ∧ k ≤ 3
  · obtain ⟨k9, gk, rfl⟩ := jin_of (n := 3) (by decide) hk.1 hk.2
    match k9, gk with
    | 0, _ =>
      have hs := hI.2.2.1 0 (by decide)
      by_cases hf : fat (l 0) (v 4 2) i = 0
      · obtain ⟨j, hj, rfl⟩ := fat_in hs.2 hf
        exact ⟨_, rs, v, _, l, tn, rfl, j6a (mX6_lay0 rs v q x n u c l tn j z hf hj hs.2), j7a hI (mX7_lay s la (rs 0) v c l tn p pa m q' b x' h 0 (by decide) j z hs.1 hf hj hs.2)⟩
      · exact ⟨_, rs, v, c, l, tn, rfl, j6a (mX6_lay0f rs v q x n u c l tn i z hf), j7a hI (mX7_layf s la (rs 0) v c l tn p pa m q' b x' h 0 (by decide) i z hs.1 hf)⟩
    | 1, _ =>
      have hs := hI.2.2.1 1 (by decide)
      by_cases hf : fat (l 1) (v 4 3) i = 0
      · obtain ⟨j, hj, rfl⟩ := fat_in hs.2 hf
        exact ⟨_, rs, v, _, l, tn, rfl, j6a (mX6_lay1 rs v q x n u c l tn j z hf hj hs.2), j7a hI (mX7_lay s la (rs 0) v c l tn p pa m q' b x' h 1 (by decide) j z hs.1 hf hj hs.2)⟩
      · exact ⟨_, rs, v, c, l, tn, rfl, j6a (mX6_lay1f rs v q x n u c l tn i z hf), j7a hI (mX7_layf s la (rs 0) v c l tn p pa m q' b x' h 1 (by decide) i z hs.1 hf)⟩
    | 2, _ =>
      have hs := hI.2.2.1 2 (by decide)
      by_cases hf : fat (l 2) (v 4 4) i = 0
      · obtain ⟨j, hj, rfl⟩ := fat_in hs.2 hf
        exact ⟨_, rs, v, _, l, tn, rfl, j6a (mX6_lay2 rs v q x n u c l tn j z hf hj hs.2), j7a hI (mX7_lay s la (rs 0) v c l tn p pa m q' b x' h 2 (by decide) j z hs.1 hf hj hs.2)⟩
      · exact ⟨_, rs, v, c, l, tn, rfl, j6a (mX6_lay2f rs v q x n u c l tn i z hf), j7a hI (mX7_layf s la (rs 0) v c l tn p pa m q' b x' h 2 (by decide) i z hs.1 hf)⟩
    | 3, _ =>
      have hs := hI.2.2.1 3 (by decide)
      by_cases hf : fat (l 3) (v 4 5) i = 0
      · obtain ⟨j, hj, rfl⟩ := fat_in hs.2 hf
        exact ⟨_, rs, v, _, l, tn, rfl, j6a (mX6_lay3 rs v q x n u c l tn j z hf hj hs.2), j7a hI (mX7_lay s la (rs 0) v c l tn p pa m q' b x' h 3 (by decide) j z hs.1 hf hj hs.2)⟩
      · exact ⟨_, rs, v, c, l, tn, rfl, j6a (mX6_lay3f rs v q x n u c l tn i z hf), j7a hI (mX7_layf s la (rs 0) v c l tn p pa m q' b x' h 3 (by decide) i z hs.1 hf)⟩
  · exact ⟨_, rs, v, c, l, tn, rfl, j6a (mX6_lay_bad rs v q x n u c l tn k i z hk), j7a hI (mX7_lay_bad s la (rs 0) v c l tn p pa m q' b x' h k i z hk)⟩
set_option maxRecDepth 100000 in
set_option maxHeartbeats 4000000 in
theorem b_read {rs : rsT} {v : vT} {q : rT} {x : Nat → Nat} {n : Nat → Int64} {u : uT} {c : Nat → Nat → Int32} {l : Nat → Int32} {tn : Int32} {s la : Nat → Int32} {p : Nat → Int32} {pa : Nat → Nat → Int32} {m : Nat} {q' : rT} {b : Int32} {x' : Nat → Nat} {h : Nat → Nat → Int64} (hI : jIv rs v l s la) (k : Int32) (y : Int32) (f : Int32) (N : Int32) : jBo false KX6_read KX7_read [.int k, .int y, .int f, .int N] (wC rs v q x n u c l tn) (wM s la (rs 0) v c l tn p pa m q' b x' h) := by
  by_cases hk : 0 ≤ k ∧ k ≤ 3
  · by_cases hy : 0 ≤ y ∧ y ≤ 2
    · by_cases hN : 0 ≤ N ∧ N ≤ 20
      · obtain ⟨N9, gN, rfl⟩ := jin_of (n := 20) (by decide) hN.1 hN.2
        obtain ⟨k9, gk, rfl⟩ := jin_of (n := 3) (by decide) hk.1 hk.2
        match k9, gk with
        | 0, _ =>
          have hs := hI.2.2.1 0 (by decide)
          have ht := rdT_ok (ln := l 0) (len := v 4 2) (c := c 0) (la := y) (f := f) (N := N9) hI.1.1
          refine ⟨.int (rdO (l 0) (v 4 2) (c 0) y f N9 0 (rs 0)).1, rsN rs 0 (rdT (rdO (l 0) (v 4 2) (c 0) y f N9 0 (rs 0)).2 (rs 0)), v, c, l, rdF (rdO (l 0) (v 4 2) (c 0) y f N9 0 (rs 0)).2 tn, rfl, (mX6_read0 rs v q x n u c l tn y f N9 hy gN hs.2 hI.1.1).weaken (fun r A g => ?_), (mX7_read s la (rs 0) v c l tn p pa m q' b x' h 0 (by decide) y f N9 gN hs.2 hs.1 hy hI.1.2.1 hI.1.1).weaken (fun r A g => ?_)⟩
          · obtain ⟨g1, r9, g2⟩ := g
            exact ⟨g1, r9, q, x, n, u, by rw [← rsN_sw]; exact g2⟩
          · obtain ⟨g1, s9, g2, g3, g4⟩ := g
            exact ⟨g1, s9, la, p, pa, m, q', b, x', h, g2, hI.now ht.1 g3 ht.2 g4⟩
        | 1, _ =>
          have hs := hI.2.2.1 1 (by decide)
          have ht := rdT_ok (ln := l 1) (len := v 4 3) (c := c 1) (la := y) (f := f) (N := N9) hI.1.1
          refine ⟨.int (rdO (l 1) (v 4 3) (c 1) y f N9 0 (rs 0)).1, rsN rs 0 (rdT (rdO (l 1) (v 4 3) (c 1) y f N9 0 (rs 0)).2 (rs 0)), v, c, l, rdF (rdO (l 1) (v 4 3) (c 1) y f N9 0 (rs 0)).2 tn, rfl, (mX6_read1 rs v q x n u c l tn y f N9 hy gN hs.2 hI.1.1).weaken (fun r A g => ?_), (mX7_read s la (rs 0) v c l tn p pa m q' b x' h 1 (by decide) y f N9 gN hs.2 hs.1 hy hI.1.2.1 hI.1.1).weaken (fun r A g => ?_)⟩
          · obtain ⟨g1, r9, g2⟩ := g
            exact ⟨g1, r9, q, x, n, u, by rw [← rsN_sw]; exact g2⟩
          · obtain ⟨g1, s9, g2, g3, g4⟩ := g
            exact ⟨g1, s9, la, p, pa, m, q', b, x', h, g2, hI.now ht.1 g3 ht.2 g4⟩
        | 2, _ =>
          have hs := hI.2.2.1 2 (by decide)
          have ht := rdT_ok (ln := l 2) (len := v 4 4) (c := c 2) (la := y) (f := f) (N := N9) hI.1.1
          refine ⟨.int (rdO (l 2) (v 4 4) (c 2) y f N9 0 (rs 0)).1, rsN rs 0 (rdT (rdO (l 2) (v 4 4) (c 2) y f N9 0 (rs 0)).2 (rs 0)), v, c, l, rdF (rdO (l 2) (v 4 4) (c 2) y f N9 0 (rs 0)).2 tn, rfl, (mX6_read2 rs v q x n u c l tn y f N9 hy gN hs.2 hI.1.1).weaken (fun r A g => ?_), (mX7_read s la (rs 0) v c l tn p pa m q' b x' h 2 (by decide) y f N9 gN hs.2 hs.1 hy hI.1.2.1 hI.1.1).weaken (fun r A g => ?_)⟩
          · obtain ⟨g1, r9, g2⟩ := g
            exact ⟨g1, r9, q, x, n, u, by rw [← rsN_sw]; exact g2⟩
          · obtain ⟨g1, s9, g2, g3, g4⟩ := g
            exact ⟨g1, s9, la, p, pa, m, q', b, x', h, g2, hI.now ht.1 g3 ht.2 g4⟩
        | 3, _ =>
          have hs := hI.2.2.1 3 (by decide)
          have ht := rdT_ok (ln := l 3) (len := v 4 5) (c := c 3) (la := y) (f := f) (N := N9) hI.1.1
          refine ⟨.int (rdO (l 3) (v 4 5) (c 3) y f N9 0 (rs 0)).1, rsN rs 0 (rdT (rdO (l 3) (v 4 5) (c 3) y f N9 0 (rs 0)).2 (rs 0)), v, c, l, rdF (rdO (l 3) (v 4 5) (c 3) y f N9 0 (rs 0)).2 tn, rfl, (mX6_read3 rs v q x n u c l tn y f N9 hy gN hs.2 hI.1.1).weaken (fun r A g => ?_), (mX7_read s la (rs 0) v c l tn p pa m q' b x' h 3 (by decide) y f N9 gN hs.2 hs.1 hy hI.1.2.1 hI.1.1).weaken (fun r A g => ?_)⟩
          · obtain ⟨g1, r9, g2⟩ := g
            exact ⟨g1, r9, q, x, n, u, by rw [← rsN_sw]; exact g2⟩
          · obtain ⟨g1, s9, g2, g3, g4⟩ := g
            exact ⟨g1, s9, la, p, pa, m, q', b, x', h, g2, hI.now ht.1 g3 ht.2 g4⟩
      · exact ⟨_, rs, v, c, l, tn, rfl, j6a (mX6_read_bad rs v q x n u c l tn k y f N (Or.inr (Or.inr hN))), j7a hI (mX7_read_bad s la (rs 0) v c l tn p pa m q' b x' h k y f N (Or.inr (Or.inr hN)))⟩
    · exact ⟨_, rs, v, c, l, tn, rfl, j6a (mX6_read_bad rs v q x n u c l tn k y f N (Or.inr (Or.inl hy))), j7a hI (mX7_read_bad s la (rs 0) v c l tn p pa m q' b x' h k y f N (Or.inr (Or.inl hy)))⟩
  · exact ⟨_, rs, v, c, l, tn, rfl, j6a (mX6_read_bad rs v q x n u c l tn k y f N (Or.inl hk)), j7a hI (mX7_read_bad s la (rs 0) v c l tn p pa m q' b x' h k y f N (Or.inl hk))⟩
set_option maxRecDepth 100000 in
set_option maxHeartbeats 4000000 in
theorem b_text {rs : rsT} {v : vT} {q : rT} {x : Nat → Nat} {n : Nat → Int64} {u : uT} {c : Nat → Nat → Int32} {l : Nat → Int32} {tn : Int32} {s la : Nat → Int32} {p : Nat → Int32} {pa : Nat → Nat → Int32} {m : Nat} {q' : rT} {b : Int32} {x' : Nat → Nat} {h : Nat → Nat → Int64} (hI : jIv rs v l s la)  : jBo false KX6_text KX7_text [] (wC rs v q x n u c l tn) (wM s la (rs 0) v c l tn p pa m q' b x' h) := by
  have hd := hI.2.2.2.1
  have h7 := mX7_text s la (rs 0) v c l tn p pa m q' b x' h (rs 4) hI.2.1.2.1 hI.2.1.2.2.1 hd
  by_cases hf : nI (txE v (rs 4) 7) = 0
  · refine ⟨_, rsN (rsN rs 4 (txD v (rs 4))) 0 (txD v (rs 4)), _, c, l, tn, rfl, j6a (mX6_text rs v q x n u c l tn hI.2.1.2.1 hI.2.1.2.2.1 hf), h7.weaken (fun r A g => ?_)⟩
    obtain ⟨g1, -, g2⟩ := g
    obtain ⟨s9, la9, p9, pa9, e, a1, a2, a3, a4, a5⟩ := g2 hf
    refine ⟨g1, s9, la9, p9, pa9, m, q', b, x', h, e, ⟨a1, a2, a3⟩, ⟨⟨hI.2.1.1.1, hI.2.1.1.2.1, Nat.zero_le _⟩, hI.2.1.2.1, Nat.zero_le _, Nat.zero_le _, Nat.zero_le _⟩, fun k hk => ⟨(hI.2.2.1 k hk).1, ?_⟩, a4, fun h => ?_, fun h => ?_⟩
    · show (if 2 + k = 0 then 0 else if 2 + k = 1 then 0 else v 4 (2 + k)) ≤ 40
      rw [if_neg (by omega), if_neg (by omega)]
      exact (hI.2.2.1 k hk).2
    · cases h
    · cases h
  · refine ⟨_, rsN rs 4 (txD v (rs 4)), _, c, l, tn, rfl, j6a (mX6_text_no rs v q x n u c l tn hI.2.1.2.1 hI.2.1.2.2.1 hf), h7.weaken (fun r A g => ?_)⟩
    obtain ⟨g1, g2, -⟩ := g
    obtain ⟨p9, pa9, e⟩ := g2 hf
    refine ⟨g1, s, la, p9, pa9, m, q', b, x', h, e, hI.1, ⟨⟨hI.2.1.1.1, hI.2.1.1.2.1, hI.2.1.1.2.2⟩, hI.2.1.2.1, Nat.zero_le _, hI.2.1.2.2.2.1, hI.2.1.2.2.2.2⟩, fun k hk => ⟨(hI.2.2.1 k hk).1, ?_⟩, dBd_tx hd, hI.2.2.2.2.1, hI.2.2.2.2.2⟩
    show (if 2 + k = 0 then 0 else v 4 (2 + k)) ≤ 40
    rw [if_neg (by omega)]
    exact (hI.2.2.1 k hk).2
