/-! ===== the class's own calls: the whole world goes along ===== -/
def all62 : List Nat := List.range' 0 62
theorem jput_range (R : jW) : ∀ (xs pr ys : jW), ys.length = xs.length → jput (pr ++ (ys ++ R)) (List.range' pr.length xs.length) xs = pr ++ (xs ++ R)
  | [], pr, ys, h => by
    rw [List.length_eq_zero_iff.mp h]
    rfl
  | x :: xs, pr, [], h => by simp at h
  | x :: xs, pr, y :: ys, h => by
    rw [List.length_cons, List.range'_succ, jput, show pr ++ (y :: ys ++ R) = pr ++ y :: (ys ++ R) from rfl, List.set_append_right _ _ (Nat.le_refl _), Nat.sub_self, List.set_cons_zero]
    have e := jput_range R xs (pr ++ [x]) ys (by simpa using h)
    simp only [List.append_assoc, List.length_append, List.length_cons, List.length_nil, Nat.zero_add, List.cons_append, List.nil_append] at e ⊢
    exact e
theorem wC_id (rs : Nat → rT) (v : Nat → Nat → Nat) (q : rT) (x : Nat → Nat) (n : Nat → Int64) (u : uT) (c : Nat → Nat → Int32) (l : Nat → Int32) (tn : Int32) : (wC rs v q x n u c l tn).map (jrE (jr all62)) = wC rs v q x n u c l tn := by
  have e1 : jrE (jr all62) (.inl (4, 2, .inr (.inr (.inr (.inr (fun j : Nat => if j = 0 then some 40 else some 47)))))) = .inl (4, 2, .inr (.inr (.inr (.inr (fun j : Nat => if j = 0 then some 40 else some 47))))) := by
    have : (fun j => ((fun j : Nat => if j = 0 then some 40 else some 47) j).map (jr all62)) = (fun j : Nat => if j = 0 then some 40 else some 47) := by
      funext j
      dsimp only
      split <;> rfl
    show Sum.inl (4, 2, Sum.inr (Sum.inr (Sum.inr (Sum.inr (fun j => ((fun j : Nat => if j = 0 then some 40 else some 47) j).map (jr all62)))))) = _
    rw [this]
  have e2 : jrE (jr all62) (.inl (5, 4, .inr (.inr (.inr (.inr (fun j : Nat => if j = 0 then some 54 else if j = 1 then some 56 else if j = 2 then some 58 else some 60)))))) = .inl (5, 4, .inr (.inr (.inr (.inr (fun j : Nat => if j = 0 then some 54 else if j = 1 then some 56 else if j = 2 then some 58 else some 60))))) := by
    have : (fun j => ((fun j : Nat => if j = 0 then some 54 else if j = 1 then some 56 else if j = 2 then some 58 else some 60) j).map (jr all62)) = (fun j : Nat => if j = 0 then some 54 else if j = 1 then some 56 else if j = 2 then some 58 else some 60) := by
      funext j
      dsimp only
      split
      · rfl
      · split
        · rfl
        · split <;> rfl
    show Sum.inl (5, 4, Sum.inr (Sum.inr (Sum.inr (Sum.inr (fun j => ((fun j : Nat => if j = 0 then some 54 else if j = 1 then some 56 else if j = 2 then some 58 else some 60) j).map (jr all62)))))) = _
    rw [this]
  unfold wC
  simp only [List.map_cons, List.map_nil]
  rw [e1, e2]
  rfl
theorem wC_in (rs : Nat → rT) (v : Nat → Nat → Nat) (q : rT) (x : Nat → Nat) (n : Nat → Int64) (u : uT) (c : Nat → Nat → Int32) (l : Nat → Int32) (tn : Int32) (R : jW) : all62.map (fun i => (wC rs v q x n u c l tn ++ R)[i]?) = (wC rs v q x n u c l tn).map (fun b => some (jrE (jr all62) b)) := by
  have h : (wC rs v q x n u c l tn).map (fun b => some (jrE (jr all62) b)) = ((wC rs v q x n u c l tn).map (jrE (jr all62))).map some := by rw [List.map_map]; rfl
  rw [h, wC_id]
  rfl
theorem wC_out (rs : Nat → rT) (v : Nat → Nat → Nat) (q : rT) (x : Nat → Nat) (n : Nat → Int64) (u : uT) (c : Nat → Nat → Int32) (l : Nat → Int32) (tn : Int32) (rs' : Nat → rT) (v' : Nat → Nat → Nat) (q' : rT) (x' : Nat → Nat) (n' : Nat → Int64) (u' : uT) (c' : Nat → Nat → Int32) (l' : Nat → Int32) (tn' : Int32) (R : jW) : jput (wC rs v q x n u c l tn ++ R) all62 ((wC rs' v' q' x' n' u' c' l' tn').map (jrE (jr all62))) = wC rs' v' q' x' n' u' c' l' tn' ++ R := by
  rw [wC_id]
  exact jput_range R (wC rs' v' q' x' n' u' c' l' tn') [] (wC rs v q x n u c l tn) rfl
theorem J.cvC {K K' : jM} {n0 : Nat} {Q Q' : Option Value → jW → Prop} {pc : Nat} {L : List (Option Value)} {st' rest as : List Value} {W0 : jW} {cells slots : Nat} {i : Nat} {L0 : List (Option Value)} (rs : Nat → rT) (v : Nat → Nat → Nat) (q : rT) (x : Nat → Nat) (n : Nat → Int64) (u : uT) (c : Nat → Nat → Int32) (l : Nat → Int32) (tn : Int32) (R : jW) (hm : jmOK K') (hc : jcV K.1 i K' 6 as.length) (hJ : J K' 62 Q' 0 L0 [] (wC rs v q x n u c l tn) 0 0) (d : decode K.2.1 pc = .ok (.invokevirtual i, 3)) (hA : W0 = wC rs v q x n u c l tn ++ R)
    (hst : st' = (as.map (jg (jr all62))).reverse ++ .ref 0 :: rest) (hL : jent K'.2.2.1 (.ref 0 :: as) = L0) (hl0 : L0.length = K'.2.2.1)
    (hnum : (decide (62 < 1000) && va_nd all62 && decide ((rest.map fun v => v.category).sum ≤ 8) && jroom K K' && decide (cells ≤ K.2.2.2.2.2.cells) && decide (slots ≤ K.2.2.2.2.2.slots)) = true)
    (kk : ∀ r9 B', Q' r9 B' → ∃ rs' v' q' x' n' u' c' l' tn', B' = wC rs' v' q' x' n' u' c' l' tn' ∧ J K n0 Q (pc + 3) L ((r9.map (jg (jr all62))).toList ++ rest) (wC rs' v' q' x' n' u' c' l' tn' ++ R) cells slots) : J K n0 Q pc L st' W0 cells slots := by
  subst hA
  refine J.cv (as := as) (is := all62) (o := 0) (rest := rest) hm hc hJ d rfl hst rfl (wC_in rs v q x n u c l tn R) hL hl0 hnum (fun r9 B' h9 => ?_)
  obtain ⟨rs', v', q', x', n', u', c', l', tn', rfl, h8⟩ := kk r9 B' h9
  refine ⟨rfl, ?_⟩
  rw [wC_out]
  exact h8
