section JL
variable {K : jM} {n0 : Nat} {Q : Option Value → jW → Prop} {pc : Nat} {L : List (Option Value)} {st : List Value} {A : jW} {cells slots : Nat}
theorem J.ialoadN {r n i : Nat} {f : Nat → Int32} (d : decode K.2.1 pc = .ok (.iaload, 1)) (hA : A[r]? = some (.inl (0, n, .inl f))) (hi : i < n) (k9 : J K n0 Q (pc + 1) L (.int (f i) :: st) A cells slots) (hn : n < 2147483648 := by decide) : J K n0 Q pc L (.int (nI i) :: .ref r :: st) A cells slots := by
  refine J.iaload d hA (vp_in_nI hi hn) ?_
  rw [nI_clamp (Nat.lt_trans hi hn)]
  exact k9
theorem J.baloadN {r n i : Nat} {f : Nat → Int32} (d : decode K.2.1 pc = .ok (.baload, 1)) (hA : A[r]? = some (.inl (2, n, .inl f))) (hi : i < n) (k9 : J K n0 Q (pc + 1) L (.int (f i) :: st) A cells slots) (hn : n < 2147483648 := by decide) : J K n0 Q pc L (.int (nI i) :: .ref r :: st) A cells slots := by
  refine J.baload d hA (vp_in_nI hi hn) ?_
  rw [nI_clamp (Nat.lt_trans hi hn)]
  exact k9
theorem J.zaloadN {r n i : Nat} {f : Nat → Int32} (d : decode K.2.1 pc = .ok (.baload, 1)) (hA : A[r]? = some (.inl (3, n, .inl f))) (hi : i < n) (k9 : J K n0 Q (pc + 1) L (.int (f i) :: st) A cells slots) (hn : n < 2147483648 := by decide) : J K n0 Q pc L (.int (nI i) :: .ref r :: st) A cells slots := by
  refine J.zaload d hA (vp_in_nI hi hn) ?_
  rw [nI_clamp (Nat.lt_trans hi hn)]
  exact k9
theorem J.laloadN {r n i : Nat} {f : Nat → Int64} (d : decode K.2.1 pc = .ok (.laload, 1)) (hA : A[r]? = some (.inl (1, n, .inr (.inl f)))) (hi : i < n) (k9 : J K n0 Q (pc + 1) L (.long (f i) :: st) A cells slots) (hn : n < 2147483648 := by decide) : J K n0 Q pc L (.int (nI i) :: .ref r :: st) A cells slots := by
  refine J.laload d hA (vp_in_nI hi hn) ?_
  rw [nI_clamp (Nat.lt_trans hi hn)]
  exact k9
theorem J.iastoreN {r n i : Nat} {f : Nat → Int32} {x : Int32} (d : decode K.2.1 pc = .ok (.iastore, 1)) (hA : A[r]? = some (.inl (0, n, .inl f))) (hi : i < n) (k9 : J K n0 Q (pc + 1) L st (A.set r (.inl (0, n, .inl (upd f i x)))) cells slots) (hn : n < 2147483648 := by decide) : J K n0 Q pc L (.int x :: .int (nI i) :: .ref r :: st) A cells slots := by
  refine J.iastore d hA (vp_in_nI hi hn) ?_
  rw [nI_clamp (Nat.lt_trans hi hn)]
  exact k9
theorem J.bastoreN {r n i : Nat} {f : Nat → Int32} {x : Int32} (d : decode K.2.1 pc = .ok (.bastore, 1)) (hA : A[r]? = some (.inl (2, n, .inl f))) (hi : i < n) (k9 : J K n0 Q (pc + 1) L st (A.set r (.inl (2, n, .inl (upd f i (vp_nar .byte x))))) cells slots) (hn : n < 2147483648 := by decide) : J K n0 Q pc L (.int x :: .int (nI i) :: .ref r :: st) A cells slots := by
  refine J.bastore d hA (vp_in_nI hi hn) ?_
  rw [nI_clamp (Nat.lt_trans hi hn)]
  exact k9
theorem J.zastoreN {r n i : Nat} {f : Nat → Int32} {x : Int32} (d : decode K.2.1 pc = .ok (.bastore, 1)) (hA : A[r]? = some (.inl (3, n, .inl f))) (hi : i < n) (k9 : J K n0 Q (pc + 1) L st (A.set r (.inl (3, n, .inl (upd f i (vp_nar .boolean x))))) cells slots) (hn : n < 2147483648 := by decide) : J K n0 Q pc L (.int x :: .int (nI i) :: .ref r :: st) A cells slots := by
  refine J.zastore d hA (vp_in_nI hi hn) ?_
  rw [nI_clamp (Nat.lt_trans hi hn)]
  exact k9
theorem J.lastoreN {r n i : Nat} {f : Nat → Int64} {x : Int64} (d : decode K.2.1 pc = .ok (.lastore, 1)) (hA : A[r]? = some (.inl (1, n, .inr (.inl f)))) (hi : i < n) (k9 : J K n0 Q (pc + 1) L st (A.set r (.inl (1, n, .inr (.inl (vp_updL f i x))))) cells slots) (hn : n < 2147483648 := by decide) : J K n0 Q pc L (.long x :: .int (nI i) :: .ref r :: st) A cells slots := by
  refine J.lastore d hA (vp_in_nI hi hn) ?_
  rw [nI_clamp (Nat.lt_trans hi hn)]
  exact k9
theorem jcellI {cA : ClassId} {n : Nat} {f g : Nat → Int32} (h : ∀ j, j < n → f j = g j) : vp_cell cA (n, .inl f) = vp_cell cA (n, .inl g) := by
  show arrV cA n (fun j => .int (f j)) = arrV cA n (fun j => .int (g j))
  simp only [arrV]
  congr 1
  apply congrArg
  funext j
  rw [h j.val j.isLt]
theorem jcellL {cA : ClassId} {n : Nat} {f g : Nat → Int64} (h : ∀ j, j < n → f j = g j) : vp_cell cA (n, .inr (.inl f)) = vp_cell cA (n, .inr (.inl g)) := by
  show arrV cA n (fun j => .long (f j)) = arrV cA n (fun j => .long (g j))
  simp only [arrV]
  congr 1
  apply congrArg
  funext j
  rw [h j.val j.isLt]
theorem J.setcell {k : Nat} {x x' : jE} (hA : A[k]? = some x) (hx : ∀ cy ad q H dC dI, va_at (dC, dI) jCl (q, jgE cy ad x) H → va_at (dC, dI) jCl (q, jgE cy ad x') H) (h : J K n0 Q pc L st (A.set k x') cells slots) : J K n0 Q pc L st A cells slots := by
  refine h.world (fun cy ad H dC dI hP j q hq => ?_) (by simp)
  obtain ⟨y, hy, rfl⟩ := jgW_of hq
  have hk : k < A.length := (List.getElem?_eq_some_iff.mp hA).1
  by_cases e : k = j
  · subst e
    rw [List.getElem?_set_self hk] at hy
    cases hy
    exact hx cy ad _ H dC dI (hP k _ (jgW_get hA))
  · rw [List.getElem?_set_ne e] at hy
    exact hP j _ (jgW_get hy)
/-- an array by another word for what it holds -/
theorem J.arrI (k t : Nat) {n : Nat} {f : Nat → Int32} (g : Nat → Int32) (hA : A[k]? = some (.inl (t, n, .inl f))) (hf : ∀ j, j < n → f j = g j) (h : J K n0 Q pc L st (A.set k (.inl (t, n, .inl g))) cells slots) : J K n0 Q pc L st A cells slots :=
  J.setcell hA (fun cy ad q H dC dI h => by
    have e : vp_cell (cy t) (n, .inl f) = vp_cell (cy t) (n, .inl g) := jcellI hf
    have h' : H[q]? = some (vp_cell (cy t) (n, .inl f)) := h
    show H[q]? = some (vp_cell (cy t) (n, .inl g))
    rw [← e]
    exact h') h
theorem J.arrL (k t : Nat) {n : Nat} {f : Nat → Int64} (g : Nat → Int64) (hA : A[k]? = some (.inl (t, n, .inr (.inl f)))) (hf : ∀ j, j < n → f j = g j) (h : J K n0 Q pc L st (A.set k (.inl (t, n, .inr (.inl g)))) cells slots) : J K n0 Q pc L st A cells slots :=
  J.setcell hA (fun cy ad q H dC dI h => by
    have e : vp_cell (cy t) (n, .inr (.inl f)) = vp_cell (cy t) (n, .inr (.inl g)) := jcellL hf
    have h' : H[q]? = some (vp_cell (cy t) (n, .inr (.inl f))) := h
    show H[q]? = some (vp_cell (cy t) (n, .inr (.inl g)))
    rw [← e]
    exact h') h
end JL
theorem upd_nI (g : Nat → Nat) (i v : Nat) : upd (fun j => nI (g j)) i (nI v) = fun j => nI (if j = i then v else g j) := by
  funext j
  simp only [upd]
  split <;> rfl
theorem updL_lN (g : Nat → Nat) (i v : Nat) : vp_updL (fun j => lN (g j)) i (lN v) = fun j => lN (if j = i then v else g j) := by
  funext j
  simp only [vp_updL]
  split <;> rfl
theorem jlt_s {α : Type} (a b : Nat → α) (i : Nat) : (fun j => if j = i then a i else if j < i then a j else b j) = fun j => if j < i + 1 then a j else b j := by
  funext j
  by_cases h1 : j = i
  · subst h1; simp
  · by_cases h2 : j < i
    · rw [if_neg h1, if_pos h2, if_pos (by omega)]
    · rw [if_neg h1, if_neg h2, if_neg (by omega)]
theorem jlt_e {α : Type} (a b : Nat → α) (i j : Nat) : (if j < i + 1 then a j else b j) = if j = i then a i else if j < i then a j else b j := (congrFun (jlt_s a b i) j).symm
theorem jlt_0 {α : Type} (a b : Nat → α) : (fun j => if j < 0 then a j else b j) = b := by
  funext j
  simp
theorem nI_lti {a b : Nat} (ha : a < 2147483648) (hb : b < 2147483648) : nI a < nI b ↔ a < b := nI_ltI ha hb
theorem nI_lei {a b : Nat} (ha : a < 2147483648) (hb : b < 2147483648) : nI a ≤ nI b ↔ a ≤ b := nI_leI ha hb
theorem nI_eqi {a b : Nat} (ha : a < 2147483648) (hb : b < 2147483648) : nI a = nI b ↔ a = b := nI_eq ha hb
theorem nI_min {a b : Nat} (ha : a < 2147483648) (hb : b < 2147483648) : (if nI b < nI a then nI b else nI a) = nI (min a b) := by
  by_cases h : b < a
  · rw [if_pos ((nI_lti hb ha).mpr h), Nat.min_eq_right (by omega)]
  · rw [if_neg (fun q => h ((nI_lti hb ha).mp q)), Nat.min_eq_left (by omega)]
theorem nI_max {a b : Nat} (ha : a < 2147483648) (hb : b < 2147483648) : (if nI a < nI b then nI b else nI a) = nI (max a b) := by
  by_cases h : a < b
  · rw [if_pos ((nI_lti ha hb).mpr h), Nat.max_eq_right (by omega)]
  · rw [if_neg (fun q => h ((nI_lti ha hb).mp q)), Nat.max_eq_left (by omega)]
/-- an int within bounds is a number -/
theorem jin_of {x : Int32} {n : Nat} (hn : n < 2147483648) (h1 : 0 ≤ x) (h2 : x ≤ nI n) : ∃ j, j ≤ n ∧ x = nI j := by
  obtain ⟨j, hj, rfl⟩ := nI_of (Int32.not_lt.mpr h1)
  exact ⟨j, (nI_lei hj hn).mp h2, rfl⟩
theorem jin_lt {x : Int32} {n : Nat} (hn : n < 2147483648) (h1 : 0 ≤ x) (h2 : x ≤ nI n - 1) : ∃ j, j < n ∧ x = nI j := by
  cases n with
  | zero =>
    exfalso
    have h3 : x ≤ -1 := h2
    have := Int32.le_trans h1 h3
    exact absurd this (by decide)
  | succ n =>
    rw [nI_pred] at h2
    obtain ⟨j, hj, rfl⟩ := jin_of (by omega) h1 h2
    exact ⟨j, by omega, rfl⟩
theorem jin_ge {j n : Nat} (hn : n < 2147483648) (hj : j < n) : 0 ≤ nI j ∧ nI j ≤ nI n - 1 := by
  cases n with
  | zero => omega
  | succ n =>
    rw [nI_pred]
    exact ⟨nI_pos' (show j < 2 ^ 31 by omega), (nI_lei (by omega) (by omega)).mpr (by omega)⟩
/-! ===== a realm: rows 0 to 5 are kind, age, worth, life, lawHours, lawWorth; row 6 hairs, kings, laws, whole, load, prize, hour ===== -/
abbrev rT : Type := Nat → Nat → Nat
def rset (r : rT) (a i v : Nat) : rT := fun x => if x = a then (fun j => if j = i then v else r a j) else r x
def wR (r : rT) : jW := [.inr (2, [.ref 1, .ref 2, .ref 3, .ref 4, .ref 5, .ref 6, .int (nI (r 6 0)), .int (nI (r 6 1)), .int (nI (r 6 2)), .int (nI (r 6 3)), .int (nI (r 6 4)), .int (nI (r 6 5)), .int (nI (r 6 6))]),
  .inl (0, 3, .inl (fun j => nI (r 0 j))), .inl (0, 3, .inl (fun j => nI (r 1 j))), .inl (0, 4, .inl (fun j => nI (r 2 j))), .inl (0, 4, .inl (fun j => nI (r 3 j))), .inl (0, 3, .inl (fun j => nI (r 4 j))), .inl (0, 3, .inl (fun j => nI (r 5 j)))]
/-- what a realm always keeps to -/
def rOK (r : rT) : Prop := r 6 0 ≤ 3 ∧ r 6 1 ≤ 4 ∧ r 6 2 ≤ 3 ∧ r 6 3 < 2 ^ r 6 0 ∧ 1 ≤ r 6 4 ∧ r 6 4 ≤ 9 ∧ r 6 5 ≤ 99 ∧ r 6 6 ≤ 99 ∧ (∀ i, r 0 i ≤ 4) ∧ (∀ i, r 1 i ≤ 9) ∧ (∀ i, r 2 i ≤ 9) ∧ (∀ i, r 3 i ≤ 99) ∧ (∀ i, r 4 i ≤ 5) ∧ ∀ i, r 5 i ≤ 9
theorem rOK.w {r : rT} (h : rOK r) : r 6 3 < 8 := Nat.lt_of_lt_of_le h.2.2.2.1 (Nat.pow_le_pow_right (by decide) h.1)
/-- how many of three bits are set; a bit -/
def pc3 (w : Nat) : Nat := w % 2 + w / 2 % 2 + w / 4 % 2
def bit (w i : Nat) : Nat := w / 2 ^ i % 2
/-- BREAKS, in tenths, of a HAIR by its KIND, AGE, the LOAD, how many are WHOLE -/
def bas (k a : Nat) : Int := match k with
  | 1 => ((a / 2 : Nat) : Int) + 1
  | 2 => ((a / 2 : Nat) : Int) + 2
  | 3 => ((a / 2 / 2 : Nat) : Int)
  | 4 => ((a / 2 / 2 : Nat) : Int) - 1
  | _ => ((a / 2 : Nat) : Int)
def brk (k a l m : Nat) : Nat := if m = 0 then 0 else (max 0 (min 10 (bas k a + ((l + m - 1) / m : Nat) - 1))).toNat
theorem brk_le (k a l m : Nat) : brk k a l m ≤ 10 := by
  unfold brk
  split
  · omega
  · omega
theorem pc3_le (w : Nat) : pc3 w ≤ 3 := by unfold pc3; omega
theorem bit_le (w i : Nat) : bit w i ≤ 1 := by unfold bit; omega
