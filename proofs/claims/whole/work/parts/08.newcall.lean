/-! ===== a call that makes cells ===== -/
/-- all references in the cell are to cells below n, or to constants -/
def jclE (n : Nat) (x : jE) : Prop := match x with
  | .inl (_, _, .inr (.inr (.inr (.inr f)))) => ∀ j k, f j = some k → k < n ∨ 1000 ≤ k
  | .inl _ => True
  | .inr (_, fs) => ∀ k, Value.ref k ∈ fs → k < n ∨ 1000 ≤ k
def jclW (n : Nat) (A : jW) : Prop := ∀ x ∈ A, jclE n x
def jclV (n : Nat) (vs : List Value) : Prop := ∀ k, Value.ref k ∈ vs → k < n ∨ 1000 ≤ k
def jclL (n : Nat) (L : List (Option Value)) : Prop := ∀ k, some (Value.ref k) ∈ L → k < n ∨ 1000 ≤ k
theorem jg_same {ad ad' : Nat → Nat} {n : Nat} (h : ∀ k, k < n ∨ 1000 ≤ k → ad' k = ad k) {v : Value} (hv : ∀ k, v = .ref k → k < n ∨ 1000 ≤ k) : jg ad' v = jg ad v := by
  cases v <;> first | rfl | skip
  next k => exact congrArg Value.ref (h k (hv k rfl))
theorem jgE_same {cy : Nat → ClassId} {ad ad' : Nat → Nat} {n : Nat} (h : ∀ k, k < n ∨ 1000 ≤ k → ad' k = ad k) {x : jE} (hx : jclE n x) : jgE cy ad' x = jgE cy ad x := by
  obtain ⟨t, k, f | f | f | f | f⟩ | ⟨c, fs⟩ := x
  · rfl
  · rfl
  · rfl
  · rfl
  · simp only [jgE, jgA]
    congr 6
    refine congrArg Sum.inr (funext fun j => ?_)
    have hj := hx j
    cases hf : f j with
    | none => rfl
    | some i =>
      simp only [Option.map_some]
      rw [h i (hj i hf)]
  · simp only [jgE]
    congr 2
    apply List.map_congr_left
    intro v hv
    exact jg_same h (fun k e => hx k (by rw [← e]; exact hv))
theorem jgVs_same {ad ad' : Nat → Nat} {n : Nat} (h : ∀ k, k < n ∨ 1000 ≤ k → ad' k = ad k) {vs : List Value} (hx : jclV n vs) : vs.map (jg ad') = vs.map (jg ad) :=
  List.map_congr_left (fun v hv => jg_same h (fun k e => hx k (by rw [← e]; exact hv)))
/-- the callee's numbers in the caller's: old ones at their places, new ones behind -/
def jr2 (is : List Nat) (n k : Nat) : Nat := if 1000 ≤ k then k else if k < is.length then is.getD k 0 else n + (k - is.length)
def jnew (A : jW) (is : List Nat) (B' : jW) : jW := jput A is ((B'.take is.length).map (jrE (jr2 is A.length))) ++ (B'.drop is.length).map (jrE (jr2 is A.length))
section JCN
variable {p : Program} {l : Launch} {e : Env} {s : State} {m : MethodId} {args : Array Value} {below : List Frame} {meth : Method} {c : Code} {dC : Nat → ClassId} {dI : Nat → Nat → Nat} {cy : Nat → ClassId} {A0 : Nat → Prop} {ad0 ad : Nat → Nat} {H : Heap} {locs : List Loc} {ls : Array Slot}
variable {K K' : jM} {n0 : Nat} {Q Q' : Option Value → jW → Prop} {pc : Nat} {L : List (Option Value)} {st rest as : List Value} {A B : jW} {cells slots : Nat} {is : List Nat}
theorem jbackN (hX : jX K n0 p s m args meth c dC dI cy A0 ad0 ad H locs ls L A) (hB : is.map (fun i => A[i]?) = B.map (fun b => some (jrE (jr is) b))) (hl : B.length < 1000) (hnd : va_nd is = true) (hn0 : n0 ≤ A.length) (hcA : jclW A.length A) (hcL : jclL A.length L) (hcr : jclV A.length rest) {a : Array Value} {st0 : List Value} {mc ms : Nat}
    (hr : va_Run p l e K.2.2.2.2.2 s m args below meth c H locs cells slots mc ms (F0 m pc ls st0) (rest.map (jg ad)) (jQ Q' dC dI cy (va_A (jgW cy (fun k => ad (jr is k)) B) H.size) B.length (fun k => ad (jr is k)) a) (va_A (jgW cy (fun k => ad (jr is k)) B) H.size))
    (kk : ∀ r B', Q' r B' → B.length ≤ B'.length ∧ A.length + B'.length < 1000 ∧ jclW B'.length B' ∧ r = none ∧ J K n0 Q (pc + 3) L rest (jnew A is B') (cells + mc) (slots + ms)) :
    W p l e K.2.2.2.2.2 s m args below meth c H locs cells slots (MQ below (jQ Q dC dI cy A0 n0 ad0) args s K.2.2.2.2.2.cells K.2.2.2.2.2.slots A0) (F0 m pc ls st0) := by
  intro T hT X
  obtain ⟨v, st₀, t, T', L', h0, X', hL, e1, e2, ⟨⟨r, B', ad1, hv, hq, hag, hP1, hD1⟩, hz, hk⟩, st9⟩ := hr T hT X
  cases hv
  obtain ⟨hlB, hlt9, hcB, hrn, kJ⟩ := kk r B' hq
  subst hrn
  have hA1 := jfree hX hB hl
  rw [h0] at hz hk
  have hP := hX.2.2.2.1
  have hD := hX.2.2.2.2.1
  have hS := hX.2.2.2.2.2.1
  have hlen : is.length = B.length := by have := congrArg List.length hB; simpa using this
  have hlt : ∀ (j i : Nat), is[j]? = some i → i < A.length ∧ jr is j = i := by
    intro j i hj
    have hj2 : j < B.length := by have := (List.getElem?_eq_some_iff.mp hj).1; omega
    obtain ⟨i', a1, a2, a3⟩ := jcells hB hl (List.getElem?_eq_getElem hj2)
    rw [hj] at a1
    cases a1
    exact ⟨(List.getElem?_eq_some_iff.mp a3).1, a2⟩
  -- the new addresses
  obtain ⟨ad2, had2⟩ : ∃ ad2 : Nat → Nat, ad2 = fun k => if A.length ≤ k ∧ k < A.length + (B'.length - B.length) then ad1 (k - A.length + B.length) else ad k := ⟨_, rfl⟩
  have hold : ∀ k, k < A.length ∨ 1000 ≤ k → ad2 k = ad k := by
    intro k hk
    rw [had2]
    exact if_neg (by omega)
  have hout : ∀ k, A.length + (B'.length - B.length) ≤ k → ad2 k = ad k := by
    intro k hk
    rw [had2]
    exact if_neg (by omega)
  have hnew : ∀ j, B.length ≤ j → j < B'.length → ad2 (A.length + (j - B.length)) = ad1 j := by
    intro j h1 h2
    rw [had2]
    simp only
    rw [if_pos (by omega)]
    congr 1
    omega
  have hcall : ∀ k, k < B'.length ∨ 1000 ≤ k → ad2 (jr2 is A.length k) = ad1 k := by
    intro k hk
    by_cases h1 : 1000 ≤ k
    · simp only [jr2]
      rw [if_pos h1, hold k (Or.inr h1), hag k (Or.inr (by omega))]
      simp only [jr]
      rw [if_pos h1]
    · by_cases h2 : k < is.length
      · have h3 : is[k]? = some is[k] := List.getElem?_eq_getElem h2
        obtain ⟨h4, h5⟩ := hlt k _ h3
        have h6 : jr2 is A.length k = is[k] := by
          simp only [jr2]
          rw [if_neg h1, if_pos h2, List.getD_eq_getElem?_getD, h3]
          rfl
        rw [h6, hold _ (Or.inl h4), hag k (Or.inl (by omega))]
        exact congrArg ad h5.symm
      · simp only [jr2]
        rw [if_neg h1, if_neg h2, hlen]
        exact hnew k (by omega) (by omega)
  have hcell : ∀ x ∈ B', jgE cy ad1 x = jgE cy ad2 (jrE (jr2 is A.length) x) := by
    intro x hx
    rw [← jgE_comp]
    exact (jgE_same (n := B'.length) (ad := fun k => ad1 k) (ad' := fun k => ad2 (jr2 is A.length k)) hcall (hcB x hx)).symm
  have hlz : (jnew A is B').length = A.length + (B'.length - B.length) := by
    simp only [jnew, List.length_append, jput_len, List.length_map, List.length_drop]
    omega
  have hlow : ∀ (j i : Nat), is[j]? = some i → (jnew A is B')[i]? = (B'[j]?).map (jrE (jr2 is A.length)) := by
    intro j i hj
    have hj1 : j < is.length := (List.getElem?_eq_some_iff.mp hj).1
    obtain ⟨h4, -⟩ := hlt j i hj
    simp only [jnew]
    rw [List.getElem?_append_left (by rw [jput_len]; exact h4), jput_at is A _ j i hnd hj h4 (by simp; omega), List.getElem?_map, List.getElem?_take_of_lt hj1]
  have hmid : ∀ k, k < A.length → k ∉ is → (jnew A is B')[k]? = A[k]? := by
    intro k h1 h2
    simp only [jnew]
    rw [List.getElem?_append_left (by rw [jput_len]; exact h1), jput_ne is A _ k h2]
  have hhigh : ∀ k, A.length ≤ k → (jnew A is B')[k]? = (B'[B.length + (k - A.length)]?).map (jrE (jr2 is A.length)) := by
    intro k h1
    simp only [jnew]
    rw [List.getElem?_append_right (by rw [jput_len]; exact h1), jput_len, List.getElem?_map, List.getElem?_drop, hlen]
  -- where each cell of the new world comes from
  have hsrc : ∀ (k : Nat) (q : Nat × va_E), (jgW cy ad2 (jnew A is B'))[k]? = some q → (∃ j, (jgW cy ad1 B')[j]? = some q ∧ ((is[j]? = some k) ∨ (B.length ≤ j ∧ k = A.length + (j - B.length)))) ∨ (k < A.length ∧ k ∉ is ∧ (jgW cy ad A)[k]? = some q) := by
    intro k q hq9
    obtain ⟨x, hx, rfl⟩ := jgW_of hq9
    by_cases h1 : k < A.length
    · by_cases h2 : k ∈ is
      · obtain ⟨j, hj, rfl⟩ := List.getElem_of_mem h2
        have hj2 : is[j]? = some is[j] := List.getElem?_eq_getElem hj
        rw [hlow j _ hj2] at hx
        have hjB : j < B'.length := by omega
        rw [List.getElem?_eq_getElem hjB] at hx
        simp only [Option.map_some, Option.some.injEq] at hx
        refine Or.inl ⟨j, ?_, Or.inl hj2⟩
        rw [jgW_get (List.getElem?_eq_getElem hjB), hcell _ (List.getElem_mem hjB), hx]
        have h6 := hcall j (Or.inl hjB)
        have h7 : jr2 is A.length j = is[j] := by
          simp only [jr2]
          rw [if_neg (by omega), if_pos hj, List.getD_eq_getElem?_getD, hj2]
          rfl
        rw [h7] at h6
        rw [h6]
      · rw [hmid k h1 h2] at hx
        refine Or.inr ⟨h1, h2, ?_⟩
        rw [jgW_get hx, hold k (Or.inl h1), jgE_same hold (hcA x (List.mem_of_getElem? hx))]
    · rw [hhigh k (by omega)] at hx
      obtain ⟨b, hb, rfl⟩ := Option.map_eq_some_iff.mp hx
      refine Or.inl ⟨B.length + (k - A.length), ?_, Or.inr ⟨by omega, by omega⟩⟩
      have hjB := (List.getElem?_eq_some_iff.mp hb).1
      rw [jgW_get hb, hcell b (List.mem_of_getElem? hb), ← hnew _ (by omega) hjB]
      congr 2
      congr 1
      omega
  have hapart : ∀ (k : Nat) (q : Nat × va_E), k ∉ is → (jgW cy ad A)[k]? = some q → q.1 < H.size ∧ ¬ va_A (jgW cy (fun k => ad (jr is k)) B) H.size q.1 := by
    intro k q hki hq9
    have h3 := hP k q hq9
    refine ⟨h3.lt, fun h => ?_⟩
    obtain ⟨x, hx, rfl⟩ := jgW_of hq9
    rcases h with ⟨j, e9, h⟩ | h
    · obtain ⟨b, hb, hb2⟩ := jgW_of h
      obtain ⟨i', a1, a2, a3⟩ := jcells hB hl hb
      have h4 : ad k = ad i' := by
        have := congrArg Prod.fst hb2
        simp only at this
        rw [← a2]
        exact this
      have h5 := hD.1 k i' _ _ (jgW_get hx) (jgW_get a3) h4
      exact hki (by rw [h5]; exact List.mem_of_getElem? a1)
    · have := h3.lt
      simp only at this h
      omega
  have hPn : va_P (dC, dI) jCl (jgW cy ad2 (jnew A is B')) t.heap := by
    intro k q hq9
    rcases hsrc k q hq9 with ⟨j, h1, -⟩ | ⟨h1, h2, h3⟩
    · exact hP1 j q h1
    · obtain ⟨g1, g2⟩ := hapart k q h2 h3
      exact (hP k q h3).kept (hk _ g1 g2)
  have hDn : va_D A0 (jgW cy ad2 (jnew A is B')) := by
    refine ⟨fun i j x y hi hj hxy => ?_, fun k q hk9 => ?_⟩
    · rcases hsrc i x hi with ⟨i', a1, a2⟩ | ⟨a1, a2, a3⟩ <;> rcases hsrc j y hj with ⟨j', b1, b2⟩ | ⟨b1, b2, b3⟩
      · have hij := hD1.1 i' j' x y a1 b1 hxy
        subst hij
        rcases a2 with a2 | a2 <;> rcases b2 with b2 | b2
        · rw [a2] at b2
          exact Option.some.inj b2
        · have := (List.getElem?_eq_some_iff.mp a2).1
          omega
        · have := (List.getElem?_eq_some_iff.mp b2).1
          omega
        · omega
      · exact absurd (hD1.2 i' x a1) (by rw [hxy]; exact (hapart j y b2 b3).2)
      · exact absurd (hD1.2 j' y b1) (by rw [← hxy]; exact (hapart i x a2 a3).2)
      · exact hD.1 i j x y a3 b3 hxy
    · rcases hsrc k q hk9 with ⟨j, h1, -⟩ | ⟨h1, h2, h3⟩
      · exact hA1 _ (hD1.2 j q h1)
      · exact hD.2 k q h3
  have hSn : va_S A0 s.heap T'.heap (locs ++ L') := ⟨Nat.le_trans hS.1 (by rw [e1]; exact hz), fun q h1 h2 => by rw [e1, hk q (Nat.lt_of_lt_of_le h1 hS.1) (fun z => h2 (hA1 q z))]; exact hS.2.1 q h1 h2, fun q hq => by
      rcases List.mem_append.mp hq with h | h
      · exact hS.2.2 q h
      · exact hA1 _ (hL q h)⟩
  rw [← e1] at hPn
  obtain ⟨⟨h1, h2, h3, h4, h5, h6, h7, h8, h9, h10⟩, g1, g2, g3, g4, g5, g6⟩ := hX
  have hX' : jX K n0 p s m args meth c dC dI cy A0 ad0 ad2 T'.heap (locs ++ L') ls L (jnew A is B') := by
    refine ⟨⟨h1, h2, h3, h4, h5, h6, h7, h8, h9, h10.ad (fun k hk => hold k (Or.inr hk))⟩, fun k hk9 => ?_, g2, hPn, hDn, hSn, g6.1, g6.2.1, fun i v hv => ?_⟩
    · rw [hlz] at hk9
      rcases hk9 with hk9 | hk9
      · rw [hold k (Or.inl (by omega))]
        exact g1 k (Or.inl hk9)
      · rw [hout k hk9]
        exact g1 k (Or.inr (by omega))
    · rw [jg_same hold (fun k e9 => hcL k (by rw [← e9]; exact List.mem_of_getElem? hv))]
      exact g6.2.2 i v hv
  obtain ⟨t2, a1, b1⟩ := kJ l p e s m args below meth c dC dI cy A0 ad0 ad2 T'.heap (locs ++ L') ls hX' T' rfl X'
  refine ⟨t2, st9 t2 ?_, b1⟩
  rw [jgVs_same hold hcr] at a1
  exact a1
def jcI (own : String) (idx : Nat) (K' : jM) (n : Nat) : Prop := jLk own idx K'.2.2.2.1 ∧ Cond.instanceMethod K'.2.2.2.1 ∈ jTs ∧ K'.2.2.2.1.name = "<init>" ∧ K'.2.2.2.2.1 = none ∧ (parseMethodDescriptor K'.2.2.2.1.desc).map (fun d => d.parameters.length) = some n
/-- a constructor is called, on cell number o of the callee's world -/
theorem J.ci {i o n1 : Nat} {L0 : List (Option Value)} (hm : jmOK K') (hc : jcI K.1 i K' as.length) (hJ : J K' n1 Q' 0 L0 [] B 0 0) (d : decode K.2.1 pc = .ok (.invokespecial i, 3)) (hn1 : B.length = n1)
    (hst : st = (as.map (jg (jr is))).reverse ++ .ref (jr is o) :: rest) (hB : is.map (fun i => A[i]?) = B.map (fun b => some (jrE (jr is) b))) (hL : jent K'.2.2.1 (.ref o :: as) = L0) (hl0 : L0.length = K'.2.2.1)
    (hnum : (decide (B.length < 1000) && va_nd is && decide ((rest.map fun v => v.category).sum ≤ 8) && decide (K'.2.2.2.2.2.frames + 1 ≤ K.2.2.2.2.2.frames ∧ 8 + (K'.2.2.1 + 11) + K'.2.2.2.2.2.locals ≤ K.2.2.2.2.2.locals) && decide (cells + K'.2.2.2.2.2.cells ≤ K.2.2.2.2.2.cells) && decide (slots + K'.2.2.2.2.2.slots ≤ K.2.2.2.2.2.slots)) = true)
    (hn0 : n0 ≤ A.length) (hcA : jclW A.length A) (hcL : jclL A.length L) (hcr : jclV A.length rest)
    (kk : ∀ r B', Q' r B' → B.length ≤ B'.length ∧ A.length + B'.length < 1000 ∧ jclW B'.length B' ∧ r = none ∧ J K n0 Q (pc + 3) L rest (jnew A is B') (cells + K'.2.2.2.2.2.cells) (slots + K'.2.2.2.2.2.slots)) : J K n0 Q pc L st A cells slots := by
  subst hn1
  intro l p e s m args below meth c dC dI cy A0 ad0 ad H locs ls hX
  simp only [Bool.and_eq_true, decide_eq_true_eq] at hnum
  obtain ⟨⟨⟨⟨⟨hl, hnd⟩, hcat⟩, hrf, hrl⟩, hce⟩, hsl⟩ := hnum
  obtain ⟨hlk, hinst, hname, hret, hpar⟩ := hc
  have hts := hX.1.2.2.2.2.2.1
  have hpre := jpre (as := .ref o :: as) hX hB hl hnd
  have hM := J.met hm hJ hL hl0 l dC dI cy (fun k => ad (jr is k)) H.size
  have hstk : (F0 m pc ls (st.map (jg ad))).stack = (as.map (jg (fun k => ad (jr is k)))).reverse ++ .ref (ad (jr is o)) :: rest.map (jg ad) := by
    show st.map (jg ad) = _
    rw [hst, List.map_append, List.map_reverse, List.map_map, List.map_cons]
    congr 2
    apply List.map_congr_left
    intro v _
    exact (jg_comp ad (jr is) v).symm
  have hcat2 : ((rest.map (jg ad)).map fun v => v.category).sum ≤ 8 := by rw [jcatm]; exact hcat
  have hw9 : (Cond.code K'.2.2.2.1 K'.2.1 K'.2.2.1 K'.2.2.2.2.1 :: jTs) = Cond.code K'.2.2.2.1 K'.2.1 K'.2.2.1 none :: jTs := by rw [hret]
  have hg := jgood hm
  rw [hw9] at hM hg
  refine jbackN (a := (.ref (ad (jr is o)) :: as.map (jg (fun k => ad (jr is k)))).toArray) hX hB hl hnd hn0 hcA hcL hcr ?_ kk
  rcases hlk with hlk | ⟨host, hlk⟩
  · exact va_runI (own := K.1) (bytes := K'.2.1) (maxL := K'.2.2.1) (n := as.length) ⟨hX.1.1, hX.1.2.1, hX.1.2.2.2.1, hX.1.2.2.2.2.1, hts⟩ hM (cwI as.length hts hg rfl rfl rfl (hts _ hm.2.2.2.1) (hts _ hlk) (hts _ hinst) hname ⟨hm.2.2.2.2.1, hm.2.2.2.2.2, hpar⟩ ⟨hrf, hrl⟩) hpre rfl (by simp) hX.2.2.2.2.2.2.1 hstk (lv_room hcat2) d ⟨hce, hsl⟩
  · exact va_runIN (own := K.1) (bytes := K'.2.1) (maxL := K'.2.2.1) (n := as.length) ⟨hX.1.1, hX.1.2.1, hX.1.2.2.2.1, hX.1.2.2.2.2.1, hts⟩ hM ⟨va_cnB as.length hts hg rfl rfl rfl (hX.1.2.2.2.2.2.2.2.2.1.1 _ hlk) (hts _ hm.2.2.2.1) ⟨hm.2.2.2.2.1, hm.2.2.2.2.2, hpar⟩ ⟨hrf, hrl⟩, hname, hts _ hinst⟩ hpre rfl (by simp) hX.2.2.2.2.2.2.1 hstk (lv_room hcat2) d ⟨hce, hsl⟩
end JCN
