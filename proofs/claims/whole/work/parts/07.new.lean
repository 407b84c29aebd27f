/-! ===== new cells ===== -/
/-- no reference to number n stands in the cell -/
def jfrE (n : Nat) (x : jE) : Prop := match x with
  | .inl (_, _, .inr (.inr (.inr (.inr f)))) => ∀ j, f j ≠ some n
  | .inl _ => True
  | .inr (_, fs) => Value.ref n ∉ fs
def jFr (n : Nat) (A : jW) : Prop := ∀ x ∈ A, jfrE n x
def jup (ad : Nat → Nat) (n q : Nat) : Nat → Nat := fun k => if k = n then q else ad k
theorem jup_ne {ad : Nat → Nat} {n q k : Nat} (h : k ≠ n) : jup ad n q k = ad k := if_neg h
theorem jup_at {ad : Nat → Nat} {n q : Nat} : jup ad n q n = q := if_pos rfl
theorem jg_up {ad : Nat → Nat} {n q : Nat} {v : Value} (h : v ≠ .ref n) : jg (jup ad n q) v = jg ad v := by
  cases v <;> first | rfl | skip
  next k => exact congrArg Value.ref (jup_ne (fun e => h (by rw [e])))
theorem jgE_up {cy : Nat → ClassId} {ad : Nat → Nat} {n q : Nat} {x : jE} (h : jfrE n x) : jgE cy (jup ad n q) x = jgE cy ad x := by
  obtain ⟨t, k, f | f | f | f | f⟩ | ⟨c, fs⟩ := x
  · rfl
  · rfl
  · rfl
  · rfl
  · simp only [jgE, jgA]
    congr 6
    refine congrArg Sum.inr (funext fun j => ?_)
    have hj : f j ≠ some n := h j
    cases hf : f j with
    | none => rfl
    | some i =>
      simp only [Option.map_some]
      rw [jup_ne]
      intro e
      rw [hf, e] at hj
      exact hj rfl
  · simp only [jgE]
    congr 2
    apply List.map_congr_left
    intro v hv
    exact jg_up (fun e => h (by rw [← e]; exact hv))
theorem jgW_up {cy : Nat → ClassId} {ad : Nat → Nat} {q : Nat} {A : jW} {x : jE} (hA : jFr A.length A) (hx : jfrE A.length x) : jgW cy (jup ad A.length q) (A ++ [x]) = jgW cy ad A ++ [(q, jgE cy ad x)] := by
  apply List.ext_getElem?
  intro i
  by_cases hi : i < A.length
  · rw [List.getElem?_append_left (by rw [jgW_len]; exact hi), jgW_get (x := A[i]) (by rw [List.getElem?_append_left hi, List.getElem?_eq_getElem hi]), jgW_get (List.getElem?_eq_getElem hi), jup_ne (by omega), jgE_up (hA _ (List.getElem_mem hi))]
  · by_cases he : i = A.length
    · subst he
      rw [jgW_get (x := x) (by simp), List.getElem?_append_right (by rw [jgW_len]; omega), jgW_len, Nat.sub_self, jup_at, jgE_up hx]
      rfl
    · rw [List.getElem?_eq_none (by rw [jgW_len]; simp; omega), List.getElem?_eq_none (by rw [List.length_append, jgW_len]; simp; omega)]
section JN
variable {K : jM} {n0 : Nat} {Q : Option Value → jW → Prop} {pc : Nat} {L : List (Option Value)} {st : List Value} {A : jW} {cells slots : Nat}
theorem jX.new {p : Program} {s : State} {m : MethodId} {args : Array Value} {meth : Method} {c : Code} {dC : Nat → ClassId} {dI : Nat → Nat → Nat} {cy : Nat → ClassId} {A0 : Nat → Prop} {ad0 ad : Nat → Nat} {H H1 : Heap} {locs : List Loc} {ls : Array Slot} {x : jE} {q : Nat} (hX : jX K n0 p s m args meth c dC dI cy A0 ad0 ad H locs ls L A) (hn0 : n0 ≤ A.length) (hlt : A.length < 1000) (hA : jFr A.length A) (hx : jfrE A.length x) (hL : some (Value.ref A.length) ∉ L)
    (hP : va_P (dC, dI) jCl (jgW cy ad A ++ [(q, jgE cy ad x)]) H1) (hD : va_D A0 (jgW cy ad A ++ [(q, jgE cy ad x)])) (hS : va_S A0 s.heap H1 locs) : jX K n0 p s m args meth c dC dI cy A0 ad0 (jup ad A.length q) H1 locs ls L (A ++ [x]) := by
  obtain ⟨⟨h1, h2, h3, h4, h5, h6, h7, h8, h9, h10⟩, g1, g2, g3, g4, g5, g6⟩ := hX
  refine ⟨⟨h1, h2, h3, h4, h5, h6, h7, h8, h9, h10.ad (fun k hk => jup_ne (by omega))⟩, fun k hk => ?_, g2, by rw [jgW_up hA hx]; exact hP, by rw [jgW_up hA hx]; exact hD, hS, g6.1, g6.2.1, fun i v hv => ?_⟩
  · rw [List.length_append] at hk
    simp only [List.length_singleton] at hk
    rw [jup_ne (by omega)]
    exact g1 k (by omega)
  · rw [jg_up (fun e => hL (by rw [← e]; exact List.mem_of_getElem? hv))]
    exact g6.2.2 i v hv
theorem jst_up {ad : Nat → Nat} {n q : Nat} {st : List Value} (h : Value.ref n ∉ st) : st.map (jg (jup ad n q)) = st.map (jg ad) := List.map_congr_left (fun v hv => jg_up (fun e => h (by rw [← e]; exact hv)))
/-- a class whose objects are made -/
def jNw (own : String) (idx ci : Nat) (fs : List Value) : Prop := ∃ (C : String) (T : u_T) (N : Nat) (ty : Nat → FieldType), jCl[ci]? = some (C, T, N) ∧ (∀ k, k < N → parseFieldDescriptor (T k).2.2.1 = some (ty k)) ∧ (∀ w ∈ u_ws C T N, w ∈ jTs) ∧ Cond.classLink own idx C ∈ jTs ∧ Cond.instantiable C N ∈ jTs ∧ Cond.initialized C ∈ jTs ∧ (∀ j, j < N → defaultValue (ty j) = vp_V fs j) ∧ fs.length = N ∧ ∀ k, Value.ref k ∉ fs
/-- a fresh world may take one cell more -/
def jOK (n0 : Nat) (A : jW) (L : List (Option Value)) (st : List Value) : Prop := n0 ≤ A.length ∧ A.length < 1000 ∧ jFr A.length A ∧ some (Value.ref A.length) ∉ L ∧ Value.ref A.length ∉ st
theorem J.new {i ci : Nat} {fs : List Value} (d : decode K.2.1 pc = .ok (.new i, 3)) (hF : jNw K.1 i ci fs) (hO : jOK n0 A L st) (hc : cells + 1 ≤ K.2.2.2.2.2.cells) (hs : slots + fs.length ≤ K.2.2.2.2.2.slots)
    (k : J K n0 Q (pc + 3) L (.ref A.length :: st) (A ++ [.inr (ci, fs)]) (cells + 1) (slots + fs.length)) : J K n0 Q pc L st A cells slots := by
  intro l p e s m args below meth c dC dI cy A0 ad0 ad H locs ls hX
  obtain ⟨C, T, N, ty, h1, h2, h3, h4, h5, h6, h7, h8, h9⟩ := hF
  obtain ⟨o1, o2, o3, o4, o5⟩ := hO
  rw [h8] at k hs
  have hfs : fs.map (jg ad) = fs := by
    have := List.map_congr_left (f := jg ad) (g := id) (l := fs) (fun v hv => by
      cases v <;> first | rfl | skip
      next a => exact absurd hv (h9 a))
    rw [this, List.map_id]
  refine va_new hX.1.1 hX.1.2.1 hX.1.2.2.2.2.2.1 h3 ty h2 hX.1.2.2.2.2.1 (hX.1.2.2.2.2.2.1 _ h4) (hX.1.2.2.2.2.2.1 _ h5) (hX.1.2.2.2.2.2.1 _ h6) hX.1.2.2.2.2.2.2.2.2.1.2.1 hX.2.2.2.1 hX.2.2.2.2.1 hX.2.2.2.2.2.1 hX.2.2.1 h1 h7 hc hs d (fun q H1 a1 a2 a3 => ?_)
  have e9 : (Sum.inr (ci, fs) : va_E) = jgE cy ad (.inr (ci, fs)) := by simp only [jgE, hfs]
  rw [e9] at a1 a2
  have hX' := hX.new (q := q) (x := .inr (ci, fs)) o1 o2 o3 (h9 _) o4 a1 a2 a3
  have := k l p e s m args below meth c dC dI cy A0 ad0 (jup ad A.length q) H1 locs ls hX'
  simp only [List.map_cons, jg, jup_at, jst_up o5] at this
  exact this
theorem J.newI {a : ArrayType} {n : Int32} (d : decode K.2.1 pc = .ok (.newarray a, 2)) (ha : newarray.typeOf a = .int) (N : Nat) (hn : ¬ n < 0) (hN : n.toNatClampNeg = N) (hb : N * componentBytes .int ≤ 536870912) (hO : jOK n0 A L st) (hc : cells + 1 ≤ K.2.2.2.2.2.cells) (hs : slots + N ≤ K.2.2.2.2.2.slots)
    (hw : Cond.arrayClass .int ∈ jTs) (k : J K n0 Q (pc + 2) L (.ref A.length :: st) (A ++ [.inl (0, N, .inl (fun _ => 0))]) (cells + 1) (slots + N)) : J K n0 Q pc L (.int n :: st) A cells slots := by
  intro l p e s m args below meth c dC dI cy A0 ad0 ad H locs ls hX
  obtain ⟨o1, o2, o3, o4, o5⟩ := hO
  refine va_newa (a0 := (N, .inl (fun _ => 0))) hX.1.1 hX.1.2.1 (by rw [ha]; exact hX.1.2.2.2.2.2.1 _ hw) ha hX.1.2.2.2.2.2.2.2.2.1.2.1 hX.2.2.2.1 hX.2.2.2.2.1 hX.2.2.2.2.2.1 hX.2.2.1 (fun cA => rfl) hn hN hb hc hs d (fun q cA H1 a0 a1 a2 a3 => ?_)
  have e1 : cA = cy 0 := by
    have g1 := (a0.2 6 (cA, .int) rfl).2
    have g2 := ((hX.1.2.2.2.2.2.2.2.2.1.2.1).2 0 (cy 0, .int) rfl).2
    exact Option.some.inj (g1.symm.trans g2)
  subst e1
  have hX' := hX.new (q := q) (x := .inl (0, N, .inl (fun _ => 0))) o1 o2 o3 trivial o4 a1 a2 a3
  have := k l p e s m args below meth c dC dI cy A0 ad0 (jup ad A.length q) H1 locs ls hX'
  simp only [List.map_cons, jg, jup_at, jst_up o5] at this
  exact this
theorem J.newL {a : ArrayType} {n : Int32} (d : decode K.2.1 pc = .ok (.newarray a, 2)) (ha : newarray.typeOf a = .long) (N : Nat) (hn : ¬ n < 0) (hN : n.toNatClampNeg = N) (hb : N * componentBytes .long ≤ 536870912) (hO : jOK n0 A L st) (hc : cells + 1 ≤ K.2.2.2.2.2.cells) (hs : slots + N ≤ K.2.2.2.2.2.slots)
    (hw : Cond.arrayClass .long ∈ jTs) (k : J K n0 Q (pc + 2) L (.ref A.length :: st) (A ++ [.inl (1, N, .inr (.inl (fun _ => 0)))]) (cells + 1) (slots + N)) : J K n0 Q pc L (.int n :: st) A cells slots := by
  intro l p e s m args below meth c dC dI cy A0 ad0 ad H locs ls hX
  obtain ⟨o1, o2, o3, o4, o5⟩ := hO
  refine va_newa (a0 := (N, .inr (.inl (fun _ => 0)))) hX.1.1 hX.1.2.1 (by rw [ha]; exact hX.1.2.2.2.2.2.1 _ hw) ha hX.1.2.2.2.2.2.2.2.2.1.2.1 hX.2.2.2.1 hX.2.2.2.2.1 hX.2.2.2.2.2.1 hX.2.2.1 (fun cA => rfl) hn hN hb hc hs d (fun q cA H1 a0 a1 a2 a3 => ?_)
  have e1 : cA = cy 1 := by
    have g1 := (a0.2 6 (cA, .long) rfl).2
    have g2 := ((hX.1.2.2.2.2.2.2.2.2.1.2.1).2 1 (cy 1, .long) rfl).2
    exact Option.some.inj (g1.symm.trans g2)
  subst e1
  have hX' := hX.new (q := q) (x := .inl (1, N, .inr (.inl (fun _ => 0)))) o1 o2 o3 trivial o4 a1 a2 a3
  have := k l p e s m args below meth c dC dI cy A0 ad0 (jup ad A.length q) H1 locs ls hX'
  simp only [List.map_cons, jg, jup_at, jst_up o5] at this
  exact this
theorem J.newB {a : ArrayType} {n : Int32} (d : decode K.2.1 pc = .ok (.newarray a, 2)) (ha : newarray.typeOf a = .byte) (N : Nat) (hn : ¬ n < 0) (hN : n.toNatClampNeg = N) (hb : N * componentBytes .byte ≤ 536870912) (hO : jOK n0 A L st) (hc : cells + 1 ≤ K.2.2.2.2.2.cells) (hs : slots + N ≤ K.2.2.2.2.2.slots)
    (hw : Cond.arrayClass .byte ∈ jTs) (k : J K n0 Q (pc + 2) L (.ref A.length :: st) (A ++ [.inl (2, N, .inl (fun _ => 0))]) (cells + 1) (slots + N)) : J K n0 Q pc L (.int n :: st) A cells slots := by
  intro l p e s m args below meth c dC dI cy A0 ad0 ad H locs ls hX
  obtain ⟨o1, o2, o3, o4, o5⟩ := hO
  refine va_newa (a0 := (N, .inl (fun _ => 0))) hX.1.1 hX.1.2.1 (by rw [ha]; exact hX.1.2.2.2.2.2.1 _ hw) ha hX.1.2.2.2.2.2.2.2.2.1.2.1 hX.2.2.2.1 hX.2.2.2.2.1 hX.2.2.2.2.2.1 hX.2.2.1 (fun cA => rfl) hn hN hb hc hs d (fun q cA H1 a0 a1 a2 a3 => ?_)
  have e1 : cA = cy 2 := by
    have g1 := (a0.2 6 (cA, .byte) rfl).2
    have g2 := ((hX.1.2.2.2.2.2.2.2.2.1.2.1).2 2 (cy 2, .byte) rfl).2
    exact Option.some.inj (g1.symm.trans g2)
  subst e1
  have hX' := hX.new (q := q) (x := .inl (2, N, .inl (fun _ => 0))) o1 o2 o3 trivial o4 a1 a2 a3
  have := k l p e s m args below meth c dC dI cy A0 ad0 (jup ad A.length q) H1 locs ls hX'
  simp only [List.map_cons, jg, jup_at, jst_up o5] at this
  exact this
theorem J.newZ {a : ArrayType} {n : Int32} (d : decode K.2.1 pc = .ok (.newarray a, 2)) (ha : newarray.typeOf a = .boolean) (N : Nat) (hn : ¬ n < 0) (hN : n.toNatClampNeg = N) (hb : N * componentBytes .boolean ≤ 536870912) (hO : jOK n0 A L st) (hc : cells + 1 ≤ K.2.2.2.2.2.cells) (hs : slots + N ≤ K.2.2.2.2.2.slots)
    (hw : Cond.arrayClass .boolean ∈ jTs) (k : J K n0 Q (pc + 2) L (.ref A.length :: st) (A ++ [.inl (3, N, .inl (fun _ => 0))]) (cells + 1) (slots + N)) : J K n0 Q pc L (.int n :: st) A cells slots := by
  intro l p e s m args below meth c dC dI cy A0 ad0 ad H locs ls hX
  obtain ⟨o1, o2, o3, o4, o5⟩ := hO
  refine va_newa (a0 := (N, .inl (fun _ => 0))) hX.1.1 hX.1.2.1 (by rw [ha]; exact hX.1.2.2.2.2.2.1 _ hw) ha hX.1.2.2.2.2.2.2.2.2.1.2.1 hX.2.2.2.1 hX.2.2.2.2.1 hX.2.2.2.2.2.1 hX.2.2.1 (fun cA => rfl) hn hN hb hc hs d (fun q cA H1 a0 a1 a2 a3 => ?_)
  have e1 : cA = cy 3 := by
    have g1 := (a0.2 6 (cA, .boolean) rfl).2
    have g2 := ((hX.1.2.2.2.2.2.2.2.2.1.2.1).2 3 (cy 3, .boolean) rfl).2
    exact Option.some.inj (g1.symm.trans g2)
  subst e1
  have hX' := hX.new (q := q) (x := .inl (3, N, .inl (fun _ => 0))) o1 o2 o3 trivial o4 a1 a2 a3
  have := k l p e s m args below meth c dC dI cy A0 ad0 (jup ad A.length q) H1 locs ls hX'
  simp only [List.map_cons, jg, jup_at, jst_up o5] at this
  exact this
theorem J.newR {i : Nat} {n : Int32} (d : decode K.2.1 pc = .ok (.anewarray i, 3)) (N : Nat) (hn : ¬ n < 0) (hN : n.toNatClampNeg = N) (hb : N * 4 ≤ 536870912) (hO : jOK n0 A L st) (hc : cells + 1 ≤ K.2.2.2.2.2.cells) (hs : slots + N ≤ K.2.2.2.2.2.slots)
    (hw : Cond.classLink K.1 i RX2 ∈ jTs) (k : J K n0 Q (pc + 3) L (.ref A.length :: st) (A ++ [.inl (4, N, .inr (.inr (.inr (.inr (fun _ => none)))))]) (cells + 1) (slots + N)) : J K n0 Q pc L (.int n :: st) A cells slots := by
  intro l p e s m args below meth c dC dI cy A0 ad0 ad H locs ls hX
  obtain ⟨o1, o2, o3, o4, o5⟩ := hO
  refine va_newq hX.1.1 hX.1.2.1 hX.1.2.2.2.2.1 (hX.1.2.2.2.2.2.1 _ hw) hX.1.2.2.2.2.2.2.2.2.1.2.2.1 hX.1.2.2.2.2.2.2.2.2.1.2.1 hX.2.2.2.1 hX.2.2.2.2.1 hX.2.2.2.2.2.1 hX.2.2.1 hn hN hb hc hs d (fun q cA H1 a0 a1 a2 a3 => ?_)
  have e1 : cA = cy 4 := by
    obtain ⟨_, _, -, -, -, g1⟩ := (a0.2 6 (cA, .object RX2) rfl).2
    obtain ⟨_, _, -, -, -, g2⟩ := ((hX.1.2.2.2.2.2.2.2.2.1.2.1).2 4 (cy 4, .object RX2) rfl).2
    exact Option.some.inj (g1.symm.trans g2)
  subst e1
  have hX' := hX.new (q := q) (x := .inl (4, N, .inr (.inr (.inr (.inr (fun _ => none)))))) o1 o2 o3 (fun j h => by cases h) o4 a1 a2 a3
  have := k l p e s m args below meth c dC dI cy A0 ad0 (jup ad A.length q) H1 locs ls hX'
  simp only [List.map_cons, jg, jup_at, jst_up o5] at this
  exact this
theorem J.aastore4 {r n q : Nat} {ci : Nat} {fs : List Value} {f : Nat → Option Nat} {i : Int32} (d : decode K.2.1 pc = .ok (.aastore, 1)) (hA : A[r]? = some (.inl (4, n, .inr (.inr (.inr (.inr f)))))) (hq : A[q]? = some (.inr (ci, fs))) (hci : (jCl[ci]?).map (fun x => x.1) = some RX2) (hin : vp_in i n)
    (k9 : J K n0 Q (pc + 1) L st (A.set r (.inl (4, n, .inr (.inr (.inr (.inr (va_up f i.toNatClampNeg (some q)))))))) cells slots) : J K n0 Q pc L (.ref q :: .int i :: .ref r :: st) A cells slots := by
  intro l p e s m args below meth c dC dI cy A0 ad0 ad H locs ls hX
  obtain ⟨x, hx1, hx2⟩ : ∃ x, jCl[ci]? = some x ∧ x.1 = RX2 := by simpa [Option.map_eq_some_iff] using hci
  have hz : (A.set r (Sum.inl (4, n, .inr (.inr (.inr (.inr (va_up f i.toNatClampNeg (some q)))))) : jE)).length = A.length := by simp
  refine va_astq (r := x) hX.1.1 hX.1.2.1 hX.1.2.2.2.2.2.2.2.2.1.2.1 hX.2.2.2.1 hX.2.2.2.2.1 hX.2.2.2.2.2.1 r 4 q ci (jgW_get hA) (by rw [hx2]; rfl) (jgW_get hq) hx1 hin d (fun H1 locs1 a1 a2 a3 => ?_)
  have e9 : (jgW cy ad A).set r (ad r, .inl (cy 4, n, .inr (.inr (.inr (.inr (va_up (fun j => (f j).map ad) i.toNatClampNeg (some (ad q)))))))) = jgW cy ad (A.set r (.inl (4, n, .inr (.inr (.inr (.inr (va_up f i.toNatClampNeg (some q)))))))) := by
    rw [← jgW_set]
    simp only [jgE, jgA]
    congr 8
    refine congrArg Sum.inr (funext fun j => ?_)
    simp only [va_up]
    split <;> rfl
  rw [e9] at a1 a2
  exact k9 l p e s m args below meth c dC dI cy A0 ad0 ad H1 locs1 ls (hX.wor hz a1 a2 a3)
theorem J.newS {i : Nat} {n : Int32} (d : decode K.2.1 pc = .ok (.anewarray i, 3)) (N : Nat) (hn : ¬ n < 0) (hN : n.toNatClampNeg = N) (hb : N * 4 ≤ 536870912) (hO : jOK n0 A L st) (hc : cells + 1 ≤ K.2.2.2.2.2.cells) (hs : slots + N ≤ K.2.2.2.2.2.slots)
    (hw : Cond.classLink K.1 i RX4 ∈ jTs) (k : J K n0 Q (pc + 3) L (.ref A.length :: st) (A ++ [.inl (5, N, .inr (.inr (.inr (.inr (fun _ => none)))))]) (cells + 1) (slots + N)) : J K n0 Q pc L (.int n :: st) A cells slots := by
  intro l p e s m args below meth c dC dI cy A0 ad0 ad H locs ls hX
  obtain ⟨o1, o2, o3, o4, o5⟩ := hO
  refine va_newq hX.1.1 hX.1.2.1 hX.1.2.2.2.2.1 (hX.1.2.2.2.2.2.1 _ hw) hX.1.2.2.2.2.2.2.2.2.1.2.2.2 hX.1.2.2.2.2.2.2.2.2.1.2.1 hX.2.2.2.1 hX.2.2.2.2.1 hX.2.2.2.2.2.1 hX.2.2.1 hn hN hb hc hs d (fun q cA H1 a0 a1 a2 a3 => ?_)
  have e1 : cA = cy 5 := by
    obtain ⟨_, _, -, -, -, g1⟩ := (a0.2 6 (cA, .object RX4) rfl).2
    obtain ⟨_, _, -, -, -, g2⟩ := ((hX.1.2.2.2.2.2.2.2.2.1.2.1).2 5 (cy 5, .object RX4) rfl).2
    exact Option.some.inj (g1.symm.trans g2)
  subst e1
  have hX' := hX.new (q := q) (x := .inl (5, N, .inr (.inr (.inr (.inr (fun _ => none)))))) o1 o2 o3 (fun j h => by cases h) o4 a1 a2 a3
  have := k l p e s m args below meth c dC dI cy A0 ad0 (jup ad A.length q) H1 locs ls hX'
  simp only [List.map_cons, jg, jup_at, jst_up o5] at this
  exact this
theorem J.aastore5 {r n q : Nat} {ci : Nat} {fs : List Value} {f : Nat → Option Nat} {i : Int32} (d : decode K.2.1 pc = .ok (.aastore, 1)) (hA : A[r]? = some (.inl (5, n, .inr (.inr (.inr (.inr f)))))) (hq : A[q]? = some (.inr (ci, fs))) (hci : (jCl[ci]?).map (fun x => x.1) = some RX4) (hin : vp_in i n)
    (k9 : J K n0 Q (pc + 1) L st (A.set r (.inl (5, n, .inr (.inr (.inr (.inr (va_up f i.toNatClampNeg (some q)))))))) cells slots) : J K n0 Q pc L (.ref q :: .int i :: .ref r :: st) A cells slots := by
  intro l p e s m args below meth c dC dI cy A0 ad0 ad H locs ls hX
  obtain ⟨x, hx1, hx2⟩ : ∃ x, jCl[ci]? = some x ∧ x.1 = RX4 := by simpa [Option.map_eq_some_iff] using hci
  have hz : (A.set r (Sum.inl (5, n, .inr (.inr (.inr (.inr (va_up f i.toNatClampNeg (some q)))))) : jE)).length = A.length := by simp
  refine va_astq (r := x) hX.1.1 hX.1.2.1 hX.1.2.2.2.2.2.2.2.2.1.2.1 hX.2.2.2.1 hX.2.2.2.2.1 hX.2.2.2.2.2.1 r 5 q ci (jgW_get hA) (by rw [hx2]; rfl) (jgW_get hq) hx1 hin d (fun H1 locs1 a1 a2 a3 => ?_)
  have e9 : (jgW cy ad A).set r (ad r, .inl (cy 5, n, .inr (.inr (.inr (.inr (va_up (fun j => (f j).map ad) i.toNatClampNeg (some (ad q)))))))) = jgW cy ad (A.set r (.inl (5, n, .inr (.inr (.inr (.inr (va_up f i.toNatClampNeg (some q)))))))) := by
    rw [← jgW_set]
    simp only [jgE, jgA]
    congr 8
    refine congrArg Sum.inr (funext fun j => ?_)
    simp only [va_up]
    split <;> rfl
  rw [e9] at a1 a2
  exact k9 l p e s m args below meth c dC dI cy A0 ad0 ad H1 locs1 ls (hX.wor hz a1 a2 a3)
/-- Object's constructor -/
theorem J.objInit {i r : Nat} (d : decode K.2.1 pc = .ok (.invokespecial i, 3)) (hl : Cond.methodLink K.1 i objectInit ∈ jTs) (hi : Cond.instanceMethod objectInit ∈ jTs) (hc : Cond.code objectInit ⟨#[0xb1]⟩ 1 none ∈ jTs) (hr : jrm K st cells slots = true)
    (k : J K n0 Q (pc + 3) L st A cells slots) : J K n0 Q pc L (.ref r :: st) A cells slots := by
  intro l p e s m args below meth c dC dI cy A0 ad0 ad H locs ls hX
  simp only [jrm, decide_eq_true_eq] at hr
  refine W.objInit hX.1.1 hX.1.2.1 hX.1.2.2.2.2.1 (hX.1.2.2.2.2.2.1 _ hl) (hX.1.2.2.2.2.2.1 _ hi) (hX.1.2.2.2.2.2.1 _ hc) rfl (by rw [hX.1.2.2.2.1]; exact hX.2.2.2.2.2.2.1) rfl d hr.1 ?_ (k l p e s m args below meth c dC dI cy A0 ad0 ad H locs ls hX)
  show 2 * 0 + _ + 12 ≤ _
  have := jcatm ad st
  omega
end JN
