theorem jg_narrow {ty : FieldType} {v : Value} (ad : Nat → Nat) (h : narrow ty v = v) : narrow ty (jg ad v) = jg ad v := by
  cases v <;> first | exact h | (cases ty <;> rfl)
theorem jg_fits {ty : FieldType} {v : Value} (ad : Nat → Nat) (h : fits ty v = true) : fits ty (jg ad v) = true := by
  cases v <;> first | exact h | (cases ty <;> first | exact h | rfl)
theorem jg_rf (ad : Nat → Nat) (r : Option Nat) : jg ad (va_rf r) = va_rf (r.map ad) := by cases r <;> rfl
/-- a field that an entry of a class's pool means: number k of class ci -/
def jF (own : String) (idx ci k : Nat) : Prop := ∃ (C : String) (T : u_T) (N : Nat), jCl[ci]? = some (C, T, N) ∧ k < N ∧ (∀ w ∈ u_ws C T N, w ∈ jTs) ∧ (Cond.fieldLink own idx (T k).1 (T k).2.1 (T k).2.2.1 ∈ jTs ∨ ∃ host, Cond.fieldLinkNest own idx (T k).1 (T k).2.1 (T k).2.2.1 host ∈ jNs)
/-- ... and what may be stored in it -/
def jP (ci k : Nat) (fin : Bool) (ty : FieldType) : Prop := ∃ (C : String) (T : u_T) (N : Nat) (ty0 : Nat → FieldType), jCl[ci]? = some (C, T, N) ∧ (∀ k, k < N → parseFieldDescriptor (T k).2.2.1 = some (ty0 k)) ∧ (∀ a, a < N → ∀ b, b < N → a ≠ b → (T a).2.1 ≠ (T b).2.1) ∧ (T k).2.2.2 = fin ∧ parseFieldDescriptor (T k).2.2.1 = some ty ∧ (T k).1 = C
section JH
variable {K : jM} {n0 : Nat} {Q : Option Value → jW → Prop} {pc : Nat} {L : List (Option Value)} {st : List Value} {A : jW} {cells slots : Nat}
theorem J.getfield {i ci k r : Nat} {fs : List Value} {v : Value} (d : decode K.2.1 pc = .ok (.getfield i, 3)) (hF : jF K.1 i ci k) (hA : A[r]? = some (.inr (ci, fs))) (hv : fs[k]? = some v)
    (k9 : J K n0 Q (pc + 3) L (v :: st) A cells slots) : J K n0 Q pc L (.ref r :: st) A cells slots := by
  intro l p e s m args below meth c dC dI cy A0 ad0 ad H locs ls hX
  obtain ⟨C, T, N, h1, h2, h3, h4⟩ := hF
  have hv' : (fs.map (jg ad))[k]? = some (jg ad v) := by simp [hv]
  rcases h4 with h4 | ⟨host, h4⟩
  · exact va_get hX.1.1 hX.1.2.1 hX.1.2.2.2.2.2.1 h3 hX.1.2.2.2.2.1 hX.1.2.2.2.2.2.2.2.2.1.2.1 hX.2.2.2.1 r (jgW_get hA) h1 k h2 (hX.1.2.2.2.2.2.1 _ h4) (fun _ h => h) hv' d (k9 l p e s m args below meth c dC dI cy A0 ad0 ad H locs ls hX)
  · exact va_getN hX.1.1 hX.1.2.1 hX.1.2.2.2.2.2.1 h3 hX.1.2.2.2.2.1 hX.1.2.2.2.2.2.2.2.2.1.2.1 hX.2.2.2.1 r (jgW_get hA) h1 k h2 (va_Nw.use rfl (hX.1.2.2.2.2.2.2.2.2.1.1 _ h4)) (fun _ h => h) hv' d (k9 l p e s m args below meth c dC dI cy A0 ad0 ad H locs ls hX)
theorem J.putfield {i ci k r : Nat} {ty : FieldType} {fs : List Value} {v : Value} (d : decode K.2.1 pc = .ok (.putfield i, 3)) (hF : jF K.1 i ci k) (hG : jP ci k false ty) (hA : A[r]? = some (.inr (ci, fs))) (hn : narrow ty v = v) (hfit : fits ty v = true) (hl : k < fs.length)
    (k9 : J K n0 Q (pc + 3) L st (A.set r (.inr (ci, fs.set k v))) cells slots) : J K n0 Q pc L (v :: .ref r :: st) A cells slots := by
  intro l p e s m args below meth c dC dI cy A0 ad0 ad H locs ls hX
  obtain ⟨C, T, N, h1, h2, h3, h4⟩ := hF
  obtain ⟨C', T', N', ty0, g1, g2, g3, g4, g5, g6⟩ := hG
  have e8 : (C', T', N') = (C, T, N) := Option.some.inj (g1.symm.trans h1)
  cases e8
  have hz : (A.set r (Sum.inr (ci, fs.set k v) : jE)).length = A.length := by simp
  have go : ∀ (H1 : Heap) (locs1 : List Loc), va_P (dC, dI) jCl ((jgW cy ad A).set r (ad r, .inr (ci, (fs.map (jg ad)).set k (jg ad v)))) H1 → va_D A0 ((jgW cy ad A).set r (ad r, .inr (ci, (fs.map (jg ad)).set k (jg ad v)))) → va_S A0 s.heap H1 locs1 → W p l e K.2.2.2.2.2 s m args below meth c H1 locs1 cells slots (MQ below (jQ Q dC dI cy A0 n0 ad0) args s K.2.2.2.2.2.cells K.2.2.2.2.2.slots A0) (F0 m (pc + 3) ls (st.map (jg ad))) := by
    intro H1 locs1 a1 a2 a3
    have e9 : (jgW cy ad A).set r (ad r, .inr (ci, (fs.map (jg ad)).set k (jg ad v))) = jgW cy ad (A.set r (.inr (ci, fs.set k v))) := by
      rw [← jgW_set]
      simp only [jgE, List.map_set]
    rw [e9] at a1 a2
    exact k9 l p e s m args below meth c dC dI cy A0 ad0 ad H1 locs1 ls (hX.wor hz a1 a2 a3)
  rcases h4 with h4 | ⟨host, h4⟩
  · exact va_put hX.1.1 hX.1.2.1 hX.1.2.2.2.2.2.1 h3 ty0 g2 g3 hX.1.2.2.2.2.1 hX.1.2.2.2.2.2.2.2.2.1.2.1 hX.2.2.2.1 hX.2.2.2.2.1 hX.2.2.2.2.2.1 r (jgW_get hA) h1 k h2 (hX.1.2.2.2.2.2.1 _ h4) (fun _ h => h) g4 g5 (jg_narrow ad hn) (jg_fits ad hfit) (by simpa using hl) d go
  · exact va_putN hX.1.1 hX.1.2.1 hX.1.2.2.2.2.2.1 h3 ty0 g2 g3 hX.1.2.2.2.2.1 hX.1.2.2.2.2.2.2.2.2.1.2.1 hX.2.2.2.1 hX.2.2.2.2.1 hX.2.2.2.2.2.1 r (jgW_get hA) h1 k h2 (va_Nw.use rfl (hX.1.2.2.2.2.2.2.2.2.1.1 _ h4)) (fun _ h => h) g4 g5 (jg_narrow ad hn) (jg_fits ad hfit) (by simpa using hl) d go
theorem J.putfieldF {i ci k r : Nat} {ty : FieldType} {fs : List Value} {v : Value} (d : decode K.2.1 pc = .ok (.putfield i, 3)) (hF : jF K.1 i ci k) (hG : jP ci k true ty) (hI : K.2.2.2.1.name = "<init>") (hc : jCl[ci]?.map (fun q => q.1) = some K.1) (hno : ∀ host, ∀ C n e, Cond.fieldLinkNest K.1 i C n e host ∉ jNs) (hA : A[r]? = some (.inr (ci, fs))) (hn : narrow ty v = v) (hfit : fits ty v = true) (hl : k < fs.length)
    (k9 : J K n0 Q (pc + 3) L st (A.set r (.inr (ci, fs.set k v))) cells slots) : J K n0 Q pc L (v :: .ref r :: st) A cells slots := by
  intro l p e s m args below meth c dC dI cy A0 ad0 ad H locs ls hX
  obtain ⟨C, T, N, h1, h2, h3, h4⟩ := hF
  obtain ⟨C', T', N', ty0, g1, g2, g3, g4, g5, g6⟩ := hG
  have e8 : (C', T', N') = (C, T, N) := Option.some.inj (g1.symm.trans h1)
  cases e8
  have hC : C = K.1 := by rw [h1] at hc; exact Option.some.inj hc
  have hz : (A.set r (Sum.inr (ci, fs.set k v) : jE)).length = A.length := by simp
  have go : ∀ (H1 : Heap) (locs1 : List Loc), va_P (dC, dI) jCl ((jgW cy ad A).set r (ad r, .inr (ci, (fs.map (jg ad)).set k (jg ad v)))) H1 → va_D A0 ((jgW cy ad A).set r (ad r, .inr (ci, (fs.map (jg ad)).set k (jg ad v)))) → va_S A0 s.heap H1 locs1 → W p l e K.2.2.2.2.2 s m args below meth c H1 locs1 cells slots (MQ below (jQ Q dC dI cy A0 n0 ad0) args s K.2.2.2.2.2.cells K.2.2.2.2.2.slots A0) (F0 m (pc + 3) ls (st.map (jg ad))) := by
    intro H1 locs1 a1 a2 a3
    have e9 : (jgW cy ad A).set r (ad r, .inr (ci, (fs.map (jg ad)).set k (jg ad v))) = jgW cy ad (A.set r (.inr (ci, fs.set k v))) := by
      rw [← jgW_set]
      simp only [jgE, List.map_set]
    rw [e9] at a1 a2
    exact k9 l p e s m args below meth c dC dI cy A0 ad0 ad H1 locs1 ls (hX.wor hz a1 a2 a3)
  rcases h4 with h4 | ⟨host, h4⟩
  · exact va_putF hX.1.1 hX.1.2.1 hX.1.2.2.2.2.2.1 h3 ty0 g2 g3 hX.1.2.2.2.2.1 hX.1.2.2.2.2.2.2.2.2.1.2.1 hX.2.2.2.1 hX.2.2.2.2.1 hX.2.2.2.2.2.1 r (jgW_get hA) h1 k h2 (hX.1.2.2.2.2.2.1 _ h4) (fun _ h => h) g4 (by rw [hX.1.2.2.2.2.2.2.2.1]; exact hI) (by rw [g6]; exact hC) g5 (jg_narrow ad hn) (jg_fits ad hfit) (by simpa using hl) d go
  · exact absurd h4 (hno _ _ _ _)
theorem J.iaload {r n : Nat} {f : Nat → Int32} {i : Int32} (d : decode K.2.1 pc = .ok (.iaload, 1)) (hA : A[r]? = some (.inl (0, n, .inl f))) (hin : vp_in i n)
    (k9 : J K n0 Q (pc + 1) L (.int (f i.toNatClampNeg) :: st) A cells slots) : J K n0 Q pc L (.int i :: .ref r :: st) A cells slots := by
  intro l p e s m args below meth c dC dI cy A0 ad0 ad H locs ls hX
  exact va_iald hX.1.1 hX.1.2.1 hX.1.2.2.2.2.2.2.2.2.1.2.1 hX.2.2.2.1 r 0 (jgW_get hA) rfl hin d (k9 l p e s m args below meth c dC dI cy A0 ad0 ad H locs ls hX)
theorem J.baload {r n : Nat} {f : Nat → Int32} {i : Int32} (d : decode K.2.1 pc = .ok (.baload, 1)) (hA : A[r]? = some (.inl (2, n, .inl f))) (hin : vp_in i n)
    (k9 : J K n0 Q (pc + 1) L (.int (f i.toNatClampNeg) :: st) A cells slots) : J K n0 Q pc L (.int i :: .ref r :: st) A cells slots := by
  intro l p e s m args below meth c dC dI cy A0 ad0 ad H locs ls hX
  exact va_bald hX.1.1 hX.1.2.1 hX.1.2.2.2.2.2.2.2.2.1.2.1 hX.2.2.2.1 r 2 (jgW_get hA) rfl hin d (k9 l p e s m args below meth c dC dI cy A0 ad0 ad H locs ls hX)
theorem J.zaload {r n : Nat} {f : Nat → Int32} {i : Int32} (d : decode K.2.1 pc = .ok (.baload, 1)) (hA : A[r]? = some (.inl (3, n, .inl f))) (hin : vp_in i n)
    (k9 : J K n0 Q (pc + 1) L (.int (f i.toNatClampNeg) :: st) A cells slots) : J K n0 Q pc L (.int i :: .ref r :: st) A cells slots := by
  intro l p e s m args below meth c dC dI cy A0 ad0 ad H locs ls hX
  exact va_zald hX.1.1 hX.1.2.1 hX.1.2.2.2.2.2.2.2.2.1.2.1 hX.2.2.2.1 r 3 (jgW_get hA) rfl hin d (k9 l p e s m args below meth c dC dI cy A0 ad0 ad H locs ls hX)
theorem J.laload {r n : Nat} {f : Nat → Int64} {i : Int32} (d : decode K.2.1 pc = .ok (.laload, 1)) (hA : A[r]? = some (.inl (1, n, .inr (.inl f)))) (hin : vp_in i n)
    (k9 : J K n0 Q (pc + 1) L (.long (f i.toNatClampNeg) :: st) A cells slots) : J K n0 Q pc L (.int i :: .ref r :: st) A cells slots := by
  intro l p e s m args below meth c dC dI cy A0 ad0 ad H locs ls hX
  exact va_lald hX.1.1 hX.1.2.1 hX.1.2.2.2.2.2.2.2.2.1.2.1 hX.2.2.2.1 r 1 (jgW_get hA) rfl hin d (k9 l p e s m args below meth c dC dI cy A0 ad0 ad H locs ls hX)
theorem J.aaload4 {r n q : Nat} {f : Nat → Option Nat} {i : Int32} (d : decode K.2.1 pc = .ok (.aaload, 1)) (hA : A[r]? = some (.inl (4, n, .inr (.inr (.inr (.inr f)))))) (hin : vp_in i n) (hq : f i.toNatClampNeg = some q)
    (k9 : J K n0 Q (pc + 1) L (.ref q :: st) A cells slots) : J K n0 Q pc L (.int i :: .ref r :: st) A cells slots := by
  intro l p e s m args below meth c dC dI cy A0 ad0 ad H locs ls hX
  refine va_aldq (C := RX2) hX.1.1 hX.1.2.1 hX.1.2.2.2.2.2.2.2.2.1.2.1 hX.2.2.2.1 r 4 (jgW_get hA) rfl hin d ?_
  rw [hq]
  exact k9 l p e s m args below meth c dC dI cy A0 ad0 ad H locs ls hX
theorem J.aaload5 {r n q : Nat} {f : Nat → Option Nat} {i : Int32} (d : decode K.2.1 pc = .ok (.aaload, 1)) (hA : A[r]? = some (.inl (5, n, .inr (.inr (.inr (.inr f)))))) (hin : vp_in i n) (hq : f i.toNatClampNeg = some q)
    (k9 : J K n0 Q (pc + 1) L (.ref q :: st) A cells slots) : J K n0 Q pc L (.int i :: .ref r :: st) A cells slots := by
  intro l p e s m args below meth c dC dI cy A0 ad0 ad H locs ls hX
  refine va_aldq (C := RX4) hX.1.1 hX.1.2.1 hX.1.2.2.2.2.2.2.2.2.1.2.1 hX.2.2.2.1 r 5 (jgW_get hA) rfl hin d ?_
  rw [hq]
  exact k9 l p e s m args below meth c dC dI cy A0 ad0 ad H locs ls hX
theorem J.iastore {r n : Nat} {f : Nat → Int32} {i : Int32} {x : Int32} (d : decode K.2.1 pc = .ok (.iastore, 1)) (hA : A[r]? = some (.inl (0, n, .inl f))) (hin : vp_in i n)
    (k9 : J K n0 Q (pc + 1) L st (A.set r (.inl (0, n, .inl (upd f i.toNatClampNeg x)))) cells slots) : J K n0 Q pc L (.int x :: .int i :: .ref r :: st) A cells slots := by
  intro l p e s m args below meth c dC dI cy A0 ad0 ad H locs ls hX
  have hz : (A.set r (Sum.inl (0, n, .inl (upd f i.toNatClampNeg x)) : jE)).length = A.length := by simp
  refine va_iast hX.1.1 hX.1.2.1 hX.1.2.2.2.2.2.2.2.2.1.2.1 hX.2.2.2.1 hX.2.2.2.2.1 hX.2.2.2.2.2.1 r 0 (jgW_get hA) rfl hin d (fun H1 locs1 a1 a2 a3 => ?_)
  have e9 : (jgW cy ad A).set r (ad r, .inl (cy 0, n, .inl (upd f i.toNatClampNeg x))) = jgW cy ad (A.set r (.inl (0, n, .inl (upd f i.toNatClampNeg x)))) := by
    rw [← jgW_set]
    rfl
  rw [e9] at a1 a2
  exact k9 l p e s m args below meth c dC dI cy A0 ad0 ad H1 locs1 ls (hX.wor hz a1 a2 a3)
theorem J.bastore {r n : Nat} {f : Nat → Int32} {i : Int32} {x : Int32} (d : decode K.2.1 pc = .ok (.bastore, 1)) (hA : A[r]? = some (.inl (2, n, .inl f))) (hin : vp_in i n)
    (k9 : J K n0 Q (pc + 1) L st (A.set r (.inl (2, n, .inl (upd f i.toNatClampNeg (vp_nar .byte x))))) cells slots) : J K n0 Q pc L (.int x :: .int i :: .ref r :: st) A cells slots := by
  intro l p e s m args below meth c dC dI cy A0 ad0 ad H locs ls hX
  have hz : (A.set r (Sum.inl (2, n, .inl (upd f i.toNatClampNeg (vp_nar .byte x))) : jE)).length = A.length := by simp
  refine va_bast hX.1.1 hX.1.2.1 hX.1.2.2.2.2.2.2.2.2.1.2.1 hX.2.2.2.1 hX.2.2.2.2.1 hX.2.2.2.2.2.1 r 2 (jgW_get hA) rfl hin d (fun H1 locs1 a1 a2 a3 => ?_)
  have e9 : (jgW cy ad A).set r (ad r, .inl (cy 2, n, .inl (upd f i.toNatClampNeg (vp_nar .byte x)))) = jgW cy ad (A.set r (.inl (2, n, .inl (upd f i.toNatClampNeg (vp_nar .byte x))))) := by
    rw [← jgW_set]
    rfl
  rw [e9] at a1 a2
  exact k9 l p e s m args below meth c dC dI cy A0 ad0 ad H1 locs1 ls (hX.wor hz a1 a2 a3)
theorem J.zastore {r n : Nat} {f : Nat → Int32} {i : Int32} {x : Int32} (d : decode K.2.1 pc = .ok (.bastore, 1)) (hA : A[r]? = some (.inl (3, n, .inl f))) (hin : vp_in i n)
    (k9 : J K n0 Q (pc + 1) L st (A.set r (.inl (3, n, .inl (upd f i.toNatClampNeg (vp_nar .boolean x))))) cells slots) : J K n0 Q pc L (.int x :: .int i :: .ref r :: st) A cells slots := by
  intro l p e s m args below meth c dC dI cy A0 ad0 ad H locs ls hX
  have hz : (A.set r (Sum.inl (3, n, .inl (upd f i.toNatClampNeg (vp_nar .boolean x))) : jE)).length = A.length := by simp
  refine va_zast hX.1.1 hX.1.2.1 hX.1.2.2.2.2.2.2.2.2.1.2.1 hX.2.2.2.1 hX.2.2.2.2.1 hX.2.2.2.2.2.1 r 3 (jgW_get hA) rfl hin d (fun H1 locs1 a1 a2 a3 => ?_)
  have e9 : (jgW cy ad A).set r (ad r, .inl (cy 3, n, .inl (upd f i.toNatClampNeg (vp_nar .boolean x)))) = jgW cy ad (A.set r (.inl (3, n, .inl (upd f i.toNatClampNeg (vp_nar .boolean x))))) := by
    rw [← jgW_set]
    rfl
  rw [e9] at a1 a2
  exact k9 l p e s m args below meth c dC dI cy A0 ad0 ad H1 locs1 ls (hX.wor hz a1 a2 a3)
theorem J.lastore {r n : Nat} {f : Nat → Int64} {i : Int32} {x : Int64} (d : decode K.2.1 pc = .ok (.lastore, 1)) (hA : A[r]? = some (.inl (1, n, .inr (.inl f)))) (hin : vp_in i n)
    (k9 : J K n0 Q (pc + 1) L st (A.set r (.inl (1, n, .inr (.inl (vp_updL f i.toNatClampNeg x))))) cells slots) : J K n0 Q pc L (.long x :: .int i :: .ref r :: st) A cells slots := by
  intro l p e s m args below meth c dC dI cy A0 ad0 ad H locs ls hX
  have hz : (A.set r (Sum.inl (1, n, .inr (.inl (vp_updL f i.toNatClampNeg x))) : jE)).length = A.length := by simp
  refine va_last hX.1.1 hX.1.2.1 hX.1.2.2.2.2.2.2.2.2.1.2.1 hX.2.2.2.1 hX.2.2.2.2.1 hX.2.2.2.2.2.1 r 1 (jgW_get hA) rfl hin d (fun H1 locs1 a1 a2 a3 => ?_)
  have e9 : (jgW cy ad A).set r (ad r, .inl (cy 1, n, .inr (.inl (vp_updL f i.toNatClampNeg x)))) = jgW cy ad (A.set r (.inl (1, n, .inr (.inl (vp_updL f i.toNatClampNeg x))))) := by
    rw [← jgW_set]
    rfl
  rw [e9] at a1 a2
  exact k9 l p e s m args below meth c dC dI cy A0 ad0 ad H1 locs1 ls (hX.wor hz a1 a2 a3)
theorem J.arraylength {r t : Nat} {x : vp_A} (d : decode K.2.1 pc = .ok (.arraylength, 1)) (hA : A[r]? = some (.inl (t, x))) (ht : t < 6)
    (k9 : J K n0 Q (pc + 1) L (.int (Int32.ofNat x.1) :: st) A cells slots) : J K n0 Q pc L (.ref r :: st) A cells slots := by
  intro l p e s m args below meth c dC dI cy A0 ad0 ad H locs ls hX
  have h1 : ∃ ty, (jTys cy)[t]? = some (cy t, ty) := by
    match t, ht with
    | 0, _ => exact ⟨_, rfl⟩
    | 1, _ => exact ⟨_, rfl⟩
    | 2, _ => exact ⟨_, rfl⟩
    | 3, _ => exact ⟨_, rfl⟩
    | 4, _ => exact ⟨_, rfl⟩
    | 5, _ => exact ⟨_, rfl⟩
  obtain ⟨ty, h1⟩ := h1
  exact va_alen hX.1.1 hX.1.2.1 hX.1.2.2.2.2.2.2.2.2.1.2.1 hX.2.2.2.1 r t (jgW_get hA) h1 rfl d (k9 l p e s m args below meth c dC dI cy A0 ad0 ad H locs ls hX)
theorem J.iret {ty : FieldType} {v : Int32} (d : decode K.2.1 pc = .ok (.ireturn, 1)) (hr : K.2.2.2.2.1 = some ty) (hn : narrow ty (.int v) = .int v) (hc : cells ≤ K.2.2.2.2.2.cells) (hs : slots ≤ K.2.2.2.2.2.slots) (hQ : Q (some (.int v)) A) : J K n0 Q pc L [.int v] A cells slots := by
  intro l p e s m args below meth c dC dI cy A0 ad0 ad H locs ls hX
  refine W.widen hc hs ?_
  exact W.zret hX.1.1 hX.1.2.1 (hX.1.2.2.1.trans hr) hn (fun t ht hW => ⟨⟨some (.int v), A, ad, rfl, hQ, hX.2.1, by rw [ht]; exact hX.2.2.2.1, hX.2.2.2.2.1⟩, hX.2.2.2.2.2.1.F ht⟩) hX.2.2.2.2.2.1.2.2 d hX.1.2.2.2.2.2.2.1
theorem J.lret {v : Int64} (d : decode K.2.1 pc = .ok (.lreturn, 1)) (hr : K.2.2.2.2.1 = some .long) (hc : cells ≤ K.2.2.2.2.2.cells) (hs : slots ≤ K.2.2.2.2.2.slots) (hQ : Q (some (.long v)) A) : J K n0 Q pc L [.long v] A cells slots := by
  intro l p e s m args below meth c dC dI cy A0 ad0 ad H locs ls hX
  refine W.widen hc hs ?_
  exact W.lret hX.1.1 hX.1.2.1 (hX.1.2.2.1.trans hr) (fun t ht hW => ⟨⟨some (.long v), A, ad, rfl, hQ, hX.2.1, by rw [ht]; exact hX.2.2.2.1, hX.2.2.2.2.1⟩, hX.2.2.2.2.2.1.F ht⟩) hX.2.2.2.2.2.1.2.2 d hX.1.2.2.2.2.2.2.1
theorem J.vret (d : decode K.2.1 pc = .ok (.return_, 1)) (hr : K.2.2.2.2.1 = none) (hc : cells ≤ K.2.2.2.2.2.cells) (hs : slots ≤ K.2.2.2.2.2.slots) (hQ : Q none A) : J K n0 Q pc L [] A cells slots := by
  intro l p e s m args below meth c dC dI cy A0 ad0 ad H locs ls hX
  refine W.widen hc hs ?_
  exact W.vret hX.1.1 hX.1.2.1 (hX.1.2.2.1.trans hr) (fun t ht hW => ⟨⟨none, A, ad, rfl, hQ, hX.2.1, by rw [ht]; exact hX.2.2.2.1, hX.2.2.2.2.1⟩, hX.2.2.2.2.2.1.F ht⟩) hX.2.2.2.2.2.1.2.2 d hX.1.2.2.2.2.2.2.1
end JH
/-! ===== calls ===== -/
def jent (n : Nat) (as : List Value) : List (Option Value) := (as.flatMap fun v => if v.category = 2 then [some v, none] else [some v]) ++ List.replicate (n - (as.flatMap fun v => if v.category = 2 then [some v, none] else [some v]).length) none
theorem jent_len (ad : Nat → Nat) (as : List Value) : (lg_sl (as.map (jg ad))).length = (as.flatMap fun v => if v.category = 2 then [some v, none] else [some v]).length := by
  induction as with
  | nil => rfl
  | cons v as ih =>
    simp only [lg_sl, List.map_cons, List.flatMap_cons, List.length_append] at ih ⊢
    rw [ih, jg_cat]
    by_cases h : v.category = 2 <;> simp [h]
theorem jent_at (ad : Nat → Nat) (as : List Value) : ∀ (i : Nat) (v : Value), (as.flatMap fun v => if v.category = 2 then [some v, none] else [some v])[i]? = some (some v) → (lg_sl (as.map (jg ad)))[i]? = some (.val (jg ad v)) := by
  induction as with
  | nil => intro i v h; simp at h
  | cons u as ih =>
    intro i v h
    simp only [lg_sl, List.map_cons, List.flatMap_cons] at ih h ⊢
    by_cases hc : u.category = 2
    · rw [if_pos hc] at h
      rw [if_pos ((jg_cat ad u).trans hc)]
      match i, h with
      | 0, h => cases h; rfl
      | 1, h => cases h
      | i + 2, h => exact ih i v h
    · rw [if_neg hc] at h
      rw [if_neg (fun q => hc ((jg_cat ad u).symm.trans q))]
      match i, h with
      | 0, h => cases h; rfl
      | i + 1, h => exact ih i v h
theorem jent_ok (ad : Nat → Nat) {n : Nat} {as : List Value} {L0 : List (Option Value)} (h : jent n as = L0) (hl : L0.length = n) : jL ad ((lg_sl (as.map (jg ad)) ++ List.replicate (n - (lg_sl (as.map (jg ad))).length) Slot.unset).toArray) n L0 := by
  have hle : (lg_sl (as.map (jg ad))).length ≤ n := by
    rw [jent_len, ← hl, ← h]
    simp [jent]
  obtain ⟨h1, h2, -⟩ := lv_entry (as.map (jg ad)) hle
  refine ⟨h1, h2, fun i v hv => ?_⟩
  rw [← h, jent] at hv
  by_cases hi : i < (as.flatMap fun v => if v.category = 2 then [some v, none] else [some v]).length
  · rw [List.getElem?_append_left hi] at hv
    simp only [List.getElem?_toArray]
    rw [List.getElem?_append_left (by rw [jent_len]; exact hi)]
    exact jent_at ad as i v hv
  · rw [List.getElem?_append_right (by omega)] at hv
    have := List.eq_of_mem_replicate (List.mem_of_getElem? hv)
    cases this
/-- a method that the tables know -/
def jmOK (K : jM) : Prop := K.1 = K.2.2.2.1.cls ∧ plainName K.2.2.2.1.cls = true ∧ Cond.code K.2.2.2.1 K.2.1 K.2.2.1 K.2.2.2.2.1 ∈ jTs ∧ Cond.initialized K.2.2.2.1.cls ∈ jTs ∧ K.2.2.2.1.cls ≠ "java/lang/invoke/MethodHandle" ∧ K.2.2.2.1.cls ≠ "java/lang/invoke/VarHandle"
abbrev jPc (dC : Nat → ClassId) (dI : Nat → Nat → Nat) (cy : Nat → ClassId) (ad : Nat → Nat) (sz : Nat) (B : jW) (as : List Value) : Array Value → State → Prop := va_Pc (as.map (jg ad)) (fun U => U.heap.size = sz ∧ va_P (dC, dI) jCl (jgW cy ad B) U.heap ∧ jU dC dI cy U ∧ va_D (fun _ => True) (jgW cy ad B) ∧ jS ad (va_A (jgW cy ad B) sz) U U.heap)
theorem J.met {K : jM} {Q : Option Value → jW → Prop} {as : List Value} {B : jW} {L0 : List (Option Value)} (hm : jmOK K) (hJ : J K B.length Q 0 L0 [] B 0 0) (hL : jent K.2.2.1 as = L0) (hl : L0.length = K.2.2.1) (l : Launch) (dC : Nat → ClassId) (dI : Nat → Nat → Nat) (cy : Nat → ClassId) (ad : Nat → Nat) (sz : Nat) :
    Met l K.2.2.2.1 (Cond.code K.2.2.2.1 K.2.1 K.2.2.1 K.2.2.2.2.1 :: jTs) K.2.2.2.2.2 (jPc dC dI cy ad sz B as) (jQ Q dC dI cy (va_A (jgW cy ad B) sz) B.length ad) K.2.2.2.2.2.cells K.2.2.2.2.2.slots (va_A (jgW cy ad B) sz) := by
  refine Met.ofW (cc := K.2.1) (maxL := K.2.2.1) (ret := K.2.2.2.2.1) hm.2.1 rfl ?_
  intro p e s m args below meth c s₁ B' hml hv
  obtain ⟨rfl, hsz, hP, hU, hD0, hSt⟩ := hv
  have hts := atoms_spec (ws := Cond.code K.2.2.2.1 K.2.1 K.2.2.1 K.2.2.2.2.1 :: jTs) B'.pre
  have hown : s.vm.findClass K.2.2.2.1.cls = some m.cls := findClass_of_methodNamed B'.named
  have hin : meth.name = K.2.2.2.1.name := (name_of_methodNamed B'.named B'.method).1
  subst hsz
  rw [lg_entry_eq]
  exact hJ l p e s m _ below meth c dC dI cy (va_A (jgW cy ad B) s.heap.size) ad ad s.heap [] _ ⟨⟨B'.exec, B'.bytes, B'.returns, hml, by rw [hm.1]; exact hown, fun w hw => hts w (List.mem_cons_of_mem _ hw), B'.notSynchronized, hin, hU, hSt⟩, fun _ _ => rfl, fun q h => Or.inr h, hP, hD0.self, va_S.rf, jent_ok ad hL hl⟩
def jr (is : List Nat) (k : Nat) : Nat := if 1000 ≤ k then k else is.getD k 0
def jput (A : jW) (is : List Nat) (xs : jW) : jW := match is, xs with
  | i :: is, x :: xs => jput (A.set i x) is xs
  | _, _ => A
theorem jput_len : ∀ (is : List Nat) (A xs : jW), (jput A is xs).length = A.length
  | [], A, xs => by simp [jput]
  | i :: is, A, [] => by simp [jput]
  | i :: is, A, x :: xs => by simp only [jput]; rw [jput_len is (A.set i x) xs]; simp
theorem jput_ne : ∀ (is : List Nat) (A xs : jW) (k : Nat), k ∉ is → (jput A is xs)[k]? = A[k]?
  | [], A, xs, k, _ => by simp [jput]
  | i :: is, A, [], k, _ => by simp [jput]
  | i :: is, A, x :: xs, k, h => by
    simp only [jput]
    rw [jput_ne is (A.set i x) xs k (fun q => h (List.mem_cons_of_mem _ q)), List.getElem?_set_ne (fun q => h (by rw [q]; exact List.mem_cons_self))]
theorem jput_at : ∀ (is : List Nat) (A xs : jW) (j k : Nat), va_nd is = true → is[j]? = some k → k < A.length → j < xs.length → (jput A is xs)[k]? = xs[j]?
  | [], A, xs, j, k, _, h, _, _ => by simp at h
  | i :: is, A, [], j, k, _, _, _, h => by simp at h
  | i :: is, A, x :: xs, j, k, hn, h, hk, hj => by
    simp only [va_nd, Bool.and_eq_true, decide_eq_true_eq] at hn
    simp only [jput]
    cases j with
    | zero =>
      simp only [List.getElem?_cons_zero, Option.some.injEq] at h
      subst h
      rw [jput_ne is _ xs i hn.1, List.getElem?_set_self hk]
      rfl
    | succ j =>
      rw [List.getElem?_cons_succ] at h ⊢
      exact jput_at is (A.set i x) xs j k hn.2 h (by simpa using hk) (by simpa using hj)
section JC
variable {p : Program} {l : Launch} {e : Env} {s : State} {m : MethodId} {args : Array Value} {below : List Frame} {meth : Method} {c : Code} {dC : Nat → ClassId} {dI : Nat → Nat → Nat} {cy : Nat → ClassId} {A0 : Nat → Prop} {ad0 ad : Nat → Nat} {H : Heap} {locs : List Loc} {ls : Array Slot}
variable {K K' : jM} {n0 : Nat} {Q Q' : Option Value → jW → Prop} {pc : Nat} {L : List (Option Value)} {st rest as : List Value} {A B : jW} {cells slots : Nat} {is : List Nat}
theorem jcells (hB : is.map (fun i => A[i]?) = B.map (fun b => some (jrE (jr is) b))) (hl : B.length < 1000) {j : Nat} {b : jE} (hb : B[j]? = some b) : ∃ i, is[j]? = some i ∧ jr is j = i ∧ A[i]? = some (jrE (jr is) b) := by
  have h1 : (is.map (fun i => A[i]?))[j]? = some (some (jrE (jr is) b)) := by rw [hB, List.getElem?_map, hb]; rfl
  rw [List.getElem?_map] at h1
  have hj : j < B.length := (List.getElem?_eq_some_iff.mp hb).1
  cases hi : is[j]? with
  | none => rw [hi] at h1; cases h1
  | some i =>
    rw [hi] at h1
    refine ⟨i, rfl, ?_, Option.some.inj h1⟩
    simp only [jr]
    rw [if_neg (by omega), List.getD_eq_getElem?_getD, hi]
    rfl
theorem jsub (hB : is.map (fun i => A[i]?) = B.map (fun b => some (jrE (jr is) b))) (hl : B.length < 1000) : is.map (fun i => (jgW cy ad A)[i]?) = (jgW cy (fun k => ad (jr is k)) B).map some := by
  have hlen : is.length = B.length := by have := congrArg List.length hB; simpa using this
  apply List.ext_getElem?
  intro j
  by_cases hj : j < B.length
  · obtain ⟨i, h1, h2, h3⟩ := jcells hB hl (List.getElem?_eq_getElem hj)
    rw [List.getElem?_map, h1, List.getElem?_map, jgW_get (List.getElem?_eq_getElem hj)]
    simp only [Option.map_some]
    rw [jgW_get h3, jgE_comp cy ad (jr is) B[j], h2]
  · rw [List.getElem?_eq_none (by simp; omega), List.getElem?_eq_none (by simp [jgW_len]; omega)]
theorem jfree (hX : jX K n0 p s m args meth c dC dI cy A0 ad0 ad H locs ls L A) (hB : is.map (fun i => A[i]?) = B.map (fun b => some (jrE (jr is) b))) (hl : B.length < 1000) : ∀ q, va_A (jgW cy (fun k => ad (jr is k)) B) H.size q → A0 q :=
  va_free hX.2.2.2.2.1 hX.2.2.2.2.2.1 hX.2.2.1 is (jsub hB hl)
/-- what the callee needs at its start -/
theorem jpre (hX : jX K n0 p s m args meth c dC dI cy A0 ad0 ad H locs ls L A) (hB : is.map (fun i => A[i]?) = B.map (fun b => some (jrE (jr is) b))) (hl : B.length < 1000) (hnd : va_nd is = true) : FrameBlind (jPc dC dI cy (fun k => ad (jr is k)) H.size B as) ∧ ∀ U : State, U.heap = H → s.WarmedH U.vm → jPc dC dI cy (fun k => ad (jr is k)) H.size B as ((as.map (jg (fun k => ad (jr is k)))).toArray) U := by
  refine ⟨fun a U g mk q => ?_, fun U hU hW => ?_⟩
  · obtain ⟨q0, q1, q2, q3, q4, q5⟩ := q
    exact ⟨q0, q1, q2, q3.same rfl, q4, q5.same rfl⟩
  · have hs := jsub (cy := cy) (ad := ad) hB hl
    refine ⟨rfl, by rw [hU], ?_, hX.1.2.2.2.2.2.2.2.2.1.warm hW, ?_, ?_⟩
    · rw [hU]
      intro j q hq
      have h1 : (is.map (fun i => (jgW cy ad A)[i]?))[j]? = some (some q) := by rw [hs, List.getElem?_map, hq]; rfl
      rw [List.getElem?_map] at h1
      cases hi : is[j]? with
      | none => rw [hi] at h1; cases h1
      | some i => rw [hi] at h1; exact hX.2.2.2.1 i q (Option.some.inj h1)
    · exact (hX.2.2.2.2.1.sub is hnd hs).weaken (fun _ _ _ _ => trivial)
    · have h1 : jS (fun k => ad (jr is k)) A0 s s.heap := hX.1.2.2.2.2.2.2.2.2.2.ad (fun k hk => by simp only [jr]; rw [if_pos hk])
      rw [hU]
      exact h1.step hW (fun a h1 h2 => hX.2.2.2.2.2.1.2.1 a h1 h2) (jfree hX hB hl)
/-- behind a call that made no cell -/
theorem jback (hX : jX K n0 p s m args meth c dC dI cy A0 ad0 ad H locs ls L A) (hB : is.map (fun i => A[i]?) = B.map (fun b => some (jrE (jr is) b))) (hl : B.length < 1000) (hnd : va_nd is = true) {a : Array Value} {st0 : List Value}
    (hr : va_Run p l e K.2.2.2.2.2 s m args below meth c H locs cells slots 0 0 (F0 m pc ls st0) (rest.map (jg ad)) (jQ Q' dC dI cy (va_A (jgW cy (fun k => ad (jr is k)) B) H.size) B.length (fun k => ad (jr is k)) a) (va_A (jgW cy (fun k => ad (jr is k)) B) H.size))
    (kk : ∀ r B', Q' r B' → B'.length = B.length ∧ J K n0 Q (pc + 3) L ((r.map (jg (jr is))).toList ++ rest) (jput A is (B'.map (jrE (jr is)))) cells slots) :
    W p l e K.2.2.2.2.2 s m args below meth c H locs cells slots (MQ below (jQ Q dC dI cy A0 n0 ad0) args s K.2.2.2.2.2.cells K.2.2.2.2.2.slots A0) (F0 m pc ls st0) := by
  intro T hT X
  obtain ⟨v, st₀, t, T', L', h0, X', hL, e1, e2, ⟨⟨r, B', ad', hv, hq, hag, hP1, hD1⟩, hz, hk⟩, st9⟩ := hr T hT X
  cases hv
  obtain ⟨hlB, kJ⟩ := kk r B' hq
  have hA1 := jfree hX hB hl
  have hae : ad' = fun k => ad (jr is k) := funext fun k => hag k (by omega)
  subst hae
  rw [h0] at hz hk
  have hP := hX.2.2.2.1
  have hD := hX.2.2.2.2.1
  have hS := hX.2.2.2.2.2.1
  have hlen : is.length = B.length := by have := congrArg List.length hB; simpa using this
  have hlt : ∀ i ∈ is, i < A.length := by
    intro i hi
    obtain ⟨j, hj, rfl⟩ := List.getElem_of_mem hi
    obtain ⟨i', a1, -, a3⟩ := jcells hB hl (List.getElem?_eq_getElem (show j < B.length by omega))
    rw [List.getElem?_eq_getElem hj] at a1
    cases a1
    exact (List.getElem?_eq_some_iff.mp a3).1
  have hPn : va_P (dC, dI) jCl (jgW cy ad (jput A is (B'.map (jrE (jr is))))) t.heap := by
    intro k q hq
    obtain ⟨x, hx, rfl⟩ := jgW_of hq
    by_cases hki : k ∈ is
    · obtain ⟨j, hj, rfl⟩ := List.getElem_of_mem hki
      have hj2 : is[j]? = some is[j] := List.getElem?_eq_getElem hj
      have hjB : j < B'.length := by omega
      rw [jput_at is A _ j is[j] hnd hj2 (hlt _ hki) (by simp; omega), List.getElem?_map, List.getElem?_eq_getElem hjB] at hx
      simp only [Option.map_some, Option.some.injEq] at hx
      have h3 := hP1 j _ (jgW_get (List.getElem?_eq_getElem hjB))
      obtain ⟨i', a1, a2, -⟩ := jcells hB hl (List.getElem?_eq_getElem (show j < B.length by omega))
      rw [hj2] at a1
      cases a1
      rw [a2, jgE_comp, hx] at h3
      exact h3
    · rw [jput_ne is A _ k hki] at hx
      have h3 := hP k _ (jgW_get hx)
      refine h3.kept (hk _ h3.lt (fun h => ?_))
      rcases h with ⟨j, e9, h⟩ | h
      · obtain ⟨b, hb, hb2⟩ := jgW_of h
        obtain ⟨i', a1, a2, a3⟩ := jcells hB hl hb
        have h4 : ad k = ad i' := by
          have := congrArg Prod.fst hb2
          simp only at this
          rw [← a2]
          exact this
        have h5 := hD.1 k i' _ _ (jgW_get hx) (jgW_get a3) h4
        exact hki (by rw [h5]; exact List.mem_of_getElem? a1)
      · have := h3.lt
        simp only at this h
        omega
  have hDn : va_D A0 (jgW cy ad (jput A is (B'.map (jrE (jr is))))) := by
    have key : ∀ (k : Nat) (q : Nat × va_E), (jgW cy ad (jput A is (B'.map (jrE (jr is)))))[k]? = some q → ∃ q', (jgW cy ad A)[k]? = some q' ∧ q'.1 = q.1 := by
      intro k q hq
      obtain ⟨x, hx, rfl⟩ := jgW_of hq
      have hk : k < A.length := by rw [← jput_len is A (B'.map (jrE (jr is)))]; exact (List.getElem?_eq_some_iff.mp hx).1
      exact ⟨_, jgW_get (List.getElem?_eq_getElem hk), rfl⟩
    refine ⟨fun i j x y hi hj hxy => ?_, fun k q hk => ?_⟩
    · obtain ⟨x', a1, a2⟩ := key i x hi
      obtain ⟨y', b1, b2⟩ := key j y hj
      exact hD.1 i j x' y' a1 b1 (by rw [a2, b2]; exact hxy)
    · obtain ⟨q', a1, a2⟩ := key k q hk
      rw [← a2]
      exact hD.2 k q' a1
  have hSn : va_S A0 s.heap T'.heap (locs ++ L') := ⟨Nat.le_trans hS.1 (by rw [e1]; exact hz), fun q h1 h2 => by rw [e1, hk q (Nat.lt_of_lt_of_le h1 hS.1) (fun z => h2 (hA1 q z))]; exact hS.2.1 q h1 h2, fun q hq => by
      rcases List.mem_append.mp hq with h | h
      · exact hS.2.2 q h
      · exact hA1 _ (hL q h)⟩
  rw [← e1] at hPn
  obtain ⟨t2, a1, b1⟩ := kJ l p e s m args below meth c dC dI cy A0 ad0 ad T'.heap (locs ++ L') ls (hX.wor (jput_len _ _ _) hPn hDn hSn) T' rfl X'
  refine ⟨t2, st9 t2 ?_, b1⟩
  have hst : (((r.map (jg (jr is))).toList ++ rest).map (jg ad)) = (r.map (jg (fun k => ad (jr is k)))).toList ++ rest.map (jg ad) := by
    cases r with
    | none => simp
    | some v => simp [jg_comp]
  rw [hst] at a1
  exact a1
theorem jgood (hm : jmOK K') : GoodIn jTs (Cond.code K'.2.2.2.1 K'.2.1 K'.2.2.1 K'.2.2.2.2.1 :: jTs) := by
  intro w hw
  rcases List.mem_cons.mp hw with rfl | hw
  · exact ⟨hm.2.2.1, good_of_word (List.mem_filter.mp hm.2.2.1).2⟩
  · exact ⟨hw, good_of_word (List.mem_filter.mp hw).2⟩
/-- the entry of a pool that means a method: of its own nest, or another's -/
def jLk (own : String) (idx : Nat) (y : MethodName) : Prop := Cond.methodLink own idx y ∈ jTs ∨ ∃ host, Cond.methodLinkNest own idx y host ∈ jNs
def jcS (own : String) (idx : Nat) (K' : jM) (n : Nat) : Prop := jLk own idx K'.2.2.2.1 ∧ Cond.static K'.2.2.2.1 ∈ jTs ∧ (parseMethodDescriptor K'.2.2.2.1.desc).map (fun d => d.parameters.length) = some n
def jcV (own : String) (idx : Nat) (K' : jM) (ci n : Nat) : Prop := jLk own idx K'.2.2.2.1 ∧ Cond.instanceMethod K'.2.2.2.1 ∈ jTs ∧ Cond.selects K'.2.2.2.1.cls K'.2.2.2.1 K'.2.2.2.1 ∈ jTs ∧ (parseMethodDescriptor K'.2.2.2.1.desc).map (fun d => d.parameters.length) = some n ∧ (jCl[ci]?).map (fun q => q.1) = some K'.2.2.2.1.cls
/-- the callee's room within the caller's; it makes no cell -/
def jroom (K K' : jM) : Bool := decide (K'.2.2.2.2.2.cells = 0 ∧ K'.2.2.2.2.2.slots = 0 ∧ K'.2.2.2.2.2.frames + 1 ≤ K.2.2.2.2.2.frames ∧ 8 + (K'.2.2.1 + 11) + K'.2.2.2.2.2.locals ≤ K.2.2.2.2.2.locals)
/-- a static method is called -/
theorem J.cs {i n1 : Nat} {L0 : List (Option Value)} (hm : jmOK K') (hc : jcS K.1 i K' as.length) (hJ : J K' n1 Q' 0 L0 [] B 0 0) (d : decode K.2.1 pc = .ok (.invokestatic i, 3)) (hn1 : B.length = n1)
    (hst : st = (as.map (jg (jr is))).reverse ++ rest) (hB : is.map (fun i => A[i]?) = B.map (fun b => some (jrE (jr is) b))) (hL : jent K'.2.2.1 as = L0) (hl0 : L0.length = K'.2.2.1)
    (hnum : (decide (B.length < 1000) && va_nd is && decide ((rest.map fun v => v.category).sum ≤ 8) && jroom K K' && decide (cells ≤ K.2.2.2.2.2.cells) && decide (slots ≤ K.2.2.2.2.2.slots)) = true)
    (kk : ∀ r B', Q' r B' → B'.length = B.length ∧ J K n0 Q (pc + 3) L ((r.map (jg (jr is))).toList ++ rest) (jput A is (B'.map (jrE (jr is)))) cells slots) : J K n0 Q pc L st A cells slots := by
  subst hn1
  intro l p e s m args below meth c dC dI cy A0 ad0 ad H locs ls hX
  simp only [jroom, Bool.and_eq_true, decide_eq_true_eq] at hnum
  obtain ⟨⟨⟨⟨⟨hl, hnd⟩, hcat⟩, hrc, hrs, hrf, hrl⟩, hce⟩, hsl⟩ := hnum
  obtain ⟨hlk, hstat, hpar⟩ := hc
  have hts := hX.1.2.2.2.2.2.1
  have hpre := jpre (as := as) hX hB hl hnd
  have hM := J.met hm hJ hL hl0 l dC dI cy (fun k => ad (jr is k)) H.size
  rw [hrc, hrs] at hM
  have hstk : (F0 m pc ls (st.map (jg ad))).stack = (as.map (jg (fun k => ad (jr is k)))).reverse ++ rest.map (jg ad) := by
    show st.map (jg ad) = _
    rw [hst, List.map_append, List.map_reverse, List.map_map]
    congr 2
    apply List.map_congr_left
    intro v _
    exact (jg_comp ad (jr is) v).symm
  have hcat2 : ((rest.map (jg ad)).map fun v => v.category).sum ≤ 8 := by
    rw [List.map_map]
    have : ((fun v => Value.category v) ∘ jg ad) = fun v => v.category := funext fun v => jg_cat ad v
    rw [this]
    exact hcat
  refine jback (a := (as.map (jg (fun k => ad (jr is k)))).toArray) hX hB hl hnd ?_ kk
  rcases hlk with hlk | ⟨host, hlk⟩
  · exact va_runS (own := K.1) (bytes := K'.2.1) (maxL := K'.2.2.1) (ret := K'.2.2.2.2.1) (n := as.length) ⟨hX.1.1, hX.1.2.1, hX.1.2.2.2.1, hX.1.2.2.2.2.1, hts⟩ hM ⟨callB_of as.length hts (jgood hm) rfl hrc hrs (hts _ hm.2.2.2.1) (hts _ hlk) ⟨hm.2.2.2.2.1, hm.2.2.2.2.2, hpar⟩ ⟨hrf, hrl⟩, hts _ hstat⟩ hpre rfl (by simp) hX.2.2.2.2.2.2.1 hstk (lv_room hcat2) d ⟨hce, hsl⟩
  · exact va_runSN (own := K.1) (bytes := K'.2.1) (maxL := K'.2.2.1) (ret := K'.2.2.2.2.1) (n := as.length) ⟨hX.1.1, hX.1.2.1, hX.1.2.2.2.1, hX.1.2.2.2.2.1, hts⟩ hM ⟨va_cnB as.length hts (jgood hm) rfl hrc hrs (hX.1.2.2.2.2.2.2.2.2.1.1 _ hlk) (hts _ hm.2.2.2.1) ⟨hm.2.2.2.2.1, hm.2.2.2.2.2, hpar⟩ ⟨hrf, hrl⟩, hts _ hstat, trivial⟩ hpre rfl (by simp) hX.2.2.2.2.2.2.1 hstk (lv_room hcat2) d ⟨hce, hsl⟩
/-- a method of an object is called: cell number o of the callee's world -/
theorem J.cv {i ci o n1 : Nat} {fs : List Value} {L0 : List (Option Value)} (hm : jmOK K') (hc : jcV K.1 i K' ci as.length) (hJ : J K' n1 Q' 0 L0 [] B 0 0) (d : decode K.2.1 pc = .ok (.invokevirtual i, 3)) (hn1 : B.length = n1)
    (hst : st = (as.map (jg (jr is))).reverse ++ .ref (jr is o) :: rest) (ho : A[jr is o]? = some (.inr (ci, fs))) (hB : is.map (fun i => A[i]?) = B.map (fun b => some (jrE (jr is) b))) (hL : jent K'.2.2.1 (.ref o :: as) = L0) (hl0 : L0.length = K'.2.2.1)
    (hnum : (decide (B.length < 1000) && va_nd is && decide ((rest.map fun v => v.category).sum ≤ 8) && jroom K K' && decide (cells ≤ K.2.2.2.2.2.cells) && decide (slots ≤ K.2.2.2.2.2.slots)) = true)
    (kk : ∀ r B', Q' r B' → B'.length = B.length ∧ J K n0 Q (pc + 3) L ((r.map (jg (jr is))).toList ++ rest) (jput A is (B'.map (jrE (jr is)))) cells slots) : J K n0 Q pc L st A cells slots := by
  subst hn1
  intro l p e s m args below meth c dC dI cy A0 ad0 ad H locs ls hX
  simp only [jroom, Bool.and_eq_true, decide_eq_true_eq] at hnum
  obtain ⟨⟨⟨⟨⟨hl, hnd⟩, hcat⟩, hrc, hrs, hrf, hrl⟩, hce⟩, hsl⟩ := hnum
  obtain ⟨hlk, hinst, hsel, hpar, hci⟩ := hc
  have hts := hX.1.2.2.2.2.2.1
  have hpre := jpre (as := .ref o :: as) hX hB hl hnd
  have hM := J.met hm hJ hL hl0 l dC dI cy (fun k => ad (jr is k)) H.size
  rw [hrc, hrs] at hM
  have hstk : (F0 m pc ls (st.map (jg ad))).stack = (as.map (jg (fun k => ad (jr is k)))).reverse ++ .ref (ad (jr is o)) :: rest.map (jg ad) := by
    show st.map (jg ad) = _
    rw [hst, List.map_append, List.map_reverse, List.map_map, List.map_cons]
    congr 2
    apply List.map_congr_left
    intro v _
    exact (jg_comp ad (jr is) v).symm
  have hcat2 : ((rest.map (jg ad)).map fun v => v.category).sum ≤ 8 := by
    rw [List.map_map]
    have : ((fun v => Value.category v) ∘ jg ad) = fun v => v.category := funext fun v => jg_cat ad v
    rw [this]
    exact hcat
  obtain ⟨q, hq1, hq2⟩ : ∃ q, jCl[ci]? = some q ∧ q.1 = K'.2.2.2.1.cls := by
    simpa [Option.map_eq_some_iff] using hci
  have hrec := va_recv hX.1.2.2.2.2.2.2.2.2.1.2.1 hX.2.2.2.1 hq1 (jgW_get ho)
  rw [hq2] at hrec
  refine jback (a := (.ref (ad (jr is o)) :: as.map (jg (fun k => ad (jr is k)))).toArray) hX hB hl hnd ?_ kk
  rcases hlk with hlk | ⟨host, hlk⟩
  · exact va_runV (own := K.1) (C := K'.2.2.2.1.cls) (bytes := K'.2.1) (maxL := K'.2.2.1) (ret := K'.2.2.2.2.1) (n := as.length) ⟨hX.1.1, hX.1.2.1, hX.1.2.2.2.1, hX.1.2.2.2.2.1, hts⟩ hM ⟨callB_of as.length hts (jgood hm) rfl hrc hrs (hts _ hm.2.2.2.1) (hts _ hlk) ⟨hm.2.2.2.2.1, hm.2.2.2.2.2, hpar⟩ ⟨hrf, hrl⟩, hts _ hinst, hts _ hsel⟩ ⟨hpre.1, hrec, hpre.2⟩ rfl (by simp) hX.2.2.2.2.2.2.1 hstk (lv_room hcat2) d ⟨hce, hsl⟩
  · exact va_runVN (own := K.1) (C := K'.2.2.2.1.cls) (bytes := K'.2.1) (maxL := K'.2.2.1) (ret := K'.2.2.2.2.1) (n := as.length) ⟨hX.1.1, hX.1.2.1, hX.1.2.2.2.1, hX.1.2.2.2.2.1, hts⟩ hM ⟨va_cnB as.length hts (jgood hm) rfl hrc hrs (hX.1.2.2.2.2.2.2.2.2.1.1 _ hlk) (hts _ hm.2.2.2.1) ⟨hm.2.2.2.2.1, hm.2.2.2.2.2, hpar⟩ ⟨hrf, hrl⟩, hts _ hinst, hts _ hsel⟩ ⟨hpre.1, hrec, hpre.2⟩ rfl (by simp) hX.2.2.2.2.2.2.1 hstk (lv_room hcat2) d ⟨hce, hsl⟩
end JC
