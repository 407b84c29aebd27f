/-! ===== constructors ===== -/
def jclb (n : Nat) (x : jE) : Bool := match x with
  | .inl (_, _, .inr (.inr (.inr (.inr _)))) => false
  | .inl _ => true
  | .inr (_, fs) => fs.all (fun v => match v with
    | .ref k => decide (k < n ∨ 1000 ≤ k)
    | _ => true)
theorem jclb_ok {n : Nat} {x : jE} (h : jclb n x = true) : jclE n x := by
  obtain ⟨t, k, f | f | f | f | f⟩ | ⟨c, fs⟩ := x
  · trivial
  · trivial
  · trivial
  · trivial
  · cases h
  · intro k hk
    have h1 := List.all_eq_true.mp h _ hk
    simpa using h1
theorem jcl_b {n : Nat} {A : jW} (h : A.all (jclb n) = true) : jclW n A := fun x hx => jclb_ok (List.all_eq_true.mp h x hx)
def jrf (l : List (Option Nat)) : Nat → Option Nat := fun j => l.getD j none
theorem jrf_cl {n t k : Nat} {l : List (Option Nat)} (h : l.all (fun o => match o with
    | some k => decide (k < n ∨ 1000 ≤ k)
    | none => true) = true) : jclE n (.inl (t, k, .inr (.inr (.inr (.inr (jrf l)))))) := by
  intro j k hk
  simp only [jrf, List.getD_eq_getElem?_getD] at hk
  cases hj : l[j]? with
  | none => rw [hj] at hk; cases hk
  | some o =>
    rw [hj] at hk
    have h1 := List.all_eq_true.mp h _ (List.mem_of_getElem? hj)
    have h2 : o = some k := hk
    rw [h2] at h1
    simpa using h1
theorem jcl_x {n : Nat} {A : jW} (a b : Nat) {fa fb : jE} (h : ((A.set a (.inr (0, []))).set b (.inr (0, []))).all (jclb n) = true) (ha : A[a]? = some fa) (hb : A[b]? = some fb) (h1 : jclE n fa) (h2 : jclE n fb) : jclW n A := by
  intro x hx
  obtain ⟨i, hi, rfl⟩ := List.getElem_of_mem hx
  have hi2 : A[i]? = some A[i] := List.getElem?_eq_getElem hi
  by_cases ea : a = i
  · subst ea
    rw [ha] at hi2
    rw [← Option.some.inj hi2]
    exact h1
  · by_cases eb : b = i
    · subst eb
      rw [hb] at hi2
      rw [← Option.some.inj hi2]
      exact h2
    · have h3 : ((A.set a (.inr (0, []))).set b (.inr (0, [])))[i]? = some A[i] := by
        rw [List.getElem?_set_ne eb, List.getElem?_set_ne ea, hi2]
      exact jclb_ok (List.all_eq_true.mp h _ (List.mem_of_getElem? h3))
theorem jcl_fr {n : Nat} {A : jW} (hn : n < 1000) (h : jclW n A) : jFr n A := by
  intro x hx
  have h1 := h x hx
  obtain ⟨t, k, f | f | f | f | f⟩ | ⟨c, fs⟩ := x
  · trivial
  · trivial
  · trivial
  · trivial
  · intro j e
    rcases h1 j n e with h9 | h9
    · exact absurd h9 (Nat.lt_irrefl n)
    · exact absurd hn (Nat.not_lt.mpr h9)
  · intro e
    rcases h1 n e with h9 | h9
    · exact absurd h9 (Nat.lt_irrefl n)
    · exact absurd hn (Nat.not_lt.mpr h9)
def jokb (n0 n : Nat) (L : List (Option Value)) (st : List Value) : Bool := decide (n0 ≤ n) && decide (n < 1000) && L.all (fun o => match o with
    | some (.ref k) => decide (k ≠ n)
    | _ => true) && st.all (fun v => match v with
    | .ref k => decide (k ≠ n)
    | _ => true)
theorem jok_b {n0 : Nat} {A : jW} {L : List (Option Value)} {st : List Value} (hA : jclW A.length A) (h : jokb n0 A.length L st = true) : jOK n0 A L st := by
  simp only [jokb, Bool.and_eq_true, decide_eq_true_eq] at h
  obtain ⟨⟨⟨h1, h2⟩, h3⟩, h4⟩ := h
  refine ⟨h1, h2, jcl_fr h2 hA, fun e => ?_, fun e => ?_⟩
  · have := List.all_eq_true.mp h3 _ e
    simp at this
  · have := List.all_eq_true.mp h4 _ e
    simp at this
def jclLb (n : Nat) (L : List (Option Value)) : Bool := L.all (fun o => match o with
    | some (.ref k) => decide (k < n ∨ 1000 ≤ k)
    | _ => true)
theorem jclL_b {n : Nat} {L : List (Option Value)} (h : jclLb n L = true) : jclL n L := by
  intro k hk
  have := List.all_eq_true.mp h _ hk
  simpa using this
def jclVb (n : Nat) (st : List Value) : Bool := st.all (fun v => match v with
    | .ref k => decide (k < n ∨ 1000 ≤ k)
    | _ => true)
theorem jclV_b {n : Nat} {st : List Value} (h : jclVb n st = true) : jclV n st := by
  intro k hk
  have := List.all_eq_true.mp h _ hk
  simpa using this
def jnb (own : String) (i : Nat) (c : Cond) : Bool := match c with
  | .fieldLinkNest a b _ _ _ _ => !(a == own && b == i)
  | _ => true
theorem jnoN {own : String} {i : Nat} (h : jNs.all (jnb own i) = true) : ∀ host, ∀ C n e, Cond.fieldLinkNest own i C n e host ∉ jNs := by
  intro host C n e hm
  have := List.all_eq_true.mp h _ hm
  simp [jnb] at this
theorem jcellR {cA : ClassId} {n : Nat} {f g : Nat → Option Nat} (h : ∀ j, j < n → f j = g j) : vp_cell cA (n, .inr (.inr (.inr (.inr f)))) = vp_cell cA (n, .inr (.inr (.inr (.inr g)))) := by
  show arrV cA n (fun j => va_rf (f j)) = arrV cA n (fun j => va_rf (g j))
  simp only [arrV]
  congr 1
  apply congrArg
  funext j
  rw [h j.val j.isLt]
theorem J.arrR {K : jM} {n0 : Nat} {Q : Option Value → jW → Prop} {pc : Nat} {L : List (Option Value)} {st : List Value} {A : jW} {cells slots : Nat} (k t : Nat) {n : Nat} {f : Nat → Option Nat} (g : Nat → Option Nat) (hA : A[k]? = some (.inl (t, n, .inr (.inr (.inr (.inr f)))))) (hf : ∀ j, j < n → f j = g j) (h : J K n0 Q pc L st (A.set k (.inl (t, n, .inr (.inr (.inr (.inr g)))))) cells slots) : J K n0 Q pc L st A cells slots :=
  J.setcell hA (fun cy ad q H dC dI h => by
    have e : vp_cell (cy t) (n, .inr (.inr (.inr (.inr (fun j => (f j).map ad))))) = vp_cell (cy t) (n, .inr (.inr (.inr (.inr (fun j => (g j).map ad))))) := jcellR (fun j hj => by rw [hf j hj])
    have h' : H[q]? = some (vp_cell (cy t) (n, .inr (.inr (.inr (.inr (fun j => (f j).map ad)))))) := h
    show H[q]? = some (vp_cell (cy t) (n, .inr (.inr (.inr (.inr (fun j => (g j).map ad))))))
    rw [← e]
    exact h') h
def jsh (n k : Nat) : Nat := if 1000 ≤ k then k else n + k
theorem jcl_up {n n' : Nat} {A : jW} (hn : n ≤ n') (h : jclW n A) : jclW n' A := by
  intro x hx
  have h1 := h x hx
  obtain ⟨t, k, f | f | f | f | f⟩ | ⟨c, fs⟩ := x
  · trivial
  · trivial
  · trivial
  · trivial
  · intro j k hk
    exact (h1 j k hk).imp (fun h => Nat.lt_of_lt_of_le h hn) id
  · intro k hk
    exact (h1 k hk).imp (fun h => Nat.lt_of_lt_of_le h hn) id
section JMK
variable {K K' : jM} {n0 : Nat} {Q : Option Value → jW → Prop} {pc : Nat} {L : List (Option Value)} {st : List Value} {A : jW} {cells slots : Nat}
theorem jnew_last {A : jW} {x y : jE} {ys : jW} : jnew (A ++ [x]) [A.length] (y :: ys) = A ++ (y :: ys).map (jrE (jsh A.length)) := by
  have e : jr2 [A.length] (A ++ [x]).length = jsh A.length := by
    funext k
    simp only [jr2, jsh, List.length_append, List.length_cons, List.length_nil]
    by_cases h : 1000 ≤ k
    · rw [if_pos h, if_pos h]
    · rw [if_neg h, if_neg h]
      by_cases h1 : k < 0 + 1
      · rw [if_pos h1, show k = 0 by omega]
        rfl
      · rw [if_neg h1]
        omega
  unfold jnew
  rw [e]
  show (A ++ [x]).set A.length (jrE (jsh A.length) y) ++ ys.map (jrE (jsh A.length)) = _
  rw [List.set_append_right _ _ (Nat.le_refl _), Nat.sub_self, List.set_cons_zero, List.append_assoc]
  rfl
/-- new, dup, a constructor without arguments -/
theorem J.mk {i j ci : Nat} {fs : List Value} {L0 : List (Option Value)} {y : jE} {ys : jW} (n : Nat) (E : jW) (d0 : decode K.2.1 pc = .ok (.new i, 3)) (d1 : decode K.2.1 (pc + 3) = .ok (.dup, 1)) (d2 : decode K.2.1 (pc + 4) = .ok (.invokespecial j, 3)) (hF : jNw K.1 i ci fs) (hm : jmOK K') (hc : jcI K.1 j K' 0) (hJ : J K' 1 (fun o B => o = none ∧ B = y :: ys) 0 L0 [] [.inr (ci, fs)] 0 0) (hL : jent K'.2.2.1 [.ref 0] = L0) (hl0 : L0.length = K'.2.2.1)
    (hn : A.length = n) (hA : jclW n A) (hok : jokb n0 n L st = true) (hcL : jclLb n L = true) (hcV : jclVb n st = true) (hc1 : cells + 1 ≤ K.2.2.2.2.2.cells) (hs1 : slots + fs.length ≤ K.2.2.2.2.2.slots)
    (hcat : (decide (1 + (st.map fun v => v.category).sum ≤ 8) && decide (K'.2.2.2.2.2.frames + 1 ≤ K.2.2.2.2.2.frames ∧ 8 + (K'.2.2.1 + 11) + K'.2.2.2.2.2.locals ≤ K.2.2.2.2.2.locals) && decide (cells + 1 + K'.2.2.2.2.2.cells ≤ K.2.2.2.2.2.cells) && decide (slots + fs.length + K'.2.2.2.2.2.slots ≤ K.2.2.2.2.2.slots)) = true)
    (hB : jclW (y :: ys).length (y :: ys)) (hlt : n + 1 + (y :: ys).length < 1000) (hE : (y :: ys).map (jrE (jsh n)) = E)
    (k : J K n0 Q (pc + 7) L (.ref n :: st) (A ++ E) (cells + 1 + K'.2.2.2.2.2.cells) (slots + fs.length + K'.2.2.2.2.2.slots)) : J K n0 Q pc L st A cells slots := by
  subst hn
  subst hE
  refine J.new d0 hF (jok_b hA hok) hc1 hs1 ?_
  refine J.dup d1 rfl ?_
  have hfs : ∀ a, Value.ref a ∉ fs := by
    obtain ⟨C, T, N, ty, -, -, -, -, -, -, -, -, h9⟩ := hF
    exact h9
  have hlen : (A ++ [(.inr (ci, fs) : jE)]).length = A.length + 1 := by simp
  have hob := hok
  simp only [jokb, Bool.and_eq_true, decide_eq_true_eq] at hob
  simp only [Bool.and_eq_true, decide_eq_true_eq] at hcat
  have hnum : (decide ([(.inr (ci, fs) : jE)].length < 1000) && va_nd [A.length] && decide (((Value.ref A.length :: st).map fun v => v.category).sum ≤ 8) && decide (K'.2.2.2.2.2.frames + 1 ≤ K.2.2.2.2.2.frames ∧ 8 + (K'.2.2.1 + 11) + K'.2.2.2.2.2.locals ≤ K.2.2.2.2.2.locals) && decide (cells + 1 + K'.2.2.2.2.2.cells ≤ K.2.2.2.2.2.cells) && decide (slots + fs.length + K'.2.2.2.2.2.slots ≤ K.2.2.2.2.2.slots)) = true := by
    have e1 : va_nd [A.length] = true := rfl
    have e2 : ((Value.ref A.length :: st).map fun v => v.category).sum ≤ 8 := by
      rw [List.map_cons, List.sum_cons]
      exact hcat.1.1.1
    simp only [Bool.and_eq_true, decide_eq_true_eq]
    exact ⟨⟨⟨⟨⟨Nat.le_of_ble_eq_true rfl, e1⟩, e2⟩, hcat.1.1.2⟩, hcat.1.2⟩, hcat.2⟩
  refine J.ci (as := []) (is := [A.length]) (o := 0) (rest := .ref A.length :: st) hm hc hJ d2 rfl ?_ ?_ hL hl0 hnum (by rw [hlen]; omega) ?_ ?_ ?_ (fun r9 B9 hq => ?_)
  · show Value.ref A.length :: Value.ref A.length :: st = [] ++ Value.ref (jr [A.length] 0) :: Value.ref A.length :: st
    rfl
  · show [(A ++ [(.inr (ci, fs) : jE)])[A.length]?] = [some (jrE (jr [A.length]) (.inr (ci, fs)))]
    rw [List.getElem?_append_right (Nat.le_refl _), Nat.sub_self]
    have e3 : fs.map (jg (jr [A.length])) = fs := by
      have := List.map_congr_left (f := jg (jr [A.length])) (g := id) (l := fs) (fun v hv => by
        cases v <;> first | rfl | skip
        next a => exact absurd hv (hfs a))
      rw [this, List.map_id]
    show [some (Sum.inr (ci, fs))] = [some (Sum.inr (ci, fs.map (jg (jr [A.length]))))]
    rw [e3]
  · rw [hlen]
    intro x hx
    rcases List.mem_append.mp hx with h | h
    · exact jcl_up (Nat.le_succ _) hA x h
    · rw [List.mem_singleton.mp h]
      intro k hk
      exact absurd hk (hfs k)
  · rw [hlen]
    intro k hk
    exact (jclL_b hcL k hk).imp (fun h => Nat.lt_succ_of_lt h) id
  · rw [hlen]
    intro k hk
    rcases List.mem_cons.mp hk with h | h
    · cases h
      exact Or.inl (Nat.lt_succ_self _)
    · exact (jclV_b hcV k h).imp (fun h => Nat.lt_succ_of_lt h) id
  · obtain ⟨rfl, rfl⟩ := hq
    refine ⟨by simp, by rw [hlen]; exact hlt, hB, rfl, ?_⟩
    rw [jnew_last]
    exact k
end JMK
def R0 : rT := rclear (fun _ _ => 0)
def KX6_initA : jM := (RX6, cX6_init, 2, yX6_init, (none : Option Jvm.ClassFile.FieldType), { frames := 3, cells := 61, slots := 592, locals := 80 })
def KX7_initA : jM := (RX7, cX7_init, 1, yX7_init, (none : Option Jvm.ClassFile.FieldType), { frames := 1, cells := 20, slots := 570, locals := 40 })
set_option maxRecDepth 100000 in
theorem okX6_initA : jmOK KX6_initA := ⟨rfl, by decide +kernel, jt 19 rfl rfl, jt 1 rfl rfl, by decide +kernel, by decide +kernel⟩
set_option maxRecDepth 100000 in
theorem okX7_initA : jmOK KX7_initA := ⟨rfl, by decide +kernel, jt 776 rfl rfl, jt 8 rfl rfl, by decide +kernel, by decide +kernel⟩
theorem dX5_init_0 : decode cX5_init 0 = .ok (.aload_n 0, 1) := by decide +kernel
theorem dX5_init_1 : decode cX5_init 1 = .ok (.invokespecial 3, 3) := by decide +kernel
theorem dX5_init_4 : decode cX5_init 4 = .ok (.aload_n 0, 1) := by decide +kernel
theorem dX5_init_5 : decode cX5_init 5 = .ok (.sipush 160, 3) := by decide +kernel
theorem dX5_init_8 : decode cX5_init 8 = .ok (.newarray .byte, 2) := by decide +kernel
theorem dX5_init_10 : decode cX5_init 10 = .ok (.putfield 9, 3) := by decide +kernel
theorem dX5_init_13 : decode cX5_init 13 = .ok (.aload_n 0, 1) := by decide +kernel
theorem dX5_init_14 : decode cX5_init 14 = .ok (.iconst 0, 1) := by decide +kernel
theorem dX5_init_15 : decode cX5_init 15 = .ok (.putfield 15, 3) := by decide +kernel
theorem dX5_init_18 : decode cX5_init 18 = .ok (.return_, 1) := by decide +kernel

set_option maxRecDepth 100000 in
set_option maxHeartbeats 8000000 in
theorem mX5_init : J KX5_init 1 (fun o B => o = none ∧ B = wT (fun _ => 0) 0) 0 [some (.ref 0)] [] [.inr (5, [.null, .int 0])] 0 0 := by
  show J _ _ _ 0 _ [] [.inr (5, [.null, .int 0])] 0 0
  refine J.aload_n dX5_init_0 rfl rfl ?_
  refine J.objInit dX5_init_1 (jt 112 rfl rfl) (jt 21 rfl rfl) (jt 22 rfl rfl) rfl ?_
  refine J.aload_n dX5_init_4 rfl rfl ?_
  refine J.sipush (160) dX5_init_5 (by decide) ?_
  refine J.newB dX5_init_8 rfl 160 (by decide) (by decide) (by decide) (jok_b (jcl_b (by decide +kernel)) (by decide +kernel)) (Nat.le_of_ble_eq_true rfl) (Nat.le_of_ble_eq_true rfl) (jt 123 rfl rfl) ?_
  dsimp only [List.cons_append, List.nil_append]
  refine J.at (st := [.ref 1, .ref 0]) ?_ rfl rfl rfl
  refine J.putfieldF dX5_init_10 jFX5_9 jP5_0 rfl rfl (jnoN (by decide +kernel)) rfl rfl rfl (Nat.le_of_ble_eq_true rfl) ?_
  dsimp only [List.set]
  refine J.aload_n dX5_init_13 rfl rfl ?_
  refine J.iconst (0) dX5_init_14 (by decide) ?_
  refine J.putfield dX5_init_15 jFX5_15 jP5_1 rfl rfl rfl (Nat.le_of_ble_eq_true rfl) ?_
  dsimp only [List.set]
  exact J.vret dX5_init_18 rfl (Nat.le_of_ble_eq_true rfl) (Nat.le_of_ble_eq_true rfl) ⟨rfl, rfl⟩
theorem dX4_init_0 : decode cX4_init 0 = .ok (.aload_n 0, 1) := by decide +kernel
theorem dX4_init_1 : decode cX4_init 1 = .ok (.invokespecial 3, 3) := by decide +kernel
theorem dX4_init_4 : decode cX4_init 4 = .ok (.aload_n 0, 1) := by decide +kernel
theorem dX4_init_5 : decode cX4_init 5 = .ok (.bipush 40, 2) := by decide +kernel
theorem dX4_init_7 : decode cX4_init 7 = .ok (.newarray .int, 2) := by decide +kernel
theorem dX4_init_9 : decode cX4_init 9 = .ok (.putfield 9, 3) := by decide +kernel
theorem dX4_init_12 : decode cX4_init 12 = .ok (.aload_n 0, 1) := by decide +kernel
theorem dX4_init_13 : decode cX4_init 13 = .ok (.iconst (-1), 1) := by decide +kernel
theorem dX4_init_14 : decode cX4_init 14 = .ok (.putfield 15, 3) := by decide +kernel
theorem dX4_init_17 : decode cX4_init 17 = .ok (.aload_n 0, 1) := by decide +kernel
theorem dX4_init_18 : decode cX4_init 18 = .ok (.iconst 0, 1) := by decide +kernel
theorem dX4_init_19 : decode cX4_init 19 = .ok (.putfield 19, 3) := by decide +kernel
theorem dX4_init_22 : decode cX4_init 22 = .ok (.return_, 1) := by decide +kernel

set_option maxRecDepth 100000 in
set_option maxHeartbeats 8000000 in
theorem mX4_init : J KX4_init 1 (fun o B => o = none ∧ B = wS (fun _ => 0) (-1) 0) 0 [some (.ref 0)] [] [.inr (4, [.null, .int 0, .int 0])] 0 0 := by
  show J _ _ _ 0 _ [] [.inr (4, [.null, .int 0, .int 0])] 0 0
  refine J.aload_n dX4_init_0 rfl rfl ?_
  refine J.objInit dX4_init_1 (jt 236 rfl rfl) (jt 21 rfl rfl) (jt 22 rfl rfl) rfl ?_
  refine J.aload_n dX4_init_4 rfl rfl ?_
  refine J.bipush (40) dX4_init_5 (by decide) ?_
  refine J.newI dX4_init_7 rfl 40 (by decide) (by decide) (by decide) (jok_b (jcl_b (by decide +kernel)) (by decide +kernel)) (Nat.le_of_ble_eq_true rfl) (Nat.le_of_ble_eq_true rfl) (jt 99 rfl rfl) ?_
  dsimp only [List.cons_append, List.nil_append]
  refine J.at (st := [.ref 1, .ref 0]) ?_ rfl rfl rfl
  refine J.putfieldF dX4_init_9 jFX4_9 jP4_0 rfl rfl (jnoN (by decide +kernel)) rfl rfl rfl (Nat.le_of_ble_eq_true rfl) ?_
  dsimp only [List.set]
  refine J.aload_n dX4_init_12 rfl rfl ?_
  refine J.iconst (-1) dX4_init_13 (by decide) ?_
  refine J.putfield dX4_init_14 jFX4_15 jP4_1 rfl rfl rfl (Nat.le_of_ble_eq_true rfl) ?_
  dsimp only [List.set]
  refine J.aload_n dX4_init_17 rfl rfl ?_
  refine J.iconst (0) dX4_init_18 (by decide) ?_
  refine J.putfield dX4_init_19 jFX4_19 jP4_2 rfl rfl rfl (Nat.le_of_ble_eq_true rfl) ?_
  dsimp only [List.set]
  exact J.vret dX4_init_22 rfl (Nat.le_of_ble_eq_true rfl) (Nat.le_of_ble_eq_true rfl) ⟨rfl, rfl⟩
theorem dX3_init_0 : decode cX3_init 0 = .ok (.aload_n 0, 1) := by decide +kernel
theorem dX3_init_1 : decode cX3_init 1 = .ok (.invokespecial 3, 3) := by decide +kernel
theorem dX3_init_4 : decode cX3_init 4 = .ok (.aload_n 0, 1) := by decide +kernel
theorem dX3_init_5 : decode cX3_init 5 = .ok (.bipush 6, 2) := by decide +kernel
theorem dX3_init_7 : decode cX3_init 7 = .ok (.newarray .int, 2) := by decide +kernel
theorem dX3_init_9 : decode cX3_init 9 = .ok (.putfield 9, 3) := by decide +kernel
theorem dX3_init_12 : decode cX3_init 12 = .ok (.aload_n 0, 1) := by decide +kernel
theorem dX3_init_13 : decode cX3_init 13 = .ok (.bipush 6, 2) := by decide +kernel
theorem dX3_init_15 : decode cX3_init 15 = .ok (.newarray .int, 2) := by decide +kernel
theorem dX3_init_17 : decode cX3_init 17 = .ok (.putfield 15, 3) := by decide +kernel
theorem dX3_init_20 : decode cX3_init 20 = .ok (.aload_n 0, 1) := by decide +kernel
theorem dX3_init_21 : decode cX3_init 21 = .ok (.iconst 0, 1) := by decide +kernel
theorem dX3_init_22 : decode cX3_init 22 = .ok (.putfield 18, 3) := by decide +kernel
theorem dX3_init_25 : decode cX3_init 25 = .ok (.return_, 1) := by decide +kernel

set_option maxRecDepth 100000 in
set_option maxHeartbeats 8000000 in
theorem mX3_init : J KX3_init 1 (fun o B => o = none ∧ B = wN (fun _ => 0) (fun _ => 0) 0) 0 [some (.ref 0)] [] [.inr (3, [.null, .null, .int 0])] 0 0 := by
  show J _ _ _ 0 _ [] [.inr (3, [.null, .null, .int 0])] 0 0
  refine J.aload_n dX3_init_0 rfl rfl ?_
  refine J.objInit dX3_init_1 (jt 216 rfl rfl) (jt 21 rfl rfl) (jt 22 rfl rfl) rfl ?_
  refine J.aload_n dX3_init_4 rfl rfl ?_
  refine J.bipush (6) dX3_init_5 (by decide) ?_
  refine J.newI dX3_init_7 rfl 6 (by decide) (by decide) (by decide) (jok_b (jcl_b (by decide +kernel)) (by decide +kernel)) (Nat.le_of_ble_eq_true rfl) (Nat.le_of_ble_eq_true rfl) (jt 99 rfl rfl) ?_
  dsimp only [List.cons_append, List.nil_append]
  refine J.at (st := [.ref 1, .ref 0]) ?_ rfl rfl rfl
  refine J.putfieldF dX3_init_9 jFX3_9 jP3_0 rfl rfl (jnoN (by decide +kernel)) rfl rfl rfl (Nat.le_of_ble_eq_true rfl) ?_
  dsimp only [List.set]
  refine J.aload_n dX3_init_12 rfl rfl ?_
  refine J.bipush (6) dX3_init_13 (by decide) ?_
  refine J.newI dX3_init_15 rfl 6 (by decide) (by decide) (by decide) (jok_b (jcl_b (by decide +kernel)) (by decide +kernel)) (Nat.le_of_ble_eq_true rfl) (Nat.le_of_ble_eq_true rfl) (jt 99 rfl rfl) ?_
  dsimp only [List.cons_append, List.nil_append]
  refine J.at (st := [.ref 2, .ref 0]) ?_ rfl rfl rfl
  refine J.putfieldF dX3_init_17 jFX3_15 jP3_1 rfl rfl (jnoN (by decide +kernel)) rfl rfl rfl (Nat.le_of_ble_eq_true rfl) ?_
  dsimp only [List.set]
  refine J.aload_n dX3_init_20 rfl rfl ?_
  refine J.iconst (0) dX3_init_21 (by decide) ?_
  refine J.putfield dX3_init_22 jFX3_18 jP3_2 rfl rfl rfl (Nat.le_of_ble_eq_true rfl) ?_
  dsimp only [List.set]
  exact J.vret dX3_init_25 rfl (Nat.le_of_ble_eq_true rfl) (Nat.le_of_ble_eq_true rfl) ⟨rfl, rfl⟩
theorem dX2_init_0 : decode cX2_init 0 = .ok (.aload_n 0, 1) := by decide +kernel
theorem dX2_init_1 : decode cX2_init 1 = .ok (.invokespecial 3, 3) := by decide +kernel
theorem dX2_init_4 : decode cX2_init 4 = .ok (.aload_n 0, 1) := by decide +kernel
theorem dX2_init_5 : decode cX2_init 5 = .ok (.iconst 3, 1) := by decide +kernel
theorem dX2_init_6 : decode cX2_init 6 = .ok (.newarray .int, 2) := by decide +kernel
theorem dX2_init_8 : decode cX2_init 8 = .ok (.putfield 9, 3) := by decide +kernel
theorem dX2_init_11 : decode cX2_init 11 = .ok (.aload_n 0, 1) := by decide +kernel
theorem dX2_init_12 : decode cX2_init 12 = .ok (.iconst 3, 1) := by decide +kernel
theorem dX2_init_13 : decode cX2_init 13 = .ok (.newarray .int, 2) := by decide +kernel
theorem dX2_init_15 : decode cX2_init 15 = .ok (.putfield 15, 3) := by decide +kernel
theorem dX2_init_18 : decode cX2_init 18 = .ok (.aload_n 0, 1) := by decide +kernel
theorem dX2_init_19 : decode cX2_init 19 = .ok (.iconst 4, 1) := by decide +kernel
theorem dX2_init_20 : decode cX2_init 20 = .ok (.newarray .int, 2) := by decide +kernel
theorem dX2_init_22 : decode cX2_init 22 = .ok (.putfield 18, 3) := by decide +kernel
theorem dX2_init_25 : decode cX2_init 25 = .ok (.aload_n 0, 1) := by decide +kernel
theorem dX2_init_26 : decode cX2_init 26 = .ok (.iconst 4, 1) := by decide +kernel
theorem dX2_init_27 : decode cX2_init 27 = .ok (.newarray .int, 2) := by decide +kernel
theorem dX2_init_29 : decode cX2_init 29 = .ok (.putfield 21, 3) := by decide +kernel
theorem dX2_init_32 : decode cX2_init 32 = .ok (.aload_n 0, 1) := by decide +kernel
theorem dX2_init_33 : decode cX2_init 33 = .ok (.iconst 3, 1) := by decide +kernel
theorem dX2_init_34 : decode cX2_init 34 = .ok (.newarray .int, 2) := by decide +kernel
theorem dX2_init_36 : decode cX2_init 36 = .ok (.putfield 24, 3) := by decide +kernel
theorem dX2_init_39 : decode cX2_init 39 = .ok (.aload_n 0, 1) := by decide +kernel
theorem dX2_init_40 : decode cX2_init 40 = .ok (.iconst 3, 1) := by decide +kernel
theorem dX2_init_41 : decode cX2_init 41 = .ok (.newarray .int, 2) := by decide +kernel
theorem dX2_init_43 : decode cX2_init 43 = .ok (.putfield 27, 3) := by decide +kernel
theorem dX2_init_46 : decode cX2_init 46 = .ok (.aload_n 0, 1) := by decide +kernel
theorem dX2_init_47 : decode cX2_init 47 = .ok (.invokevirtual 30, 3) := by decide +kernel
theorem dX2_init_50 : decode cX2_init 50 = .ok (.return_, 1) := by decide +kernel

set_option maxRecDepth 100000 in
set_option maxHeartbeats 8000000 in
theorem mX2_init : J KX2_init 1 (fun o B => o = none ∧ B = wR R0) 0 [some (.ref 0)] [] [.inr (2, [.null, .null, .null, .null, .null, .null, .int 0, .int 0, .int 0, .int 0, .int 0, .int 0, .int 0])] 0 0 := by
  show J _ _ _ 0 _ [] [.inr (2, [.null, .null, .null, .null, .null, .null, .int 0, .int 0, .int 0, .int 0, .int 0, .int 0, .int 0])] 0 0
  refine J.aload_n dX2_init_0 rfl rfl ?_
  refine J.objInit dX2_init_1 (jt 28 rfl rfl) (jt 21 rfl rfl) (jt 22 rfl rfl) rfl ?_
  refine J.aload_n dX2_init_4 rfl rfl ?_
  refine J.iconst (3) dX2_init_5 (by decide) ?_
  refine J.newI dX2_init_6 rfl 3 (by decide) (by decide) (by decide) (jok_b (jcl_b (by decide +kernel)) (by decide +kernel)) (Nat.le_of_ble_eq_true rfl) (Nat.le_of_ble_eq_true rfl) (jt 99 rfl rfl) ?_
  dsimp only [List.cons_append, List.nil_append]
  refine J.at (st := [.ref 1, .ref 0]) ?_ rfl rfl rfl
  refine J.putfieldF dX2_init_8 jFX2_9 jP2_0 rfl rfl (jnoN (by decide +kernel)) rfl rfl rfl (Nat.le_of_ble_eq_true rfl) ?_
  dsimp only [List.set]
  refine J.aload_n dX2_init_11 rfl rfl ?_
  refine J.iconst (3) dX2_init_12 (by decide) ?_
  refine J.newI dX2_init_13 rfl 3 (by decide) (by decide) (by decide) (jok_b (jcl_b (by decide +kernel)) (by decide +kernel)) (Nat.le_of_ble_eq_true rfl) (Nat.le_of_ble_eq_true rfl) (jt 99 rfl rfl) ?_
  dsimp only [List.cons_append, List.nil_append]
  refine J.at (st := [.ref 2, .ref 0]) ?_ rfl rfl rfl
  refine J.putfieldF dX2_init_15 jFX2_15 jP2_1 rfl rfl (jnoN (by decide +kernel)) rfl rfl rfl (Nat.le_of_ble_eq_true rfl) ?_
  dsimp only [List.set]
  refine J.aload_n dX2_init_18 rfl rfl ?_
  refine J.iconst (4) dX2_init_19 (by decide) ?_
  refine J.newI dX2_init_20 rfl 4 (by decide) (by decide) (by decide) (jok_b (jcl_b (by decide +kernel)) (by decide +kernel)) (Nat.le_of_ble_eq_true rfl) (Nat.le_of_ble_eq_true rfl) (jt 99 rfl rfl) ?_
  dsimp only [List.cons_append, List.nil_append]
  refine J.at (st := [.ref 3, .ref 0]) ?_ rfl rfl rfl
  refine J.putfieldF dX2_init_22 jFX2_18 jP2_2 rfl rfl (jnoN (by decide +kernel)) rfl rfl rfl (Nat.le_of_ble_eq_true rfl) ?_
  dsimp only [List.set]
  refine J.aload_n dX2_init_25 rfl rfl ?_
  refine J.iconst (4) dX2_init_26 (by decide) ?_
  refine J.newI dX2_init_27 rfl 4 (by decide) (by decide) (by decide) (jok_b (jcl_b (by decide +kernel)) (by decide +kernel)) (Nat.le_of_ble_eq_true rfl) (Nat.le_of_ble_eq_true rfl) (jt 99 rfl rfl) ?_
  dsimp only [List.cons_append, List.nil_append]
  refine J.at (st := [.ref 4, .ref 0]) ?_ rfl rfl rfl
  refine J.putfieldF dX2_init_29 jFX2_21 jP2_3 rfl rfl (jnoN (by decide +kernel)) rfl rfl rfl (Nat.le_of_ble_eq_true rfl) ?_
  dsimp only [List.set]
  refine J.aload_n dX2_init_32 rfl rfl ?_
  refine J.iconst (3) dX2_init_33 (by decide) ?_
  refine J.newI dX2_init_34 rfl 3 (by decide) (by decide) (by decide) (jok_b (jcl_b (by decide +kernel)) (by decide +kernel)) (Nat.le_of_ble_eq_true rfl) (Nat.le_of_ble_eq_true rfl) (jt 99 rfl rfl) ?_
  dsimp only [List.cons_append, List.nil_append]
  refine J.at (st := [.ref 5, .ref 0]) ?_ rfl rfl rfl
  refine J.putfieldF dX2_init_36 jFX2_24 jP2_4 rfl rfl (jnoN (by decide +kernel)) rfl rfl rfl (Nat.le_of_ble_eq_true rfl) ?_
  dsimp only [List.set]
  refine J.aload_n dX2_init_39 rfl rfl ?_
  refine J.iconst (3) dX2_init_40 (by decide) ?_
  refine J.newI dX2_init_41 rfl 3 (by decide) (by decide) (by decide) (jok_b (jcl_b (by decide +kernel)) (by decide +kernel)) (Nat.le_of_ble_eq_true rfl) (Nat.le_of_ble_eq_true rfl) (jt 99 rfl rfl) ?_
  dsimp only [List.cons_append, List.nil_append]
  refine J.at (st := [.ref 6, .ref 0]) ?_ rfl rfl rfl
  refine J.putfieldF dX2_init_43 jFX2_27 jP2_5 rfl rfl (jnoN (by decide +kernel)) rfl rfl rfl (Nat.le_of_ble_eq_true rfl) ?_
  dsimp only [List.set]
  refine J.aload_n dX2_init_46 rfl rfl ?_
  show J _ _ _ _ _ _ (wR (fun _ _ => 0)) _ _
  refine J.cv (as := []) (is := [0, 1, 2, 3, 4, 5, 6]) (o := 0) okX2_clear jcX2_30 (mX2_clear (fun _ _ => 0)) dX2_init_47 rfl rfl rfl rfl rfl rfl rfl (fun r9 B9 hq => ?_)
  obtain ⟨rfl, rfl⟩ := hq
  refine ⟨rfl, ?_⟩
  show J _ _ _ _ _ [] (wR R0) _ _
  exact J.vret dX2_init_50 rfl (Nat.le_of_ble_eq_true rfl) (Nat.le_of_ble_eq_true rfl) ⟨rfl, rfl⟩
theorem dX0_init_0 : decode cX0_init 0 = .ok (.aload_n 0, 1) := by decide +kernel
theorem dX0_init_1 : decode cX0_init 1 = .ok (.invokespecial 3, 3) := by decide +kernel
theorem dX0_init_4 : decode cX0_init 4 = .ok (.aload_n 0, 1) := by decide +kernel
theorem dX0_init_5 : decode cX0_init 5 = .ok (.iconst 3, 1) := by decide +kernel
theorem dX0_init_6 : decode cX0_init 6 = .ok (.newarray .int, 2) := by decide +kernel
theorem dX0_init_8 : decode cX0_init 8 = .ok (.putfield 9, 3) := by decide +kernel
theorem dX0_init_11 : decode cX0_init 11 = .ok (.aload_n 0, 1) := by decide +kernel
theorem dX0_init_12 : decode cX0_init 12 = .ok (.iconst 3, 1) := by decide +kernel
theorem dX0_init_13 : decode cX0_init 13 = .ok (.newarray .int, 2) := by decide +kernel
theorem dX0_init_15 : decode cX0_init 15 = .ok (.putfield 15, 3) := by decide +kernel
theorem dX0_init_18 : decode cX0_init 18 = .ok (.aload_n 0, 1) := by decide +kernel
theorem dX0_init_19 : decode cX0_init 19 = .ok (.iconst 3, 1) := by decide +kernel
theorem dX0_init_20 : decode cX0_init 20 = .ok (.newarray .int, 2) := by decide +kernel
theorem dX0_init_22 : decode cX0_init 22 = .ok (.putfield 18, 3) := by decide +kernel
theorem dX0_init_25 : decode cX0_init 25 = .ok (.aload_n 0, 1) := by decide +kernel
theorem dX0_init_26 : decode cX0_init 26 = .ok (.bipush 8, 2) := by decide +kernel
theorem dX0_init_28 : decode cX0_init 28 = .ok (.newarray .long, 2) := by decide +kernel
theorem dX0_init_30 : decode cX0_init 30 = .ok (.putfield 21, 3) := by decide +kernel
theorem dX0_init_33 : decode cX0_init 33 = .ok (.aload_n 0, 1) := by decide +kernel
theorem dX0_init_34 : decode cX0_init 34 = .ok (.bipush 8, 2) := by decide +kernel
theorem dX0_init_36 : decode cX0_init 36 = .ok (.newarray .long, 2) := by decide +kernel
theorem dX0_init_38 : decode cX0_init 38 = .ok (.putfield 25, 3) := by decide +kernel
theorem dX0_init_41 : decode cX0_init 41 = .ok (.aload_n 0, 1) := by decide +kernel
theorem dX0_init_42 : decode cX0_init 42 = .ok (.bipush 8, 2) := by decide +kernel
theorem dX0_init_44 : decode cX0_init 44 = .ok (.newarray .long, 2) := by decide +kernel
theorem dX0_init_46 : decode cX0_init 46 = .ok (.putfield 28, 3) := by decide +kernel
theorem dX0_init_49 : decode cX0_init 49 = .ok (.aload_n 0, 1) := by decide +kernel
theorem dX0_init_50 : decode cX0_init 50 = .ok (.bipush 8, 2) := by decide +kernel
theorem dX0_init_52 : decode cX0_init 52 = .ok (.newarray .long, 2) := by decide +kernel
theorem dX0_init_54 : decode cX0_init 54 = .ok (.putfield 31, 3) := by decide +kernel
theorem dX0_init_57 : decode cX0_init 57 = .ok (.aload_n 0, 1) := by decide +kernel
theorem dX0_init_58 : decode cX0_init 58 = .ok (.bipush 6, 2) := by decide +kernel
theorem dX0_init_60 : decode cX0_init 60 = .ok (.newarray .long, 2) := by decide +kernel
theorem dX0_init_62 : decode cX0_init 62 = .ok (.putfield 34, 3) := by decide +kernel
theorem dX0_init_65 : decode cX0_init 65 = .ok (.return_, 1) := by decide +kernel

set_option maxRecDepth 100000 in
set_option maxHeartbeats 8000000 in
theorem mX0_init : J KX0_init 1 (fun o B => o = none ∧ B = wO (fun _ _ => 0) (fun _ => 0) (fun _ => 0) (fun _ _ => 0)) 0 [some (.ref 0)] [] [.inr (0, [.null, .null, .null, .int 0, .int 0, .null, .null, .null, .null, .null, .long 0, .long 0])] 0 0 := by
  show J _ _ _ 0 _ [] [.inr (0, [.null, .null, .null, .int 0, .int 0, .null, .null, .null, .null, .null, .long 0, .long 0])] 0 0
  refine J.aload_n dX0_init_0 rfl rfl ?_
  refine J.objInit dX0_init_1 (jt 168 rfl rfl) (jt 21 rfl rfl) (jt 22 rfl rfl) rfl ?_
  refine J.aload_n dX0_init_4 rfl rfl ?_
  refine J.iconst (3) dX0_init_5 (by decide) ?_
  refine J.newI dX0_init_6 rfl 3 (by decide) (by decide) (by decide) (jok_b (jcl_b (by decide +kernel)) (by decide +kernel)) (Nat.le_of_ble_eq_true rfl) (Nat.le_of_ble_eq_true rfl) (jt 99 rfl rfl) ?_
  dsimp only [List.cons_append, List.nil_append]
  refine J.at (st := [.ref 1, .ref 0]) ?_ rfl rfl rfl
  refine J.putfieldF dX0_init_8 jFX0_9 jP0_0 rfl rfl (jnoN (by decide +kernel)) rfl rfl rfl (Nat.le_of_ble_eq_true rfl) ?_
  dsimp only [List.set]
  refine J.aload_n dX0_init_11 rfl rfl ?_
  refine J.iconst (3) dX0_init_12 (by decide) ?_
  refine J.newI dX0_init_13 rfl 3 (by decide) (by decide) (by decide) (jok_b (jcl_b (by decide +kernel)) (by decide +kernel)) (Nat.le_of_ble_eq_true rfl) (Nat.le_of_ble_eq_true rfl) (jt 99 rfl rfl) ?_
  dsimp only [List.cons_append, List.nil_append]
  refine J.at (st := [.ref 2, .ref 0]) ?_ rfl rfl rfl
  refine J.putfieldF dX0_init_15 jFX0_15 jP0_1 rfl rfl (jnoN (by decide +kernel)) rfl rfl rfl (Nat.le_of_ble_eq_true rfl) ?_
  dsimp only [List.set]
  refine J.aload_n dX0_init_18 rfl rfl ?_
  refine J.iconst (3) dX0_init_19 (by decide) ?_
  refine J.newI dX0_init_20 rfl 3 (by decide) (by decide) (by decide) (jok_b (jcl_b (by decide +kernel)) (by decide +kernel)) (Nat.le_of_ble_eq_true rfl) (Nat.le_of_ble_eq_true rfl) (jt 99 rfl rfl) ?_
  dsimp only [List.cons_append, List.nil_append]
  refine J.at (st := [.ref 3, .ref 0]) ?_ rfl rfl rfl
  refine J.putfieldF dX0_init_22 jFX0_18 jP0_2 rfl rfl (jnoN (by decide +kernel)) rfl rfl rfl (Nat.le_of_ble_eq_true rfl) ?_
  dsimp only [List.set]
  refine J.aload_n dX0_init_25 rfl rfl ?_
  refine J.bipush (8) dX0_init_26 (by decide) ?_
  refine J.newL dX0_init_28 rfl 8 (by decide) (by decide) (by decide) (jok_b (jcl_b (by decide +kernel)) (by decide +kernel)) (Nat.le_of_ble_eq_true rfl) (Nat.le_of_ble_eq_true rfl) (jt 210 rfl rfl) ?_
  dsimp only [List.cons_append, List.nil_append]
  refine J.at (st := [.ref 4, .ref 0]) ?_ rfl rfl rfl
  refine J.putfieldF dX0_init_30 jFX0_21 jP0_5 rfl rfl (jnoN (by decide +kernel)) rfl rfl rfl (Nat.le_of_ble_eq_true rfl) ?_
  dsimp only [List.set]
  refine J.aload_n dX0_init_33 rfl rfl ?_
  refine J.bipush (8) dX0_init_34 (by decide) ?_
  refine J.newL dX0_init_36 rfl 8 (by decide) (by decide) (by decide) (jok_b (jcl_b (by decide +kernel)) (by decide +kernel)) (Nat.le_of_ble_eq_true rfl) (Nat.le_of_ble_eq_true rfl) (jt 210 rfl rfl) ?_
  dsimp only [List.cons_append, List.nil_append]
  refine J.at (st := [.ref 5, .ref 0]) ?_ rfl rfl rfl
  refine J.putfieldF dX0_init_38 jFX0_25 jP0_6 rfl rfl (jnoN (by decide +kernel)) rfl rfl rfl (Nat.le_of_ble_eq_true rfl) ?_
  dsimp only [List.set]
  refine J.aload_n dX0_init_41 rfl rfl ?_
  refine J.bipush (8) dX0_init_42 (by decide) ?_
  refine J.newL dX0_init_44 rfl 8 (by decide) (by decide) (by decide) (jok_b (jcl_b (by decide +kernel)) (by decide +kernel)) (Nat.le_of_ble_eq_true rfl) (Nat.le_of_ble_eq_true rfl) (jt 210 rfl rfl) ?_
  dsimp only [List.cons_append, List.nil_append]
  refine J.at (st := [.ref 6, .ref 0]) ?_ rfl rfl rfl
  refine J.putfieldF dX0_init_46 jFX0_28 jP0_7 rfl rfl (jnoN (by decide +kernel)) rfl rfl rfl (Nat.le_of_ble_eq_true rfl) ?_
  dsimp only [List.set]
  refine J.aload_n dX0_init_49 rfl rfl ?_
  refine J.bipush (8) dX0_init_50 (by decide) ?_
  refine J.newL dX0_init_52 rfl 8 (by decide) (by decide) (by decide) (jok_b (jcl_b (by decide +kernel)) (by decide +kernel)) (Nat.le_of_ble_eq_true rfl) (Nat.le_of_ble_eq_true rfl) (jt 210 rfl rfl) ?_
  dsimp only [List.cons_append, List.nil_append]
  refine J.at (st := [.ref 7, .ref 0]) ?_ rfl rfl rfl
  refine J.putfieldF dX0_init_54 jFX0_31 jP0_8 rfl rfl (jnoN (by decide +kernel)) rfl rfl rfl (Nat.le_of_ble_eq_true rfl) ?_
  dsimp only [List.set]
  refine J.aload_n dX0_init_57 rfl rfl ?_
  refine J.bipush (6) dX0_init_58 (by decide) ?_
  refine J.newL dX0_init_60 rfl 6 (by decide) (by decide) (by decide) (jok_b (jcl_b (by decide +kernel)) (by decide +kernel)) (Nat.le_of_ble_eq_true rfl) (Nat.le_of_ble_eq_true rfl) (jt 210 rfl rfl) ?_
  dsimp only [List.cons_append, List.nil_append]
  refine J.at (st := [.ref 8, .ref 0]) ?_ rfl rfl rfl
  refine J.putfieldF dX0_init_62 jFX0_34 jP0_9 rfl rfl (jnoN (by decide +kernel)) rfl rfl rfl (Nat.le_of_ble_eq_true rfl) ?_
  dsimp only [List.set]
  exact J.vret dX0_init_65 rfl (Nat.le_of_ble_eq_true rfl) (Nat.le_of_ble_eq_true rfl) ⟨rfl, rfl⟩
theorem jNX1_9 : jNw RX1 9 5 [.null, .int 0] := ⟨RX5, TX5, 2, tyX5, rfl, tyX5_ok, jin5, jt 107 rfl rfl, jt 108 rfl rfl, jt 4 rfl rfl, by decide +kernel, rfl, by simp⟩
theorem jIX1_11 : jcI RX1 11 KX5_init 0 := ⟨Or.inr ⟨"SwordSeat", jn 109 rfl rfl⟩, jt 110 rfl rfl, rfl, rfl, by decide +kernel⟩
theorem jNX1_18 : jNw RX1 18 2 [.null, .null, .null, .null, .null, .null, .int 0, .int 0, .int 0, .int 0, .int 0, .int 0, .int 0] := ⟨RX2, TX2, 13, tyX2, rfl, tyX2_ok, jin2, jt 124 rfl rfl, jt 24 rfl rfl, jt 2 rfl rfl, by decide +kernel, rfl, by simp⟩
theorem jIX1_20 : jcI RX1 20 KX2_init 0 := ⟨Or.inr ⟨"SwordSeat", jn 125 rfl rfl⟩, jt 26 rfl rfl, rfl, rfl, by decide +kernel⟩
theorem dX1_init_0 : decode cX1_init 0 = .ok (.aload_n 0, 1) := by decide +kernel
theorem dX1_init_1 : decode cX1_init 1 = .ok (.invokespecial 3, 3) := by decide +kernel
theorem dX1_init_4 : decode cX1_init 4 = .ok (.aload_n 0, 1) := by decide +kernel
theorem dX1_init_5 : decode cX1_init 5 = .ok (.new 9, 3) := by decide +kernel
theorem dX1_init_8 : decode cX1_init 8 = .ok (.dup, 1) := by decide +kernel
theorem dX1_init_9 : decode cX1_init 9 = .ok (.invokespecial 11, 3) := by decide +kernel
theorem dX1_init_12 : decode cX1_init 12 = .ok (.putfield 12, 3) := by decide +kernel
theorem dX1_init_15 : decode cX1_init 15 = .ok (.aload_n 0, 1) := by decide +kernel
theorem dX1_init_16 : decode cX1_init 16 = .ok (.new 18, 3) := by decide +kernel
theorem dX1_init_19 : decode cX1_init 19 = .ok (.dup, 1) := by decide +kernel
theorem dX1_init_20 : decode cX1_init 20 = .ok (.invokespecial 20, 3) := by decide +kernel
theorem dX1_init_23 : decode cX1_init 23 = .ok (.putfield 21, 3) := by decide +kernel
theorem dX1_init_26 : decode cX1_init 26 = .ok (.aload_n 0, 1) := by decide +kernel
theorem dX1_init_27 : decode cX1_init 27 = .ok (.iconst 0, 1) := by decide +kernel
theorem dX1_init_28 : decode cX1_init 28 = .ok (.putfield 25, 3) := by decide +kernel
theorem dX1_init_31 : decode cX1_init 31 = .ok (.return_, 1) := by decide +kernel

set_option maxRecDepth 100000 in
set_option maxHeartbeats 8000000 in
theorem mX1_init : J KX1_init 1 (fun o B => o = none ∧ B = wX (fun _ => 0) 0 R0 (fun _ => 0)) 0 [some (.ref 0)] [] [.inr (1, [.null, .null, .int 0, .int 0, .int 0, .int 0, .int 0, .int 0, .int 0, .int 0, .int 0])] 0 0 := by
  show J _ _ _ 0 _ [] [.inr (1, [.null, .null, .int 0, .int 0, .int 0, .int 0, .int 0, .int 0, .int 0, .int 0, .int 0])] 0 0
  refine J.aload_n dX1_init_0 rfl rfl ?_
  refine J.objInit dX1_init_1 (jt 106 rfl rfl) (jt 21 rfl rfl) (jt 22 rfl rfl) rfl ?_
  refine J.aload_n dX1_init_4 rfl rfl ?_
  refine J.mk 1 [.inr (5, [.ref 2, .int (nI 0)]), .inl (2, 160, .inl (fun _ => nI 0))] dX1_init_5 dX1_init_8 dX1_init_9 jNX1_9 okX5_init jIX1_11 mX5_init rfl rfl rfl (jcl_b (by decide +kernel)) (by decide +kernel) (by decide +kernel) (by decide +kernel) (Nat.le_of_ble_eq_true rfl) (Nat.le_of_ble_eq_true rfl) (by decide +kernel) (jcl_b (by decide +kernel)) (by decide +kernel) rfl ?_
  dsimp only [List.cons_append, List.nil_append]
  refine J.putfieldF dX1_init_12 jFX1_12 jP1_0 rfl rfl (jnoN (by decide +kernel)) rfl rfl rfl (Nat.le_of_ble_eq_true rfl) ?_
  dsimp only [List.set]
  refine J.aload_n dX1_init_15 rfl rfl ?_
  refine J.mk 3 [.inr (2, [.ref 4, .ref 5, .ref 6, .ref 7, .ref 8, .ref 9, .int (nI (R0 6 0)), .int (nI (R0 6 1)), .int (nI (R0 6 2)), .int (nI (R0 6 3)), .int (nI (R0 6 4)), .int (nI (R0 6 5)), .int (nI (R0 6 6))]), .inl (0, 3, .inl (fun j => nI (R0 0 j))), .inl (0, 3, .inl (fun j => nI (R0 1 j))), .inl (0, 4, .inl (fun j => nI (R0 2 j))), .inl (0, 4, .inl (fun j => nI (R0 3 j))), .inl (0, 3, .inl (fun j => nI (R0 4 j))), .inl (0, 3, .inl (fun j => nI (R0 5 j)))] dX1_init_16 dX1_init_19 dX1_init_20 jNX1_18 okX2_init jIX1_20 mX2_init rfl rfl rfl (jcl_b (by decide +kernel)) (by decide +kernel) (by decide +kernel) (by decide +kernel) (Nat.le_of_ble_eq_true rfl) (Nat.le_of_ble_eq_true rfl) (by decide +kernel) (jcl_b (by decide +kernel)) (by decide +kernel) rfl ?_
  dsimp only [List.cons_append, List.nil_append]
  refine J.putfieldF dX1_init_23 jFX1_21 jP1_1 rfl rfl (jnoN (by decide +kernel)) rfl rfl rfl (Nat.le_of_ble_eq_true rfl) ?_
  dsimp only [List.set]
  refine J.aload_n dX1_init_26 rfl rfl ?_
  refine J.iconst (0) dX1_init_27 (by decide) ?_
  refine J.putfield dX1_init_28 jFX1_25 jP1_9 rfl rfl rfl (Nat.le_of_ble_eq_true rfl) ?_
  dsimp only [List.set]
  exact J.vret dX1_init_31 rfl (Nat.le_of_ble_eq_true rfl) (Nat.le_of_ble_eq_true rfl) ⟨rfl, rfl⟩
