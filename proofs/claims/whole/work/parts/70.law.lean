/-! ===== the law: a logic that knows the script too, at number 4000 ===== -/
def jSc (N9 : Nat) (xs : Nat → Int32) (s : State) (A0 : Nat → Prop) (ad0 : Nat → Nat) : Prop := va_X (ad0 4000) N9 xs s s.heap ∧ ad0 4000 < s.heap.size ∧ ¬ A0 (ad0 4000)
def JX (N9 : Nat) (xs : Nat → Int32) (K : jM) (n0 : Nat) (Q : Option Value → jW → Prop) (pc : Nat) (L : List (Option Value)) (st : List Value) (A : jW) (cells slots : Nat) : Prop :=
  ∀ (l : Launch) (p : Program) (e : Env) (s : State) (m : MethodId) (args : Array Value) (below : List Frame) (meth : Method) (c : Code) (dC : Nat → ClassId) (dI : Nat → Nat → Nat) (cy : Nat → ClassId) (A0 : Nat → Prop) (ad0 ad : Nat → Nat) (H : Heap) (locs : List Loc) (ls : Array Slot),
    jSc N9 xs s A0 ad0 → jX K n0 p s m args meth c dC dI cy A0 ad0 ad H locs ls L A →
    W p l e K.2.2.2.2.2 s m args below meth c H locs cells slots (MQ below (jQ Q dC dI cy A0 n0 ad0) args s K.2.2.2.2.2.cells K.2.2.2.2.2.slots A0) (F0 m pc ls (st.map (jg ad)))
section JXR
variable {N9 : Nat} {xs : Nat → Int32} {K : jM} {n0 : Nat} {Q : Option Value → jW → Prop} {pc : Nat} {L : List (Option Value)} {st : List Value} {A : jW} {cells slots : Nat}
theorem JX.slen (d : decode K.2.1 pc = .ok (.arraylength, 1)) (hA : A.length ≤ 4000) (k : JX N9 xs K n0 Q (pc + 1) L (.int (Int32.ofNat N9) :: st) A cells slots) : JX N9 xs K n0 Q pc L (.ref 4000 :: st) A cells slots := by
  intro l p e s m args below meth c dC dI cy A0 ad0 ad H locs ls hSc hX
  have e9 : ad 4000 = ad0 4000 := hX.2.1 4000 (Or.inr hA)
  have k9 := k l p e s m args below meth c dC dI cy A0 ad0 ad H locs ls hSc hX
  show W p l e _ s m args below meth c H locs cells slots _ (F0 m pc ls (.ref (ad 4000) :: st.map (jg ad)))
  rw [e9]
  exact va_slen hX.1.1 hX.1.2.1 hSc.1 hSc.2.1 hSc.2.2 hX.2.2.2.2.2.1 d k9
theorem JX.sald {i : Int32} (d : decode K.2.1 pc = .ok (.iaload, 1)) (hA : A.length ≤ 4000) (hin : vp_in i N9) (k : JX N9 xs K n0 Q (pc + 1) L (.int (xs i.toNatClampNeg) :: st) A cells slots) : JX N9 xs K n0 Q pc L (.int i :: .ref 4000 :: st) A cells slots := by
  intro l p e s m args below meth c dC dI cy A0 ad0 ad H locs ls hSc hX
  have e9 : ad 4000 = ad0 4000 := hX.2.1 4000 (Or.inr hA)
  have k9 := k l p e s m args below meth c dC dI cy A0 ad0 ad H locs ls hSc hX
  show W p l e _ s m args below meth c H locs cells slots _ (F0 m pc ls (.int i :: .ref (ad 4000) :: st.map (jg ad)))
  rw [e9]
  exact va_sld hX.1.1 hX.1.2.1 hSc.1 hSc.2.1 hSc.2.2 hX.2.2.2.2.2.1 hin d k9
theorem JX.iconst {n : Int} (v : Int32) (d : decode K.2.1 pc = .ok (.iconst n, 1)) (hv : Int32.ofInt n = v)
    (k : JX N9 xs K n0 Q (pc + 1) L (.int v :: st) A cells slots) : JX N9 xs K n0 Q pc L st A cells slots := by
  intro l p e s m args below meth c dC dI cy A0 ad0 ad H locs ls hSc hX
  exact lv_iconst hX.1.1 hX.1.2.1 d hv (k l p e s m args below meth c dC dI cy A0 ad0 ad H locs ls hSc hX)
theorem JX.bipush {n : Int} (v : Int32) (d : decode K.2.1 pc = .ok (.bipush n, 2)) (hv : (Int8.ofInt n).toInt32 = v)
    (k : JX N9 xs K n0 Q (pc + 2) L (.int v :: st) A cells slots) : JX N9 xs K n0 Q pc L st A cells slots := by
  intro l p e s m args below meth c dC dI cy A0 ad0 ad H locs ls hSc hX
  exact lv_bipush hX.1.1 hX.1.2.1 d hv (k l p e s m args below meth c dC dI cy A0 ad0 ad H locs ls hSc hX)
theorem JX.aload_n {f : Fin 4} {i : Nat} {x : Nat} (d : decode K.2.1 pc = .ok (.aload_n f, 1)) (hi : (f : Nat) = i) (hl : L[i]? = some (some (.ref x)))
    (k : JX N9 xs K n0 Q (pc + 1) L (.ref x :: st) A cells slots) : JX N9 xs K n0 Q pc L st A cells slots := by
  intro l p e s m args below meth c dC dI cy A0 ad0 ad H locs ls hSc hX
  exact lv_aload_n hX.1.1 hX.1.2.1 d hi (hX.2.2.2.2.2.2.2.2 i _ hl) (k l p e s m args below meth c dC dI cy A0 ad0 ad H locs ls hSc hX)
theorem JX.iload_n {f : Fin 4} {i : Nat} {x : Int32} (d : decode K.2.1 pc = .ok (.iload_n f, 1)) (hi : (f : Nat) = i) (hl : L[i]? = some (some (.int x)))
    (k : JX N9 xs K n0 Q (pc + 1) L (.int x :: st) A cells slots) : JX N9 xs K n0 Q pc L st A cells slots := by
  intro l p e s m args below meth c dC dI cy A0 ad0 ad H locs ls hSc hX
  exact lv_iload_n hX.1.1 hX.1.2.1 d hi (hX.2.2.2.2.2.2.2.2 i _ hl) (k l p e s m args below meth c dC dI cy A0 ad0 ad H locs ls hSc hX)
theorem JX.astore_n {f : Fin 4} {i : Nat} {x : Nat} (d : decode K.2.1 pc = .ok (.astore_n f, 1)) (hi : (f : Nat) = i) (hn : i < K.2.2.1) (hno : jno L i = true)
    (k : JX N9 xs K n0 Q (pc + 1) (L.set i (some (.ref x))) st A cells slots) : JX N9 xs K n0 Q pc L (.ref x :: st) A cells slots := by
  intro l p e s m args below meth c dC dI cy A0 ad0 ad H locs ls hSc hX
  exact lv_astore_n hX.1.1 hX.1.2.1 d hi (jpairs_has hX.2.2.2.2.2.2) hn rfl (fun ls' h => k l p e s m args below meth c dC dI cy A0 ad0 ad H locs ls' hSc (hX.loc (jst1 (v := .ref x) hno h)))
theorem JX.istore_n {f : Fin 4} {i : Nat} {x : Int32} (d : decode K.2.1 pc = .ok (.istore_n f, 1)) (hi : (f : Nat) = i) (hn : i < K.2.2.1) (hno : jno L i = true)
    (k : JX N9 xs K n0 Q (pc + 1) (L.set i (some (.int x))) st A cells slots) : JX N9 xs K n0 Q pc L (.int x :: st) A cells slots := by
  intro l p e s m args below meth c dC dI cy A0 ad0 ad H locs ls hSc hX
  exact lv_istore_n hX.1.1 hX.1.2.1 d hi (jpairs_has hX.2.2.2.2.2.2) hn rfl (fun ls' h => k l p e s m args below meth c dC dI cy A0 ad0 ad H locs ls' hSc (hX.loc (jst1 (v := .int x) hno h)))
theorem JX.iadd {x y : Int32} (d : decode K.2.1 pc = .ok (.iadd, 1))
    (k : JX N9 xs K n0 Q (pc + 1) L (.int (x + y) :: st) A cells slots) : JX N9 xs K n0 Q pc L (.int y :: .int x :: st) A cells slots := by
  intro l p e s m args below meth c dC dI cy A0 ad0 ad H locs ls hSc hX
  exact lv_iadd hX.1.1 hX.1.2.1 d (k l p e s m args below meth c dC dI cy A0 ad0 ad H locs ls hSc hX)
theorem JX.isub {x y : Int32} (d : decode K.2.1 pc = .ok (.isub, 1))
    (k : JX N9 xs K n0 Q (pc + 1) L (.int (x - y) :: st) A cells slots) : JX N9 xs K n0 Q pc L (.int y :: .int x :: st) A cells slots := by
  intro l p e s m args below meth c dC dI cy A0 ad0 ad H locs ls hSc hX
  exact lv_isub hX.1.1 hX.1.2.1 d (k l p e s m args below meth c dC dI cy A0 ad0 ad H locs ls hSc hX)
theorem JX.iand {x y : Int32} (d : decode K.2.1 pc = .ok (.iand, 1))
    (k : JX N9 xs K n0 Q (pc + 1) L (.int (x &&& y) :: st) A cells slots) : JX N9 xs K n0 Q pc L (.int y :: .int x :: st) A cells slots := by
  intro l p e s m args below meth c dC dI cy A0 ad0 ad H locs ls hSc hX
  exact lv_iand hX.1.1 hX.1.2.1 d (k l p e s m args below meth c dC dI cy A0 ad0 ad H locs ls hSc hX)
theorem JX.dup {v : Value} (d : decode K.2.1 pc = .ok (.dup, 1)) (hc : v.category = 1)
    (k : JX N9 xs K n0 Q (pc + 1) L (v :: v :: st) A cells slots) : JX N9 xs K n0 Q pc L (v :: st) A cells slots := by
  intro l p e s m args below meth c dC dI cy A0 ad0 ad H locs ls hSc hX
  exact lv_dup hX.1.1 hX.1.2.1 d ((jg_cat ad v).trans hc) (k l p e s m args below meth c dC dI cy A0 ad0 ad H locs ls hSc hX)
theorem JX.icmp_gt {x y : Int32} {off : Int} {tgt : Nat} (d : decode K.2.1 pc = .ok (.if_icmp .gt off, 3)) (ht : (pc : Int) + off = (tgt : Int)) (kt : y < x → JX N9 xs K n0 Q tgt L st A cells slots) (kf : ¬ y < x → JX N9 xs K n0 Q (pc + 3) L st A cells slots) : JX N9 xs K n0 Q pc L (.int y :: .int x :: st) A cells slots := by
  intro l p e s m args below meth c dC dI cy A0 ad0 ad H locs ls hSc hX
  exact lv_icmp_gt hX.1.1 hX.1.2.1 d ht (fun h => kt h l p e s m args below meth c dC dI cy A0 ad0 ad H locs ls hSc hX) (fun h => kf h l p e s m args below meth c dC dI cy A0 ad0 ad H locs ls hSc hX)
theorem JX.icmp_eq {x y : Int32} {off : Int} {tgt : Nat} (d : decode K.2.1 pc = .ok (.if_icmp .eq off, 3)) (ht : (pc : Int) + off = (tgt : Int)) (kt : x = y → JX N9 xs K n0 Q tgt L st A cells slots) (kf : ¬ x = y → JX N9 xs K n0 Q (pc + 3) L st A cells slots) : JX N9 xs K n0 Q pc L (.int y :: .int x :: st) A cells slots := by
  intro l p e s m args below meth c dC dI cy A0 ad0 ad H locs ls hSc hX
  exact lv_icmp_eq hX.1.1 hX.1.2.1 d ht (fun h => kt h l p e s m args below meth c dC dI cy A0 ad0 ad H locs ls hSc hX) (fun h => kf h l p e s m args below meth c dC dI cy A0 ad0 ad H locs ls hSc hX)
theorem JX.if_eq {x : Int32} {off : Int} {tgt : Nat} (d : decode K.2.1 pc = .ok (.ifCond .eq off, 3)) (ht : (pc : Int) + off = (tgt : Int)) (kt : x = 0 → JX N9 xs K n0 Q tgt L st A cells slots) (kf : ¬ x = 0 → JX N9 xs K n0 Q (pc + 3) L st A cells slots) : JX N9 xs K n0 Q pc L (.int x :: st) A cells slots := by
  intro l p e s m args below meth c dC dI cy A0 ad0 ad H locs ls hSc hX
  exact lv_if_eq hX.1.1 hX.1.2.1 d ht (fun h => kt h l p e s m args below meth c dC dI cy A0 ad0 ad H locs ls hSc hX) (fun h => kf h l p e s m args below meth c dC dI cy A0 ad0 ad H locs ls hSc hX)
theorem JX.lcmp {x y : Int64} (d : decode K.2.1 pc = .ok (.lcmp, 1))
    (k : JX N9 xs K n0 Q (pc + 1) L (.int (lg_cmp x y) :: st) A cells slots) : JX N9 xs K n0 Q pc L (.long y :: .long x :: st) A cells slots := by
  intro l p e s m args below meth c dC dI cy A0 ad0 ad H locs ls hSc hX
  exact W.lcmp hX.1.1 hX.1.2.1 d (k l p e s m args below meth c dC dI cy A0 ad0 ad H locs ls hSc hX)
theorem JX.tableOut {dflt lo hi : Int} {offs : Array Int} {len : Nat} {x : Int32} {tgt : Nat} (d : decode K.2.1 pc = .ok (.tableswitch dflt lo hi offs, len)) (h : x.toInt < lo ∨ hi < x.toInt) (ht : (pc : Int) + dflt = (tgt : Int))
    (k : JX N9 xs K n0 Q tgt L st A cells slots) : JX N9 xs K n0 Q pc L (.int x :: st) A cells slots := by
  intro l p e s m args below meth c dC dI cy A0 ad0 ad H locs ls hSc hX
  exact lv_tableOut hX.1.1 hX.1.2.1 d h ht (k l p e s m args below meth c dC dI cy A0 ad0 ad H locs ls hSc hX)
theorem JX.tableIn {dflt lo hi : Int} {offs : Array Int} {len : Nat} {x : Int32} {off : Int} {tgt : Nat} (d : decode K.2.1 pc = .ok (.tableswitch dflt lo hi offs, len)) (h1 : ¬ x.toInt < lo) (h2 : ¬ hi < x.toInt) (ho : offs[(x.toInt - lo).toNat]? = some off) (ht : (pc : Int) + off = (tgt : Int))
    (k : JX N9 xs K n0 Q tgt L st A cells slots) : JX N9 xs K n0 Q pc L (.int x :: st) A cells slots := by
  intro l p e s m args below meth c dC dI cy A0 ad0 ad H locs ls hSc hX
  exact lv_tableIn hX.1.1 hX.1.2.1 d h1 h2 ho ht (k l p e s m args below meth c dC dI cy A0 ad0 ad H locs ls hSc hX)
theorem JX.goto {off : Int} {tgt : Nat} (d : decode K.2.1 pc = .ok (.goto off, 3)) (ht : (pc : Int) + off = (tgt : Int))
    (k : JX N9 xs K n0 Q tgt L st A cells slots) : JX N9 xs K n0 Q pc L st A cells slots := by
  intro l p e s m args below meth c dC dI cy A0 ad0 ad H locs ls hSc hX
  exact lv_goto hX.1.1 hX.1.2.1 d ht (k l p e s m args below meth c dC dI cy A0 ad0 ad H locs ls hSc hX)
theorem JX.iinc {i : Nat} {n : Int} {x : Int32} (v : Int32) (d : decode K.2.1 pc = .ok (.iinc i n, 3)) (hv : Int32.ofInt n = v) (hl : L[i]? = some (some (.int x))) (hn : i < K.2.2.1) (hno : jno L i = true)
    (k : JX N9 xs K n0 Q (pc + 3) (L.set i (some (.int (x + v)))) st A cells slots) : JX N9 xs K n0 Q pc L st A cells slots := by
  intro l p e s m args below meth c dC dI cy A0 ad0 ad H locs ls hSc hX
  subst hv
  obtain ⟨j, hj⟩ := List.getElem?_of_mem (jpairs_mem (ad := ad) hl)
  exact lv_iinc hX.1.1 hX.1.2.1 d (jpairs_has hX.2.2.2.2.2.2) hj rfl hn rfl (fun ls' h => k l p e s m args below meth c dC dI cy A0 ad0 ad H locs ls' hSc (hX.loc (jst1 (v := .int (x + Int32.ofInt n)) hno h)))
theorem JX.iret {ty : FieldType} {v : Int32} (d : decode K.2.1 pc = .ok (.ireturn, 1)) (hr : K.2.2.2.2.1 = some ty) (hn : narrow ty (.int v) = .int v) (hc : cells ≤ K.2.2.2.2.2.cells) (hs : slots ≤ K.2.2.2.2.2.slots) (hQ : Q (some (.int v)) A) : JX N9 xs K n0 Q pc L [.int v] A cells slots := by
  intro l p e s m args below meth c dC dI cy A0 ad0 ad H locs ls hSc hX
  refine W.widen hc hs ?_
  exact W.zret hX.1.1 hX.1.2.1 (hX.1.2.2.1.trans hr) hn (fun t ht hW => ⟨⟨some (.int v), A, ad, rfl, hQ, hX.2.1, by rw [ht]; exact hX.2.2.2.1, hX.2.2.2.2.1⟩, hX.2.2.2.2.2.1.F ht⟩) hX.2.2.2.2.2.1.2.2 d hX.1.2.2.2.2.2.2.1
theorem JX.new {i ci : Nat} {fs : List Value} (d : decode K.2.1 pc = .ok (.new i, 3)) (hF : jNw K.1 i ci fs) (hO : jOK n0 A L st) (hc : cells + 1 ≤ K.2.2.2.2.2.cells) (hs : slots + fs.length ≤ K.2.2.2.2.2.slots)
    (k : JX N9 xs K n0 Q (pc + 3) L (.ref A.length :: st) (A ++ [.inr (ci, fs)]) (cells + 1) (slots + fs.length)) : JX N9 xs K n0 Q pc L st A cells slots := by
  intro l p e s m args below meth c dC dI cy A0 ad0 ad H locs ls hSc hX
  obtain ⟨C, T, N, ty, h1, h2, h3, h4, h5, h6, h7, h8, h9⟩ := hF
  obtain ⟨o1, o2, o3, o4, o5⟩ := hO
  rw [h8] at k hs
  have hfs : fs.map (jg ad) = fs := by
    have := List.map_congr_left (f := jg ad) (g := id) (l := fs) (fun v hv => by
      cases v <;> first | rfl | skip
      next a => exact absurd hv (h9 a))
    rw [this, List.map_id]
  refine va_new hX.1.1 hX.1.2.1 hX.1.2.2.2.2.2.1 h3 ty h2 hX.1.2.2.2.2.1 (hX.1.2.2.2.2.2.1 _ h4) (hX.1.2.2.2.2.2.1 _ h5) (hX.1.2.2.2.2.2.1 _ h6) hX.1.2.2.2.2.2.2.2.2.1.2.1 hX.2.2.2.1 hX.2.2.2.2.1 hX.2.2.2.2.2.1 hX.2.2.1 h1 h7 hc hs d (fun q H1 a1 a2 a3 => ?_)
  have e9 : (Sum.inr (ci, fs) : va_E) = jgE cy ad (.inr (ci, fs)) := by simp only [jgE, hfs]
  rw [e9] at a1 a2
  have hX' := hX.new (q := q) (x := .inr (ci, fs)) o1 o2 o3 (h9 _) o4 a1 a2 a3
  have := k l p e s m args below meth c dC dI cy A0 ad0 (jup ad A.length q) H1 locs ls hSc hX'
  simp only [List.map_cons, jg, jup_at, jst_up o5] at this
  exact this
end JXR
section JXC
variable {p : Program} {l : Launch} {e : Env} {s : State} {m : MethodId} {args : Array Value} {below : List Frame} {meth : Method} {c : Code} {dC : Nat → ClassId} {dI : Nat → Nat → Nat} {cy : Nat → ClassId} {A0 : Nat → Prop} {ad0 ad : Nat → Nat} {H : Heap} {locs : List Loc} {ls : Array Slot}
variable {N9 : Nat} {xs : Nat → Int32} {K K' : jM} {n0 : Nat} {Q Q' : Option Value → jW → Prop} {pc : Nat} {L : List (Option Value)} {st rest as : List Value} {A B : jW} {cells slots : Nat} {is : List Nat}
theorem jbackX (hX : jX K n0 p s m args meth c dC dI cy A0 ad0 ad H locs ls L A) (hSc : jSc N9 xs s A0 ad0) (hB : is.map (fun i => A[i]?) = B.map (fun b => some (jrE (jr is) b))) (hl : B.length < 1000) (hnd : va_nd is = true) {a : Array Value} {st0 : List Value}
    (hr : va_Run p l e K.2.2.2.2.2 s m args below meth c H locs cells slots 0 0 (F0 m pc ls st0) (rest.map (jg ad)) (jQ Q' dC dI cy (va_A (jgW cy (fun k => ad (jr is k)) B) H.size) B.length (fun k => ad (jr is k)) a) (va_A (jgW cy (fun k => ad (jr is k)) B) H.size))
    (kk : ∀ r B', Q' r B' → B'.length = B.length ∧ JX N9 xs K n0 Q (pc + 3) L ((r.map (jg (jr is))).toList ++ rest) (jput A is (B'.map (jrE (jr is)))) cells slots) :
    W p l e K.2.2.2.2.2 s m args below meth c H locs cells slots (MQ below (jQ Q dC dI cy A0 n0 ad0) args s K.2.2.2.2.2.cells K.2.2.2.2.2.slots A0) (F0 m pc ls st0) := by
  intro T hT X
  obtain ⟨v, st₀, t, T', L', h0, X', hL, e1, e2, ⟨⟨r, B', ad', hv, hq, hag, hP1, hD1⟩, hz, hk⟩, st9⟩ := hr T hT X
  cases hv
  obtain ⟨hlB, kJ⟩ := kk r B' hq
  have hA1 := jfree hX hB hl
  have hae : ad' = fun k => ad (jr is k) := funext fun k => hag k (by omega)
  subst hae
  rw [h0] at hz hk
  have hP := hX.2.2.2.1
  have hD := hX.2.2.2.2.1
  have hS := hX.2.2.2.2.2.1
  have hlen : is.length = B.length := by have := congrArg List.length hB; simpa using this
  have hlt : ∀ i ∈ is, i < A.length := by
    intro i hi
    obtain ⟨j, hj, rfl⟩ := List.getElem_of_mem hi
    obtain ⟨i', a1, -, a3⟩ := jcells hB hl (List.getElem?_eq_getElem (show j < B.length by omega))
    rw [List.getElem?_eq_getElem hj] at a1
    cases a1
    exact (List.getElem?_eq_some_iff.mp a3).1
  have hPn : va_P (dC, dI) jCl (jgW cy ad (jput A is (B'.map (jrE (jr is))))) t.heap := by
    intro k q hq
    obtain ⟨x, hx, rfl⟩ := jgW_of hq
    by_cases hki : k ∈ is
    · obtain ⟨j, hj, rfl⟩ := List.getElem_of_mem hki
      have hj2 : is[j]? = some is[j] := List.getElem?_eq_getElem hj
      have hjB : j < B'.length := by omega
      rw [jput_at is A _ j is[j] hnd hj2 (hlt _ hki) (by simp; omega), List.getElem?_map, List.getElem?_eq_getElem hjB] at hx
      simp only [Option.map_some, Option.some.injEq] at hx
      have h3 := hP1 j _ (jgW_get (List.getElem?_eq_getElem hjB))
      obtain ⟨i', a1, a2, -⟩ := jcells hB hl (List.getElem?_eq_getElem (show j < B.length by omega))
      rw [hj2] at a1
      cases a1
      rw [a2, jgE_comp, hx] at h3
      exact h3
    · rw [jput_ne is A _ k hki] at hx
      have h3 := hP k _ (jgW_get hx)
      refine h3.kept (hk _ h3.lt (fun h => ?_))
      rcases h with ⟨j, e9, h⟩ | h
      · obtain ⟨b, hb, hb2⟩ := jgW_of h
        obtain ⟨i', a1, a2, a3⟩ := jcells hB hl hb
        have h4 : ad k = ad i' := by
          have := congrArg Prod.fst hb2
          simp only at this
          rw [← a2]
          exact this
        have h5 := hD.1 k i' _ _ (jgW_get hx) (jgW_get a3) h4
        exact hki (by rw [h5]; exact List.mem_of_getElem? a1)
      · have := h3.lt
        simp only at this h
        omega
  have hDn : va_D A0 (jgW cy ad (jput A is (B'.map (jrE (jr is))))) := by
    have key : ∀ (k : Nat) (q : Nat × va_E), (jgW cy ad (jput A is (B'.map (jrE (jr is)))))[k]? = some q → ∃ q', (jgW cy ad A)[k]? = some q' ∧ q'.1 = q.1 := by
      intro k q hq
      obtain ⟨x, hx, rfl⟩ := jgW_of hq
      have hk : k < A.length := by rw [← jput_len is A (B'.map (jrE (jr is)))]; exact (List.getElem?_eq_some_iff.mp hx).1
      exact ⟨_, jgW_get (List.getElem?_eq_getElem hk), rfl⟩
    refine ⟨fun i j x y hi hj hxy => ?_, fun k q hk => ?_⟩
    · obtain ⟨x', a1, a2⟩ := key i x hi
      obtain ⟨y', b1, b2⟩ := key j y hj
      exact hD.1 i j x' y' a1 b1 (by rw [a2, b2]; exact hxy)
    · obtain ⟨q', a1, a2⟩ := key k q hk
      rw [← a2]
      exact hD.2 k q' a1
  have hSn : va_S A0 s.heap T'.heap (locs ++ L') := ⟨Nat.le_trans hS.1 (by rw [e1]; exact hz), fun q h1 h2 => by rw [e1, hk q (Nat.lt_of_lt_of_le h1 hS.1) (fun z => h2 (hA1 q z))]; exact hS.2.1 q h1 h2, fun q hq => by
      rcases List.mem_append.mp hq with h | h
      · exact hS.2.2 q h
      · exact hA1 _ (hL q h)⟩
  rw [← e1] at hPn
  obtain ⟨t2, a1, b1⟩ := kJ l p e s m args below meth c dC dI cy A0 ad0 ad T'.heap (locs ++ L') ls hSc (hX.wor (jput_len _ _ _) hPn hDn hSn) T' rfl X'
  refine ⟨t2, st9 t2 ?_, b1⟩
  have hst : (((r.map (jg (jr is))).toList ++ rest).map (jg ad)) = (r.map (jg (fun k => ad (jr is k)))).toList ++ rest.map (jg ad) := by
    cases r with
    | none => simp
    | some v => simp [jg_comp]
  rw [hst] at a1
  exact a1
theorem JX.cv {i ci o n1 : Nat} {fs : List Value} {L0 : List (Option Value)} (hm : jmOK K') (hc : jcV K.1 i K' ci as.length) (hJ : J K' n1 Q' 0 L0 [] B 0 0) (d : decode K.2.1 pc = .ok (.invokevirtual i, 3)) (hn1 : B.length = n1)
    (hst : st = (as.map (jg (jr is))).reverse ++ .ref (jr is o) :: rest) (ho : A[jr is o]? = some (.inr (ci, fs))) (hB : is.map (fun i => A[i]?) = B.map (fun b => some (jrE (jr is) b))) (hL : jent K'.2.2.1 (.ref o :: as) = L0) (hl0 : L0.length = K'.2.2.1)
    (hnum : (decide (B.length < 1000) && va_nd is && decide ((rest.map fun v => v.category).sum ≤ 8) && jroom K K' && decide (cells ≤ K.2.2.2.2.2.cells) && decide (slots ≤ K.2.2.2.2.2.slots)) = true)
    (kk : ∀ r B', Q' r B' → B'.length = B.length ∧ JX N9 xs K n0 Q (pc + 3) L ((r.map (jg (jr is))).toList ++ rest) (jput A is (B'.map (jrE (jr is)))) cells slots) : JX N9 xs K n0 Q pc L st A cells slots := by
  subst hn1
  intro l p e s m args below meth c dC dI cy A0 ad0 ad H locs ls hSc hX
  simp only [jroom, Bool.and_eq_true, decide_eq_true_eq] at hnum
  obtain ⟨⟨⟨⟨⟨hl, hnd⟩, hcat⟩, hrc, hrs, hrf, hrl⟩, hce⟩, hsl⟩ := hnum
  obtain ⟨hlk, hinst, hsel, hpar, hci⟩ := hc
  have hts := hX.1.2.2.2.2.2.1
  have hpre := jpre (as := .ref o :: as) hX hB hl hnd
  have hM := J.met hm hJ hL hl0 l dC dI cy (fun k => ad (jr is k)) H.size
  rw [hrc, hrs] at hM
  have hstk : (F0 m pc ls (st.map (jg ad))).stack = (as.map (jg (fun k => ad (jr is k)))).reverse ++ .ref (ad (jr is o)) :: rest.map (jg ad) := by
    show st.map (jg ad) = _
    rw [hst, List.map_append, List.map_reverse, List.map_map, List.map_cons]
    congr 2
    apply List.map_congr_left
    intro v _
    exact (jg_comp ad (jr is) v).symm
  have hcat2 : ((rest.map (jg ad)).map fun v => v.category).sum ≤ 8 := by
    rw [List.map_map]
    have : ((fun v => Value.category v) ∘ jg ad) = fun v => v.category := funext fun v => jg_cat ad v
    rw [this]
    exact hcat
  obtain ⟨q, hq1, hq2⟩ : ∃ q, jCl[ci]? = some q ∧ q.1 = K'.2.2.2.1.cls := by
    simpa [Option.map_eq_some_iff] using hci
  have hrec := va_recv hX.1.2.2.2.2.2.2.2.2.1.2.1 hX.2.2.2.1 hq1 (jgW_get ho)
  rw [hq2] at hrec
  refine jbackX (a := (.ref (ad (jr is o)) :: as.map (jg (fun k => ad (jr is k)))).toArray) hX hSc hB hl hnd ?_ kk
  rcases hlk with hlk | ⟨host, hlk⟩
  · exact va_runV (own := K.1) (C := K'.2.2.2.1.cls) (bytes := K'.2.1) (maxL := K'.2.2.1) (ret := K'.2.2.2.2.1) (n := as.length) ⟨hX.1.1, hX.1.2.1, hX.1.2.2.2.1, hX.1.2.2.2.2.1, hts⟩ hM ⟨callB_of as.length hts (jgood hm) rfl hrc hrs (hts _ hm.2.2.2.1) (hts _ hlk) ⟨hm.2.2.2.2.1, hm.2.2.2.2.2, hpar⟩ ⟨hrf, hrl⟩, hts _ hinst, hts _ hsel⟩ ⟨hpre.1, hrec, hpre.2⟩ rfl (by simp) hX.2.2.2.2.2.2.1 hstk (lv_room hcat2) d ⟨hce, hsl⟩
  · exact va_runVN (own := K.1) (C := K'.2.2.2.1.cls) (bytes := K'.2.1) (maxL := K'.2.2.1) (ret := K'.2.2.2.2.1) (n := as.length) ⟨hX.1.1, hX.1.2.1, hX.1.2.2.2.1, hX.1.2.2.2.2.1, hts⟩ hM ⟨va_cnB as.length hts (jgood hm) rfl hrc hrs (hX.1.2.2.2.2.2.2.2.2.1.1 _ hlk) (hts _ hm.2.2.2.1) ⟨hm.2.2.2.2.1, hm.2.2.2.2.2, hpar⟩ ⟨hrf, hrl⟩, hts _ hinst, hts _ hsel⟩ ⟨hpre.1, hrec, hpre.2⟩ rfl (by simp) hX.2.2.2.2.2.2.1 hstk (lv_room hcat2) d ⟨hce, hsl⟩
theorem jbackNX (hX : jX K n0 p s m args meth c dC dI cy A0 ad0 ad H locs ls L A) (hSc : jSc N9 xs s A0 ad0) (hB : is.map (fun i => A[i]?) = B.map (fun b => some (jrE (jr is) b))) (hl : B.length < 1000) (hnd : va_nd is = true) (hn0 : n0 ≤ A.length) (hcA : jclW A.length A) (hcL : jclL A.length L) (hcr : jclV A.length rest) {a : Array Value} {st0 : List Value} {mc ms : Nat}
    (hr : va_Run p l e K.2.2.2.2.2 s m args below meth c H locs cells slots mc ms (F0 m pc ls st0) (rest.map (jg ad)) (jQ Q' dC dI cy (va_A (jgW cy (fun k => ad (jr is k)) B) H.size) B.length (fun k => ad (jr is k)) a) (va_A (jgW cy (fun k => ad (jr is k)) B) H.size))
    (kk : ∀ r B', Q' r B' → B.length ≤ B'.length ∧ A.length + B'.length < 1000 ∧ jclW B'.length B' ∧ r = none ∧ JX N9 xs K n0 Q (pc + 3) L rest (jnew A is B') (cells + mc) (slots + ms)) :
    W p l e K.2.2.2.2.2 s m args below meth c H locs cells slots (MQ below (jQ Q dC dI cy A0 n0 ad0) args s K.2.2.2.2.2.cells K.2.2.2.2.2.slots A0) (F0 m pc ls st0) := by
  intro T hT X
  obtain ⟨v, st₀, t, T', L', h0, X', hL, e1, e2, ⟨⟨r, B', ad1, hv, hq, hag, hP1, hD1⟩, hz, hk⟩, st9⟩ := hr T hT X
  cases hv
  obtain ⟨hlB, hlt9, hcB, hrn, kJ⟩ := kk r B' hq
  subst hrn
  have hA1 := jfree hX hB hl
  rw [h0] at hz hk
  have hP := hX.2.2.2.1
  have hD := hX.2.2.2.2.1
  have hS := hX.2.2.2.2.2.1
  have hlen : is.length = B.length := by have := congrArg List.length hB; simpa using this
  have hlt : ∀ (j i : Nat), is[j]? = some i → i < A.length ∧ jr is j = i := by
    intro j i hj
    have hj2 : j < B.length := by have := (List.getElem?_eq_some_iff.mp hj).1; omega
    obtain ⟨i', a1, a2, a3⟩ := jcells hB hl (List.getElem?_eq_getElem hj2)
    rw [hj] at a1
    cases a1
    exact ⟨(List.getElem?_eq_some_iff.mp a3).1, a2⟩
  -- the new addresses
  obtain ⟨ad2, had2⟩ : ∃ ad2 : Nat → Nat, ad2 = fun k => if A.length ≤ k ∧ k < A.length + (B'.length - B.length) then ad1 (k - A.length + B.length) else ad k := ⟨_, rfl⟩
  have hold : ∀ k, k < A.length ∨ 1000 ≤ k → ad2 k = ad k := by
    intro k hk
    rw [had2]
    exact if_neg (by omega)
  have hout : ∀ k, A.length + (B'.length - B.length) ≤ k → ad2 k = ad k := by
    intro k hk
    rw [had2]
    exact if_neg (by omega)
  have hnew : ∀ j, B.length ≤ j → j < B'.length → ad2 (A.length + (j - B.length)) = ad1 j := by
    intro j h1 h2
    rw [had2]
    simp only
    rw [if_pos (by omega)]
    congr 1
    omega
  have hcall : ∀ k, k < B'.length ∨ 1000 ≤ k → ad2 (jr2 is A.length k) = ad1 k := by
    intro k hk
    by_cases h1 : 1000 ≤ k
    · simp only [jr2]
      rw [if_pos h1, hold k (Or.inr h1), hag k (Or.inr (by omega))]
      simp only [jr]
      rw [if_pos h1]
    · by_cases h2 : k < is.length
      · have h3 : is[k]? = some is[k] := List.getElem?_eq_getElem h2
        obtain ⟨h4, h5⟩ := hlt k _ h3
        have h6 : jr2 is A.length k = is[k] := by
          simp only [jr2]
          rw [if_neg h1, if_pos h2, List.getD_eq_getElem?_getD, h3]
          rfl
        rw [h6, hold _ (Or.inl h4), hag k (Or.inl (by omega))]
        exact congrArg ad h5.symm
      · simp only [jr2]
        rw [if_neg h1, if_neg h2, hlen]
        exact hnew k (by omega) (by omega)
  have hcell : ∀ x ∈ B', jgE cy ad1 x = jgE cy ad2 (jrE (jr2 is A.length) x) := by
    intro x hx
    rw [← jgE_comp]
    exact (jgE_same (n := B'.length) (ad := fun k => ad1 k) (ad' := fun k => ad2 (jr2 is A.length k)) hcall (hcB x hx)).symm
  have hlz : (jnew A is B').length = A.length + (B'.length - B.length) := by
    simp only [jnew, List.length_append, jput_len, List.length_map, List.length_drop]
    omega
  have hlow : ∀ (j i : Nat), is[j]? = some i → (jnew A is B')[i]? = (B'[j]?).map (jrE (jr2 is A.length)) := by
    intro j i hj
    have hj1 : j < is.length := (List.getElem?_eq_some_iff.mp hj).1
    obtain ⟨h4, -⟩ := hlt j i hj
    simp only [jnew]
    rw [List.getElem?_append_left (by rw [jput_len]; exact h4), jput_at is A _ j i hnd hj h4 (by simp; omega), List.getElem?_map, List.getElem?_take_of_lt hj1]
  have hmid : ∀ k, k < A.length → k ∉ is → (jnew A is B')[k]? = A[k]? := by
    intro k h1 h2
    simp only [jnew]
    rw [List.getElem?_append_left (by rw [jput_len]; exact h1), jput_ne is A _ k h2]
  have hhigh : ∀ k, A.length ≤ k → (jnew A is B')[k]? = (B'[B.length + (k - A.length)]?).map (jrE (jr2 is A.length)) := by
    intro k h1
    simp only [jnew]
    rw [List.getElem?_append_right (by rw [jput_len]; exact h1), jput_len, List.getElem?_map, List.getElem?_drop, hlen]
  -- where each cell of the new world comes from
  have hsrc : ∀ (k : Nat) (q : Nat × va_E), (jgW cy ad2 (jnew A is B'))[k]? = some q → (∃ j, (jgW cy ad1 B')[j]? = some q ∧ ((is[j]? = some k) ∨ (B.length ≤ j ∧ k = A.length + (j - B.length)))) ∨ (k < A.length ∧ k ∉ is ∧ (jgW cy ad A)[k]? = some q) := by
    intro k q hq9
    obtain ⟨x, hx, rfl⟩ := jgW_of hq9
    by_cases h1 : k < A.length
    · by_cases h2 : k ∈ is
      · obtain ⟨j, hj, rfl⟩ := List.getElem_of_mem h2
        have hj2 : is[j]? = some is[j] := List.getElem?_eq_getElem hj
        rw [hlow j _ hj2] at hx
        have hjB : j < B'.length := by omega
        rw [List.getElem?_eq_getElem hjB] at hx
        simp only [Option.map_some, Option.some.injEq] at hx
        refine Or.inl ⟨j, ?_, Or.inl hj2⟩
        rw [jgW_get (List.getElem?_eq_getElem hjB), hcell _ (List.getElem_mem hjB), hx]
        have h6 := hcall j (Or.inl hjB)
        have h7 : jr2 is A.length j = is[j] := by
          simp only [jr2]
          rw [if_neg (by omega), if_pos hj, List.getD_eq_getElem?_getD, hj2]
          rfl
        rw [h7] at h6
        rw [h6]
      · rw [hmid k h1 h2] at hx
        refine Or.inr ⟨h1, h2, ?_⟩
        rw [jgW_get hx, hold k (Or.inl h1), jgE_same hold (hcA x (List.mem_of_getElem? hx))]
    · rw [hhigh k (by omega)] at hx
      obtain ⟨b, hb, rfl⟩ := Option.map_eq_some_iff.mp hx
      refine Or.inl ⟨B.length + (k - A.length), ?_, Or.inr ⟨by omega, by omega⟩⟩
      have hjB := (List.getElem?_eq_some_iff.mp hb).1
      rw [jgW_get hb, hcell b (List.mem_of_getElem? hb), ← hnew _ (by omega) hjB]
      congr 2
      congr 1
      omega
  have hapart : ∀ (k : Nat) (q : Nat × va_E), k ∉ is → (jgW cy ad A)[k]? = some q → q.1 < H.size ∧ ¬ va_A (jgW cy (fun k => ad (jr is k)) B) H.size q.1 := by
    intro k q hki hq9
    have h3 := hP k q hq9
    refine ⟨h3.lt, fun h => ?_⟩
    obtain ⟨x, hx, rfl⟩ := jgW_of hq9
    rcases h with ⟨j, e9, h⟩ | h
    · obtain ⟨b, hb, hb2⟩ := jgW_of h
      obtain ⟨i', a1, a2, a3⟩ := jcells hB hl hb
      have h4 : ad k = ad i' := by
        have := congrArg Prod.fst hb2
        simp only at this
        rw [← a2]
        exact this
      have h5 := hD.1 k i' _ _ (jgW_get hx) (jgW_get a3) h4
      exact hki (by rw [h5]; exact List.mem_of_getElem? a1)
    · have := h3.lt
      simp only at this h
      omega
  have hPn : va_P (dC, dI) jCl (jgW cy ad2 (jnew A is B')) t.heap := by
    intro k q hq9
    rcases hsrc k q hq9 with ⟨j, h1, -⟩ | ⟨h1, h2, h3⟩
    · exact hP1 j q h1
    · obtain ⟨g1, g2⟩ := hapart k q h2 h3
      exact (hP k q h3).kept (hk _ g1 g2)
  have hDn : va_D A0 (jgW cy ad2 (jnew A is B')) := by
    refine ⟨fun i j x y hi hj hxy => ?_, fun k q hk9 => ?_⟩
    · rcases hsrc i x hi with ⟨i', a1, a2⟩ | ⟨a1, a2, a3⟩ <;> rcases hsrc j y hj with ⟨j', b1, b2⟩ | ⟨b1, b2, b3⟩
      · have hij := hD1.1 i' j' x y a1 b1 hxy
        subst hij
        rcases a2 with a2 | a2 <;> rcases b2 with b2 | b2
        · rw [a2] at b2
          exact Option.some.inj b2
        · have := (List.getElem?_eq_some_iff.mp a2).1
          omega
        · have := (List.getElem?_eq_some_iff.mp b2).1
          omega
        · omega
      · exact absurd (hD1.2 i' x a1) (by rw [hxy]; exact (hapart j y b2 b3).2)
      · exact absurd (hD1.2 j' y b1) (by rw [← hxy]; exact (hapart i x a2 a3).2)
      · exact hD.1 i j x y a3 b3 hxy
    · rcases hsrc k q hk9 with ⟨j, h1, -⟩ | ⟨h1, h2, h3⟩
      · exact hA1 _ (hD1.2 j q h1)
      · exact hD.2 k q h3
  have hSn : va_S A0 s.heap T'.heap (locs ++ L') := ⟨Nat.le_trans hS.1 (by rw [e1]; exact hz), fun q h1 h2 => by rw [e1, hk q (Nat.lt_of_lt_of_le h1 hS.1) (fun z => h2 (hA1 q z))]; exact hS.2.1 q h1 h2, fun q hq => by
      rcases List.mem_append.mp hq with h | h
      · exact hS.2.2 q h
      · exact hA1 _ (hL q h)⟩
  rw [← e1] at hPn
  obtain ⟨⟨h1, h2, h3, h4, h5, h6, h7, h8, h9, h10⟩, g1, g2, g3, g4, g5, g6⟩ := hX
  have hX' : jX K n0 p s m args meth c dC dI cy A0 ad0 ad2 T'.heap (locs ++ L') ls L (jnew A is B') := by
    refine ⟨⟨h1, h2, h3, h4, h5, h6, h7, h8, h9, h10.ad (fun k hk => hold k (Or.inr hk))⟩, fun k hk9 => ?_, g2, hPn, hDn, hSn, g6.1, g6.2.1, fun i v hv => ?_⟩
    · rw [hlz] at hk9
      rcases hk9 with hk9 | hk9
      · rw [hold k (Or.inl (by omega))]
        exact g1 k (Or.inl hk9)
      · rw [hout k hk9]
        exact g1 k (Or.inr (by omega))
    · rw [jg_same hold (fun k e9 => hcL k (by rw [← e9]; exact List.mem_of_getElem? hv))]
      exact g6.2.2 i v hv
  obtain ⟨t2, a1, b1⟩ := kJ l p e s m args below meth c dC dI cy A0 ad0 ad2 T'.heap (locs ++ L') ls hSc hX' T' rfl X'
  refine ⟨t2, st9 t2 ?_, b1⟩
  rw [jgVs_same hold hcr] at a1
  exact a1
theorem JX.ci {i o n1 : Nat} {L0 : List (Option Value)} (hm : jmOK K') (hc : jcI K.1 i K' as.length) (hJ : J K' n1 Q' 0 L0 [] B 0 0) (d : decode K.2.1 pc = .ok (.invokespecial i, 3)) (hn1 : B.length = n1)
    (hst : st = (as.map (jg (jr is))).reverse ++ .ref (jr is o) :: rest) (hB : is.map (fun i => A[i]?) = B.map (fun b => some (jrE (jr is) b))) (hL : jent K'.2.2.1 (.ref o :: as) = L0) (hl0 : L0.length = K'.2.2.1)
    (hnum : (decide (B.length < 1000) && va_nd is && decide ((rest.map fun v => v.category).sum ≤ 8) && decide (K'.2.2.2.2.2.frames + 1 ≤ K.2.2.2.2.2.frames ∧ 8 + (K'.2.2.1 + 11) + K'.2.2.2.2.2.locals ≤ K.2.2.2.2.2.locals) && decide (cells + K'.2.2.2.2.2.cells ≤ K.2.2.2.2.2.cells) && decide (slots + K'.2.2.2.2.2.slots ≤ K.2.2.2.2.2.slots)) = true)
    (hn0 : n0 ≤ A.length) (hcA : jclW A.length A) (hcL : jclL A.length L) (hcr : jclV A.length rest)
    (kk : ∀ r B', Q' r B' → B.length ≤ B'.length ∧ A.length + B'.length < 1000 ∧ jclW B'.length B' ∧ r = none ∧ JX N9 xs K n0 Q (pc + 3) L rest (jnew A is B') (cells + K'.2.2.2.2.2.cells) (slots + K'.2.2.2.2.2.slots)) : JX N9 xs K n0 Q pc L st A cells slots := by
  subst hn1
  intro l p e s m args below meth c dC dI cy A0 ad0 ad H locs ls hSc hX
  simp only [Bool.and_eq_true, decide_eq_true_eq] at hnum
  obtain ⟨⟨⟨⟨⟨hl, hnd⟩, hcat⟩, hrf, hrl⟩, hce⟩, hsl⟩ := hnum
  obtain ⟨hlk, hinst, hname, hret, hpar⟩ := hc
  have hts := hX.1.2.2.2.2.2.1
  have hpre := jpre (as := .ref o :: as) hX hB hl hnd
  have hM := J.met hm hJ hL hl0 l dC dI cy (fun k => ad (jr is k)) H.size
  have hstk : (F0 m pc ls (st.map (jg ad))).stack = (as.map (jg (fun k => ad (jr is k)))).reverse ++ .ref (ad (jr is o)) :: rest.map (jg ad) := by
    show st.map (jg ad) = _
    rw [hst, List.map_append, List.map_reverse, List.map_map, List.map_cons]
    congr 2
    apply List.map_congr_left
    intro v _
    exact (jg_comp ad (jr is) v).symm
  have hcat2 : ((rest.map (jg ad)).map fun v => v.category).sum ≤ 8 := by rw [jcatm]; exact hcat
  have hw9 : (Cond.code K'.2.2.2.1 K'.2.1 K'.2.2.1 K'.2.2.2.2.1 :: jTs) = Cond.code K'.2.2.2.1 K'.2.1 K'.2.2.1 none :: jTs := by rw [hret]
  have hg := jgood hm
  rw [hw9] at hM hg
  refine jbackNX (a := (.ref (ad (jr is o)) :: as.map (jg (fun k => ad (jr is k)))).toArray) hX hSc hB hl hnd hn0 hcA hcL hcr ?_ kk
  rcases hlk with hlk | ⟨host, hlk⟩
  · exact va_runI (own := K.1) (bytes := K'.2.1) (maxL := K'.2.2.1) (n := as.length) ⟨hX.1.1, hX.1.2.1, hX.1.2.2.2.1, hX.1.2.2.2.2.1, hts⟩ hM (cwI as.length hts hg rfl rfl rfl (hts _ hm.2.2.2.1) (hts _ hlk) (hts _ hinst) hname ⟨hm.2.2.2.2.1, hm.2.2.2.2.2, hpar⟩ ⟨hrf, hrl⟩) hpre rfl (by simp) hX.2.2.2.2.2.2.1 hstk (lv_room hcat2) d ⟨hce, hsl⟩
  · exact va_runIN (own := K.1) (bytes := K'.2.1) (maxL := K'.2.2.1) (n := as.length) ⟨hX.1.1, hX.1.2.1, hX.1.2.2.2.1, hX.1.2.2.2.2.1, hts⟩ hM ⟨va_cnB as.length hts hg rfl rfl rfl (hX.1.2.2.2.2.2.2.2.2.1.1 _ hlk) (hts _ hm.2.2.2.1) ⟨hm.2.2.2.2.1, hm.2.2.2.2.2, hpar⟩ ⟨hrf, hrl⟩, hname, hts _ hinst⟩ hpre rfl (by simp) hX.2.2.2.2.2.2.1 hstk (lv_room hcat2) d ⟨hce, hsl⟩
end JXC
theorem JX.cvC {N9 : Nat} {xs : Nat → Int32} {K K' : jM} {n0 : Nat} {Q Q' : Option Value → jW → Prop} {pc : Nat} {L : List (Option Value)} {st' rest as : List Value} {W0 : jW} {cells slots : Nat} {i : Nat} {L0 : List (Option Value)} (rs : Nat → rT) (v : Nat → Nat → Nat) (q : rT) (x : Nat → Nat) (n : Nat → Int64) (u : uT) (c : Nat → Nat → Int32) (l : Nat → Int32) (tn : Int32) (R : jW) (hm : jmOK K') (hc : jcV K.1 i K' 6 as.length) (hJ : J K' 62 Q' 0 L0 [] (wC rs v q x n u c l tn) 0 0) (d : decode K.2.1 pc = .ok (.invokevirtual i, 3)) (hA : W0 = wC rs v q x n u c l tn ++ R)
    (hst : st' = (as.map (jg (jr all62))).reverse ++ .ref 0 :: rest) (hL : jent K'.2.2.1 (.ref 0 :: as) = L0) (hl0 : L0.length = K'.2.2.1)
    (hnum : (decide (62 < 1000) && va_nd all62 && decide ((rest.map fun v => v.category).sum ≤ 8) && jroom K K' && decide (cells ≤ K.2.2.2.2.2.cells) && decide (slots ≤ K.2.2.2.2.2.slots)) = true)
    (kk : ∀ r9 B', Q' r9 B' → ∃ rs' v' q' x' n' u' c' l' tn', B' = wC rs' v' q' x' n' u' c' l' tn' ∧ JX N9 xs K n0 Q (pc + 3) L ((r9.map (jg (jr all62))).toList ++ rest) (wC rs' v' q' x' n' u' c' l' tn' ++ R) cells slots) : JX N9 xs K n0 Q pc L st' W0 cells slots := by
  subst hA
  refine JX.cv (as := as) (is := all62) (o := 0) (rest := rest) hm hc hJ d rfl hst rfl (wC_in rs v q x n u c l tn R) hL hl0 hnum (fun r9 B' h9 => ?_)
  obtain ⟨rs', v', q', x', n', u', c', l', tn', rfl, h8⟩ := kk r9 B' h9
  refine ⟨rfl, ?_⟩
  rw [wC_out]
  exact h8
