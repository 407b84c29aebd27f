/-! ===== the logic: runs of a method over a world whose cells are numbered; a reference is a cell's number ===== -/
abbrev jE : Type := (Nat × vp_A) ⊕ (Nat × List Value)
abbrev jW : Type := List jE
def jg (ad : Nat → Nat) (v : Value) : Value := match v with
  | .ref k => .ref (ad k)
  | v => v
def jgA (ad : Nat → Nat) (a : vp_A) : vp_A := (a.1, match a.2 with
  | .inr (.inr (.inr (.inr f))) => .inr (.inr (.inr (.inr (fun j => (f j).map ad))))
  | x => x)
def jgE (cy : Nat → ClassId) (ad : Nat → Nat) (x : jE) : va_E := match x with
  | .inl (t, a) => .inl (cy t, jgA ad a)
  | .inr (c, fs) => .inr (c, fs.map (jg ad))
/-- a cell whose references are numbered anew -/
def jrE (ro : Nat → Nat) (x : jE) : jE := match x with
  | .inl (t, a) => .inl (t, jgA ro a)
  | .inr (c, fs) => .inr (c, fs.map (jg ro))
def jgW (cy : Nat → ClassId) (ad : Nat → Nat) (A : jW) : va_W := A.mapIdx (fun k x => (ad k, jgE cy ad x))
theorem jgW_get {cy : Nat → ClassId} {ad : Nat → Nat} {A : jW} {k : Nat} {x : jE} (h : A[k]? = some x) : (jgW cy ad A)[k]? = some (ad k, jgE cy ad x) := by
  simp [jgW, h]
theorem jgW_of {cy : Nat → ClassId} {ad : Nat → Nat} {A : jW} {k : Nat} {q : Nat × va_E} (h : (jgW cy ad A)[k]? = some q) : ∃ x, A[k]? = some x ∧ q = (ad k, jgE cy ad x) := by
  simp only [jgW, List.getElem?_mapIdx, Option.map_eq_some_iff] at h
  obtain ⟨x, h1, h2⟩ := h
  exact ⟨x, h1, h2.symm⟩
theorem jgW_set {cy : Nat → ClassId} {ad : Nat → Nat} {A : jW} {k : Nat} {x : jE} : (jgW cy ad A).set k (ad k, jgE cy ad x) = jgW cy ad (A.set k x) := by
  apply List.ext_getElem?
  intro i
  simp only [jgW, List.getElem?_set, List.getElem?_mapIdx, List.length_mapIdx]
  by_cases h : k = i
  · subst h
    by_cases h2 : k < A.length <;> simp [h2]
  · simp [h]
theorem jgW_len {cy : Nat → ClassId} {ad : Nat → Nat} {A : jW} : (jgW cy ad A).length = A.length := by simp [jgW]
theorem jg_comp (ad ro : Nat → Nat) (v : Value) : jg (fun k => ad (ro k)) v = jg ad (jg ro v) := by cases v <;> rfl
theorem jgA_comp (ad ro : Nat → Nat) (a : vp_A) : jgA (fun k => ad (ro k)) a = jgA ad (jgA ro a) := by
  obtain ⟨n, f | f | f | f | f⟩ := a <;> first | rfl | (simp only [jgA, Option.map_map]; rfl)
theorem jgE_comp (cy : Nat → ClassId) (ad ro : Nat → Nat) (x : jE) : jgE cy (fun k => ad (ro k)) x = jgE cy ad (jrE ro x) := by
  obtain ⟨t, a⟩ | ⟨c, fs⟩ := x
  · simp only [jgE, jrE, jgA_comp]
  · simp only [jgE, jrE, List.map_map]
    congr 2
    apply List.map_congr_left
    intro v _
    exact jg_comp ad ro v
theorem jg_cat (ad : Nat → Nat) (v : Value) : (jg ad v).category = v.category := by cases v <;> rfl
/-- words, classes, kinds of array -/
def jTs : List Cond := lw_tbl.filter goodWord
def jNb (c : Cond) : Bool := match c with
  | .fieldLinkNest .. => true
  | .methodLinkNest .. => true
  | _ => false
def jNs : List Cond := tables_1.filter jNb
abbrev jCl : List vw_C := [(RX0, TX0, 12), (RX1, TX1, 11), (RX2, TX2, 13), (RX3, TX3, 3), (RX4, TX4, 3), (RX5, TX5, 2), (RX6, TX6, 9), (RX7, TX7, 42)]
abbrev jTys (cy : Nat → ClassId) : List (ClassId × FieldType) := [(cy 0, .int), (cy 1, .long), (cy 2, .byte), (cy 3, .boolean), (cy 4, .object RX2), (cy 5, .object RX4)]
/-- the String constants of the class Reader: their lengths, bytes, places in its pool, texts -/
def jlen : List Nat := [4, 5, 4, 4, 7, 4, 4, 3, 4, 5, 6]
def jbyt : List (List Int32) := [[104, 97, 105, 114], [112, 108, 97, 105, 110], [100, 97, 109, 112], [100, 121, 101, 100], [100, 111, 117, 98, 108, 101, 100], [115, 117, 110, 103], [107, 105, 110, 103], [108, 97, 119], [108, 111, 97, 100], [112, 114, 105, 122, 101], [98, 114, 111, 107, 101, 110]]
def jidx : List Nat := [71, 147, 149, 151, 153, 155, 83, 88, 93, 98, 103]
def jtx : List String := ["hair", "plain", "damp", "dyed", "doubled", "sung", "king", "law", "load", "prize", "broken"]
def jS (ad : Nat → Nat) (A0 : Nat → Prop) (s : State) (H : Heap) : Prop :=
  vk_S 11 jlen jbyt (fun i => ad (1000 + i)) (fun i => ad (2000 + i)) A0 s H ∧ (∀ i, i < 11 → vk_R RX1 (jidx.getD i 0) (jtx.getD i "") (ad (1000 + i)) s) ∧
  va_Z "java/lang/String" "COMPACT_STRINGS" "Z" (.int 1) A0 s H ∧ (va_Z "jdk/internal/util/Preconditions" "SIOOBE_FORMATTER" "Ljava/util/function/BiFunction;" .null A0 s H ∨ va_Z "jdk/internal/util/Preconditions" "SIOOBE_FORMATTER" "Ljava/util/function/BiFunction;" (.ref (ad 3000)) A0 s H)
/-- what holds of the tables in every state -/
def jU (dC : Nat → ClassId) (dI : Nat → Nat → Nat) (cy : Nat → ClassId) (s : State) : Prop :=
  (∀ w ∈ jNs, va_Nw w s) ∧ va_K (dC, dI) jCl (jTys cy) s ∧ va_AO RX2 s ∧ va_AO RX4 s
theorem jU.warm {dC : Nat → ClassId} {dI : Nat → Nat → Nat} {cy : Nat → ClassId} {s U : State} (h : jU dC dI cy s) (hW : s.WarmedH U.vm) : jU dC dI cy U := by
  refine ⟨fun w hw => ?_, va_K.moved hW.alike h.2.1, va_AO.moved hW.alike h.2.2.1, va_AO.moved hW.alike h.2.2.2⟩
  have h1 := h.1 w hw
  have h2 := (List.mem_filter.mp hw).2
  cases w <;> first | exact va_Nw.warmF hW h1 | exact va_Nw.warmM hW h1 | (exfalso; revert h2; simp [jNb])
theorem jU.same {dC : Nat → ClassId} {dI : Nat → Nat → Nat} {cy : Nat → ClassId} {s U : State} (h : jU dC dI cy s) (hv : s.vm = U.vm) : jU dC dI cy U := by
  have ha : s.vm.Alike U.vm := by rw [← hv]; exact Vm.Alike.refl s.vm
  refine ⟨fun w hw => ?_, va_K.moved ha h.2.1, va_AO.moved ha h.2.2.1, va_AO.moved ha h.2.2.2⟩
  have h1 := h.1 w hw
  have h2 := (List.mem_filter.mp hw).2
  cases w <;> first | exact va_Nw.same rfl hv h1 | (exfalso; revert h2; simp [jNb])
theorem jS.step {ad : Nat → Nat} {A0 A1 : Nat → Prop} {s U : State} {H0 H : Heap} (h : jS ad A0 s H0) (hW : s.WarmedH U.vm) (hq : ∀ a : Nat, a < H0.size → ¬ A0 a → H[a]? = H0[a]?) (hA : ∀ q, A1 q → A0 q) : jS ad A1 U H :=
  ⟨((vk_S.moved hW.alike h.1).kept hq).narrow hA, fun i hi => vk_R.warm hW (h.2.1 i hi), ((va_Z.moved hW.alike h.2.2.1).kept hq).narrow hA, h.2.2.2.imp (fun h => ((va_Z.moved hW.alike h).kept hq).narrow hA) (fun h => ((va_Z.moved hW.alike h).kept hq).narrow hA)⟩
theorem jS.same {ad : Nat → Nat} {A0 : Nat → Prop} {s U : State} {H : Heap} (h : jS ad A0 s H) (hv : s.vm = U.vm) : jS ad A0 U H := by
  have ha : s.vm.Alike U.vm := by rw [← hv]; exact Vm.Alike.refl s.vm
  exact ⟨vk_S.moved ha h.1, fun i hi => vk_R.same hv.symm (h.2.1 i hi), va_Z.moved ha h.2.2.1, h.2.2.2.imp (fun h => va_Z.moved ha h) (fun h => va_Z.moved ha h)⟩
theorem jS.ad {ad ad' : Nat → Nat} {A0 : Nat → Prop} {s : State} {H : Heap} (h : jS ad A0 s H) (he : ∀ k, 1000 ≤ k → ad' k = ad k) : jS ad' A0 s H := by
  have e1 : (fun i => ad' (1000 + i)) = (fun i => ad (1000 + i)) := funext fun i => he _ (by omega)
  have e2 : (fun i => ad' (2000 + i)) = (fun i => ad (2000 + i)) := funext fun i => he _ (by omega)
  unfold jS
  rw [e1, e2, he 3000 (by omega)]
  exact ⟨h.1, fun i hi => by rw [he _ (by omega)]; exact h.2.1 i hi, h.2.2⟩
/-- a method: its class, code, locals, name, answer's type, room -/
abbrev jM : Type := String × ByteArray × Nat × MethodName × Option FieldType × Room
def jL (ad : Nat → Nat) (ls : Array Slot) (n : Nat) (L : List (Option Value)) : Prop := ls.size = n ∧ lv_wf ls ∧ ∀ (i : Nat) (v : Value), L[i]? = some (some v) → ls[i]? = some (.val (jg ad v))
/-- where a method stands -/
def jX (K : jM) (n0 : Nat) (p : Program) (s : State) (m : MethodId) (args : Array Value) (meth : Method) (c : Code) (dC : Nat → ClassId) (dI : Nat → Nat → Nat) (cy : Nat → ClassId) (A0 : Nat → Prop) (ad0 ad : Nat → Nat) (H : Heap) (locs : List Loc) (ls : Array Slot) (L : List (Option Value)) (A : jW) : Prop :=
  (p.tables.exec = Jvm.exec ∧ c.code = K.2.1 ∧ meth.sig.returnType = K.2.2.2.2.1 ∧ c.maxLocals = K.2.2.1 ∧ s.vm.findClass K.1 = some m.cls ∧ (∀ w ∈ jTs, w.before args s = true) ∧ meth.locks = false ∧ meth.name = K.2.2.2.1.name ∧ jU dC dI cy s ∧ jS ad A0 s s.heap) ∧
  (∀ k, k < n0 ∨ A.length ≤ k → ad k = ad0 k) ∧ (∀ q, s.heap.size ≤ q → A0 q) ∧ va_P (dC, dI) jCl (jgW cy ad A) H ∧ va_D A0 (jgW cy ad A) ∧ va_S A0 s.heap H locs ∧ jL ad ls K.2.2.1 L
def jQ (Q : Option Value → jW → Prop) (dC : Nat → ClassId) (dI : Nat → Nat → Nat) (cy : Nat → ClassId) (A0 : Nat → Prop) (n0 : Nat) (ad0 : Nat → Nat) : Array Value → State → Outcome → State → Prop := fun _ st oc t =>
  (∃ (r : Option Value) (A' : jW) (ad' : Nat → Nat), oc = .returned (r.map (jg ad')) ∧ Q r A' ∧ (∀ k, k < n0 ∨ A'.length ≤ k → ad' k = ad0 k) ∧ va_P (dC, dI) jCl (jgW cy ad' A') t.heap ∧ va_D A0 (jgW cy ad' A')) ∧ va_F A0 st t
/-- from this place on the method comes to its end, with Q of its answer and of the world -/
def J (K : jM) (n0 : Nat) (Q : Option Value → jW → Prop) (pc : Nat) (L : List (Option Value)) (st : List Value) (A : jW) (cells slots : Nat) : Prop :=
  ∀ (l : Launch) (p : Program) (e : Env) (s : State) (m : MethodId) (args : Array Value) (below : List Frame) (meth : Method) (c : Code) (dC : Nat → ClassId) (dI : Nat → Nat → Nat) (cy : Nat → ClassId) (A0 : Nat → Prop) (ad0 ad : Nat → Nat) (H : Heap) (locs : List Loc) (ls : Array Slot),
    jX K n0 p s m args meth c dC dI cy A0 ad0 ad H locs ls L A →
    W p l e K.2.2.2.2.2 s m args below meth c H locs cells slots (MQ below (jQ Q dC dI cy A0 n0 ad0) args s K.2.2.2.2.2.cells K.2.2.2.2.2.slots A0) (F0 m pc ls (st.map (jg ad)))
section JR
variable {K : jM} {n0 : Nat} {Q : Option Value → jW → Prop} {pc : Nat} {L : List (Option Value)} {st : List Value} {A : jW} {cells slots : Nat}
theorem J.weaken {Q' : Option Value → jW → Prop} (h : J K n0 Q pc L st A cells slots) (hQ : ∀ r A', Q r A' → Q' r A') : J K n0 Q' pc L st A cells slots := by
  intro l p e s m args below meth c dC dI cy A0 ad0 ad H locs ls hX T hT X
  obtain ⟨t, h1, o, h2, h3, ⟨⟨r, A', ad', e1, e2, e3⟩, e4⟩, h5⟩ := h l p e s m args below meth c dC dI cy A0 ad0 ad H locs ls hX T hT X
  exact ⟨t, h1, o, h2, h3, ⟨⟨r, A', ad', e1, hQ r A' e2, e3⟩, e4⟩, h5⟩
theorem J.at {L' : List (Option Value)} {st' : List Value} {A' : jW} (h : J K n0 Q pc L st A cells slots) (h1 : L = L') (h2 : st = st') (h3 : A = A') : J K n0 Q pc L' st' A' cells slots := by
  subst h1; subst h2; subst h3; exact h
/-- a world whose cells are the same cells -/
theorem J.world {A' : jW} (h : J K n0 Q pc L st A' cells slots) (hA : ∀ cy ad H dC dI, va_P (dC, dI) jCl (jgW cy ad A) H → va_P (dC, dI) jCl (jgW cy ad A') H) (hl : A'.length = A.length) : J K n0 Q pc L st A cells slots := by
  intro l p e s m args below meth c dC dI cy A0 ad0 ad H locs ls hX
  refine h l p e s m args below meth c dC dI cy A0 ad0 ad H locs ls ⟨hX.1, by rw [hl]; exact hX.2.1, hX.2.2.1, hA _ _ _ _ _ hX.2.2.2.1, ?_, hX.2.2.2.2.2⟩
  have hD := hX.2.2.2.2.1
  have key : ∀ (k : Nat) (q : Nat × va_E), (jgW cy ad A')[k]? = some q → ∃ q', (jgW cy ad A)[k]? = some q' ∧ q'.1 = q.1 := by
    intro k q hq
    obtain ⟨x, hx, rfl⟩ := jgW_of hq
    have hk : k < A.length := by rw [← hl]; exact (List.getElem?_eq_some_iff.mp hx).1
    exact ⟨_, jgW_get (List.getElem?_eq_getElem hk), rfl⟩
  refine ⟨fun i j x y hi hj hxy => ?_, fun k q hk => ?_⟩
  · obtain ⟨x', a1, a2⟩ := key i x hi
    obtain ⟨y', b1, b2⟩ := key j y hj
    exact hD.1 i j x' y' a1 b1 (by rw [a2, b2]; exact hxy)
  · obtain ⟨q', a1, a2⟩ := key k q hk
    rw [← a2]
    exact hD.2 k q' a1
/-- fewer locals are known -/
theorem J.locals {L' : List (Option Value)} (h : J K n0 Q pc L' st A cells slots) (hL : ∀ (i : Nat) (v : Value), L'[i]? = some (some v) → L[i]? = some (some v)) : J K n0 Q pc L st A cells slots := by
  intro l p e s m args below meth c dC dI cy A0 ad0 ad H locs ls hX
  exact h l p e s m args below meth c dC dI cy A0 ad0 ad H locs ls ⟨hX.1, hX.2.1, hX.2.2.1, hX.2.2.2.1, hX.2.2.2.2.1, hX.2.2.2.2.2.1, hX.2.2.2.2.2.2.1, hX.2.2.2.2.2.2.2.1, fun i v hv => hX.2.2.2.2.2.2.2.2 i v (hL i v hv)⟩
theorem J.iconst {n : Int} (v : Int32) (d : decode K.2.1 pc = .ok (.iconst n, 1)) (hv : Int32.ofInt n = v)
    (k : J K n0 Q (pc + 1) L (.int v :: st) A cells slots) : J K n0 Q pc L st A cells slots := by
  intro l p e s m args below meth c dC dI cy A0 ad0 ad H locs ls hX
  exact lv_iconst hX.1.1 hX.1.2.1 d hv (k l p e s m args below meth c dC dI cy A0 ad0 ad H locs ls hX)
theorem J.bipush {n : Int} (v : Int32) (d : decode K.2.1 pc = .ok (.bipush n, 2)) (hv : (Int8.ofInt n).toInt32 = v)
    (k : J K n0 Q (pc + 2) L (.int v :: st) A cells slots) : J K n0 Q pc L st A cells slots := by
  intro l p e s m args below meth c dC dI cy A0 ad0 ad H locs ls hX
  exact lv_bipush hX.1.1 hX.1.2.1 d hv (k l p e s m args below meth c dC dI cy A0 ad0 ad H locs ls hX)
theorem J.sipush {n : Int} (v : Int32) (d : decode K.2.1 pc = .ok (.sipush n, 3)) (hv : (Int16.ofInt n).toInt32 = v)
    (k : J K n0 Q (pc + 3) L (.int v :: st) A cells slots) : J K n0 Q pc L st A cells slots := by
  intro l p e s m args below meth c dC dI cy A0 ad0 ad H locs ls hX
  exact lv_sipush hX.1.1 hX.1.2.1 d hv (k l p e s m args below meth c dC dI cy A0 ad0 ad H locs ls hX)
theorem J.lconst {n : Fin 2} (v : Int64) (d : decode K.2.1 pc = .ok (.lconst n, 1)) (hv : Int64.ofNat (n : Nat) = v)
    (k : J K n0 Q (pc + 1) L (.long v :: st) A cells slots) : J K n0 Q pc L st A cells slots := by
  intro l p e s m args below meth c dC dI cy A0 ad0 ad H locs ls hX
  exact lv_lconst hX.1.1 hX.1.2.1 d hv (k l p e s m args below meth c dC dI cy A0 ad0 ad H locs ls hX)
theorem J.ldc {i : Nat} {v : Int32} (d : decode K.2.1 pc = .ok (.ldc i, 2)) (hw : Cond.constant K.1 i v ∈ jTs)
    (k : J K n0 Q (pc + 2) L (.int v :: st) A cells slots) : J K n0 Q pc L st A cells slots := by
  intro l p e s m args below meth c dC dI cy A0 ad0 ad H locs ls hX
  exact lv_ldc hX.1.1 hX.1.2.1 hX.1.2.2.2.2.1 (hX.1.2.2.2.2.2.1 _ hw) d (k l p e s m args below meth c dC dI cy A0 ad0 ad H locs ls hX)
theorem J.ldcw {i : Nat} {v : Int32} (d : decode K.2.1 pc = .ok (.ldc_w i, 3)) (hw : Cond.constant K.1 i v ∈ jTs)
    (k : J K n0 Q (pc + 3) L (.int v :: st) A cells slots) : J K n0 Q pc L st A cells slots := by
  intro l p e s m args below meth c dC dI cy A0 ad0 ad H locs ls hX
  exact lv_ldcw hX.1.1 hX.1.2.1 hX.1.2.2.2.2.1 (hX.1.2.2.2.2.2.1 _ hw) d (k l p e s m args below meth c dC dI cy A0 ad0 ad H locs ls hX)
theorem J.ldc2 {i : Nat} {v : Int64} (d : decode K.2.1 pc = .ok (.ldc2_w i, 3)) (hw : Cond.constantLong K.1 i v ∈ jTs)
    (k : J K n0 Q (pc + 3) L (.long v :: st) A cells slots) : J K n0 Q pc L st A cells slots := by
  intro l p e s m args below meth c dC dI cy A0 ad0 ad H locs ls hX
  exact lv_ldc2 hX.1.1 hX.1.2.1 hX.1.2.2.2.2.1 (hX.1.2.2.2.2.2.1 _ hw) d (k l p e s m args below meth c dC dI cy A0 ad0 ad H locs ls hX)
theorem J.iload_n {f : Fin 4} {i : Nat} {x : Int32} (d : decode K.2.1 pc = .ok (.iload_n f, 1)) (hi : (f : Nat) = i) (hl : L[i]? = some (some (.int x)))
    (k : J K n0 Q (pc + 1) L (.int x :: st) A cells slots) : J K n0 Q pc L st A cells slots := by
  intro l p e s m args below meth c dC dI cy A0 ad0 ad H locs ls hX
  exact lv_iload_n hX.1.1 hX.1.2.1 d hi (hX.2.2.2.2.2.2.2.2 i _ hl) (k l p e s m args below meth c dC dI cy A0 ad0 ad H locs ls hX)
theorem J.iload {i : Nat} {x : Int32} (d : decode K.2.1 pc = .ok (.iload i, 2)) (hl : L[i]? = some (some (.int x)))
    (k : J K n0 Q (pc + 2) L (.int x :: st) A cells slots) : J K n0 Q pc L st A cells slots := by
  intro l p e s m args below meth c dC dI cy A0 ad0 ad H locs ls hX
  exact lv_iload hX.1.1 hX.1.2.1 d (hX.2.2.2.2.2.2.2.2 i _ hl) (k l p e s m args below meth c dC dI cy A0 ad0 ad H locs ls hX)
theorem J.lload_n {f : Fin 4} {i : Nat} {x : Int64} (d : decode K.2.1 pc = .ok (.lload_n f, 1)) (hi : (f : Nat) = i) (hl : L[i]? = some (some (.long x)))
    (k : J K n0 Q (pc + 1) L (.long x :: st) A cells slots) : J K n0 Q pc L st A cells slots := by
  intro l p e s m args below meth c dC dI cy A0 ad0 ad H locs ls hX
  exact lv_lload_n hX.1.1 hX.1.2.1 d hi (hX.2.2.2.2.2.2.2.2 i _ hl) (k l p e s m args below meth c dC dI cy A0 ad0 ad H locs ls hX)
theorem J.lload {i : Nat} {x : Int64} (d : decode K.2.1 pc = .ok (.lload i, 2)) (hl : L[i]? = some (some (.long x)))
    (k : J K n0 Q (pc + 2) L (.long x :: st) A cells slots) : J K n0 Q pc L st A cells slots := by
  intro l p e s m args below meth c dC dI cy A0 ad0 ad H locs ls hX
  exact lv_lload hX.1.1 hX.1.2.1 d (hX.2.2.2.2.2.2.2.2 i _ hl) (k l p e s m args below meth c dC dI cy A0 ad0 ad H locs ls hX)
theorem J.aload_n {f : Fin 4} {i : Nat} {x : Nat} (d : decode K.2.1 pc = .ok (.aload_n f, 1)) (hi : (f : Nat) = i) (hl : L[i]? = some (some (.ref x)))
    (k : J K n0 Q (pc + 1) L (.ref x :: st) A cells slots) : J K n0 Q pc L st A cells slots := by
  intro l p e s m args below meth c dC dI cy A0 ad0 ad H locs ls hX
  exact lv_aload_n hX.1.1 hX.1.2.1 d hi (hX.2.2.2.2.2.2.2.2 i _ hl) (k l p e s m args below meth c dC dI cy A0 ad0 ad H locs ls hX)
theorem J.aload {i : Nat} {x : Nat} (d : decode K.2.1 pc = .ok (.aload i, 2)) (hl : L[i]? = some (some (.ref x)))
    (k : J K n0 Q (pc + 2) L (.ref x :: st) A cells slots) : J K n0 Q pc L st A cells slots := by
  intro l p e s m args below meth c dC dI cy A0 ad0 ad H locs ls hX
  exact lv_aload hX.1.1 hX.1.2.1 d (hX.2.2.2.2.2.2.2.2 i _ hl) (k l p e s m args below meth c dC dI cy A0 ad0 ad H locs ls hX)
theorem J.iadd {x y : Int32} (d : decode K.2.1 pc = .ok (.iadd, 1))
    (k : J K n0 Q (pc + 1) L (.int (x + y) :: st) A cells slots) : J K n0 Q pc L (.int y :: .int x :: st) A cells slots := by
  intro l p e s m args below meth c dC dI cy A0 ad0 ad H locs ls hX
  exact lv_iadd hX.1.1 hX.1.2.1 d (k l p e s m args below meth c dC dI cy A0 ad0 ad H locs ls hX)
theorem J.isub {x y : Int32} (d : decode K.2.1 pc = .ok (.isub, 1))
    (k : J K n0 Q (pc + 1) L (.int (x - y) :: st) A cells slots) : J K n0 Q pc L (.int y :: .int x :: st) A cells slots := by
  intro l p e s m args below meth c dC dI cy A0 ad0 ad H locs ls hX
  exact lv_isub hX.1.1 hX.1.2.1 d (k l p e s m args below meth c dC dI cy A0 ad0 ad H locs ls hX)
theorem J.imul {x y : Int32} (d : decode K.2.1 pc = .ok (.imul, 1))
    (k : J K n0 Q (pc + 1) L (.int (x * y) :: st) A cells slots) : J K n0 Q pc L (.int y :: .int x :: st) A cells slots := by
  intro l p e s m args below meth c dC dI cy A0 ad0 ad H locs ls hX
  exact lv_imul hX.1.1 hX.1.2.1 d (k l p e s m args below meth c dC dI cy A0 ad0 ad H locs ls hX)
theorem J.iand {x y : Int32} (d : decode K.2.1 pc = .ok (.iand, 1))
    (k : J K n0 Q (pc + 1) L (.int (x &&& y) :: st) A cells slots) : J K n0 Q pc L (.int y :: .int x :: st) A cells slots := by
  intro l p e s m args below meth c dC dI cy A0 ad0 ad H locs ls hX
  exact lv_iand hX.1.1 hX.1.2.1 d (k l p e s m args below meth c dC dI cy A0 ad0 ad H locs ls hX)
theorem J.ior {x y : Int32} (d : decode K.2.1 pc = .ok (.ior, 1))
    (k : J K n0 Q (pc + 1) L (.int (x ||| y) :: st) A cells slots) : J K n0 Q pc L (.int y :: .int x :: st) A cells slots := by
  intro l p e s m args below meth c dC dI cy A0 ad0 ad H locs ls hX
  exact lv_ior hX.1.1 hX.1.2.1 d (k l p e s m args below meth c dC dI cy A0 ad0 ad H locs ls hX)
theorem J.ixor {x y : Int32} (d : decode K.2.1 pc = .ok (.ixor, 1))
    (k : J K n0 Q (pc + 1) L (.int (x ^^^ y) :: st) A cells slots) : J K n0 Q pc L (.int y :: .int x :: st) A cells slots := by
  intro l p e s m args below meth c dC dI cy A0 ad0 ad H locs ls hX
  exact lv_ixor hX.1.1 hX.1.2.1 d (k l p e s m args below meth c dC dI cy A0 ad0 ad H locs ls hX)
theorem J.ishl {x y : Int32} (d : decode K.2.1 pc = .ok (.ishl, 1))
    (k : J K n0 Q (pc + 1) L (.int (x <<< (y &&& 31)) :: st) A cells slots) : J K n0 Q pc L (.int y :: .int x :: st) A cells slots := by
  intro l p e s m args below meth c dC dI cy A0 ad0 ad H locs ls hX
  exact lv_ishl hX.1.1 hX.1.2.1 d (k l p e s m args below meth c dC dI cy A0 ad0 ad H locs ls hX)
theorem J.ishr {x y : Int32} (d : decode K.2.1 pc = .ok (.ishr, 1))
    (k : J K n0 Q (pc + 1) L (.int (x >>> (y &&& 31)) :: st) A cells slots) : J K n0 Q pc L (.int y :: .int x :: st) A cells slots := by
  intro l p e s m args below meth c dC dI cy A0 ad0 ad H locs ls hX
  exact lv_ishr hX.1.1 hX.1.2.1 d (k l p e s m args below meth c dC dI cy A0 ad0 ad H locs ls hX)
theorem J.iushr {x y : Int32} (d : decode K.2.1 pc = .ok (.iushr, 1))
    (k : J K n0 Q (pc + 1) L (.int ((x.toUInt32 >>> (y.toUInt32 &&& Int32.toUInt32 31)).toInt32) :: st) A cells slots) : J K n0 Q pc L (.int y :: .int x :: st) A cells slots := by
  intro l p e s m args below meth c dC dI cy A0 ad0 ad H locs ls hX
  exact lv_iushr hX.1.1 hX.1.2.1 d rfl (k l p e s m args below meth c dC dI cy A0 ad0 ad H locs ls hX)
theorem J.ladd {x y : Int64} (d : decode K.2.1 pc = .ok (.ladd, 1))
    (k : J K n0 Q (pc + 1) L (.long (x + y) :: st) A cells slots) : J K n0 Q pc L (.long y :: .long x :: st) A cells slots := by
  intro l p e s m args below meth c dC dI cy A0 ad0 ad H locs ls hX
  exact lv_ladd hX.1.1 hX.1.2.1 d (k l p e s m args below meth c dC dI cy A0 ad0 ad H locs ls hX)
theorem J.lsub {x y : Int64} (d : decode K.2.1 pc = .ok (.lsub, 1))
    (k : J K n0 Q (pc + 1) L (.long (x - y) :: st) A cells slots) : J K n0 Q pc L (.long y :: .long x :: st) A cells slots := by
  intro l p e s m args below meth c dC dI cy A0 ad0 ad H locs ls hX
  exact lv_lsub hX.1.1 hX.1.2.1 d (k l p e s m args below meth c dC dI cy A0 ad0 ad H locs ls hX)
theorem J.lmul {x y : Int64} (d : decode K.2.1 pc = .ok (.lmul, 1))
    (k : J K n0 Q (pc + 1) L (.long (x * y) :: st) A cells slots) : J K n0 Q pc L (.long y :: .long x :: st) A cells slots := by
  intro l p e s m args below meth c dC dI cy A0 ad0 ad H locs ls hX
  exact lv_lmul hX.1.1 hX.1.2.1 d (k l p e s m args below meth c dC dI cy A0 ad0 ad H locs ls hX)
theorem J.idiv {x y : Int32} (d : decode K.2.1 pc = .ok (.idiv, 1)) (hne : ¬ y = 0)
    (k : J K n0 Q (pc + 1) L (.int (x / y) :: st) A cells slots) : J K n0 Q pc L (.int y :: .int x :: st) A cells slots := by
  intro l p e s m args below meth c dC dI cy A0 ad0 ad H locs ls hX
  exact lv_idiv hX.1.1 hX.1.2.1 d hne (k l p e s m args below meth c dC dI cy A0 ad0 ad H locs ls hX)
theorem J.irem {x y : Int32} (d : decode K.2.1 pc = .ok (.irem, 1)) (hne : ¬ y = 0)
    (k : J K n0 Q (pc + 1) L (.int (x - x / y * y) :: st) A cells slots) : J K n0 Q pc L (.int y :: .int x :: st) A cells slots := by
  intro l p e s m args below meth c dC dI cy A0 ad0 ad H locs ls hX
  exact lv_irem hX.1.1 hX.1.2.1 d hne (k l p e s m args below meth c dC dI cy A0 ad0 ad H locs ls hX)
theorem J.ldiv {x y : Int64} (d : decode K.2.1 pc = .ok (.ldiv, 1)) (hne : ¬ y = 0)
    (k : J K n0 Q (pc + 1) L (.long (x / y) :: st) A cells slots) : J K n0 Q pc L (.long y :: .long x :: st) A cells slots := by
  intro l p e s m args below meth c dC dI cy A0 ad0 ad H locs ls hX
  exact lv_ldiv hX.1.1 hX.1.2.1 d hne (k l p e s m args below meth c dC dI cy A0 ad0 ad H locs ls hX)
theorem J.lrem {x y : Int64} (d : decode K.2.1 pc = .ok (.lrem, 1)) (hne : ¬ y = 0)
    (k : J K n0 Q (pc + 1) L (.long (x - x / y * y) :: st) A cells slots) : J K n0 Q pc L (.long y :: .long x :: st) A cells slots := by
  intro l p e s m args below meth c dC dI cy A0 ad0 ad H locs ls hX
  exact lv_lrem hX.1.1 hX.1.2.1 d hne (k l p e s m args below meth c dC dI cy A0 ad0 ad H locs ls hX)
theorem J.ineg {x : Int32} (d : decode K.2.1 pc = .ok (.ineg, 1))
    (k : J K n0 Q (pc + 1) L (.int (-x) :: st) A cells slots) : J K n0 Q pc L (.int x :: st) A cells slots := by
  intro l p e s m args below meth c dC dI cy A0 ad0 ad H locs ls hX
  exact lv_ineg hX.1.1 hX.1.2.1 d (k l p e s m args below meth c dC dI cy A0 ad0 ad H locs ls hX)
theorem J.lneg {x : Int64} (d : decode K.2.1 pc = .ok (.lneg, 1))
    (k : J K n0 Q (pc + 1) L (.long (-x) :: st) A cells slots) : J K n0 Q pc L (.long x :: st) A cells slots := by
  intro l p e s m args below meth c dC dI cy A0 ad0 ad H locs ls hX
  exact lv_lneg hX.1.1 hX.1.2.1 d (k l p e s m args below meth c dC dI cy A0 ad0 ad H locs ls hX)
theorem J.i2l {x : Int32} (d : decode K.2.1 pc = .ok (.i2l, 1))
    (k : J K n0 Q (pc + 1) L (.long x.toInt64 :: st) A cells slots) : J K n0 Q pc L (.int x :: st) A cells slots := by
  intro l p e s m args below meth c dC dI cy A0 ad0 ad H locs ls hX
  exact lv_i2l hX.1.1 hX.1.2.1 d rfl (k l p e s m args below meth c dC dI cy A0 ad0 ad H locs ls hX)
theorem J.i2b {x : Int32} (d : decode K.2.1 pc = .ok (.i2b, 1))
    (k : J K n0 Q (pc + 1) L (.int x.toInt8.toInt32 :: st) A cells slots) : J K n0 Q pc L (.int x :: st) A cells slots := by
  intro l p e s m args below meth c dC dI cy A0 ad0 ad H locs ls hX
  exact lv_i2b hX.1.1 hX.1.2.1 d rfl (k l p e s m args below meth c dC dI cy A0 ad0 ad H locs ls hX)
theorem J.i2s {x : Int32} (d : decode K.2.1 pc = .ok (.i2s, 1))
    (k : J K n0 Q (pc + 1) L (.int x.toInt16.toInt32 :: st) A cells slots) : J K n0 Q pc L (.int x :: st) A cells slots := by
  intro l p e s m args below meth c dC dI cy A0 ad0 ad H locs ls hX
  exact lv_i2s hX.1.1 hX.1.2.1 d rfl (k l p e s m args below meth c dC dI cy A0 ad0 ad H locs ls hX)
theorem J.i2c {x : Int32} (d : decode K.2.1 pc = .ok (.i2c, 1))
    (k : J K n0 Q (pc + 1) L (.int x.toUInt32.toUInt16.toUInt32.toInt32 :: st) A cells slots) : J K n0 Q pc L (.int x :: st) A cells slots := by
  intro l p e s m args below meth c dC dI cy A0 ad0 ad H locs ls hX
  exact lv_i2c hX.1.1 hX.1.2.1 d rfl (k l p e s m args below meth c dC dI cy A0 ad0 ad H locs ls hX)
theorem J.lcmp {x y : Int64} (d : decode K.2.1 pc = .ok (.lcmp, 1))
    (k : J K n0 Q (pc + 1) L (.int (lg_cmp x y) :: st) A cells slots) : J K n0 Q pc L (.long y :: .long x :: st) A cells slots := by
  intro l p e s m args below meth c dC dI cy A0 ad0 ad H locs ls hX
  exact W.lcmp hX.1.1 hX.1.2.1 d (k l p e s m args below meth c dC dI cy A0 ad0 ad H locs ls hX)
theorem J.dup {v : Value} (d : decode K.2.1 pc = .ok (.dup, 1)) (hc : v.category = 1)
    (k : J K n0 Q (pc + 1) L (v :: v :: st) A cells slots) : J K n0 Q pc L (v :: st) A cells slots := by
  intro l p e s m args below meth c dC dI cy A0 ad0 ad H locs ls hX
  exact lv_dup hX.1.1 hX.1.2.1 d ((jg_cat ad v).trans hc) (k l p e s m args below meth c dC dI cy A0 ad0 ad H locs ls hX)
theorem J.pop {v : Value} (d : decode K.2.1 pc = .ok (.pop, 1)) (hc : v.category = 1)
    (k : J K n0 Q (pc + 1) L st A cells slots) : J K n0 Q pc L (v :: st) A cells slots := by
  intro l p e s m args below meth c dC dI cy A0 ad0 ad H locs ls hX
  exact lv_pop hX.1.1 hX.1.2.1 d ((jg_cat ad v).trans hc) (k l p e s m args below meth c dC dI cy A0 ad0 ad H locs ls hX)
theorem J.dup2 {v u : Value} (d : decode K.2.1 pc = .ok (.dup2, 1)) (hc : v.category = 1) (hu : u.category = 1)
    (k : J K n0 Q (pc + 1) L (v :: u :: v :: u :: st) A cells slots) : J K n0 Q pc L (v :: u :: st) A cells slots := by
  intro l p e s m args below meth c dC dI cy A0 ad0 ad H locs ls hX
  exact lv_dup2_11 hX.1.1 hX.1.2.1 d ((jg_cat ad v).trans hc) ((jg_cat ad u).trans hu) (k l p e s m args below meth c dC dI cy A0 ad0 ad H locs ls hX)
theorem J.dup2l {v : Value} (d : decode K.2.1 pc = .ok (.dup2, 1)) (hc : v.category = 2)
    (k : J K n0 Q (pc + 1) L (v :: v :: st) A cells slots) : J K n0 Q pc L (v :: st) A cells slots := by
  intro l p e s m args below meth c dC dI cy A0 ad0 ad H locs ls hX
  exact lv_dup2_2 hX.1.1 hX.1.2.1 d ((jg_cat ad v).trans hc) (k l p e s m args below meth c dC dI cy A0 ad0 ad H locs ls hX)
theorem J.if_eq {x : Int32} {off : Int} {tgt : Nat} (d : decode K.2.1 pc = .ok (.ifCond .eq off, 3)) (ht : (pc : Int) + off = (tgt : Int)) (kt : x = 0 → J K n0 Q tgt L st A cells slots) (kf : ¬ x = 0 → J K n0 Q (pc + 3) L st A cells slots) : J K n0 Q pc L (.int x :: st) A cells slots := by
  intro l p e s m args below meth c dC dI cy A0 ad0 ad H locs ls hX
  exact lv_if_eq hX.1.1 hX.1.2.1 d ht (fun h => kt h l p e s m args below meth c dC dI cy A0 ad0 ad H locs ls hX) (fun h => kf h l p e s m args below meth c dC dI cy A0 ad0 ad H locs ls hX)
theorem J.icmp_eq {x y : Int32} {off : Int} {tgt : Nat} (d : decode K.2.1 pc = .ok (.if_icmp .eq off, 3)) (ht : (pc : Int) + off = (tgt : Int)) (kt : x = y → J K n0 Q tgt L st A cells slots) (kf : ¬ x = y → J K n0 Q (pc + 3) L st A cells slots) : J K n0 Q pc L (.int y :: .int x :: st) A cells slots := by
  intro l p e s m args below meth c dC dI cy A0 ad0 ad H locs ls hX
  exact lv_icmp_eq hX.1.1 hX.1.2.1 d ht (fun h => kt h l p e s m args below meth c dC dI cy A0 ad0 ad H locs ls hX) (fun h => kf h l p e s m args below meth c dC dI cy A0 ad0 ad H locs ls hX)
theorem J.if_ne {x : Int32} {off : Int} {tgt : Nat} (d : decode K.2.1 pc = .ok (.ifCond .ne off, 3)) (ht : (pc : Int) + off = (tgt : Int)) (kt : ¬ x = 0 → J K n0 Q tgt L st A cells slots) (kf : x = 0 → J K n0 Q (pc + 3) L st A cells slots) : J K n0 Q pc L (.int x :: st) A cells slots := by
  intro l p e s m args below meth c dC dI cy A0 ad0 ad H locs ls hX
  exact lv_if_ne hX.1.1 hX.1.2.1 d ht (fun h => kt h l p e s m args below meth c dC dI cy A0 ad0 ad H locs ls hX) (fun h => kf h l p e s m args below meth c dC dI cy A0 ad0 ad H locs ls hX)
theorem J.icmp_ne {x y : Int32} {off : Int} {tgt : Nat} (d : decode K.2.1 pc = .ok (.if_icmp .ne off, 3)) (ht : (pc : Int) + off = (tgt : Int)) (kt : ¬ x = y → J K n0 Q tgt L st A cells slots) (kf : x = y → J K n0 Q (pc + 3) L st A cells slots) : J K n0 Q pc L (.int y :: .int x :: st) A cells slots := by
  intro l p e s m args below meth c dC dI cy A0 ad0 ad H locs ls hX
  exact lv_icmp_ne hX.1.1 hX.1.2.1 d ht (fun h => kt h l p e s m args below meth c dC dI cy A0 ad0 ad H locs ls hX) (fun h => kf h l p e s m args below meth c dC dI cy A0 ad0 ad H locs ls hX)
theorem J.if_lt {x : Int32} {off : Int} {tgt : Nat} (d : decode K.2.1 pc = .ok (.ifCond .lt off, 3)) (ht : (pc : Int) + off = (tgt : Int)) (kt : x < 0 → J K n0 Q tgt L st A cells slots) (kf : ¬ x < 0 → J K n0 Q (pc + 3) L st A cells slots) : J K n0 Q pc L (.int x :: st) A cells slots := by
  intro l p e s m args below meth c dC dI cy A0 ad0 ad H locs ls hX
  exact lv_if_lt hX.1.1 hX.1.2.1 d ht (fun h => kt h l p e s m args below meth c dC dI cy A0 ad0 ad H locs ls hX) (fun h => kf h l p e s m args below meth c dC dI cy A0 ad0 ad H locs ls hX)
theorem J.icmp_lt {x y : Int32} {off : Int} {tgt : Nat} (d : decode K.2.1 pc = .ok (.if_icmp .lt off, 3)) (ht : (pc : Int) + off = (tgt : Int)) (kt : x < y → J K n0 Q tgt L st A cells slots) (kf : ¬ x < y → J K n0 Q (pc + 3) L st A cells slots) : J K n0 Q pc L (.int y :: .int x :: st) A cells slots := by
  intro l p e s m args below meth c dC dI cy A0 ad0 ad H locs ls hX
  exact lv_icmp_lt hX.1.1 hX.1.2.1 d ht (fun h => kt h l p e s m args below meth c dC dI cy A0 ad0 ad H locs ls hX) (fun h => kf h l p e s m args below meth c dC dI cy A0 ad0 ad H locs ls hX)
theorem J.if_ge {x : Int32} {off : Int} {tgt : Nat} (d : decode K.2.1 pc = .ok (.ifCond .ge off, 3)) (ht : (pc : Int) + off = (tgt : Int)) (kt : 0 ≤ x → J K n0 Q tgt L st A cells slots) (kf : ¬ 0 ≤ x → J K n0 Q (pc + 3) L st A cells slots) : J K n0 Q pc L (.int x :: st) A cells slots := by
  intro l p e s m args below meth c dC dI cy A0 ad0 ad H locs ls hX
  exact lv_if_ge hX.1.1 hX.1.2.1 d ht (fun h => kt h l p e s m args below meth c dC dI cy A0 ad0 ad H locs ls hX) (fun h => kf h l p e s m args below meth c dC dI cy A0 ad0 ad H locs ls hX)
theorem J.icmp_ge {x y : Int32} {off : Int} {tgt : Nat} (d : decode K.2.1 pc = .ok (.if_icmp .ge off, 3)) (ht : (pc : Int) + off = (tgt : Int)) (kt : y ≤ x → J K n0 Q tgt L st A cells slots) (kf : ¬ y ≤ x → J K n0 Q (pc + 3) L st A cells slots) : J K n0 Q pc L (.int y :: .int x :: st) A cells slots := by
  intro l p e s m args below meth c dC dI cy A0 ad0 ad H locs ls hX
  exact lv_icmp_ge hX.1.1 hX.1.2.1 d ht (fun h => kt h l p e s m args below meth c dC dI cy A0 ad0 ad H locs ls hX) (fun h => kf h l p e s m args below meth c dC dI cy A0 ad0 ad H locs ls hX)
theorem J.if_gt {x : Int32} {off : Int} {tgt : Nat} (d : decode K.2.1 pc = .ok (.ifCond .gt off, 3)) (ht : (pc : Int) + off = (tgt : Int)) (kt : 0 < x → J K n0 Q tgt L st A cells slots) (kf : ¬ 0 < x → J K n0 Q (pc + 3) L st A cells slots) : J K n0 Q pc L (.int x :: st) A cells slots := by
  intro l p e s m args below meth c dC dI cy A0 ad0 ad H locs ls hX
  exact lv_if_gt hX.1.1 hX.1.2.1 d ht (fun h => kt h l p e s m args below meth c dC dI cy A0 ad0 ad H locs ls hX) (fun h => kf h l p e s m args below meth c dC dI cy A0 ad0 ad H locs ls hX)
theorem J.icmp_gt {x y : Int32} {off : Int} {tgt : Nat} (d : decode K.2.1 pc = .ok (.if_icmp .gt off, 3)) (ht : (pc : Int) + off = (tgt : Int)) (kt : y < x → J K n0 Q tgt L st A cells slots) (kf : ¬ y < x → J K n0 Q (pc + 3) L st A cells slots) : J K n0 Q pc L (.int y :: .int x :: st) A cells slots := by
  intro l p e s m args below meth c dC dI cy A0 ad0 ad H locs ls hX
  exact lv_icmp_gt hX.1.1 hX.1.2.1 d ht (fun h => kt h l p e s m args below meth c dC dI cy A0 ad0 ad H locs ls hX) (fun h => kf h l p e s m args below meth c dC dI cy A0 ad0 ad H locs ls hX)
theorem J.if_le {x : Int32} {off : Int} {tgt : Nat} (d : decode K.2.1 pc = .ok (.ifCond .le off, 3)) (ht : (pc : Int) + off = (tgt : Int)) (kt : x ≤ 0 → J K n0 Q tgt L st A cells slots) (kf : ¬ x ≤ 0 → J K n0 Q (pc + 3) L st A cells slots) : J K n0 Q pc L (.int x :: st) A cells slots := by
  intro l p e s m args below meth c dC dI cy A0 ad0 ad H locs ls hX
  exact lv_if_le hX.1.1 hX.1.2.1 d ht (fun h => kt h l p e s m args below meth c dC dI cy A0 ad0 ad H locs ls hX) (fun h => kf h l p e s m args below meth c dC dI cy A0 ad0 ad H locs ls hX)
theorem J.icmp_le {x y : Int32} {off : Int} {tgt : Nat} (d : decode K.2.1 pc = .ok (.if_icmp .le off, 3)) (ht : (pc : Int) + off = (tgt : Int)) (kt : x ≤ y → J K n0 Q tgt L st A cells slots) (kf : ¬ x ≤ y → J K n0 Q (pc + 3) L st A cells slots) : J K n0 Q pc L (.int y :: .int x :: st) A cells slots := by
  intro l p e s m args below meth c dC dI cy A0 ad0 ad H locs ls hX
  exact lv_icmp_le hX.1.1 hX.1.2.1 d ht (fun h => kt h l p e s m args below meth c dC dI cy A0 ad0 ad H locs ls hX) (fun h => kf h l p e s m args below meth c dC dI cy A0 ad0 ad H locs ls hX)
theorem J.goto {off : Int} {tgt : Nat} (d : decode K.2.1 pc = .ok (.goto off, 3)) (ht : (pc : Int) + off = (tgt : Int))
    (k : J K n0 Q tgt L st A cells slots) : J K n0 Q pc L st A cells slots := by
  intro l p e s m args below meth c dC dI cy A0 ad0 ad H locs ls hX
  exact lv_goto hX.1.1 hX.1.2.1 d ht (k l p e s m args below meth c dC dI cy A0 ad0 ad H locs ls hX)
theorem J.tableOut {dflt lo hi : Int} {offs : Array Int} {len : Nat} {x : Int32} {tgt : Nat} (d : decode K.2.1 pc = .ok (.tableswitch dflt lo hi offs, len)) (h : x.toInt < lo ∨ hi < x.toInt) (ht : (pc : Int) + dflt = (tgt : Int))
    (k : J K n0 Q tgt L st A cells slots) : J K n0 Q pc L (.int x :: st) A cells slots := by
  intro l p e s m args below meth c dC dI cy A0 ad0 ad H locs ls hX
  exact lv_tableOut hX.1.1 hX.1.2.1 d h ht (k l p e s m args below meth c dC dI cy A0 ad0 ad H locs ls hX)
theorem J.tableIn {dflt lo hi : Int} {offs : Array Int} {len : Nat} {x : Int32} {off : Int} {tgt : Nat} (d : decode K.2.1 pc = .ok (.tableswitch dflt lo hi offs, len)) (h1 : ¬ x.toInt < lo) (h2 : ¬ hi < x.toInt) (ho : offs[(x.toInt - lo).toNat]? = some off) (ht : (pc : Int) + off = (tgt : Int))
    (k : J K n0 Q tgt L st A cells slots) : J K n0 Q pc L (.int x :: st) A cells slots := by
  intro l p e s m args below meth c dC dI cy A0 ad0 ad H locs ls hX
  exact lv_tableIn hX.1.1 hX.1.2.1 d h1 h2 ho ht (k l p e s m args below meth c dC dI cy A0 ad0 ad H locs ls hX)
/-- no long stands just ahead of local i -/
def jno (L : List (Option Value)) (i : Nat) : Bool := match i with
  | 0 => true
  | i + 1 => match L[i]? with
    | some (some (.long _)) => false
    | some (some (.double _)) => false
    | _ => true
theorem jno_spec {L : List (Option Value)} {i j : Nat} {v : Value} (h : jno L i = true) (hj : j + 1 = i) (hv : L[j]? = some (some v)) : ¬ v.category = 2 := by
  subst hj
  simp only [jno, hv] at h
  cases v <;> simp_all [Value.category]
def jpairs (ad : Nat → Nat) (L : List (Option Value)) : List (Nat × Value) := (List.range L.length).filterMap (fun i => match L[i]? with
  | some (some v) => some (i, jg ad v)
  | _ => none)
theorem jpairs_has {ad : Nat → Nat} {ls : Array Slot} {n : Nat} {L : List (Option Value)} (h : jL ad ls n L) : lv_has ls n (jpairs ad L) := by
  refine ⟨h.1, h.2.1, fun q hq => ?_⟩
  simp only [jpairs, List.mem_filterMap, List.mem_range] at hq
  obtain ⟨i, -, hi⟩ := hq
  split at hi
  · next v hv =>
    cases hi
    exact h.2.2 i v hv
  · cases hi
theorem jpairs_mem {ad : Nat → Nat} {L : List (Option Value)} {i : Nat} {v : Value} (h : L[i]? = some (some v)) : (i, jg ad v) ∈ jpairs ad L := by
  simp only [jpairs, List.mem_filterMap, List.mem_range]
  exact ⟨i, (List.getElem?_eq_some_iff.mp h).1, by rw [h]⟩
theorem jst1 {ad : Nat → Nat} {ls' : Array Slot} {n i : Nat} {L : List (Option Value)} {v : Value} (hno : jno L i = true)
    (h : lv_has ls' n ((i, jg ad v) :: (jpairs ad L).filter (fun q => !(q.1 == i) && !(q.1 + 1 == i && q.2.category == 2)))) : jL ad ls' n (L.set i (some v)) := by
  refine ⟨h.1, h.2.1, fun j u hj => ?_⟩
  by_cases e : i = j
  · subst e
    have hl : i < L.length := by
      have := (List.getElem?_eq_some_iff.mp hj).1
      simpa using this
    rw [List.getElem?_set_self hl] at hj
    cases hj
    exact h.2.2 _ List.mem_cons_self
  · rw [List.getElem?_set_ne e] at hj
    refine h.2.2 (j, jg ad u) (List.mem_cons_of_mem _ (List.mem_filter.mpr ⟨jpairs_mem hj, ?_⟩))
    have e1 : (j == i) = false := by simpa using fun q => e q.symm
    by_cases e2 : j + 1 = i
    · have e3 := jno_spec hno e2 hj
      have e4 : ((jg ad u).category == 2) = false := by rw [jg_cat]; simpa using e3
      simp [e1, e4]
    · simp [e1, e2]
theorem jst2 {ad : Nat → Nat} {ls' : Array Slot} {n i : Nat} {L : List (Option Value)} {v : Value} (hno : jno L i = true)
    (h : lv_has ls' n ((i, jg ad v) :: (jpairs ad L).filter (fun q => !(q.1 == i) && (!(q.1 == i + 1) && !(q.1 + 1 == i && q.2.category == 2))))) : jL ad ls' n ((L.set i (some v)).set (i + 1) none) := by
  refine ⟨h.1, h.2.1, fun j u hj => ?_⟩
  by_cases e0 : i + 1 = j
  · subst e0
    have hl : i + 1 < (L.set i (some v)).length := by
      have := (List.getElem?_eq_some_iff.mp hj).1
      simpa using this
    rw [List.getElem?_set_self hl] at hj
    cases hj
  · rw [List.getElem?_set_ne e0] at hj
    by_cases e : i = j
    · subst e
      have hl : i < L.length := by
        have := (List.getElem?_eq_some_iff.mp hj).1
        simpa using this
      rw [List.getElem?_set_self hl] at hj
      cases hj
      exact h.2.2 _ List.mem_cons_self
    · rw [List.getElem?_set_ne e] at hj
      refine h.2.2 (j, jg ad u) (List.mem_cons_of_mem _ (List.mem_filter.mpr ⟨jpairs_mem hj, ?_⟩))
      have e1 : (j == i) = false := by simpa using fun q => e q.symm
      have e5 : (j == i + 1) = false := by simpa using fun q => e0 q.symm
      by_cases e2 : j + 1 = i
      · have e3 := jno_spec hno e2 hj
        have e4 : ((jg ad u).category == 2) = false := by rw [jg_cat]; simpa using e3
        simp [e1, e4, e5]
      · simp [e1, e2, e5]
theorem jX.loc {p : Program} {s : State} {m : MethodId} {args : Array Value} {meth : Method} {c : Code} {dC : Nat → ClassId} {dI : Nat → Nat → Nat} {cy : Nat → ClassId} {A0 : Nat → Prop} {ad0 ad : Nat → Nat} {H : Heap} {locs : List Loc} {ls ls' : Array Slot} {L' : List (Option Value)} (hX : jX K n0 p s m args meth c dC dI cy A0 ad0 ad H locs ls L A) (h : jL ad ls' K.2.2.1 L') : jX K n0 p s m args meth c dC dI cy A0 ad0 ad H locs ls' L' A :=
  ⟨hX.1, hX.2.1, hX.2.2.1, hX.2.2.2.1, hX.2.2.2.2.1, hX.2.2.2.2.2.1, h⟩
theorem jX.wor {p : Program} {s : State} {m : MethodId} {args : Array Value} {meth : Method} {c : Code} {dC : Nat → ClassId} {dI : Nat → Nat → Nat} {cy : Nat → ClassId} {A0 : Nat → Prop} {ad0 ad : Nat → Nat} {H H1 : Heap} {locs locs1 : List Loc} {ls : Array Slot} {A' : jW} (hX : jX K n0 p s m args meth c dC dI cy A0 ad0 ad H locs ls L A) (hz : A'.length = A.length) (hP : va_P (dC, dI) jCl (jgW cy ad A') H1) (hD : va_D A0 (jgW cy ad A')) (hS : va_S A0 s.heap H1 locs1) : jX K n0 p s m args meth c dC dI cy A0 ad0 ad H1 locs1 ls L A' :=
  ⟨hX.1, by rw [hz]; exact hX.2.1, hX.2.2.1, hP, hD, hS, hX.2.2.2.2.2.2⟩
theorem J.istore_n {f : Fin 4} {i : Nat} {x : Int32} (d : decode K.2.1 pc = .ok (.istore_n f, 1)) (hi : (f : Nat) = i) (hn : i < K.2.2.1) (hno : jno L i = true)
    (k : J K n0 Q (pc + 1) (L.set i (some (.int x))) st A cells slots) : J K n0 Q pc L (.int x :: st) A cells slots := by
  intro l p e s m args below meth c dC dI cy A0 ad0 ad H locs ls hX
  exact lv_istore_n hX.1.1 hX.1.2.1 d hi (jpairs_has hX.2.2.2.2.2.2) hn rfl (fun ls' h => k l p e s m args below meth c dC dI cy A0 ad0 ad H locs ls' (hX.loc (jst1 (v := .int x) hno h)))
theorem J.istore {i : Nat} {x : Int32} (d : decode K.2.1 pc = .ok (.istore i, 2)) (hn : i < K.2.2.1) (hno : jno L i = true)
    (k : J K n0 Q (pc + 2) (L.set i (some (.int x))) st A cells slots) : J K n0 Q pc L (.int x :: st) A cells slots := by
  intro l p e s m args below meth c dC dI cy A0 ad0 ad H locs ls hX
  exact lv_istore hX.1.1 hX.1.2.1 d (jpairs_has hX.2.2.2.2.2.2) hn rfl (fun ls' h => k l p e s m args below meth c dC dI cy A0 ad0 ad H locs ls' (hX.loc (jst1 (v := .int x) hno h)))
theorem J.lstore_n {f : Fin 4} {i : Nat} {x : Int64} (d : decode K.2.1 pc = .ok (.lstore_n f, 1)) (hi : (f : Nat) = i) (hn : i + 1 < K.2.2.1) (hno : jno L i = true)
    (k : J K n0 Q (pc + 1) ((L.set i (some (.long x))).set (i + 1) none) st A cells slots) : J K n0 Q pc L (.long x :: st) A cells slots := by
  intro l p e s m args below meth c dC dI cy A0 ad0 ad H locs ls hX
  exact lv_lstore_n hX.1.1 hX.1.2.1 d hi (jpairs_has hX.2.2.2.2.2.2) hn rfl (fun ls' h => k l p e s m args below meth c dC dI cy A0 ad0 ad H locs ls' (hX.loc (jst2 (v := .long x) hno h)))
theorem J.lstore {i : Nat} {x : Int64} (d : decode K.2.1 pc = .ok (.lstore i, 2)) (hn : i + 1 < K.2.2.1) (hno : jno L i = true)
    (k : J K n0 Q (pc + 2) ((L.set i (some (.long x))).set (i + 1) none) st A cells slots) : J K n0 Q pc L (.long x :: st) A cells slots := by
  intro l p e s m args below meth c dC dI cy A0 ad0 ad H locs ls hX
  exact lv_lstore hX.1.1 hX.1.2.1 d (jpairs_has hX.2.2.2.2.2.2) hn rfl (fun ls' h => k l p e s m args below meth c dC dI cy A0 ad0 ad H locs ls' (hX.loc (jst2 (v := .long x) hno h)))
theorem J.astore_n {f : Fin 4} {i : Nat} {x : Nat} (d : decode K.2.1 pc = .ok (.astore_n f, 1)) (hi : (f : Nat) = i) (hn : i < K.2.2.1) (hno : jno L i = true)
    (k : J K n0 Q (pc + 1) (L.set i (some (.ref x))) st A cells slots) : J K n0 Q pc L (.ref x :: st) A cells slots := by
  intro l p e s m args below meth c dC dI cy A0 ad0 ad H locs ls hX
  exact lv_astore_n hX.1.1 hX.1.2.1 d hi (jpairs_has hX.2.2.2.2.2.2) hn rfl (fun ls' h => k l p e s m args below meth c dC dI cy A0 ad0 ad H locs ls' (hX.loc (jst1 (v := .ref x) hno h)))
theorem J.astore {i : Nat} {x : Nat} (d : decode K.2.1 pc = .ok (.astore i, 2)) (hn : i < K.2.2.1) (hno : jno L i = true)
    (k : J K n0 Q (pc + 2) (L.set i (some (.ref x))) st A cells slots) : J K n0 Q pc L (.ref x :: st) A cells slots := by
  intro l p e s m args below meth c dC dI cy A0 ad0 ad H locs ls hX
  exact lv_astore hX.1.1 hX.1.2.1 d (jpairs_has hX.2.2.2.2.2.2) hn rfl (fun ls' h => k l p e s m args below meth c dC dI cy A0 ad0 ad H locs ls' (hX.loc (jst1 (v := .ref x) hno h)))
theorem J.iinc {i : Nat} {n : Int} {x : Int32} (v : Int32) (d : decode K.2.1 pc = .ok (.iinc i n, 3)) (hv : Int32.ofInt n = v) (hl : L[i]? = some (some (.int x))) (hn : i < K.2.2.1) (hno : jno L i = true)
    (k : J K n0 Q (pc + 3) (L.set i (some (.int (x + v)))) st A cells slots) : J K n0 Q pc L st A cells slots := by
  intro l p e s m args below meth c dC dI cy A0 ad0 ad H locs ls hX
  subst hv
  obtain ⟨j, hj⟩ := List.getElem?_of_mem (jpairs_mem (ad := ad) hl)
  exact lv_iinc hX.1.1 hX.1.2.1 d (jpairs_has hX.2.2.2.2.2.2) hj rfl hn rfl (fun ls' h => k l p e s m args below meth c dC dI cy A0 ad0 ad H locs ls' (hX.loc (jst1 (v := .int (x + Int32.ofInt n)) hno h)))
end JR
/-- a truth as 0 or 1 -/
def jB (b : Prop) [Decidable b] : Int32 := if b then 1 else 0
section JB
variable {b : Prop}
theorem jB_t (hd : Decidable b) (h : b) : jB b = 1 := if_pos h
theorem jB_f (hd : Decidable b) (h : ¬ b) : jB b = 0 := if_neg h
theorem jB_0 (hd : Decidable b) : jB b = 0 ↔ ¬ b := by
  unfold jB
  split <;> simp_all
theorem jB_1 (hd : Decidable b) : jB b = 1 ↔ b := by
  unfold jB
  split <;> simp_all
theorem jB_z (hd : Decidable b) : narrow .boolean (.int (jB b)) = .int (jB b) := by
  unfold jB
  split <;> decide
theorem jB_fit (hd : Decidable b) : fits .boolean (.int (jB b)) = true := by
  unfold jB
  split <;> decide
end JB
