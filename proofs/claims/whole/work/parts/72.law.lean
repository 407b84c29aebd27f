/-! ===== the law from its entry ===== -/
theorem jclE_if {n t k : Nat} {f : Nat → Option Nat} (h : ∀ j k, f j = some k → k < n) : jclE n (.inl (t, k, .inr (.inr (.inr (.inr f))))) := fun j k hk => Or.inl (h j k hk)
theorem wC0_cl : jclW 62 (wC (fun _ => R0) (fun _ _ => 0) (fun _ _ => 0) (fun _ => 0) (fun _ => 0) (fun _ _ => 0) (fun _ _ => 0) (fun _ => -1) 0) := by
  refine jcl_x 15 39 (by decide +kernel) rfl rfl (jclE_if (fun j k hk => ?_)) (jclE_if (fun j k hk => ?_))
  · split at hk <;> cases hk <;> decide
  · split at hk
    · cases hk; decide
    · split at hk
      · cases hk; decide
      · split at hk <;> cases hk <;> decide
theorem R0_ok : rOK R0 := ⟨Nat.le_of_ble_eq_true rfl, Nat.le_of_ble_eq_true rfl, Nat.le_of_ble_eq_true rfl, Nat.le_of_ble_eq_true rfl, Nat.le_of_ble_eq_true rfl, Nat.le_of_ble_eq_true rfl, Nat.le_of_ble_eq_true rfl, Nat.le_of_ble_eq_true rfl, fun _ => Nat.zero_le _, fun _ => Nat.zero_le _, fun _ => Nat.zero_le _, fun _ => Nat.zero_le _, fun _ => Nat.zero_le _, fun _ => Nat.zero_le _⟩
theorem jIv0 : jIv (fun _ => R0) (fun _ _ => 0) (fun _ => -1) (fun _ => 0) (fun _ => 0) := by
  refine ⟨⟨R0_ok, ⟨fun i hi => absurd hi (Nat.not_lt_zero _), rfl, fun i hi => absurd hi (Nat.not_lt_zero _), rfl, rfl⟩, fun i hi => absurd hi (Nat.not_lt_zero _)⟩, ⟨⟨fun _ => Nat.zero_le _, fun _ => Nat.zero_le _, Nat.zero_le _⟩, fun _ => show 0 < 128 by decide, Nat.zero_le _, Nat.zero_le _, Nat.zero_le _⟩, fun k hk => ⟨Or.inl rfl, Nat.zero_le _⟩, ⟨fun _ => Nat.zero_le _, fun _ => Nat.zero_le _, fun _ => Nat.zero_le _, fun _ => Nat.zero_le _, fun _ => Nat.zero_le _, fun _ => Nat.zero_le _⟩, fun h => ?_, fun h => ?_⟩
  · cases h
  · cases h
set_option maxRecDepth 100000 in
set_option maxHeartbeats 4000000 in
theorem law_main {N9 : Nat} {xs : Nat → Int32} (nm : String) (hN : N9 ≤ 2560) : JX N9 xs (KL nm) 0 QL 0 [some (.ref 4000), none, none, none] [] [] 0 0 := by
  refine JX.mk 0 (wC (fun _ => R0) (fun _ _ => 0) (fun _ _ => 0) (fun _ => 0) (fun _ => 0) (fun _ _ => 0) (fun _ _ => 0) (fun _ => -1) 0) dL_law_0 dL_law_3 dL_law_4 jNL_7 okX6_initA jIL_9 mX6_init rfl rfl rfl (fun x hx => absurd hx List.not_mem_nil) (by decide +kernel) (by decide +kernel) (by decide +kernel) (Nat.le_of_ble_eq_true rfl) (Nat.le_of_ble_eq_true rfl) rfl wC0_cl (Nat.le_of_ble_eq_true rfl) (jsh0 _) ?_
  rw [List.nil_append]
  refine JX.astore_n dL_law_7 rfl (Nat.le_of_ble_eq_true rfl) rfl ?_
  dsimp only [List.set]
  refine JX.mk 62 (w7 (wM (fun _ => 0) (fun _ => 0) R0 (fun _ _ => 0) (fun _ _ => 0) (fun _ => -1) 0 (fun _ => 0) (fun _ _ => 0) 0 (fun _ _ => 0) 0 (fun _ => 0) (fun _ _ => 0))) dL_law_8 dL_law_11 dL_law_12 jNL_10 okX7_initA jIL_12 mX7_init rfl rfl rfl wC0_cl (by decide +kernel) (by decide +kernel) (by decide +kernel) (Nat.le_of_ble_eq_true rfl) (Nat.le_of_ble_eq_true rfl) rfl (jcl_b (by decide +kernel)) (Nat.le_of_ble_eq_true rfl) rfl ?_
  refine JX.astore_n dL_law_15 rfl (Nat.le_of_ble_eq_true rfl) rfl ?_
  dsimp only [List.set]
  refine JX.iconst (0) dL_law_16 (by decide) ?_
  refine JX.istore_n dL_law_17 rfl (Nat.le_of_ble_eq_true rfl) rfl ?_
  dsimp only [List.set]
  exact law_l hN N9 0 (by omega) (Nat.zero_le _) _ _ _ _ _ _ _ _ _ _ _ _ _ _ _ _ _ _ jIv0
theorem jN_all {args : Array Value} {s : State} (h6 : ∀ w ∈ lw_tbl, w.before args s = true) : ∀ w ∈ jNs, va_Nw w s := by
  intro w hw
  have h1 := (List.mem_filter.mp hw).1
  have h2 := (List.mem_filter.mp hw).2
  refine va_Nw.of ?_ (h6 w (List.mem_append_right _ h1))
  cases w <;> first | rfl | cases h2
set_option maxRecDepth 100000 in
set_option maxHeartbeats 4000000 in
theorem jU_of {args : Array Value} {s : State} (h6 : ∀ w ∈ lw_tbl, w.before args s = true) : ∃ dC dI cy, jU dC dI cy s := by
  have hts : ∀ w ∈ jTs, w.before args s = true := fun w hw => h6 w (List.mem_filter.mp hw).1
  have ht : ∀ (n : Nat) (w : Cond), tables_1[n]? = some w → w.before args s = true := fun n w h => h6 w (List.mem_append_right _ (List.mem_of_getElem? h))
  obtain ⟨c0, i0, k0⟩ := u_known hts jin0 (ht 164 _ rfl)
  obtain ⟨c1, i1, k1⟩ := u_known hts jin1 (ht 102 _ rfl)
  obtain ⟨c2, i2, k2⟩ := u_known hts jin2 (ht 24 _ rfl)
  obtain ⟨c3, i3, k3⟩ := u_known hts jin3 (ht 212 _ rfl)
  obtain ⟨c4, i4, k4⟩ := u_known hts jin4 (ht 232 _ rfl)
  obtain ⟨c5, i5, k5⟩ := u_known hts jin5 (ht 108 _ rfl)
  obtain ⟨c6, i6, k6⟩ := u_known hts jin6 (ht 16 _ rfl)
  obtain ⟨c7, i7, k7⟩ := u_known hts jin7 (ht 773 _ rfl)
  obtain ⟨a0, ka0, co0, e0, f0, g0⟩ := Cond.arrayClass_spec (type := .int) (ht 99 _ rfl)
  obtain ⟨a1, ka1, co1, e1, f1, g1⟩ := Cond.arrayClass_spec (type := .long) (ht 210 _ rfl)
  obtain ⟨a2, ka2, co2, e2, f2, g2⟩ := Cond.arrayClass_spec (type := .byte) (ht 123 _ rfl)
  obtain ⟨a3, ka3, co3, e3, f3, g3⟩ := Cond.arrayClass_spec (type := .boolean) (ht 122 _ rfl)
  obtain ⟨co4, a4, ka4, e4, q4, f4, g4, h4⟩ := Cond.arrayOver_spec (n := RX2) (ht 100 _ rfl)
  obtain ⟨co5, a5, ka5, e5, q5, f5, g5, h5⟩ := Cond.arrayOver_spec (n := RX4) (ht 231 _ rfl)
  refine ⟨fun k => match k with
    | 0 => c0
    | 1 => c1
    | 2 => c2
    | 3 => c3
    | 4 => c4
    | 5 => c5
    | 6 => c6
    | _ => c7, fun k => match k with
    | 0 => i0
    | 1 => i1
    | 2 => i2
    | 3 => i3
    | 4 => i4
    | 5 => i5
    | 6 => i6
    | _ => i7, fun k => match k with
    | 0 => a0
    | 1 => a1
    | 2 => a2
    | 3 => a3
    | 4 => a4
    | _ => a5, jN_all h6, ⟨fun c q hq => ?_, fun k q hq => ?_⟩, ?_, ?_⟩
  · match c, hq with
    | 0, hq => cases hq; exact k0
    | 1, hq => cases hq; exact k1
    | 2, hq => cases hq; exact k2
    | 3, hq => cases hq; exact k3
    | 4, hq => cases hq; exact k4
    | 5, hq => cases hq; exact k5
    | 6, hq => cases hq; exact k6
    | 7, hq => cases hq; exact k7
    | c + 8, hq => simp at hq
  · match k, hq with
    | 0, hq => cases hq; exact ⟨fun n z => ⟨fun k h => (by cases h), ka0, f0, co0, g0⟩, e0⟩
    | 1, hq => cases hq; exact ⟨fun n z => ⟨fun k h => (by cases h), ka1, f1, co1, g1⟩, e1⟩
    | 2, hq => cases hq; exact ⟨fun n z => ⟨fun k h => (by cases h), ka2, f2, co2, g2⟩, e2⟩
    | 3, hq => cases hq; exact ⟨fun n z => ⟨fun k h => (by cases h), ka3, f3, co3, g3⟩, e3⟩
    | 4, hq => cases hq; exact ⟨fun n z => ⟨fun k h => (by cases h), ka4, f4, co4, g4⟩, ka4, co4, f4, g4, e4, h4⟩
    | 5, hq => cases hq; exact ⟨fun n z => ⟨fun k h => (by cases h), ka5, f5, co5, g5⟩, ka5, co5, f5, g5, e5, h5⟩
    | c + 6, hq => simp at hq
  · exact ht 100 _ rfl
  · exact ht 231 _ rfl
def jtm (i : Nat) : Term := .string RX1 (jidx.getD i 0)
def jad (b t : Nat) (adK adV : Nat → Nat) (k : Nat) : Nat := if k = 4000 then b else if k = 3000 then t else if 2000 ≤ k then adV (k - 2000) else adK (k - 1000)
theorem jad_K {b t : Nat} {adK adV : Nat → Nat} {i : Nat} (h : i < 11) : jad b t adK adV (1000 + i) = adK i := by
  unfold jad
  rw [if_neg (by omega), if_neg (by omega), if_neg (by omega), Nat.add_sub_cancel_left]
theorem jad_V {b t : Nat} {adK adV : Nat → Nat} {i : Nat} (h : i < 11) : jad b t adK adV (2000 + i) = adV i := by
  unfold jad
  rw [if_neg (by omega), if_neg (by omega), if_pos (by omega), Nat.add_sub_cancel_left]
set_option maxRecDepth 100000 in
theorem jS_of {args : Array Value} {s : State} (b : Nat) (h6 : ∀ w ∈ lw_tbl, w.before args s = true) (hg : (Jvm.Cond.and given_1 narrow_1).before args s = true) : ∃ ad : Nat → Nat, ad 4000 = b ∧ jS ad (fun q => s.heap.size ≤ q) s s.heap := by
  have ht : ∀ (n : Nat) (w : Cond), tables_1[n]? = some w → w.before args s = true := fun n w h => h6 w (List.mem_append_right _ (List.mem_of_getElem? h))
  have hs := flat_of_before _ hg
  have hA : ∀ a : Nat, a < s.heap.size → ¬ s.heap.size ≤ a := fun a h => Nat.not_le.mpr h
  have m1 : ∀ i, i < 11 → Cond.exactly (jtm i) "java/lang/String" ∈ flatC (Jvm.Cond.and given_1 narrow_1) := by decide +kernel
  have m2 : ∀ i, i < 11 → Cond.eq (.field (jtm i) "java/lang/String" "coder" "B") (.int 0) ∈ flatC (Jvm.Cond.and given_1 narrow_1) := by decide +kernel
  have m3 : ∀ i, i < 11 → Cond.arrayOf (.field (jtm i) "java/lang/String" "value" "[B") .byte ∈ flatC (Jvm.Cond.and given_1 narrow_1) := by decide +kernel
  have m4 : ∀ i, i < 11 → Cond.eq (.length (.field (jtm i) "java/lang/String" "value" "[B")) (.int (Int32.ofNat (jlen.getD i 0))) ∈ flatC (Jvm.Cond.and given_1 narrow_1) := by decide +kernel
  have m5 : ∀ i, i < 11 → ∀ j, j < jlen.getD i 0 → Cond.eq (.elem (.field (jtm i) "java/lang/String" "value" "[B") (.int (Int32.ofNat j))) (.int ((jbyt.getD i []).getD j 0)) ∈ flatC (Jvm.Cond.and given_1 narrow_1) := by decide +kernel
  have m6 : ∀ i, i < 11 → ∀ j, j < 11 → i ≠ j → Cond.not (Cond.eq (jtm i) (jtm j)) ∈ flatC (Jvm.Cond.and given_1 narrow_1) ∨ Cond.not (Cond.eq (jtm j) (jtm i)) ∈ flatC (Jvm.Cond.and given_1 narrow_1) := by decide +kernel
  have m7 : ∀ i, i < 11 → Cond.stringRef RX1 (jidx.getD i 0) (jtx.getD i "") ∈ tables_1 := by decide +kernel
  obtain ⟨adK, adV, hS, hE⟩ := vk_Sof (args := args) (s := s) (N := 11) (tm := jtm) (len := jlen) (byt := jbyt) (A := fun q => s.heap.size ≤ q) (by decide) (fun i hi => hs _ (m1 i hi)) (fun i hi => hs _ (m2 i hi)) (fun i hi => hs _ (m3 i hi)) (fun i hi => hs _ (m4 i hi)) (fun i hi j hj => hs _ (m5 i hi j hj)) (fun i j hi hj h => (m6 i hi j hj h).imp (fun q => hs _ q) (fun q => hs _ q)) hA
  have z1 : va_Z "java/lang/String" "COMPACT_STRINGS" "Z" (.int 1) (fun q => s.heap.size ≤ q) s s.heap := va_Zof (ht 335 _ rfl) (ht 9 _ rfl) (va_eqi (hs _ (by decide +kernel))) hA
  have z2 : va_Zq "jdk/internal/util/Preconditions" "SIOOBE_FORMATTER" "Ljava/util/function/BiFunction;" (fun q => s.heap.size ≤ q) s s.heap := va_Zqof (ht 351 _ rfl) (ht 11 _ rfl) (hs _ (by decide +kernel)) hA
  have main : ∀ t : Nat, (va_Z "jdk/internal/util/Preconditions" "SIOOBE_FORMATTER" "Ljava/util/function/BiFunction;" .null (fun q => s.heap.size ≤ q) s s.heap ∨ va_Z "jdk/internal/util/Preconditions" "SIOOBE_FORMATTER" "Ljava/util/function/BiFunction;" (.ref t) (fun q => s.heap.size ≤ q) s s.heap) → ∃ ad : Nat → Nat, ad 4000 = b ∧ jS ad (fun q => s.heap.size ≤ q) s s.heap := by
    intro t hz
    refine ⟨jad b t adK adV, rfl, ⟨fun i hi => ?_, fun i j hi hj e => ?_⟩, fun i hi => ?_, z1, hz⟩
    · show va_O _ (jad b t adK adV (1000 + i)) _ _ _ ∧ va_OF _ _ _ _ (jad b t adK adV (1000 + i)) _ _ _ ∧ va_OF _ _ _ (.ref (jad b t adK adV (2000 + i))) (jad b t adK adV (1000 + i)) _ _ _ ∧ va_T _ (jad b t adK adV (2000 + i)) _ _ _ _ _
      rw [jad_K hi, jad_V hi]
      exact hS.1 i hi
    · have e : jad b t adK adV (1000 + i) = jad b t adK adV (1000 + j) := e
      rw [jad_K hi, jad_K hj] at e
      exact hS.2 i j hi hj e
    · rw [jad_K hi]
      exact vk_R.of (h6 _ (List.mem_append_right _ (m7 i hi))) (hE i hi)
  rcases z2 with z2 | ⟨t, z2⟩
  · exact main 0 (Or.inl z2)
  · exact main t (Or.inr z2)
/-! THE CLAIM OUT OF ONE WALK OF THE LAW'S BODY. Your part is whole_start (and what it stands on); all else here is the same for every law, but numbers. -/
def R_law : String := "SwordSeatLaw"
def lw_P (b : Addr) (xs : List Int32) (args : Array Value) (s : State) : Prop := args = #[.ref b] ∧ s.IntsAt b xs ∧ xs.length ≤ 2560 ∧ (Jvm.Cond.and given_1 narrow_1).before args s = true
def lw_Q (_ : Array Value) (s : State) (o : Outcome) (t : State) : Prop := o = .returned (some (.int 1)) ∧ Framed s o t [] 600000 7302250
def lw_Z (below : List Frame) (a : Array Value) (s : State) : State → Prop := fun t => ∃ o, t.status = .running ∧ Ended t below o ∧ lw_Q a s o t
/-- the law's own end, with 1 on the stack, nothing written that was there before, its room as the claim has it -/
theorem lw_ret {p : Program} {l : Launch} {e : Env} {s : State} {m : MethodId} {below : List Frame} {meth : Method} {c : Code} {b : Nat} (hx : p.tables.exec = Jvm.exec) (hb : c.code = code) (hr : meth.sig.returnType = ret) (hlocks : meth.locks = false) {pc : Nat} {H : Heap} {ls : Array Slot} (hdg : decode code pc = .ok (.ireturn, 1)) : W p l e room_1 s m #[Value.ref b] below meth c H [] 600000 7302250 (lw_Z below #[Value.ref b] s) (F0 m pc ls [.int 1]) := by
  intro T hT X
  obtain ⟨fs, hret, hrun, hended, hW, hframe⟩ := X.leave (v := some (.int 1)) (hlocks := hlocks) (fun h => by rw [hr] at h; cases h)
  have hmeth' : T.vm.method? m = some meth := X.method'
  refine ⟨T.setFrames fs, ?_, .returned (some (.int 1)), hrun, hended, rfl, ⟨_, rfl⟩, hW, hframe⟩
  jvm_step X.here [X.here.top, hx, hb, hdg, hmeth', hr, ret, narrow_b1]
  (try refine ⟨rfl, ?_⟩); (try refine ⟨rfl, ?_⟩)
  first | (intro acts; rw [hret _ acts rfl rfl rfl]) | rw [hret _ _ rfl rfl rfl]
  exact Steps.refl _
/-- what holds at the law's entry: the machine, the code, the tables' words (any of lw_tbl by 'hts w (by decide +kernel)'), the script of L ints xs at the cell b, what the Statement gives of the start (any of its parts by flat_of_before) -/
def lw_At (p : Program) (s : State) (m : MethodId) (meth : Method) (c : Code) (b L : Nat) (xs : Nat → Int32) : Prop :=
  p.tables.exec = Jvm.exec ∧ c.code = code ∧ meth.sig.returnType = ret ∧ c.maxLocals = 4 ∧ s.vm.findClass R_law = some m.cls ∧ (∀ w ∈ lw_tbl, w.before #[Value.ref b] s = true) ∧ va_X b L xs s s.heap ∧ b < s.heap.size ∧ meth.locks = false ∧ (Jvm.Cond.and given_1 narrow_1).before #[Value.ref b] s = true
theorem sbn {s t : State} {L9 : List Loc} {k n : Nat} (h : s.sameButNew t L9 k n) (hL : ∀ q ∈ L9, s.heap.size ≤ q.base) : s.sameButNew t [] k n := by
  obtain ⟨h1, h2, h3, h4, h5, h6⟩ := h
  refine ⟨h1, h2, h3, h4, h5, fun a c hc => ?_⟩
  obtain ⟨c', g1, g2, g3, g4⟩ := h6 a c hc
  refine ⟨c', g1, g2, g3, fun i _ => g4 i (fun hm => ?_)⟩
  have g5 : s.heap.size ≤ a := hL _ hm
  have g6 : a < s.heap.size := (Array.getElem?_eq_some_iff.mp hc).1
  exact absurd g6 (Nat.not_lt.mpr g5)
theorem whole_start {p : Program} {e : Env} {s : State} {m : MethodId} {below : List Frame} {meth : Method} {c : Code} (l : Launch) {b L : Nat} {xs : Nat → Int32} (hL : L ≤ 2560) (C0 : lw_At p s m meth c b L xs) : W p l e room_1 s m #[Value.ref b] below meth c s.heap [] 0 0 (lw_Z below #[Value.ref b] s) (entryFrame m ([Value.ref b] : List Value).toArray 4) := by
  obtain ⟨h1, h2, h3, h4, h5, h6, h7, h8, h9, h10⟩ := C0
  obtain ⟨dC, dI, cy, hU⟩ := jU_of h6
  obtain ⟨ad, hb, hS⟩ := jS_of b h6 h10
  subst hb
  have hJ := law_main (N9 := L) (xs := xs) meth.name hL
  have hL4 : jL ad ((lg_sl ([Value.ref 4000].map (jg ad)) ++ List.replicate (4 - (lg_sl ([Value.ref 4000].map (jg ad))).length) Slot.unset).toArray) 4 [some (.ref 4000), none, none, none] := jent_ok ad rfl rfl
  have hW := hJ l p e s m #[Value.ref (ad 4000)] below meth c dC dI cy (fun q => s.heap.size ≤ q) ad ad s.heap [] _ ⟨h7, h8, Nat.not_le.mpr h8⟩ ⟨⟨h1, h2, h3, h4, h5, fun w hw => h6 w (List.mem_filter.mp hw).1, h9, rfl, hU, hS⟩, fun _ _ => rfl, fun q h => h, fun k q hq => (by cases hq), ⟨fun i j x y hi => (by cases hi), fun k q hq => (by cases hq)⟩, va_S.rf, hL4⟩
  rw [lg_entry_eq]
  intro T hT X
  obtain ⟨t, a1, o, r1, r2, ⟨⟨r, A', ad', e1, e2, -⟩, -⟩, L9, ⟨f1, f2, f3⟩, hL9⟩ := hW T hT X
  have e2 : r = some (.int 1) := e2
  subst e2
  refine ⟨t, a1, o, r1, r2, e1, f1, f2, sbn f3 hL9⟩
set_option maxHeartbeats 4000000 in
theorem lw_walk (l : Launch) (b : Addr) (xs : List Int32) : MetFree l x (headSpec (Jvm.Cond.code x code maxLocals ret :: tables_1) room_1) (lw_P b xs) (fun _ _ _ _ _ => True) lw_Q := by
  refine MetFree.of_bodyS (code := code) (maxLocals := maxLocals) (ret := ret) (by decide) ?_ ?_
  · intro args s m h hn
    obtain ⟨meth, c, h1, h2, h3, h4, h5, h6, -, -⟩ := Cond.code_spec hn (atoms_spec (ws := Jvm.Cond.code x code maxLocals ret :: tables_1) h _ List.mem_cons_self)
    exact ⟨meth, c, h1, h2, h3, h4, h5, h6⟩
  · intro p e s m args below meth c s₁ B hml0 hP _
    obtain ⟨rfl, hx, hbd, hgv⟩ := hP
    obtain ⟨scr, harrAt, hlist, hof, hsmall⟩ := hx
    obtain ⟨hcb, hkn, -, -⟩ := State.arrayAt?_spec harrAt
    have hown : s.vm.findClass R_law = some m.cls := findClass_of_methodNamed B.named
    have hts0 : ∀ c ∈ (Jvm.Cond.code x code maxLocals ret :: tables_1), c.before #[Value.ref b] s = true := atoms_spec (ws := Jvm.Cond.code x code maxLocals ret :: tables_1) B.pre
    have hts : ∀ w ∈ lw_tbl, w.before #[Value.ref b] s = true := k2_hts_sels lw_privs (fun w hw => hts0 w (List.mem_cons_of_mem _ hw)) lw_privs_ok
    have hml : c.maxLocals = 4 := B.maxLocals_eq (hts0 _ List.mem_cons_self)
    have X₀ : Stand p l e room_1 s m #[Value.ref b] below meth c s₁ [] 0 0 := Stand.of_body B
    have hh0 : s₁.heap = s.heap := by rw [B.state]; rfl
    have hsz : scr.slots.size = xs.length := by rw [← Array.length_toList, hlist, List.length_map]
    have hval : ∀ j : Nat, j < xs.length → scr.slots[j]? = some (.int (xs.getD j 0)) := fun j hj => by
      rw [← Array.getElem?_toList, hlist]
      simp [hj]
    have hbl : b < s.heap.size := (Array.getElem?_eq_some_iff.mp hcb).1
    have hX : va_X b xs.length (fun j => xs.getD j 0) s s.heap := ⟨scr, hcb, hof, hkn, hsz, hval⟩
    have K : W p l e room_1 s m #[Value.ref b] below meth c s₁.heap [] 0 0 (lw_Z below #[Value.ref b] s) (entryFrame m ([Value.ref b] : List Value).toArray 4) := by
      rw [hh0]
      exact whole_start l hbd ⟨B.exec, B.bytes, B.returns, hml, hown, hts, hX, hbl, B.notSynchronized, hgv⟩
    obtain ⟨t, a1, o, b1, b2, b3⟩ := K s₁ rfl X₀
    exact ⟨t, o, a1, b1, b2, b3⟩
theorem lw_pre_spec {args : Array Value} {s : State} (h : (Jvm.Cond.and given_1 narrow_1).before args s = true) (hr : rest_1_c.before args s = true) : ∃ (b : Addr) (xs : List Int32), lw_P b xs args s := by
  have hs := flat_of_before _ h
  have hq := flat_of_before _ hr
  have hc : (Cond.count 1).before args s = true := hs _ (by decide +kernel)
  have harr : (Cond.arrayOf (.arg 0) .int).before args s = true := hs _ (by decide +kernel)
  have hle : (Cond.le (.length (.arg 0)) (.int 2560)).before args s = true := hs _ (by decide +kernel)
  have hlen : (Cond.isInt (.length (.arg 0))).before args s = true := hq _ (by decide +kernel)
  have hall : (Cond.all (.arg 0) (.isInt (.elem (.arg 0) (.index 0)))).before args s = true := hq _ (by decide +kernel)
  obtain ⟨b, xs, hb, hx⟩ := State.ints_of_pre rfl harr hlen hall
  have hsm : xs.length < 2 ^ 31 := hx.choose_spec.2.2.2
  have hev : (Term.length (.arg 0)).eval args s none [] s = some (.int xs.length.toInt32) := hx.length_eval hb
  have hv := Cond.le_ints hev (show (Term.int 2560).eval args s none [] s = some (.int 2560) from rfl)
  have hd : xs.length.toInt32 ≤ 2560 := by
    simpa [Cond.before, Cond.holds, hv] using hle
  have hN : xs.length ≤ 2560 := (Int32.ofNat_le_ofNat hsm (by decide)).mp (show Int32.ofNat xs.length ≤ Int32.ofNat 2560 from hd)
  exact ⟨b, xs, Cond.one_arg hc (show args[0]? = some (.ref b) from hb), hx, hN, h⟩
theorem lw_comes (l : Launch) : Comes l x (Jvm.Cond.code x code maxLocals ret :: tables_1) room_1 (fun tb e args s => Calls_1 tb e args s ∧ rest_1 tb e args s ∧ Pre_1 tb e args s)
    (fun _ _ args s o t => lw_Q args s o t) := by
  intro p e ha hc hk s m args below hf hfit hheap happ hpre
  obtain ⟨b, xs, hP⟩ := lw_pre_spec hpre.2.2 hpre.2.1
  obtain ⟨k, o, h1, h2, h3, hQ⟩ := lw_walk l b xs p e ha hc hk s m args below hf ((Spec.applies_iff_loose hf).mp happ).1 hP trivial
  exact ⟨k, o, h1, h2, h3, hQ⟩
theorem lw_frame {s t : State} {o : Outcome} {args : Array Value} (h : Framed s o t [] 600000 7302250) :
    Framed s o t (fieldLocs frame_1_writes args s ++ arrayLocs frame_1_arrays args s ++ staticLocs frame_1_statics s) 600000 7302250 := h
theorem lw_limb (L : Cond) (hL : ∀ (args : Array Value) (s t : State), L.after args s (.returned (some (.int 1))) t = true) :
    ArmFor flags0 classFile x code maxLocals ret World_1 tables_1 room_1 Calls_1 rest_1 Pre_1
      (fun tb e a s o t => postC L tb e a s o t ∧ Framed s o t (fieldLocs frame_1_writes a s ++ arrayLocs frame_1_arrays a s ++ staticLocs frame_1_statics s) 600000 7302250) := by
  intro l _ _ _ p e ha hc hk s m args below hf hfit hheap happ hpre
  obtain ⟨k, o, h1, h2, h3, rfl, hF⟩ := lw_comes l p e ha hc hk s m args below hf hfit hheap happ hpre
  exact ⟨k, _, h1, h2, h3, hL args s _, lw_frame hF⟩
theorem i_vc : Claimed_1_1 ∧ Claimed_1_2 := ⟨lw_limb limb_1_1 (fun args s t => by simp [limb_1_1, Cond.after, Cond.holds, Cond.value]), lw_limb limb_1_2 (fun args s t => Cond.after_iff.mpr (by
  first | (rw [show limb_1_2 = Cond.eq .result (.int 1) from rfl, Cond.eq_ints (x := 1) (y := 1) rfl rfl]; simp; done) | (simp [limb_1_2, Cond.value, Term.eval]; done)))⟩
