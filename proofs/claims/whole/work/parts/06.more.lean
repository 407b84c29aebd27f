section JM
variable {K : jM} {n0 : Nat} {Q : Option Value → jW → Prop} {pc : Nat} {L : List (Option Value)} {st : List Value} {A : jW} {cells slots : Nat}
theorem jcatm (ad : Nat → Nat) (st : List Value) : ((st.map (jg ad)).map fun v => v.category).sum = (st.map fun v => v.category).sum := by
  rw [List.map_map]
  have : ((fun v => Value.category v) ∘ jg ad) = fun v => v.category := funext fun v => jg_cat ad v
  rw [this]
def jrm (K : jM) (st : List Value) (cells slots : Nat) : Bool := decide (1 ≤ K.2.2.2.2.2.frames ∧ (st.map fun v => v.category).sum + 15 ≤ K.2.2.2.2.2.locals ∧ cells ≤ K.2.2.2.2.2.cells ∧ slots ≤ K.2.2.2.2.2.slots)
set_option maxRecDepth 100000 in
theorem jmmmax_s : Cond.static Lib.Math.max.name ∈ jTs := jt 477 rfl rfl
set_option maxRecDepth 100000 in
theorem jmmmax_c : Cond.code Lib.Math.max.name Lib.Math.max.code 2 (some .int) ∈ jTs := jt 478 rfl rfl
theorem J.mmax {i : Nat} {x y : Int32} (d : decode K.2.1 pc = .ok (.invokestatic i, 3)) (hl : Cond.methodLink K.1 i Lib.Math.max.name ∈ jTs) (hr : jrm K st cells slots = true)
    (k : J K n0 Q (pc + 3) L (.int (if x < y then y else x) :: st) A cells slots) : J K n0 Q pc L (.int y :: .int x :: st) A cells slots := by
  intro l p e s m args below meth c dC dI cy A0 ad0 ad H locs ls hX
  simp only [jrm, decide_eq_true_eq] at hr
  refine va_mmax hX.1.1 hX.1.2.1 (hX.1.2.2.2.1.trans hX.2.2.2.2.2.2.1.symm) hX.1.2.2.2.2.1 (hX.1.2.2.2.2.2.1 _ hl) (hX.1.2.2.2.2.2.1 _ jmmmax_s) (hX.1.2.2.2.2.2.1 _ (jt 14 rfl rfl)) (hX.1.2.2.2.2.2.1 _ jmmmax_c) hr.1 ?_ hr.2.2.1 hr.2.2.2 d (k l p e s m args below meth c dC dI cy A0 ad0 ad H locs ls hX)
  have := jcatm ad st
  omega
set_option maxRecDepth 100000 in
theorem jmmmin_s : Cond.static Lib.Math.min.name ∈ jTs := jt 474 rfl rfl
set_option maxRecDepth 100000 in
theorem jmmmin_c : Cond.code Lib.Math.min.name Lib.Math.min.code 2 (some .int) ∈ jTs := jt 475 rfl rfl
theorem J.mmin {i : Nat} {x y : Int32} (d : decode K.2.1 pc = .ok (.invokestatic i, 3)) (hl : Cond.methodLink K.1 i Lib.Math.min.name ∈ jTs) (hr : jrm K st cells slots = true)
    (k : J K n0 Q (pc + 3) L (.int (if y < x then y else x) :: st) A cells slots) : J K n0 Q pc L (.int y :: .int x :: st) A cells slots := by
  intro l p e s m args below meth c dC dI cy A0 ad0 ad H locs ls hX
  simp only [jrm, decide_eq_true_eq] at hr
  refine va_mmin hX.1.1 hX.1.2.1 (hX.1.2.2.2.1.trans hX.2.2.2.2.2.2.1.symm) hX.1.2.2.2.2.1 (hX.1.2.2.2.2.2.1 _ hl) (hX.1.2.2.2.2.2.1 _ jmmmin_s) (hX.1.2.2.2.2.2.1 _ (jt 14 rfl rfl)) (hX.1.2.2.2.2.2.1 _ jmmmin_c) hr.1 ?_ hr.2.2.1 hr.2.2.2 d (k l p e s m args below meth c dC dI cy A0 ad0 ad H locs ls hX)
  have := jcatm ad st
  omega
set_option maxRecDepth 100000 in
theorem jmmabsL_s : Cond.static Lib.MathLoose.abs_long.x ∈ jTs := jt 572 rfl rfl
set_option maxRecDepth 100000 in
theorem jmmabsL_c : Cond.code Lib.MathLoose.abs_long.x Lib.MathLoose.abs_long.code 2 (some .long) ∈ jTs := jt 573 rfl rfl
theorem J.mabsL {i : Nat} {x : Int64} (d : decode K.2.1 pc = .ok (.invokestatic i, 3)) (hl : Cond.methodLink K.1 i Lib.MathLoose.abs_long.x ∈ jTs) (hr : jrm K st cells slots = true)
    (k : J K n0 Q (pc + 3) L (.long (if 0 < x then x else -x) :: st) A cells slots) : J K n0 Q pc L (.long x :: st) A cells slots := by
  intro l p e s m args below meth c dC dI cy A0 ad0 ad H locs ls hX
  simp only [jrm, decide_eq_true_eq] at hr
  refine va_mabs_long hX.1.1 hX.1.2.1 (hX.1.2.2.2.1.trans hX.2.2.2.2.2.2.1.symm) hX.1.2.2.2.2.1 (hX.1.2.2.2.2.2.1 _ hl) (hX.1.2.2.2.2.2.1 _ jmmabsL_s) (hX.1.2.2.2.2.2.1 _ (jt 14 rfl rfl)) (hX.1.2.2.2.2.2.1 _ jmmabsL_c) hr.1 ?_ hr.2.2.1 hr.2.2.2 d (k l p e s m args below meth c dC dI cy A0 ad0 ad H locs ls hX)
  have := jcatm ad st
  omega
set_option maxRecDepth 100000 in
theorem jmmmaxL_s : Cond.static Lib.MathLoose.max_long.x ∈ jTs := jt 653 rfl rfl
set_option maxRecDepth 100000 in
theorem jmmmaxL_c : Cond.code Lib.MathLoose.max_long.x Lib.MathLoose.max_long.code 4 (some .long) ∈ jTs := jt 654 rfl rfl
theorem J.mmaxL {i : Nat} {x y : Int64} (d : decode K.2.1 pc = .ok (.invokestatic i, 3)) (hl : Cond.methodLink K.1 i Lib.MathLoose.max_long.x ∈ jTs) (hr : jrm K st cells slots = true)
    (k : J K n0 Q (pc + 3) L (.long (if y < x then x else y) :: st) A cells slots) : J K n0 Q pc L (.long y :: .long x :: st) A cells slots := by
  intro l p e s m args below meth c dC dI cy A0 ad0 ad H locs ls hX
  simp only [jrm, decide_eq_true_eq] at hr
  refine va_mmax_long hX.1.1 hX.1.2.1 (hX.1.2.2.2.1.trans hX.2.2.2.2.2.2.1.symm) hX.1.2.2.2.2.1 (hX.1.2.2.2.2.2.1 _ hl) (hX.1.2.2.2.2.2.1 _ jmmmaxL_s) (hX.1.2.2.2.2.2.1 _ (jt 14 rfl rfl)) (hX.1.2.2.2.2.2.1 _ jmmmaxL_c) hr.1 ?_ hr.2.2.1 hr.2.2.2 d (k l p e s m args below meth c dC dI cy A0 ad0 ad H locs ls hX)
  have := jcatm ad st
  omega
/-! ===== Strings: constant j is cell 1000 + j, its bytes 2000 + j ===== -/
theorem J.ldcS {i j : Nat} (d : decode K.2.1 pc = .ok (.ldc i, 2)) (ho : K.1 = RX1) (hj : j < 11) (hi : jidx.getD j 0 = i)
    (k : J K n0 Q (pc + 2) L (.ref (1000 + j) :: st) A cells slots) : J K n0 Q pc L st A cells slots := by
  intro l p e s m args below meth c dC dI cy A0 ad0 ad H locs ls hX
  subst hi
  exact va_ldcS hX.1.1 hX.1.2.1 (own := RX1) (by rw [← ho]; exact hX.1.2.2.2.2.1) (hX.1.2.2.2.2.2.2.2.2.2.2.1 j hj) d (k l p e s m args below meth c dC dI cy A0 ad0 ad H locs ls hX)
theorem J.getfS {i j : Nat} (d : decode K.2.1 pc = .ok (.getfield i, 3)) (hj : j < 11) (hl : Cond.fieldLink K.1 i "java/lang/String" "value" "[B" ∈ jTs)
    (k : J K n0 Q (pc + 3) L (.ref (2000 + j) :: st) A cells slots) : J K n0 Q pc L (.ref (1000 + j) :: st) A cells slots := by
  intro l p e s m args below meth c dC dI cy A0 ad0 ad H locs ls hX
  exact vk_getf hX.1.1 hX.1.2.1 (hX.1.2.2.2.2.2.2.2.2.2.1.1 j hj).2.2.1 hX.2.2.2.2.2.1 hX.1.2.2.2.2.1 (hX.1.2.2.2.2.2.1 _ hl) (fun _ h => h) d (k l p e s m args below meth c dC dI cy A0 ad0 ad H locs ls hX)
theorem J.getfC {i j : Nat} (d : decode K.2.1 pc = .ok (.getfield i, 3)) (hj : j < 11) (hl : Cond.fieldLink K.1 i "java/lang/String" "coder" "B" ∈ jTs)
    (k : J K n0 Q (pc + 3) L (.int 0 :: st) A cells slots) : J K n0 Q pc L (.ref (1000 + j) :: st) A cells slots := by
  intro l p e s m args below meth c dC dI cy A0 ad0 ad H locs ls hX
  exact vk_getf hX.1.1 hX.1.2.1 (hX.1.2.2.2.2.2.2.2.2.2.1.1 j hj).2.1 hX.2.2.2.2.2.1 hX.1.2.2.2.2.1 (hX.1.2.2.2.2.2.1 _ hl) (fun _ h => h) d (k l p e s m args below meth c dC dI cy A0 ad0 ad H locs ls hX)
theorem J.alenS {j : Nat} (d : decode K.2.1 pc = .ok (.arraylength, 1)) (hj : j < 11)
    (k : J K n0 Q (pc + 1) L (.int (Int32.ofNat (jlen.getD j 0)) :: st) A cells slots) : J K n0 Q pc L (.ref (2000 + j) :: st) A cells slots := by
  intro l p e s m args below meth c dC dI cy A0 ad0 ad H locs ls hX
  exact va_tlen hX.1.1 hX.1.2.1 (hX.1.2.2.2.2.2.2.2.2.2.1.1 j hj).2.2.2 hX.2.2.2.2.2.1 rfl d (k l p e s m args below meth c dC dI cy A0 ad0 ad H locs ls hX)
theorem J.baldS {j : Nat} {i : Int32} (d : decode K.2.1 pc = .ok (.baload, 1)) (hj : j < 11) (hin : vp_in i (jlen.getD j 0))
    (k : J K n0 Q (pc + 1) L (.int ((jbyt.getD j []).getD i.toNatClampNeg 0) :: st) A cells slots) : J K n0 Q pc L (.int i :: .ref (2000 + j) :: st) A cells slots := by
  intro l p e s m args below meth c dC dI cy A0 ad0 ad H locs ls hX
  exact va_tb hX.1.1 hX.1.2.1 (hX.1.2.2.2.2.2.2.2.2.2.1.1 j hj).2.2.2 hX.2.2.2.2.2.1 hin rfl d (k l p e s m args below meth c dC dI cy A0 ad0 ad H locs ls hX)
theorem J.getsC {i : Nat} (d : decode K.2.1 pc = .ok (.getstatic i, 3)) (hl : Cond.fieldLink K.1 i "java/lang/String" "COMPACT_STRINGS" "Z" ∈ jTs)
    (k : J K n0 Q (pc + 3) L (.int 1 :: st) A cells slots) : J K n0 Q pc L st A cells slots := by
  intro l p e s m args below meth c dC dI cy A0 ad0 ad H locs ls hX
  exact va_gets hX.1.1 hX.1.2.1 hX.1.2.2.2.2.2.2.2.2.2.2.2.1 hX.2.2.2.2.2.1 hX.1.2.2.2.2.1 (hX.1.2.2.2.2.2.1 _ hl) (fun _ h => h) d (k l p e s m args below meth c dC dI cy A0 ad0 ad H locs ls hX)
theorem J.getsF {i : Nat} (d : decode K.2.1 pc = .ok (.getstatic i, 3)) (hl : Cond.fieldLink K.1 i "jdk/internal/util/Preconditions" "SIOOBE_FORMATTER" "Ljava/util/function/BiFunction;" ∈ jTs)
    (k1 : J K n0 Q (pc + 3) L (.null :: st) A cells slots) (k2 : J K n0 Q (pc + 3) L (.ref 3000 :: st) A cells slots) : J K n0 Q pc L st A cells slots := by
  intro l p e s m args below meth c dC dI cy A0 ad0 ad H locs ls hX
  rcases hX.1.2.2.2.2.2.2.2.2.2.2.2.2 with h | h
  · exact va_gets hX.1.1 hX.1.2.1 h hX.2.2.2.2.2.1 hX.1.2.2.2.2.1 (hX.1.2.2.2.2.2.1 _ hl) (fun _ h => h) d (k1 l p e s m args below meth c dC dI cy A0 ad0 ad H locs ls hX)
  · exact va_gets hX.1.1 hX.1.2.1 h hX.2.2.2.2.2.1 hX.1.2.2.2.2.1 (hX.1.2.2.2.2.2.1 _ hl) (fun _ h => h) d (k2 l p e s m args below meth c dC dI cy A0 ad0 ad H locs ls hX)
end JM
def jcVS (own : String) (idx : Nat) (K' : jM) (n : Nat) : Prop := Cond.methodLink own idx K'.2.2.2.1 ∈ jTs ∧ Cond.instanceMethod K'.2.2.2.1 ∈ jTs ∧ Cond.selects K'.2.2.2.1.cls K'.2.2.2.1 K'.2.2.2.1 ∈ jTs ∧ (parseMethodDescriptor K'.2.2.2.1.desc).map (fun d => d.parameters.length) = some n ∧ K'.2.2.2.1.cls = "java/lang/String"
section JCS
variable {K K' : jM} {n0 : Nat} {Q Q' : Option Value → jW → Prop} {pc : Nat} {L : List (Option Value)} {st rest as : List Value} {A : jW} {cells slots : Nat}
/-- a method of a String constant is called -/
theorem J.cvS {i j : Nat} {L0 : List (Option Value)} (hm : jmOK K') (hc : jcVS K.1 i K' as.length) (hJ : J K' 0 Q' 0 L0 [] [] 0 0) (d : decode K.2.1 pc = .ok (.invokevirtual i, 3)) (hj : j < 11)
    (hst : st = (as.map (jg (jr []))).reverse ++ .ref (1000 + j) :: rest) (hL : jent K'.2.2.1 (.ref (1000 + j) :: as) = L0) (hl0 : L0.length = K'.2.2.1)
    (hnum : (decide ((rest.map fun v => v.category).sum ≤ 8) && jroom K K' && decide (cells ≤ K.2.2.2.2.2.cells) && decide (slots ≤ K.2.2.2.2.2.slots)) = true)
    (kk : ∀ r B', Q' r B' → B' = [] ∧ J K n0 Q (pc + 3) L ((r.map (jg (jr []))).toList ++ rest) A cells slots) : J K n0 Q pc L st A cells slots := by
  intro l p e s m args below meth c dC dI cy A0 ad0 ad H locs ls hX
  simp only [jroom, Bool.and_eq_true, decide_eq_true_eq] at hnum
  obtain ⟨⟨⟨hcat, hrc, hrs, hrf, hrl⟩, hce⟩, hsl⟩ := hnum
  obtain ⟨hlk, hinst, hsel, hpar, hcls⟩ := hc
  have hts := hX.1.2.2.2.2.2.1
  have hB : ([] : List Nat).map (fun i => A[i]?) = ([] : jW).map (fun b => some (jrE (jr []) b)) := rfl
  have hl : ([] : jW).length < 1000 := by decide
  have hpre := jpre (as := .ref (1000 + j) :: as) hX hB hl rfl
  have hM := J.met (B := []) hm hJ hL hl0 l dC dI cy (fun k => ad (jr [] k)) H.size
  rw [hrc, hrs] at hM
  have hjr : jr [] (1000 + j) = 1000 + j := by simp [jr]
  have hstk : (F0 m pc ls (st.map (jg ad))).stack = (as.map (jg (fun k => ad (jr [] k)))).reverse ++ .ref (ad (jr [] (1000 + j))) :: rest.map (jg ad) := by
    show st.map (jg ad) = _
    rw [hst, List.map_append, List.map_reverse, List.map_map, List.map_cons, hjr]
    congr 2
    apply List.map_congr_left
    intro v _
    exact (jg_comp ad (jr []) v).symm
  have hcat2 : ((rest.map (jg ad)).map fun v => v.category).sum ≤ 8 := by rw [jcatm]; exact hcat
  have hrec := vk_recv hX.1.2.2.2.2.2.2.2.2.2.1 hj hX.2.2.2.2.2.1
  rw [← hcls] at hrec
  refine jback (Q' := Q') (rest := rest) (a := (.ref (ad (jr [] (1000 + j))) :: as.map (jg (fun k => ad (jr [] k)))).toArray) (B := []) hX hB hl rfl ?_ (fun r B' hq => ?_)
  · exact va_runV (own := K.1) (C := K'.2.2.2.1.cls) (bytes := K'.2.1) (maxL := K'.2.2.1) (ret := K'.2.2.2.2.1) (n := as.length) ⟨hX.1.1, hX.1.2.1, hX.1.2.2.2.1, hX.1.2.2.2.2.1, hts⟩ hM ⟨callB_of as.length hts (jgood hm) rfl hrc hrs (hts _ hm.2.2.2.1) (hts _ hlk) ⟨hm.2.2.2.2.1, hm.2.2.2.2.2, hpar⟩ ⟨hrf, hrl⟩, hts _ hinst, hts _ hsel⟩ ⟨hpre.1, by rw [hjr]; exact hrec, hpre.2⟩ rfl (by simp) hX.2.2.2.2.2.2.1 hstk (lv_room hcat2) d ⟨hce, hsl⟩
  · obtain ⟨rfl, h⟩ := kk r B' hq
    exact ⟨rfl, h⟩
end JCS
