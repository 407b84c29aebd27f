/-! ===== the reference's world ===== -/
def mcut : Nat → Int32 := fun j => nI ([0, 4, 8, 11, 15, 20, 26, 31, 35, 39, 46, 50].getD j 0)
def mlet : Nat → Int32 := fun j => nI ([104, 97, 105, 114, 107, 105, 110, 103, 108, 97, 119, 108, 111, 97, 100, 112, 114, 105, 122, 101, 98, 114, 111, 107, 101, 110, 112, 108, 97, 105, 110, 100, 97, 109, 112, 100, 121, 101, 100, 100, 111, 117, 98, 108, 101, 100, 115, 117, 110, 103].getD j 0)
def mln (z : Int32) : Int32 := if z = -1 then -4 else z
def pset (p : Nat → Int32) (k : Nat) (z : Int32) : Nat → Int32 := fun j => if j = k then z else p j
def aset (a : Nat → Nat → Int32) (k i : Nat) (z : Int32) : Nat → Nat → Int32 := fun y => if y = k then upd (a k) i z else a y
def hset (a : Nat → Nat → Int64) (k i : Nat) (z : Int64) : Nat → Nat → Int64 := fun y => if y = k then vp_updL (a k) i z else a y
/-- the reference's world: s, la its state and laws; r, v, c, l, tn as the class has them; the rest is its scratch -/
def wM (s : Nat → Int32) (la : Nat → Int32) (r : rT) (v : vT) (c : Nat → Nat → Int32) (l : Nat → Int32) (tn : Int32) (p : Nat → Int32) (pa : Nat → Nat → Int32) (m : Nat) (q : rT) (b : Int32) (x : Nat → Nat) (h : Nat → Nat → Int64) : jW := [.inr (7, [.ref 1, .int (nI (r 6 0)), .int (nI (r 6 1)), .ref 2, .int (nI (r 6 2)), .ref 3, .ref 4, .int (p 0), .int (p 1), .int (p 2), .int (p 3), .int (p 4), .ref 5, .int (nI (v 4 0)), .int (nI (v 5 7)), .int (p 5), .int (p 6), .int (p 7), .int (p 8), .int (p 9), .int (p 10), .ref 6, .ref 7, .ref 8, .ref 9, .int (nI m), .int (nI (q 6 0)), .int (nI (q 6 1)), .ref 10, .ref 11, .ref 12, .ref 13, .int (b), .ref 14, .ref 15, .ref 16, .int (nI (v 4 1)), .ref 17, .ref 18, .ref 19, .ref 20, .int (tn)]), .inl (0, 80, .inl s), .inl (0, 6, .inl la), .inl (0, 20, .inl (pa 0)), .inl (0, 6, .inl (pa 1)), .inl (0, 160, .inl (fun j => nI (v 1 j))), .inl (0, 12, .inl mcut), .inl (0, 50, .inl mlet), .inl (0, 3, .inl (fun j => nI (q 0 j))), .inl (0, 3, .inl (fun j => nI (q 1 j))), .inl (1, 8, .inr (.inl (fun j => lN (x j)))), .inl (1, 8, .inr (.inl (h 0))), .inl (1, 8, .inr (.inl (h 1))), .inl (1, 8, .inr (.inl (h 2))), .inl (1, 8, .inr (.inl (h 3))), .inl (1, 8, .inr (.inl (h 4))), .inl (0, 12, .inl (fun j => nI (if j % 2 = 0 then v 2 (j / 2) else v 3 (j / 2)))), .inl (3, 2, .inl (fun j => nI (v 0 j))), .inl (0, 4, .inl (fun j => mln (l j))), .inl (0, 4, .inl (fun j => nI (v 4 (2 + j)))), .inl (0, 160, .inl (fun j => c (j / 40) (j % 40)))]
def all21 : List Nat := List.range' 0 21
theorem wM_id (s : Nat → Int32) (la : Nat → Int32) (r : rT) (v : vT) (c : Nat → Nat → Int32) (l : Nat → Int32) (tn : Int32) (p : Nat → Int32) (pa : Nat → Nat → Int32) (m : Nat) (q : rT) (b : Int32) (x : Nat → Nat) (h : Nat → Nat → Int64) : (wM s la r v c l tn p pa m q b x h).map (jrE (jr all21)) = wM s la r v c l tn p pa m q b x h := rfl
theorem wM_in (s : Nat → Int32) (la : Nat → Int32) (r : rT) (v : vT) (c : Nat → Nat → Int32) (l : Nat → Int32) (tn : Int32) (p : Nat → Int32) (pa : Nat → Nat → Int32) (m : Nat) (q : rT) (b : Int32) (x : Nat → Nat) (h : Nat → Nat → Int64) (R : jW) : all21.map (fun i => (wM s la r v c l tn p pa m q b x h ++ R)[i]?) = (wM s la r v c l tn p pa m q b x h).map (fun b => some (jrE (jr all21) b)) := by
  have h : (wM s la r v c l tn p pa m q b x h).map (fun b => some (jrE (jr all21) b)) = ((wM s la r v c l tn p pa m q b x h).map (jrE (jr all21))).map some := by rw [List.map_map]; rfl
  rw [h, wM_id]
  rfl
theorem wM_out (s : Nat → Int32) (la : Nat → Int32) (r : rT) (v : vT) (c : Nat → Nat → Int32) (l : Nat → Int32) (tn : Int32) (p : Nat → Int32) (pa : Nat → Nat → Int32) (m : Nat) (q : rT) (b : Int32) (x : Nat → Nat) (h : Nat → Nat → Int64) (s' : Nat → Int32) (la' : Nat → Int32) (r' : rT) (v' : vT) (c' : Nat → Nat → Int32) (l' : Nat → Int32) (tn' : Int32) (p' : Nat → Int32) (pa' : Nat → Nat → Int32) (m' : Nat) (q' : rT) (b' : Int32) (x' : Nat → Nat) (h' : Nat → Nat → Int64) (R : jW) : jput (wM s la r v c l tn p pa m q b x h ++ R) all21 ((wM s' la' r' v' c' l' tn' p' pa' m' q' b' x' h').map (jrE (jr all21))) = wM s' la' r' v' c' l' tn' p' pa' m' q' b' x' h' ++ R := by
  rw [wM_id]
  exact jput_range R (wM s' la' r' v' c' l' tn' p' pa' m' q' b' x' h') [] (wM s la r v c l tn p pa m q b x h) rfl
theorem J.cvM {K K' : jM} {n0 : Nat} {Q Q' : Option Value → jW → Prop} {pc : Nat} {L : List (Option Value)} {st' rest as : List Value} {cells slots : Nat} {i : Nat} {L0 : List (Option Value)} (s : Nat → Int32) (la : Nat → Int32) (r : rT) (v : vT) (c : Nat → Nat → Int32) (l : Nat → Int32) (tn : Int32) (p : Nat → Int32) (pa : Nat → Nat → Int32) (m : Nat) (q : rT) (b : Int32) (x : Nat → Nat) (h : Nat → Nat → Int64) (hm : jmOK K') (hc : jcV K.1 i K' 7 as.length) (hJ : J K' 21 Q' 0 L0 [] (wM s la r v c l tn p pa m q b x h) 0 0) (d : decode K.2.1 pc = .ok (.invokevirtual i, 3))
    (hst : st' = (as.map (jg (jr all21))).reverse ++ .ref 0 :: rest) (hL : jent K'.2.2.1 (.ref 0 :: as) = L0) (hl0 : L0.length = K'.2.2.1)
    (hnum : (decide (21 < 1000) && va_nd all21 && decide ((rest.map fun v => v.category).sum ≤ 8) && jroom K K' && decide (cells ≤ K.2.2.2.2.2.cells) && decide (slots ≤ K.2.2.2.2.2.slots)) = true)
    (kk : ∀ r9 B', Q' r9 B' → ∃ s' la' r' v' c' l' tn' p' pa' m' q' b' x' h', B' = wM s' la' r' v' c' l' tn' p' pa' m' q' b' x' h' ∧ J K n0 Q (pc + 3) L ((r9.map (jg (jr all21))).toList ++ rest) (wM s' la' r' v' c' l' tn' p' pa' m' q' b' x' h') cells slots) : J K n0 Q pc L st' (wM s la r v c l tn p pa m q b x h) cells slots := by
  have e0 : wM s la r v c l tn p pa m q b x h = wM s la r v c l tn p pa m q b x h ++ [] := (List.append_nil _).symm
  rw [e0]
  refine J.cv (as := as) (is := all21) (o := 0) (rest := rest) hm hc hJ d rfl hst rfl (wM_in s la r v c l tn p pa m q b x h []) hL hl0 hnum (fun r9 B' h9 => ?_)
  obtain ⟨s', la', r', v', c', l', tn', p', pa', m', q', b', x', h', rfl, h8⟩ := kk r9 B' h9
  refine ⟨rfl, ?_⟩
  rw [wM_out, List.append_nil]
  exact h8
theorem vs_len (v : vT) (z k : Nat) (hk : k < 2) (j : Nat) : vset v 4 k z 4 (2 + j) = v 4 (2 + j) := by
  show (if 2 + j = k then z else v 4 (2 + j)) = _
  rw [if_neg (by omega)]
section JM
variable {K : jM} {n0 : Nat} {Q : Option Value → jW → Prop} {pc : Nat} {L : List (Option Value)} {st : List Value} {cells slots : Nat} {s : Nat → Int32} {la : Nat → Int32} {r : rT} {v : vT} {c : Nat → Nat → Int32} {l : Nat → Int32} {tn : Int32} {p : Nat → Int32} {pa : Nat → Nat → Int32} {m : Nat} {q : rT} {b : Int32} {x : Nat → Nat} {h : Nat → Nat → Int64}
theorem J.mg0 (d : decode K.2.1 pc = .ok (.getfield 7, 3)) (hK : K.1 = RX7) (k9 : J K n0 Q (pc + 3) L (.ref 1 :: st) (wM s la r v c l tn p pa m q b x h) cells slots) : J K n0 Q pc L (.ref 0 :: st) (wM s la r v c l tn p pa m q b x h) cells slots := J.getfield d (by rw [hK]; exact jFX7_7) rfl rfl k9
theorem J.mg1 (d : decode K.2.1 pc = .ok (.getfield 159, 3)) (hK : K.1 = RX7) (k9 : J K n0 Q (pc + 3) L (.int (nI (r 6 0)) :: st) (wM s la r v c l tn p pa m q b x h) cells slots) : J K n0 Q pc L (.ref 0 :: st) (wM s la r v c l tn p pa m q b x h) cells slots := J.getfield d (by rw [hK]; exact jFX7_159) rfl rfl k9
theorem J.mp1 {z : Nat} (d : decode K.2.1 pc = .ok (.putfield 159, 3)) (hK : K.1 = RX7) (k9 : J K n0 Q (pc + 3) L st (wM s la (rset r 6 0 z) v c l tn p pa m q b x h) cells slots) : J K n0 Q pc L (.int (nI z) :: .ref 0 :: st) (wM s la r v c l tn p pa m q b x h) cells slots := J.putfield d (by rw [hK]; exact jFX7_159) jP7_1 rfl rfl rfl (Nat.le_of_ble_eq_true rfl) k9
theorem J.mg2 (d : decode K.2.1 pc = .ok (.getfield 162, 3)) (hK : K.1 = RX7) (k9 : J K n0 Q (pc + 3) L (.int (nI (r 6 1)) :: st) (wM s la r v c l tn p pa m q b x h) cells slots) : J K n0 Q pc L (.ref 0 :: st) (wM s la r v c l tn p pa m q b x h) cells slots := J.getfield d (by rw [hK]; exact jFX7_162) rfl rfl k9
theorem J.mp2 {z : Nat} (d : decode K.2.1 pc = .ok (.putfield 162, 3)) (hK : K.1 = RX7) (k9 : J K n0 Q (pc + 3) L st (wM s la (rset r 6 1 z) v c l tn p pa m q b x h) cells slots) : J K n0 Q pc L (.int (nI z) :: .ref 0 :: st) (wM s la r v c l tn p pa m q b x h) cells slots := J.putfield d (by rw [hK]; exact jFX7_162) jP7_2 rfl rfl rfl (Nat.le_of_ble_eq_true rfl) k9
theorem J.mg3 (d : decode K.2.1 pc = .ok (.getfield 13, 3)) (hK : K.1 = RX7) (k9 : J K n0 Q (pc + 3) L (.ref 2 :: st) (wM s la r v c l tn p pa m q b x h) cells slots) : J K n0 Q pc L (.ref 0 :: st) (wM s la r v c l tn p pa m q b x h) cells slots := J.getfield d (by rw [hK]; exact jFX7_13) rfl rfl k9
theorem J.mg4 (d : decode K.2.1 pc = .ok (.getfield 165, 3)) (hK : K.1 = RX7) (k9 : J K n0 Q (pc + 3) L (.int (nI (r 6 2)) :: st) (wM s la r v c l tn p pa m q b x h) cells slots) : J K n0 Q pc L (.ref 0 :: st) (wM s la r v c l tn p pa m q b x h) cells slots := J.getfield d (by rw [hK]; exact jFX7_165) rfl rfl k9
theorem J.mp4 {z : Nat} (d : decode K.2.1 pc = .ok (.putfield 165, 3)) (hK : K.1 = RX7) (k9 : J K n0 Q (pc + 3) L st (wM s la (rset r 6 2 z) v c l tn p pa m q b x h) cells slots) : J K n0 Q pc L (.int (nI z) :: .ref 0 :: st) (wM s la r v c l tn p pa m q b x h) cells slots := J.putfield d (by rw [hK]; exact jFX7_165) jP7_4 rfl rfl rfl (Nat.le_of_ble_eq_true rfl) k9
theorem J.mg5 (d : decode K.2.1 pc = .ok (.getfield 16, 3)) (hK : K.1 = RX7) (k9 : J K n0 Q (pc + 3) L (.ref 3 :: st) (wM s la r v c l tn p pa m q b x h) cells slots) : J K n0 Q pc L (.ref 0 :: st) (wM s la r v c l tn p pa m q b x h) cells slots := J.getfield d (by rw [hK]; exact jFX7_16) rfl rfl k9
theorem J.mg6 (d : decode K.2.1 pc = .ok (.getfield 19, 3)) (hK : K.1 = RX7) (k9 : J K n0 Q (pc + 3) L (.ref 4 :: st) (wM s la r v c l tn p pa m q b x h) cells slots) : J K n0 Q pc L (.ref 0 :: st) (wM s la r v c l tn p pa m q b x h) cells slots := J.getfield d (by rw [hK]; exact jFX7_19) rfl rfl k9
theorem J.mg7 (d : decode K.2.1 pc = .ok (.getfield 123, 3)) (hK : K.1 = RX7) (k9 : J K n0 Q (pc + 3) L (.int (p 0) :: st) (wM s la r v c l tn p pa m q b x h) cells slots) : J K n0 Q pc L (.ref 0 :: st) (wM s la r v c l tn p pa m q b x h) cells slots := J.getfield d (by rw [hK]; exact jFX7_123) rfl rfl k9
theorem J.mp7 {z : Int32} (d : decode K.2.1 pc = .ok (.putfield 123, 3)) (hK : K.1 = RX7) (k9 : J K n0 Q (pc + 3) L st (wM s la r v c l tn (pset p 0 z) pa m q b x h) cells slots) : J K n0 Q pc L (.int (z) :: .ref 0 :: st) (wM s la r v c l tn p pa m q b x h) cells slots := J.putfield d (by rw [hK]; exact jFX7_123) jP7_7 rfl rfl rfl (Nat.le_of_ble_eq_true rfl) k9
theorem J.mg8 (d : decode K.2.1 pc = .ok (.getfield 130, 3)) (hK : K.1 = RX7) (k9 : J K n0 Q (pc + 3) L (.int (p 1) :: st) (wM s la r v c l tn p pa m q b x h) cells slots) : J K n0 Q pc L (.ref 0 :: st) (wM s la r v c l tn p pa m q b x h) cells slots := J.getfield d (by rw [hK]; exact jFX7_130) rfl rfl k9
theorem J.mp8 {z : Int32} (d : decode K.2.1 pc = .ok (.putfield 130, 3)) (hK : K.1 = RX7) (k9 : J K n0 Q (pc + 3) L st (wM s la r v c l tn (pset p 1 z) pa m q b x h) cells slots) : J K n0 Q pc L (.int (z) :: .ref 0 :: st) (wM s la r v c l tn p pa m q b x h) cells slots := J.putfield d (by rw [hK]; exact jFX7_130) jP7_8 rfl rfl rfl (Nat.le_of_ble_eq_true rfl) k9
theorem J.mg9 (d : decode K.2.1 pc = .ok (.getfield 133, 3)) (hK : K.1 = RX7) (k9 : J K n0 Q (pc + 3) L (.int (p 2) :: st) (wM s la r v c l tn p pa m q b x h) cells slots) : J K n0 Q pc L (.ref 0 :: st) (wM s la r v c l tn p pa m q b x h) cells slots := J.getfield d (by rw [hK]; exact jFX7_133) rfl rfl k9
theorem J.mp9 {z : Int32} (d : decode K.2.1 pc = .ok (.putfield 133, 3)) (hK : K.1 = RX7) (k9 : J K n0 Q (pc + 3) L st (wM s la r v c l tn (pset p 2 z) pa m q b x h) cells slots) : J K n0 Q pc L (.int (z) :: .ref 0 :: st) (wM s la r v c l tn p pa m q b x h) cells slots := J.putfield d (by rw [hK]; exact jFX7_133) jP7_9 rfl rfl rfl (Nat.le_of_ble_eq_true rfl) k9
theorem J.mg10 (d : decode K.2.1 pc = .ok (.getfield 147, 3)) (hK : K.1 = RX7) (k9 : J K n0 Q (pc + 3) L (.int (p 3) :: st) (wM s la r v c l tn p pa m q b x h) cells slots) : J K n0 Q pc L (.ref 0 :: st) (wM s la r v c l tn p pa m q b x h) cells slots := J.getfield d (by rw [hK]; exact jFX7_147) rfl rfl k9
theorem J.mp10 {z : Int32} (d : decode K.2.1 pc = .ok (.putfield 147, 3)) (hK : K.1 = RX7) (k9 : J K n0 Q (pc + 3) L st (wM s la r v c l tn (pset p 3 z) pa m q b x h) cells slots) : J K n0 Q pc L (.int (z) :: .ref 0 :: st) (wM s la r v c l tn p pa m q b x h) cells slots := J.putfield d (by rw [hK]; exact jFX7_147) jP7_10 rfl rfl rfl (Nat.le_of_ble_eq_true rfl) k9
theorem J.mg11 (d : decode K.2.1 pc = .ok (.getfield 138, 3)) (hK : K.1 = RX7) (k9 : J K n0 Q (pc + 3) L (.int (p 4) :: st) (wM s la r v c l tn p pa m q b x h) cells slots) : J K n0 Q pc L (.ref 0 :: st) (wM s la r v c l tn p pa m q b x h) cells slots := J.getfield d (by rw [hK]; exact jFX7_138) rfl rfl k9
theorem J.mp11 {z : Int32} (d : decode K.2.1 pc = .ok (.putfield 138, 3)) (hK : K.1 = RX7) (k9 : J K n0 Q (pc + 3) L st (wM s la r v c l tn (pset p 4 z) pa m q b x h) cells slots) : J K n0 Q pc L (.int (z) :: .ref 0 :: st) (wM s la r v c l tn p pa m q b x h) cells slots := J.putfield d (by rw [hK]; exact jFX7_138) jP7_11 rfl rfl rfl (Nat.le_of_ble_eq_true rfl) k9
theorem J.mg12 (d : decode K.2.1 pc = .ok (.getfield 22, 3)) (hK : K.1 = RX7) (k9 : J K n0 Q (pc + 3) L (.ref 5 :: st) (wM s la r v c l tn p pa m q b x h) cells slots) : J K n0 Q pc L (.ref 0 :: st) (wM s la r v c l tn p pa m q b x h) cells slots := J.getfield d (by rw [hK]; exact jFX7_22) rfl rfl k9
theorem J.mg13 (d : decode K.2.1 pc = .ok (.getfield 78, 3)) (hK : K.1 = RX7) (k9 : J K n0 Q (pc + 3) L (.int (nI (v 4 0)) :: st) (wM s la r v c l tn p pa m q b x h) cells slots) : J K n0 Q pc L (.ref 0 :: st) (wM s la r v c l tn p pa m q b x h) cells slots := J.getfield d (by rw [hK]; exact jFX7_78) rfl rfl k9
theorem J.mp13 {z : Nat} (d : decode K.2.1 pc = .ok (.putfield 78, 3)) (hK : K.1 = RX7) (k9 : J K n0 Q (pc + 3) L st (wM s la r (vset v 4 0 z) c l tn p pa m q b x h) cells slots) : J K n0 Q pc L (.int (nI z) :: .ref 0 :: st) (wM s la r v c l tn p pa m q b x h) cells slots := by
  have e : (fun j => nI (vset v 4 0 z 4 (2 + j))) = (fun j => nI (v 4 (2 + j))) := funext fun j => congrArg nI (vs_len v z 0 (by decide) j)
  refine J.putfield d (by rw [hK]; exact jFX7_78) jP7_13 rfl rfl rfl (Nat.le_of_ble_eq_true rfl) ?_
  have k8 := k9
  unfold wM at k8
  rw [e] at k8
  exact k8
theorem J.mg14 (d : decode K.2.1 pc = .ok (.getfield 156, 3)) (hK : K.1 = RX7) (k9 : J K n0 Q (pc + 3) L (.int (nI (v 5 7)) :: st) (wM s la r v c l tn p pa m q b x h) cells slots) : J K n0 Q pc L (.ref 0 :: st) (wM s la r v c l tn p pa m q b x h) cells slots := J.getfield d (by rw [hK]; exact jFX7_156) rfl rfl k9
theorem J.mp14 {z : Nat} (d : decode K.2.1 pc = .ok (.putfield 156, 3)) (hK : K.1 = RX7) (k9 : J K n0 Q (pc + 3) L st (wM s la r (vset v 5 7 z) c l tn p pa m q b x h) cells slots) : J K n0 Q pc L (.int (nI z) :: .ref 0 :: st) (wM s la r v c l tn p pa m q b x h) cells slots := J.putfield d (by rw [hK]; exact jFX7_156) jP7_14 rfl rfl rfl (Nat.le_of_ble_eq_true rfl) k9
theorem J.mg15 (d : decode K.2.1 pc = .ok (.getfield 82, 3)) (hK : K.1 = RX7) (k9 : J K n0 Q (pc + 3) L (.int (p 5) :: st) (wM s la r v c l tn p pa m q b x h) cells slots) : J K n0 Q pc L (.ref 0 :: st) (wM s la r v c l tn p pa m q b x h) cells slots := J.getfield d (by rw [hK]; exact jFX7_82) rfl rfl k9
theorem J.mp15 {z : Int32} (d : decode K.2.1 pc = .ok (.putfield 82, 3)) (hK : K.1 = RX7) (k9 : J K n0 Q (pc + 3) L st (wM s la r v c l tn (pset p 5 z) pa m q b x h) cells slots) : J K n0 Q pc L (.int (z) :: .ref 0 :: st) (wM s la r v c l tn p pa m q b x h) cells slots := J.putfield d (by rw [hK]; exact jFX7_82) jP7_15 rfl rfl rfl (Nat.le_of_ble_eq_true rfl) k9
theorem J.mg16 (d : decode K.2.1 pc = .ok (.getfield 88, 3)) (hK : K.1 = RX7) (k9 : J K n0 Q (pc + 3) L (.int (p 6) :: st) (wM s la r v c l tn p pa m q b x h) cells slots) : J K n0 Q pc L (.ref 0 :: st) (wM s la r v c l tn p pa m q b x h) cells slots := J.getfield d (by rw [hK]; exact jFX7_88) rfl rfl k9
theorem J.mp16 {z : Int32} (d : decode K.2.1 pc = .ok (.putfield 88, 3)) (hK : K.1 = RX7) (k9 : J K n0 Q (pc + 3) L st (wM s la r v c l tn (pset p 6 z) pa m q b x h) cells slots) : J K n0 Q pc L (.int (z) :: .ref 0 :: st) (wM s la r v c l tn p pa m q b x h) cells slots := J.putfield d (by rw [hK]; exact jFX7_88) jP7_16 rfl rfl rfl (Nat.le_of_ble_eq_true rfl) k9
theorem J.mg17 (d : decode K.2.1 pc = .ok (.getfield 94, 3)) (hK : K.1 = RX7) (k9 : J K n0 Q (pc + 3) L (.int (p 7) :: st) (wM s la r v c l tn p pa m q b x h) cells slots) : J K n0 Q pc L (.ref 0 :: st) (wM s la r v c l tn p pa m q b x h) cells slots := J.getfield d (by rw [hK]; exact jFX7_94) rfl rfl k9
theorem J.mp17 {z : Int32} (d : decode K.2.1 pc = .ok (.putfield 94, 3)) (hK : K.1 = RX7) (k9 : J K n0 Q (pc + 3) L st (wM s la r v c l tn (pset p 7 z) pa m q b x h) cells slots) : J K n0 Q pc L (.int (z) :: .ref 0 :: st) (wM s la r v c l tn p pa m q b x h) cells slots := J.putfield d (by rw [hK]; exact jFX7_94) jP7_17 rfl rfl rfl (Nat.le_of_ble_eq_true rfl) k9
theorem J.mg18 (d : decode K.2.1 pc = .ok (.getfield 85, 3)) (hK : K.1 = RX7) (k9 : J K n0 Q (pc + 3) L (.int (p 8) :: st) (wM s la r v c l tn p pa m q b x h) cells slots) : J K n0 Q pc L (.ref 0 :: st) (wM s la r v c l tn p pa m q b x h) cells slots := J.getfield d (by rw [hK]; exact jFX7_85) rfl rfl k9
theorem J.mp18 {z : Int32} (d : decode K.2.1 pc = .ok (.putfield 85, 3)) (hK : K.1 = RX7) (k9 : J K n0 Q (pc + 3) L st (wM s la r v c l tn (pset p 8 z) pa m q b x h) cells slots) : J K n0 Q pc L (.int (z) :: .ref 0 :: st) (wM s la r v c l tn p pa m q b x h) cells slots := J.putfield d (by rw [hK]; exact jFX7_85) jP7_18 rfl rfl rfl (Nat.le_of_ble_eq_true rfl) k9
theorem J.mg19 (d : decode K.2.1 pc = .ok (.getfield 91, 3)) (hK : K.1 = RX7) (k9 : J K n0 Q (pc + 3) L (.int (p 9) :: st) (wM s la r v c l tn p pa m q b x h) cells slots) : J K n0 Q pc L (.ref 0 :: st) (wM s la r v c l tn p pa m q b x h) cells slots := J.getfield d (by rw [hK]; exact jFX7_91) rfl rfl k9
theorem J.mp19 {z : Int32} (d : decode K.2.1 pc = .ok (.putfield 91, 3)) (hK : K.1 = RX7) (k9 : J K n0 Q (pc + 3) L st (wM s la r v c l tn (pset p 9 z) pa m q b x h) cells slots) : J K n0 Q pc L (.int (z) :: .ref 0 :: st) (wM s la r v c l tn p pa m q b x h) cells slots := J.putfield d (by rw [hK]; exact jFX7_91) jP7_19 rfl rfl rfl (Nat.le_of_ble_eq_true rfl) k9
theorem J.mg20 (d : decode K.2.1 pc = .ok (.getfield 101, 3)) (hK : K.1 = RX7) (k9 : J K n0 Q (pc + 3) L (.int (p 10) :: st) (wM s la r v c l tn p pa m q b x h) cells slots) : J K n0 Q pc L (.ref 0 :: st) (wM s la r v c l tn p pa m q b x h) cells slots := J.getfield d (by rw [hK]; exact jFX7_101) rfl rfl k9
theorem J.mp20 {z : Int32} (d : decode K.2.1 pc = .ok (.putfield 101, 3)) (hK : K.1 = RX7) (k9 : J K n0 Q (pc + 3) L st (wM s la r v c l tn (pset p 10 z) pa m q b x h) cells slots) : J K n0 Q pc L (.int (z) :: .ref 0 :: st) (wM s la r v c l tn p pa m q b x h) cells slots := J.putfield d (by rw [hK]; exact jFX7_101) jP7_20 rfl rfl rfl (Nat.le_of_ble_eq_true rfl) k9
theorem J.mg21 (d : decode K.2.1 pc = .ok (.getfield 25, 3)) (hK : K.1 = RX7) (k9 : J K n0 Q (pc + 3) L (.ref 6 :: st) (wM s la r v c l tn p pa m q b x h) cells slots) : J K n0 Q pc L (.ref 0 :: st) (wM s la r v c l tn p pa m q b x h) cells slots := J.getfield d (by rw [hK]; exact jFX7_25) rfl rfl k9
theorem J.mg22 (d : decode K.2.1 pc = .ok (.getfield 28, 3)) (hK : K.1 = RX7) (k9 : J K n0 Q (pc + 3) L (.ref 7 :: st) (wM s la r v c l tn p pa m q b x h) cells slots) : J K n0 Q pc L (.ref 0 :: st) (wM s la r v c l tn p pa m q b x h) cells slots := J.getfield d (by rw [hK]; exact jFX7_28) rfl rfl k9
theorem J.mg23 (d : decode K.2.1 pc = .ok (.getfield 31, 3)) (hK : K.1 = RX7) (k9 : J K n0 Q (pc + 3) L (.ref 8 :: st) (wM s la r v c l tn p pa m q b x h) cells slots) : J K n0 Q pc L (.ref 0 :: st) (wM s la r v c l tn p pa m q b x h) cells slots := J.getfield d (by rw [hK]; exact jFX7_31) rfl rfl k9
theorem J.mg24 (d : decode K.2.1 pc = .ok (.getfield 34, 3)) (hK : K.1 = RX7) (k9 : J K n0 Q (pc + 3) L (.ref 9 :: st) (wM s la r v c l tn p pa m q b x h) cells slots) : J K n0 Q pc L (.ref 0 :: st) (wM s la r v c l tn p pa m q b x h) cells slots := J.getfield d (by rw [hK]; exact jFX7_34) rfl rfl k9
theorem J.mg25 (d : decode K.2.1 pc = .ok (.getfield 180, 3)) (hK : K.1 = RX7) (k9 : J K n0 Q (pc + 3) L (.int (nI m) :: st) (wM s la r v c l tn p pa m q b x h) cells slots) : J K n0 Q pc L (.ref 0 :: st) (wM s la r v c l tn p pa m q b x h) cells slots := J.getfield d (by rw [hK]; exact jFX7_180) rfl rfl k9
theorem J.mp25 {z : Nat} (d : decode K.2.1 pc = .ok (.putfield 180, 3)) (hK : K.1 = RX7) (k9 : J K n0 Q (pc + 3) L st (wM s la r v c l tn p pa z q b x h) cells slots) : J K n0 Q pc L (.int (nI z) :: .ref 0 :: st) (wM s la r v c l tn p pa m q b x h) cells slots := J.putfield d (by rw [hK]; exact jFX7_180) jP7_25 rfl rfl rfl (Nat.le_of_ble_eq_true rfl) k9
theorem J.mg26 (d : decode K.2.1 pc = .ok (.getfield 183, 3)) (hK : K.1 = RX7) (k9 : J K n0 Q (pc + 3) L (.int (nI (q 6 0)) :: st) (wM s la r v c l tn p pa m q b x h) cells slots) : J K n0 Q pc L (.ref 0 :: st) (wM s la r v c l tn p pa m q b x h) cells slots := J.getfield d (by rw [hK]; exact jFX7_183) rfl rfl k9
theorem J.mp26 {z : Nat} (d : decode K.2.1 pc = .ok (.putfield 183, 3)) (hK : K.1 = RX7) (k9 : J K n0 Q (pc + 3) L st (wM s la r v c l tn p pa m (rset q 6 0 z) b x h) cells slots) : J K n0 Q pc L (.int (nI z) :: .ref 0 :: st) (wM s la r v c l tn p pa m q b x h) cells slots := J.putfield d (by rw [hK]; exact jFX7_183) jP7_26 rfl rfl rfl (Nat.le_of_ble_eq_true rfl) k9
theorem J.mg27 (d : decode K.2.1 pc = .ok (.getfield 186, 3)) (hK : K.1 = RX7) (k9 : J K n0 Q (pc + 3) L (.int (nI (q 6 1)) :: st) (wM s la r v c l tn p pa m q b x h) cells slots) : J K n0 Q pc L (.ref 0 :: st) (wM s la r v c l tn p pa m q b x h) cells slots := J.getfield d (by rw [hK]; exact jFX7_186) rfl rfl k9
theorem J.mp27 {z : Nat} (d : decode K.2.1 pc = .ok (.putfield 186, 3)) (hK : K.1 = RX7) (k9 : J K n0 Q (pc + 3) L st (wM s la r v c l tn p pa m (rset q 6 1 z) b x h) cells slots) : J K n0 Q pc L (.int (nI z) :: .ref 0 :: st) (wM s la r v c l tn p pa m q b x h) cells slots := J.putfield d (by rw [hK]; exact jFX7_186) jP7_27 rfl rfl rfl (Nat.le_of_ble_eq_true rfl) k9
theorem J.mg28 (d : decode K.2.1 pc = .ok (.getfield 37, 3)) (hK : K.1 = RX7) (k9 : J K n0 Q (pc + 3) L (.ref 10 :: st) (wM s la r v c l tn p pa m q b x h) cells slots) : J K n0 Q pc L (.ref 0 :: st) (wM s la r v c l tn p pa m q b x h) cells slots := J.getfield d (by rw [hK]; exact jFX7_37) rfl rfl k9
theorem J.mg29 (d : decode K.2.1 pc = .ok (.getfield 41, 3)) (hK : K.1 = RX7) (k9 : J K n0 Q (pc + 3) L (.ref 11 :: st) (wM s la r v c l tn p pa m q b x h) cells slots) : J K n0 Q pc L (.ref 0 :: st) (wM s la r v c l tn p pa m q b x h) cells slots := J.getfield d (by rw [hK]; exact jFX7_41) rfl rfl k9
theorem J.mg30 (d : decode K.2.1 pc = .ok (.getfield 44, 3)) (hK : K.1 = RX7) (k9 : J K n0 Q (pc + 3) L (.ref 12 :: st) (wM s la r v c l tn p pa m q b x h) cells slots) : J K n0 Q pc L (.ref 0 :: st) (wM s la r v c l tn p pa m q b x h) cells slots := J.getfield d (by rw [hK]; exact jFX7_44) rfl rfl k9
theorem J.mg31 (d : decode K.2.1 pc = .ok (.getfield 47, 3)) (hK : K.1 = RX7) (k9 : J K n0 Q (pc + 3) L (.ref 13 :: st) (wM s la r v c l tn p pa m q b x h) cells slots) : J K n0 Q pc L (.ref 0 :: st) (wM s la r v c l tn p pa m q b x h) cells slots := J.getfield d (by rw [hK]; exact jFX7_47) rfl rfl k9
theorem J.mg32 (d : decode K.2.1 pc = .ok (.getfield 248, 3)) (hK : K.1 = RX7) (k9 : J K n0 Q (pc + 3) L (.int (b) :: st) (wM s la r v c l tn p pa m q b x h) cells slots) : J K n0 Q pc L (.ref 0 :: st) (wM s la r v c l tn p pa m q b x h) cells slots := J.getfield d (by rw [hK]; exact jFX7_248) rfl rfl k9
theorem J.mp32 {z : Int32} (d : decode K.2.1 pc = .ok (.putfield 248, 3)) (hK : K.1 = RX7) (hz : narrow .boolean (.int z) = .int z) (hf : fits .boolean (.int z) = true) (k9 : J K n0 Q (pc + 3) L st (wM s la r v c l tn p pa m q z x h) cells slots) : J K n0 Q pc L (.int (z) :: .ref 0 :: st) (wM s la r v c l tn p pa m q b x h) cells slots := J.putfield d (by rw [hK]; exact jFX7_248) jP7_32 rfl hz hf (Nat.le_of_ble_eq_true rfl) k9
theorem J.mg33 (d : decode K.2.1 pc = .ok (.getfield 50, 3)) (hK : K.1 = RX7) (k9 : J K n0 Q (pc + 3) L (.ref 14 :: st) (wM s la r v c l tn p pa m q b x h) cells slots) : J K n0 Q pc L (.ref 0 :: st) (wM s la r v c l tn p pa m q b x h) cells slots := J.getfield d (by rw [hK]; exact jFX7_50) rfl rfl k9
theorem J.mg34 (d : decode K.2.1 pc = .ok (.getfield 53, 3)) (hK : K.1 = RX7) (k9 : J K n0 Q (pc + 3) L (.ref 15 :: st) (wM s la r v c l tn p pa m q b x h) cells slots) : J K n0 Q pc L (.ref 0 :: st) (wM s la r v c l tn p pa m q b x h) cells slots := J.getfield d (by rw [hK]; exact jFX7_53) rfl rfl k9
theorem J.mg35 (d : decode K.2.1 pc = .ok (.getfield 56, 3)) (hK : K.1 = RX7) (k9 : J K n0 Q (pc + 3) L (.ref 16 :: st) (wM s la r v c l tn p pa m q b x h) cells slots) : J K n0 Q pc L (.ref 0 :: st) (wM s la r v c l tn p pa m q b x h) cells slots := J.getfield d (by rw [hK]; exact jFX7_56) rfl rfl k9
theorem J.mg36 (d : decode K.2.1 pc = .ok (.getfield 168, 3)) (hK : K.1 = RX7) (k9 : J K n0 Q (pc + 3) L (.int (nI (v 4 1)) :: st) (wM s la r v c l tn p pa m q b x h) cells slots) : J K n0 Q pc L (.ref 0 :: st) (wM s la r v c l tn p pa m q b x h) cells slots := J.getfield d (by rw [hK]; exact jFX7_168) rfl rfl k9
theorem J.mp36 {z : Nat} (d : decode K.2.1 pc = .ok (.putfield 168, 3)) (hK : K.1 = RX7) (k9 : J K n0 Q (pc + 3) L st (wM s la r (vset v 4 1 z) c l tn p pa m q b x h) cells slots) : J K n0 Q pc L (.int (nI z) :: .ref 0 :: st) (wM s la r v c l tn p pa m q b x h) cells slots := by
  have e : (fun j => nI (vset v 4 1 z 4 (2 + j))) = (fun j => nI (v 4 (2 + j))) := funext fun j => congrArg nI (vs_len v z 1 (by decide) j)
  refine J.putfield d (by rw [hK]; exact jFX7_168) jP7_36 rfl rfl rfl (Nat.le_of_ble_eq_true rfl) ?_
  have k8 := k9
  unfold wM at k8
  rw [e] at k8
  exact k8
theorem J.mg37 (d : decode K.2.1 pc = .ok (.getfield 59, 3)) (hK : K.1 = RX7) (k9 : J K n0 Q (pc + 3) L (.ref 17 :: st) (wM s la r v c l tn p pa m q b x h) cells slots) : J K n0 Q pc L (.ref 0 :: st) (wM s la r v c l tn p pa m q b x h) cells slots := J.getfield d (by rw [hK]; exact jFX7_59) rfl rfl k9
theorem J.mg38 (d : decode K.2.1 pc = .ok (.getfield 63, 3)) (hK : K.1 = RX7) (k9 : J K n0 Q (pc + 3) L (.ref 18 :: st) (wM s la r v c l tn p pa m q b x h) cells slots) : J K n0 Q pc L (.ref 0 :: st) (wM s la r v c l tn p pa m q b x h) cells slots := J.getfield d (by rw [hK]; exact jFX7_63) rfl rfl k9
theorem J.mg39 (d : decode K.2.1 pc = .ok (.getfield 66, 3)) (hK : K.1 = RX7) (k9 : J K n0 Q (pc + 3) L (.ref 19 :: st) (wM s la r v c l tn p pa m q b x h) cells slots) : J K n0 Q pc L (.ref 0 :: st) (wM s la r v c l tn p pa m q b x h) cells slots := J.getfield d (by rw [hK]; exact jFX7_66) rfl rfl k9
theorem J.mg40 (d : decode K.2.1 pc = .ok (.getfield 69, 3)) (hK : K.1 = RX7) (k9 : J K n0 Q (pc + 3) L (.ref 20 :: st) (wM s la r v c l tn p pa m q b x h) cells slots) : J K n0 Q pc L (.ref 0 :: st) (wM s la r v c l tn p pa m q b x h) cells slots := J.getfield d (by rw [hK]; exact jFX7_69) rfl rfl k9
theorem J.mg41 (d : decode K.2.1 pc = .ok (.getfield 287, 3)) (hK : K.1 = RX7) (k9 : J K n0 Q (pc + 3) L (.int (tn) :: st) (wM s la r v c l tn p pa m q b x h) cells slots) : J K n0 Q pc L (.ref 0 :: st) (wM s la r v c l tn p pa m q b x h) cells slots := J.getfield d (by rw [hK]; exact jFX7_287) rfl rfl k9
theorem J.mp41 {z : Int32} (d : decode K.2.1 pc = .ok (.putfield 287, 3)) (hK : K.1 = RX7) (k9 : J K n0 Q (pc + 3) L st (wM s la r v c l z p pa m q b x h) cells slots) : J K n0 Q pc L (.int (z) :: .ref 0 :: st) (wM s la r v c l tn p pa m q b x h) cells slots := J.putfield d (by rw [hK]; exact jFX7_287) jP7_41 rfl rfl rfl (Nat.le_of_ble_eq_true rfl) k9
theorem J.ml1 (i : Nat) {e : Int32} (d : decode K.2.1 pc = .ok (.iaload, 1)) (he : e = nI i) (hi : i < 80) (k9 : J K n0 Q (pc + 1) L (.int (s i) :: st) (wM s la r v c l tn p pa m q b x h) cells slots) : J K n0 Q pc L (.int e :: .ref 1 :: st) (wM s la r v c l tn p pa m q b x h) cells slots := by
  subst he
  exact J.ialoadN d rfl hi k9
theorem J.ms1 (i : Nat) {e : Int32} {z : Int32} (d : decode K.2.1 pc = .ok (.iastore, 1)) (he : e = nI i) (hi : i < 80) (k9 : J K n0 Q (pc + 1) L st (wM (upd s i z) la r v c l tn p pa m q b x h) cells slots) : J K n0 Q pc L (.int z :: .int e :: .ref 1 :: st) (wM s la r v c l tn p pa m q b x h) cells slots := by
  subst he
  refine J.iastoreN d rfl hi ?_
  exact k9
theorem J.ml2 (i : Nat) {e : Int32} (d : decode K.2.1 pc = .ok (.iaload, 1)) (he : e = nI i) (hi : i < 6) (k9 : J K n0 Q (pc + 1) L (.int (la i) :: st) (wM s la r v c l tn p pa m q b x h) cells slots) : J K n0 Q pc L (.int e :: .ref 2 :: st) (wM s la r v c l tn p pa m q b x h) cells slots := by
  subst he
  exact J.ialoadN d rfl hi k9
theorem J.ms2 (i : Nat) {e : Int32} {z : Int32} (d : decode K.2.1 pc = .ok (.iastore, 1)) (he : e = nI i) (hi : i < 6) (k9 : J K n0 Q (pc + 1) L st (wM s (upd la i z) r v c l tn p pa m q b x h) cells slots) : J K n0 Q pc L (.int z :: .int e :: .ref 2 :: st) (wM s la r v c l tn p pa m q b x h) cells slots := by
  subst he
  refine J.iastoreN d rfl hi ?_
  exact k9
theorem J.ml3 (i : Nat) {e : Int32} (d : decode K.2.1 pc = .ok (.iaload, 1)) (he : e = nI i) (hi : i < 20) (k9 : J K n0 Q (pc + 1) L (.int (pa 0 i) :: st) (wM s la r v c l tn p pa m q b x h) cells slots) : J K n0 Q pc L (.int e :: .ref 3 :: st) (wM s la r v c l tn p pa m q b x h) cells slots := by
  subst he
  exact J.ialoadN d rfl hi k9
theorem J.ms3 (i : Nat) {e : Int32} {z : Int32} (d : decode K.2.1 pc = .ok (.iastore, 1)) (he : e = nI i) (hi : i < 20) (k9 : J K n0 Q (pc + 1) L st (wM s la r v c l tn p (aset pa 0 i z) m q b x h) cells slots) : J K n0 Q pc L (.int z :: .int e :: .ref 3 :: st) (wM s la r v c l tn p pa m q b x h) cells slots := by
  subst he
  refine J.iastoreN d rfl hi ?_
  exact k9
theorem J.ml4 (i : Nat) {e : Int32} (d : decode K.2.1 pc = .ok (.iaload, 1)) (he : e = nI i) (hi : i < 6) (k9 : J K n0 Q (pc + 1) L (.int (pa 1 i) :: st) (wM s la r v c l tn p pa m q b x h) cells slots) : J K n0 Q pc L (.int e :: .ref 4 :: st) (wM s la r v c l tn p pa m q b x h) cells slots := by
  subst he
  exact J.ialoadN d rfl hi k9
theorem J.ms4 (i : Nat) {e : Int32} {z : Int32} (d : decode K.2.1 pc = .ok (.iastore, 1)) (he : e = nI i) (hi : i < 6) (k9 : J K n0 Q (pc + 1) L st (wM s la r v c l tn p (aset pa 1 i z) m q b x h) cells slots) : J K n0 Q pc L (.int z :: .int e :: .ref 4 :: st) (wM s la r v c l tn p pa m q b x h) cells slots := by
  subst he
  refine J.iastoreN d rfl hi ?_
  exact k9
theorem J.ml5 (i : Nat) {e : Int32} (d : decode K.2.1 pc = .ok (.iaload, 1)) (he : e = nI i) (hi : i < 160) (k9 : J K n0 Q (pc + 1) L (.int (nI (v 1 i)) :: st) (wM s la r v c l tn p pa m q b x h) cells slots) : J K n0 Q pc L (.int e :: .ref 5 :: st) (wM s la r v c l tn p pa m q b x h) cells slots := by
  subst he
  exact J.ialoadN d rfl hi k9
theorem J.ms5 (i : Nat) {e : Int32} {z : Nat} (d : decode K.2.1 pc = .ok (.iastore, 1)) (he : e = nI i) (hi : i < 160) (k9 : J K n0 Q (pc + 1) L st (wM s la r (vset v 1 i z) c l tn p pa m q b x h) cells slots) : J K n0 Q pc L (.int (nI z) :: .int e :: .ref 5 :: st) (wM s la r v c l tn p pa m q b x h) cells slots := by
  subst he
  refine J.iastoreN d rfl hi ?_
  rw [upd_nI]
  exact k9
theorem J.ml6 (i : Nat) {e : Int32} (d : decode K.2.1 pc = .ok (.iaload, 1)) (he : e = nI i) (hi : i < 12) (k9 : J K n0 Q (pc + 1) L (.int (mcut i) :: st) (wM s la r v c l tn p pa m q b x h) cells slots) : J K n0 Q pc L (.int e :: .ref 6 :: st) (wM s la r v c l tn p pa m q b x h) cells slots := by
  subst he
  exact J.ialoadN d rfl hi k9
theorem J.ml7 (i : Nat) {e : Int32} (d : decode K.2.1 pc = .ok (.iaload, 1)) (he : e = nI i) (hi : i < 50) (k9 : J K n0 Q (pc + 1) L (.int (mlet i) :: st) (wM s la r v c l tn p pa m q b x h) cells slots) : J K n0 Q pc L (.int e :: .ref 7 :: st) (wM s la r v c l tn p pa m q b x h) cells slots := by
  subst he
  exact J.ialoadN d rfl hi k9
theorem J.ml8 (i : Nat) {e : Int32} (d : decode K.2.1 pc = .ok (.iaload, 1)) (he : e = nI i) (hi : i < 3) (k9 : J K n0 Q (pc + 1) L (.int (nI (q 0 i)) :: st) (wM s la r v c l tn p pa m q b x h) cells slots) : J K n0 Q pc L (.int e :: .ref 8 :: st) (wM s la r v c l tn p pa m q b x h) cells slots := by
  subst he
  exact J.ialoadN d rfl hi k9
theorem J.ms8 (i : Nat) {e : Int32} {z : Nat} (d : decode K.2.1 pc = .ok (.iastore, 1)) (he : e = nI i) (hi : i < 3) (k9 : J K n0 Q (pc + 1) L st (wM s la r v c l tn p pa m (rset q 0 i z) b x h) cells slots) : J K n0 Q pc L (.int (nI z) :: .int e :: .ref 8 :: st) (wM s la r v c l tn p pa m q b x h) cells slots := by
  subst he
  refine J.iastoreN d rfl hi ?_
  rw [upd_nI]
  exact k9
theorem J.ml9 (i : Nat) {e : Int32} (d : decode K.2.1 pc = .ok (.iaload, 1)) (he : e = nI i) (hi : i < 3) (k9 : J K n0 Q (pc + 1) L (.int (nI (q 1 i)) :: st) (wM s la r v c l tn p pa m q b x h) cells slots) : J K n0 Q pc L (.int e :: .ref 9 :: st) (wM s la r v c l tn p pa m q b x h) cells slots := by
  subst he
  exact J.ialoadN d rfl hi k9
theorem J.ms9 (i : Nat) {e : Int32} {z : Nat} (d : decode K.2.1 pc = .ok (.iastore, 1)) (he : e = nI i) (hi : i < 3) (k9 : J K n0 Q (pc + 1) L st (wM s la r v c l tn p pa m (rset q 1 i z) b x h) cells slots) : J K n0 Q pc L (.int (nI z) :: .int e :: .ref 9 :: st) (wM s la r v c l tn p pa m q b x h) cells slots := by
  subst he
  refine J.iastoreN d rfl hi ?_
  rw [upd_nI]
  exact k9
theorem J.ml10 (i : Nat) {e : Int32} (d : decode K.2.1 pc = .ok (.laload, 1)) (he : e = nI i) (hi : i < 8) (k9 : J K n0 Q (pc + 1) L (.long (lN (x i)) :: st) (wM s la r v c l tn p pa m q b x h) cells slots) : J K n0 Q pc L (.int e :: .ref 10 :: st) (wM s la r v c l tn p pa m q b x h) cells slots := by
  subst he
  exact J.laloadN d rfl hi k9
theorem J.ms10 (i : Nat) {e : Int32} {z : Nat} (d : decode K.2.1 pc = .ok (.lastore, 1)) (he : e = nI i) (hi : i < 8) (k9 : J K n0 Q (pc + 1) L st (wM s la r v c l tn p pa m q b (fun j => if j = i then z else x j) h) cells slots) : J K n0 Q pc L (.long (lN z) :: .int e :: .ref 10 :: st) (wM s la r v c l tn p pa m q b x h) cells slots := by
  subst he
  refine J.lastoreN d rfl hi ?_
  rw [updL_lN]
  exact k9
theorem J.ml11 (i : Nat) {e : Int32} (d : decode K.2.1 pc = .ok (.laload, 1)) (he : e = nI i) (hi : i < 8) (k9 : J K n0 Q (pc + 1) L (.long (h 0 i) :: st) (wM s la r v c l tn p pa m q b x h) cells slots) : J K n0 Q pc L (.int e :: .ref 11 :: st) (wM s la r v c l tn p pa m q b x h) cells slots := by
  subst he
  exact J.laloadN d rfl hi k9
theorem J.ms11 (i : Nat) {e : Int32} {z : Int64} (d : decode K.2.1 pc = .ok (.lastore, 1)) (he : e = nI i) (hi : i < 8) (k9 : J K n0 Q (pc + 1) L st (wM s la r v c l tn p pa m q b x (hset h 0 i z)) cells slots) : J K n0 Q pc L (.long z :: .int e :: .ref 11 :: st) (wM s la r v c l tn p pa m q b x h) cells slots := by
  subst he
  refine J.lastoreN d rfl hi ?_
  exact k9
theorem J.ml12 (i : Nat) {e : Int32} (d : decode K.2.1 pc = .ok (.laload, 1)) (he : e = nI i) (hi : i < 8) (k9 : J K n0 Q (pc + 1) L (.long (h 1 i) :: st) (wM s la r v c l tn p pa m q b x h) cells slots) : J K n0 Q pc L (.int e :: .ref 12 :: st) (wM s la r v c l tn p pa m q b x h) cells slots := by
  subst he
  exact J.laloadN d rfl hi k9
theorem J.ms12 (i : Nat) {e : Int32} {z : Int64} (d : decode K.2.1 pc = .ok (.lastore, 1)) (he : e = nI i) (hi : i < 8) (k9 : J K n0 Q (pc + 1) L st (wM s la r v c l tn p pa m q b x (hset h 1 i z)) cells slots) : J K n0 Q pc L (.long z :: .int e :: .ref 12 :: st) (wM s la r v c l tn p pa m q b x h) cells slots := by
  subst he
  refine J.lastoreN d rfl hi ?_
  exact k9
theorem J.ml13 (i : Nat) {e : Int32} (d : decode K.2.1 pc = .ok (.laload, 1)) (he : e = nI i) (hi : i < 8) (k9 : J K n0 Q (pc + 1) L (.long (h 2 i) :: st) (wM s la r v c l tn p pa m q b x h) cells slots) : J K n0 Q pc L (.int e :: .ref 13 :: st) (wM s la r v c l tn p pa m q b x h) cells slots := by
  subst he
  exact J.laloadN d rfl hi k9
theorem J.ms13 (i : Nat) {e : Int32} {z : Int64} (d : decode K.2.1 pc = .ok (.lastore, 1)) (he : e = nI i) (hi : i < 8) (k9 : J K n0 Q (pc + 1) L st (wM s la r v c l tn p pa m q b x (hset h 2 i z)) cells slots) : J K n0 Q pc L (.long z :: .int e :: .ref 13 :: st) (wM s la r v c l tn p pa m q b x h) cells slots := by
  subst he
  refine J.lastoreN d rfl hi ?_
  exact k9
theorem J.ml14 (i : Nat) {e : Int32} (d : decode K.2.1 pc = .ok (.laload, 1)) (he : e = nI i) (hi : i < 8) (k9 : J K n0 Q (pc + 1) L (.long (h 3 i) :: st) (wM s la r v c l tn p pa m q b x h) cells slots) : J K n0 Q pc L (.int e :: .ref 14 :: st) (wM s la r v c l tn p pa m q b x h) cells slots := by
  subst he
  exact J.laloadN d rfl hi k9
theorem J.ms14 (i : Nat) {e : Int32} {z : Int64} (d : decode K.2.1 pc = .ok (.lastore, 1)) (he : e = nI i) (hi : i < 8) (k9 : J K n0 Q (pc + 1) L st (wM s la r v c l tn p pa m q b x (hset h 3 i z)) cells slots) : J K n0 Q pc L (.long z :: .int e :: .ref 14 :: st) (wM s la r v c l tn p pa m q b x h) cells slots := by
  subst he
  refine J.lastoreN d rfl hi ?_
  exact k9
theorem J.ml15 (i : Nat) {e : Int32} (d : decode K.2.1 pc = .ok (.laload, 1)) (he : e = nI i) (hi : i < 8) (k9 : J K n0 Q (pc + 1) L (.long (h 4 i) :: st) (wM s la r v c l tn p pa m q b x h) cells slots) : J K n0 Q pc L (.int e :: .ref 15 :: st) (wM s la r v c l tn p pa m q b x h) cells slots := by
  subst he
  exact J.laloadN d rfl hi k9
theorem J.ms15 (i : Nat) {e : Int32} {z : Int64} (d : decode K.2.1 pc = .ok (.lastore, 1)) (he : e = nI i) (hi : i < 8) (k9 : J K n0 Q (pc + 1) L st (wM s la r v c l tn p pa m q b x (hset h 4 i z)) cells slots) : J K n0 Q pc L (.long z :: .int e :: .ref 15 :: st) (wM s la r v c l tn p pa m q b x h) cells slots := by
  subst he
  refine J.lastoreN d rfl hi ?_
  exact k9
theorem J.ml16 (i : Nat) {e : Int32} (d : decode K.2.1 pc = .ok (.iaload, 1)) (he : e = nI i) (hi : i < 12) (k9 : J K n0 Q (pc + 1) L (.int (nI (if i % 2 = 0 then v 2 (i / 2) else v 3 (i / 2))) :: st) (wM s la r v c l tn p pa m q b x h) cells slots) : J K n0 Q pc L (.int e :: .ref 16 :: st) (wM s la r v c l tn p pa m q b x h) cells slots := by
  subst he
  exact J.ialoadN d rfl hi k9
theorem J.ml17 (i : Nat) {e : Int32} (d : decode K.2.1 pc = .ok (.baload, 1)) (he : e = nI i) (hi : i < 2) (k9 : J K n0 Q (pc + 1) L (.int (nI (v 0 i)) :: st) (wM s la r v c l tn p pa m q b x h) cells slots) : J K n0 Q pc L (.int e :: .ref 17 :: st) (wM s la r v c l tn p pa m q b x h) cells slots := by
  subst he
  exact J.zaloadN d rfl hi k9
theorem J.ms17 (i : Nat) {e : Int32} {z : Nat} (d : decode K.2.1 pc = .ok (.bastore, 1)) (he : e = nI i) (hi : i < 2) (hz : vp_nar .boolean (nI z) = nI z) (k9 : J K n0 Q (pc + 1) L st (wM s la r (vset v 0 i z) c l tn p pa m q b x h) cells slots) : J K n0 Q pc L (.int (nI z) :: .int e :: .ref 17 :: st) (wM s la r v c l tn p pa m q b x h) cells slots := by
  subst he
  refine J.zastoreN d rfl hi ?_
  rw [hz, upd_nI]
  exact k9
theorem J.ml18 (i : Nat) {e : Int32} (d : decode K.2.1 pc = .ok (.iaload, 1)) (he : e = nI i) (hi : i < 4) (k9 : J K n0 Q (pc + 1) L (.int (mln (l i)) :: st) (wM s la r v c l tn p pa m q b x h) cells slots) : J K n0 Q pc L (.int e :: .ref 18 :: st) (wM s la r v c l tn p pa m q b x h) cells slots := by
  subst he
  exact J.ialoadN d rfl hi k9
theorem J.ml19 (i : Nat) {e : Int32} (d : decode K.2.1 pc = .ok (.iaload, 1)) (he : e = nI i) (hi : i < 4) (k9 : J K n0 Q (pc + 1) L (.int (nI (v 4 (2 + i))) :: st) (wM s la r v c l tn p pa m q b x h) cells slots) : J K n0 Q pc L (.int e :: .ref 19 :: st) (wM s la r v c l tn p pa m q b x h) cells slots := by
  subst he
  exact J.ialoadN d rfl hi k9
theorem J.ml20 (i : Nat) {e : Int32} (d : decode K.2.1 pc = .ok (.iaload, 1)) (he : e = nI i) (hi : i < 160) (k9 : J K n0 Q (pc + 1) L (.int (c (i / 40) (i % 40)) :: st) (wM s la r v c l tn p pa m q b x h) cells slots) : J K n0 Q pc L (.int e :: .ref 20 :: st) (wM s la r v c l tn p pa m q b x h) cells slots := by
  subst he
  exact J.ialoadN d rfl hi k9
end JM
theorem ix (a i b : Nat) : nI a * nI i + nI b = nI (a * i + b) := by rw [pk_mul, nI_add]
theorem ix0 (a i : Nat) : nI a * nI i = nI (a * i) := pk_mul a i
theorem ixk (k a i : Nat) : nI k + nI a * nI i = nI (k + a * i) := by rw [pk_mul, nI_add]
theorem ixk1 (k a i b : Nat) : nI k + nI a * nI i + nI b = nI (k + a * i + b) := by rw [pk_mul, nI_add, nI_add]
theorem i64_le (a b : Int32) : a.toInt64 ≤ b.toInt64 ↔ a ≤ b := by
  rw [Int64.le_iff_toInt_le, Int32.le_iff_toInt_le, Int32.toInt_toInt64, Int32.toInt_toInt64]
theorem dX7_in_0 : decode cX7_in 0 = .ok (.lload_n 0, 1) := by decide +kernel
theorem dX7_in_1 : decode cX7_in 1 = .ok (.lload_n 2, 1) := by decide +kernel
theorem dX7_in_2 : decode cX7_in 2 = .ok (.lcmp, 1) := by decide +kernel
theorem dX7_in_3 : decode cX7_in 3 = .ok (.ifCond .lt 14, 3) := by decide +kernel
theorem dX7_in_6 : decode cX7_in 6 = .ok (.lload_n 0, 1) := by decide +kernel
theorem dX7_in_7 : decode cX7_in 7 = .ok (.lload 4, 2) := by decide +kernel
theorem dX7_in_9 : decode cX7_in 9 = .ok (.lcmp, 1) := by decide +kernel
theorem dX7_in_10 : decode cX7_in 10 = .ok (.ifCond .gt 7, 3) := by decide +kernel
theorem dX7_in_13 : decode cX7_in 13 = .ok (.iconst 1, 1) := by decide +kernel
theorem dX7_in_14 : decode cX7_in 14 = .ok (.goto 4, 3) := by decide +kernel
theorem dX7_in_17 : decode cX7_in 17 = .ok (.iconst 0, 1) := by decide +kernel
theorem dX7_in_18 : decode cX7_in 18 = .ok (.ireturn, 1) := by decide +kernel
theorem dX7_isLong_0 : decode cX7_isLong 0 = .ok (.iload_n 0, 1) := by decide +kernel
theorem dX7_isLong_1 : decode cX7_isLong 1 = .ok (.i2l, 1) := by decide +kernel
theorem dX7_isLong_2 : decode cX7_isLong 2 = .ok (.lconst 0, 1) := by decide +kernel
theorem dX7_isLong_3 : decode cX7_isLong 3 = .ok (.ldc2_w 141, 3) := by decide +kernel
theorem dX7_isLong_6 : decode cX7_isLong 6 = .ok (.invokestatic 74, 3) := by decide +kernel
theorem dX7_isLong_9 : decode cX7_isLong 9 = .ok (.ireturn, 1) := by decide +kernel
theorem dX7_bitsOf_0 : decode cX7_bitsOf 0 = .ok (.iload_n 0, 1) := by decide +kernel
theorem dX7_bitsOf_1 : decode cX7_bitsOf 1 = .ok (.iconst 1, 1) := by decide +kernel
theorem dX7_bitsOf_2 : decode cX7_bitsOf 2 = .ok (.iand, 1) := by decide +kernel
theorem dX7_bitsOf_3 : decode cX7_bitsOf 3 = .ok (.iload_n 0, 1) := by decide +kernel
theorem dX7_bitsOf_4 : decode cX7_bitsOf 4 = .ok (.iconst 1, 1) := by decide +kernel
theorem dX7_bitsOf_5 : decode cX7_bitsOf 5 = .ok (.ishr, 1) := by decide +kernel
theorem dX7_bitsOf_6 : decode cX7_bitsOf 6 = .ok (.iconst 1, 1) := by decide +kernel
theorem dX7_bitsOf_7 : decode cX7_bitsOf 7 = .ok (.iand, 1) := by decide +kernel
theorem dX7_bitsOf_8 : decode cX7_bitsOf 8 = .ok (.iadd, 1) := by decide +kernel
theorem dX7_bitsOf_9 : decode cX7_bitsOf 9 = .ok (.iload_n 0, 1) := by decide +kernel
theorem dX7_bitsOf_10 : decode cX7_bitsOf 10 = .ok (.iconst 2, 1) := by decide +kernel
theorem dX7_bitsOf_11 : decode cX7_bitsOf 11 = .ok (.ishr, 1) := by decide +kernel
theorem dX7_bitsOf_12 : decode cX7_bitsOf 12 = .ok (.iconst 1, 1) := by decide +kernel
theorem dX7_bitsOf_13 : decode cX7_bitsOf 13 = .ok (.iand, 1) := by decide +kernel
theorem dX7_bitsOf_14 : decode cX7_bitsOf 14 = .ok (.iadd, 1) := by decide +kernel
theorem dX7_bitsOf_15 : decode cX7_bitsOf 15 = .ok (.ireturn, 1) := by decide +kernel
theorem dX7_tens_0 : decode cX7_tens 0 = .ok (.lconst 1, 1) := by decide +kernel
theorem dX7_tens_1 : decode cX7_tens 1 = .ok (.lstore_n 1, 1) := by decide +kernel
theorem dX7_tens_2 : decode cX7_tens 2 = .ok (.iconst 0, 1) := by decide +kernel
theorem dX7_tens_3 : decode cX7_tens 3 = .ok (.istore_n 3, 1) := by decide +kernel
theorem dX7_tens_4 : decode cX7_tens 4 = .ok (.iload_n 3, 1) := by decide +kernel
theorem dX7_tens_5 : decode cX7_tens 5 = .ok (.iload_n 0, 1) := by decide +kernel
theorem dX7_tens_6 : decode cX7_tens 6 = .ok (.if_icmp .ge 15, 3) := by decide +kernel
theorem dX7_tens_9 : decode cX7_tens 9 = .ok (.lload_n 1, 1) := by decide +kernel
theorem dX7_tens_10 : decode cX7_tens 10 = .ok (.ldc2_w 217, 3) := by decide +kernel
theorem dX7_tens_13 : decode cX7_tens 13 = .ok (.lmul, 1) := by decide +kernel
theorem dX7_tens_14 : decode cX7_tens 14 = .ok (.lstore_n 1, 1) := by decide +kernel
theorem dX7_tens_15 : decode cX7_tens 15 = .ok (.iinc 3 1, 3) := by decide +kernel
theorem dX7_tens_18 : decode cX7_tens 18 = .ok (.goto (-14), 3) := by decide +kernel
theorem dX7_tens_21 : decode cX7_tens 21 = .ok (.lload_n 1, 1) := by decide +kernel
theorem dX7_tens_22 : decode cX7_tens 22 = .ok (.lreturn, 1) := by decide +kernel
theorem dX7_lowest_0 : decode cX7_lowest 0 = .ok (.lload_n 0, 1) := by decide +kernel
theorem dX7_lowest_1 : decode cX7_lowest 1 = .ok (.lconst 0, 1) := by decide +kernel
theorem dX7_lowest_2 : decode cX7_lowest 2 = .ok (.lcmp, 1) := by decide +kernel
theorem dX7_lowest_3 : decode cX7_lowest 3 = .ok (.ifCond .ge 8, 3) := by decide +kernel
theorem dX7_lowest_6 : decode cX7_lowest 6 = .ok (.lload_n 0, 1) := by decide +kernel
theorem dX7_lowest_7 : decode cX7_lowest 7 = .ok (.lneg, 1) := by decide +kernel
theorem dX7_lowest_8 : decode cX7_lowest 8 = .ok (.goto 4, 3) := by decide +kernel
theorem dX7_lowest_11 : decode cX7_lowest 11 = .ok (.lload_n 0, 1) := by decide +kernel
theorem dX7_lowest_12 : decode cX7_lowest 12 = .ok (.lstore 5, 2) := by decide +kernel
theorem dX7_lowest_14 : decode cX7_lowest 14 = .ok (.lload_n 2, 1) := by decide +kernel
theorem dX7_lowest_15 : decode cX7_lowest 15 = .ok (.lstore 7, 2) := by decide +kernel
theorem dX7_lowest_17 : decode cX7_lowest 17 = .ok (.lload 7, 2) := by decide +kernel
theorem dX7_lowest_19 : decode cX7_lowest 19 = .ok (.lconst 0, 1) := by decide +kernel
theorem dX7_lowest_20 : decode cX7_lowest 20 = .ok (.lcmp, 1) := by decide +kernel
theorem dX7_lowest_21 : decode cX7_lowest 21 = .ok (.ifCond .eq 21, 3) := by decide +kernel
theorem dX7_lowest_24 : decode cX7_lowest 24 = .ok (.lload 5, 2) := by decide +kernel
theorem dX7_lowest_26 : decode cX7_lowest 26 = .ok (.lload 7, 2) := by decide +kernel
theorem dX7_lowest_28 : decode cX7_lowest 28 = .ok (.lrem, 1) := by decide +kernel
theorem dX7_lowest_29 : decode cX7_lowest 29 = .ok (.lstore 9, 2) := by decide +kernel
theorem dX7_lowest_31 : decode cX7_lowest 31 = .ok (.lload 7, 2) := by decide +kernel
theorem dX7_lowest_33 : decode cX7_lowest 33 = .ok (.lstore 5, 2) := by decide +kernel
theorem dX7_lowest_35 : decode cX7_lowest 35 = .ok (.lload 9, 2) := by decide +kernel
theorem dX7_lowest_37 : decode cX7_lowest 37 = .ok (.lstore 7, 2) := by decide +kernel
theorem dX7_lowest_39 : decode cX7_lowest 39 = .ok (.goto (-22), 3) := by decide +kernel
theorem dX7_lowest_42 : decode cX7_lowest 42 = .ok (.iload 4, 2) := by decide +kernel
theorem dX7_lowest_44 : decode cX7_lowest 44 = .ok (.ifCond .ne 7, 3) := by decide +kernel
theorem dX7_lowest_47 : decode cX7_lowest 47 = .ok (.lload_n 0, 1) := by decide +kernel
theorem dX7_lowest_48 : decode cX7_lowest 48 = .ok (.goto 4, 3) := by decide +kernel
theorem dX7_lowest_51 : decode cX7_lowest 51 = .ok (.lload_n 2, 1) := by decide +kernel
theorem dX7_lowest_52 : decode cX7_lowest 52 = .ok (.lload 5, 2) := by decide +kernel
theorem dX7_lowest_54 : decode cX7_lowest 54 = .ok (.ldiv, 1) := by decide +kernel
theorem dX7_lowest_55 : decode cX7_lowest 55 = .ok (.lreturn, 1) := by decide +kernel
set_option maxRecDepth 100000 in
set_option maxHeartbeats 4000000 in
theorem mX7_inI (z lo hi : Int32) {a b : Int64} (ha : lo.toInt64 = a) (hb : hi.toInt64 = b) : J KX7_in 0 (fun o B => o = some (.int (jB (lo ≤ z ∧ z ≤ hi))) ∧ B = []) 0 [some (.long z.toInt64), none, some (.long a), none, some (.long b), none] [] [] 0 0 := by
  subst ha; subst hb
  refine J.lload_n dX7_in_0 rfl rfl ?_
  refine J.lload_n dX7_in_1 rfl rfl ?_
  refine J.lcmp dX7_in_2 ?_
  refine J.if_lt (tgt := 17) dX7_in_3 (by decide) (fun c3 => ?_) (fun c3 => ?_)
  · refine J.iconst (0) dX7_in_17 (by decide) ?_
    first | exact J.iret dX7_in_18 rfl (by decide) (Nat.le_refl _) (Nat.le_refl _) ⟨congrArg (fun y => some (Value.int y)) (jB_t _ ⟨(i64_le _ _).mp (Int64.not_lt.mp (fun h9 => c3 ((lg_cmp_lt _ _).mpr h9))), (i64_le _ _).mp (Int64.not_lt.mp (fun h9 => c10 ((lg_cmp_gt _ _).mpr h9)))⟩).symm, rfl⟩ | exact J.iret dX7_in_18 rfl (by decide) (Nat.le_refl _) (Nat.le_refl _) ⟨congrArg (fun y => some (Value.int y)) (jB_f _ (fun h9 => Int64.not_lt.mpr ((i64_le _ _).mpr h9.1) ((lg_cmp_lt _ _).mp c3))).symm, rfl⟩ | exact J.iret dX7_in_18 rfl (by decide) (Nat.le_refl _) (Nat.le_refl _) ⟨congrArg (fun y => some (Value.int y)) (jB_f _ (fun h9 => Int64.not_lt.mpr ((i64_le _ _).mpr h9.2) ((lg_cmp_gt _ _).mp c10))).symm, rfl⟩
  · refine J.lload_n dX7_in_6 rfl rfl ?_
    refine J.lload dX7_in_7 rfl ?_
    refine J.lcmp dX7_in_9 ?_
    refine J.if_gt (tgt := 17) dX7_in_10 (by decide) (fun c10 => ?_) (fun c10 => ?_)
    · refine J.iconst (0) dX7_in_17 (by decide) ?_
      first | exact J.iret dX7_in_18 rfl (by decide) (Nat.le_refl _) (Nat.le_refl _) ⟨congrArg (fun y => some (Value.int y)) (jB_t _ ⟨(i64_le _ _).mp (Int64.not_lt.mp (fun h9 => c3 ((lg_cmp_lt _ _).mpr h9))), (i64_le _ _).mp (Int64.not_lt.mp (fun h9 => c10 ((lg_cmp_gt _ _).mpr h9)))⟩).symm, rfl⟩ | exact J.iret dX7_in_18 rfl (by decide) (Nat.le_refl _) (Nat.le_refl _) ⟨congrArg (fun y => some (Value.int y)) (jB_f _ (fun h9 => Int64.not_lt.mpr ((i64_le _ _).mpr h9.1) ((lg_cmp_lt _ _).mp c3))).symm, rfl⟩ | exact J.iret dX7_in_18 rfl (by decide) (Nat.le_refl _) (Nat.le_refl _) ⟨congrArg (fun y => some (Value.int y)) (jB_f _ (fun h9 => Int64.not_lt.mpr ((i64_le _ _).mpr h9.2) ((lg_cmp_gt _ _).mp c10))).symm, rfl⟩
    · refine J.iconst (1) dX7_in_13 (by decide) ?_
      refine J.goto (tgt := 18) dX7_in_14 (by decide) ?_
      first | exact J.iret dX7_in_18 rfl (by decide) (Nat.le_refl _) (Nat.le_refl _) ⟨congrArg (fun y => some (Value.int y)) (jB_t _ ⟨(i64_le _ _).mp (Int64.not_lt.mp (fun h9 => c3 ((lg_cmp_lt _ _).mpr h9))), (i64_le _ _).mp (Int64.not_lt.mp (fun h9 => c10 ((lg_cmp_gt _ _).mpr h9)))⟩).symm, rfl⟩ | exact J.iret dX7_in_18 rfl (by decide) (Nat.le_refl _) (Nat.le_refl _) ⟨congrArg (fun y => some (Value.int y)) (jB_f _ (fun h9 => Int64.not_lt.mpr ((i64_le _ _).mpr h9.1) ((lg_cmp_lt _ _).mp c3))).symm, rfl⟩ | exact J.iret dX7_in_18 rfl (by decide) (Nat.le_refl _) (Nat.le_refl _) ⟨congrArg (fun y => some (Value.int y)) (jB_f _ (fun h9 => Int64.not_lt.mpr ((i64_le _ _).mpr h9.2) ((lg_cmp_gt _ _).mp c10))).symm, rfl⟩
set_option maxRecDepth 100000 in
set_option maxHeartbeats 4000000 in
theorem mX7_isLong (z : Int32) : J KX7_isLong 0 (fun o B => o = some (.int (jB (0 ≤ z ∧ z ≤ 5))) ∧ B = []) 0 [some (.int z)] [] [] 0 0 := by
  refine J.iload_n dX7_isLong_0 rfl rfl ?_
  refine J.i2l dX7_isLong_1 ?_
  refine J.lconst 0 dX7_isLong_2 (by decide) ?_
  refine J.ldc2 (v := 5) dX7_isLong_3 (jt 945 rfl rfl) ?_
  refine J.cs (as := [.long _, .long _, .long _]) (is := []) okX7_in jcX7_74 (mX7_inI z 0 5 (by decide) (by decide)) dX7_isLong_6 rfl rfl rfl rfl rfl rfl (fun r9 B9 hq => ?_)
  obtain ⟨rfl, rfl⟩ := hq
  refine ⟨rfl, ?_⟩
  show J _ _ _ _ _ (.int _ :: _) [] _ _
  exact J.iret dX7_isLong_9 rfl (jB_z _) (Nat.le_refl _) (Nat.le_refl _) ⟨rfl, rfl⟩
theorem bits_ev : ∀ k, k < 8 → (nI k &&& 1) + (nI k >>> ((1 : Int32) &&& 31) &&& 1) + (nI k >>> ((2 : Int32) &&& 31) &&& 1) = nI (pc3 k) := by decide +kernel
set_option maxRecDepth 100000 in
set_option maxHeartbeats 4000000 in
theorem mX7_bitsOf (k : Nat) (hk : k < 8) : J KX7_bitsOf 0 (fun o B => o = some (.int (nI (pc3 k))) ∧ B = []) 0 [some (.int (nI k))] [] [] 0 0 := by
  refine J.iload_n dX7_bitsOf_0 rfl rfl ?_
  refine J.iconst (1) dX7_bitsOf_1 (by decide) ?_
  refine J.iand dX7_bitsOf_2 ?_
  refine J.iload_n dX7_bitsOf_3 rfl rfl ?_
  refine J.iconst (1) dX7_bitsOf_4 (by decide) ?_
  refine J.ishr dX7_bitsOf_5 ?_
  refine J.iconst (1) dX7_bitsOf_6 (by decide) ?_
  refine J.iand dX7_bitsOf_7 ?_
  refine J.iadd dX7_bitsOf_8 ?_
  refine J.iload_n dX7_bitsOf_9 rfl rfl ?_
  refine J.iconst (2) dX7_bitsOf_10 (by decide) ?_
  refine J.ishr dX7_bitsOf_11 ?_
  refine J.iconst (1) dX7_bitsOf_12 (by decide) ?_
  refine J.iand dX7_bitsOf_13 ?_
  refine J.iadd dX7_bitsOf_14 ?_
  exact J.iret dX7_bitsOf_15 rfl rfl (Nat.le_refl _) (Nat.le_refl _) ⟨congrArg (fun y => some (Value.int y)) (bits_ev k hk), rfl⟩
set_option maxRecDepth 100000 in
set_option maxHeartbeats 4000000 in
theorem mX7_tens_l (N : Nat) (hN : N < 2 ^ 31) : ∀ (k9 i : Nat), i + k9 = N → J KX7_tens 0 (fun o B => o = some (.long (lN (10 ^ N))) ∧ B = []) 4 [some (.int (nI N)), some (.long (lN (10 ^ i))), none, some (.int (nI i))] [] [] 0 0 := by
  intro k9
  induction k9 with
  | zero =>
    intro i hi
    obtain hiN : i = N := by omega
    subst hiN
    refine J.iload_n dX7_tens_4 rfl rfl ?_
    refine J.iload_n dX7_tens_5 rfl rfl ?_
    refine J.icmp_ge (tgt := 21) dX7_tens_6 (by decide) (fun c6 => ?_) (fun c6 => absurd c6 (fun h => h (Int32.le_refl _)))
    refine J.lload_n dX7_tens_21 rfl rfl ?_
    exact J.lret dX7_tens_22 rfl (Nat.le_refl _) (Nat.le_refl _) ⟨rfl, rfl⟩
  | succ k9 ih =>
    intro i hi
    have hiN : i < N := by omega
    refine J.iload_n dX7_tens_4 rfl rfl ?_
    refine J.iload_n dX7_tens_5 rfl rfl ?_
    refine J.icmp_ge (tgt := 21) dX7_tens_6 (by decide) (fun c6 => absurd c6 (nI_ge (by omega) (by omega))) (fun c6 => ?_)
    refine J.lload_n dX7_tens_9 rfl rfl ?_
    refine J.ldc2 (v := 10) dX7_tens_10 (jt 1053 rfl rfl) ?_
    refine J.lmul dX7_tens_13 ?_
    refine J.lstore_n dX7_tens_14 rfl (by decide) rfl ?_
    try dsimp only [List.set]
    refine J.iinc (1) dX7_tens_15 (by decide) rfl (by decide) rfl ?_
    try dsimp only [List.set]
    refine J.goto (tgt := 4) dX7_tens_18 (by decide) ?_
    exact J.at (ih (i + 1) (by omega)) (by rw [← nI_1 i, Nat.pow_succ, ← lN_mul] <;> rfl) rfl rfl
set_option maxRecDepth 100000 in
set_option maxHeartbeats 4000000 in
theorem mX7_tens (N : Nat) (hN : N < 2 ^ 31) : J KX7_tens 0 (fun o B => o = some (.long (lN (10 ^ N))) ∧ B = []) 0 [some (.int (nI N)), none, none, none] [] [] 0 0 := by
  refine J.lconst 1 dX7_tens_0 (by decide) ?_
  refine J.lstore_n dX7_tens_1 rfl (by decide) rfl ?_
  try dsimp only [List.set]
  refine J.iconst (0) dX7_tens_2 (by decide) ?_
  refine J.istore_n dX7_tens_3 rfl (by decide) rfl ?_
  try dsimp only [List.set]
  exact J.at (mX7_tens_l N hN N 0 (by omega)) rfl rfl rfl
set_option maxRecDepth 100000 in
set_option maxHeartbeats 4000000 in
theorem mX7_lowest_l (z0 : Int) (m0 : Nat) (wh : Int32) (h1 : -(2 ^ 63) < z0) (h2 : z0 < 2 ^ 63) (hm0 : 0 < m0) (hm : m0 < 2 ^ 63) : ∀ (y x : Nat), x < 2 ^ 63 → y < 2 ^ 63 → Nat.gcd x y = Nat.gcd z0.natAbs m0 → ∀ z9 : Option Value, J KX7_lowest 0 (fun o B => o = some (.long (lowT z0 m0 wh)) ∧ B = []) 17 [some (.long (lI z0)), none, some (.long (lN m0)), none, some (.int wh), some (.long (lN x)), none, some (.long (lN y)), none, z9, none] [] [] 0 0 := by
  intro y
  induction y using Nat.strongRecOn with
  | ind y ih =>
    intro x hx hy hg z9
    refine J.lload dX7_lowest_17 rfl ?_
    refine J.lconst 0 dX7_lowest_19 (by decide) ?_
    refine J.lcmp dX7_lowest_20 ?_
    refine J.if_eq (tgt := 42) dX7_lowest_21 (by decide) (fun c21 => ?_) (fun c21 => ?_)
    · have hy0 : y = 0 := fb_y0 hy ((lg_cmp_eq _ _).mp c21)
      have hg' : lN x = lN (Nat.gcd z0.natAbs m0) := by rw [← hg, hy0, Nat.gcd_zero_right]
      refine J.iload dX7_lowest_42 rfl ?_
      refine J.if_ne (tgt := 51) dX7_lowest_44 (by decide) (fun c44 => ?_) (fun c44 => ?_)
      · refine J.lload_n dX7_lowest_51 rfl rfl ?_
        refine J.lload dX7_lowest_52 rfl ?_
        refine J.ldiv dX7_lowest_54 (by rw [hg']; exact fun h9 => by have h7 := lN_ti63 (Nat.lt_of_le_of_lt (Nat.le_of_dvd hm0 (Nat.gcd_dvd_right z0.natAbs m0)) hm); rw [h9] at h7; have h8 : (0 : Int64).toInt = 0 := rfl; have h6 := Nat.gcd_pos_of_pos_right z0.natAbs hm0; omega) ?_
        first
        | exact J.lret dX7_lowest_55 rfl (Nat.le_refl _) (Nat.le_refl _) ⟨congrArg (fun x => some (Value.long x)) (by rw [hg', lowT, if_pos c44, div_lI h1 h2 (Nat.gcd_pos_of_pos_right _ hm0) (Nat.lt_of_le_of_lt (Nat.le_of_dvd hm0 (Nat.gcd_dvd_right _ _)) hm)]), rfl⟩
        | exact J.lret dX7_lowest_55 rfl (Nat.le_refl _) (Nat.le_refl _) ⟨congrArg (fun x => some (Value.long x)) (by rw [hg', lowT, if_neg c44, pk_lDiv hm (Nat.gcd_pos_of_pos_right _ hm0) (Nat.lt_of_le_of_lt (Nat.le_of_dvd hm0 (Nat.gcd_dvd_right _ _)) hm)]), rfl⟩
      · refine J.lload_n dX7_lowest_47 rfl rfl ?_
        refine J.goto (tgt := 52) dX7_lowest_48 (by decide) ?_
        refine J.lload dX7_lowest_52 rfl ?_
        refine J.ldiv dX7_lowest_54 (by rw [hg']; exact fun h9 => by have h7 := lN_ti63 (Nat.lt_of_le_of_lt (Nat.le_of_dvd hm0 (Nat.gcd_dvd_right z0.natAbs m0)) hm); rw [h9] at h7; have h8 : (0 : Int64).toInt = 0 := rfl; have h6 := Nat.gcd_pos_of_pos_right z0.natAbs hm0; omega) ?_
        first
        | exact J.lret dX7_lowest_55 rfl (Nat.le_refl _) (Nat.le_refl _) ⟨congrArg (fun x => some (Value.long x)) (by rw [hg', lowT, if_pos c44, div_lI h1 h2 (Nat.gcd_pos_of_pos_right _ hm0) (Nat.lt_of_le_of_lt (Nat.le_of_dvd hm0 (Nat.gcd_dvd_right _ _)) hm)]), rfl⟩
        | exact J.lret dX7_lowest_55 rfl (Nat.le_refl _) (Nat.le_refl _) ⟨congrArg (fun x => some (Value.long x)) (by rw [hg', lowT, if_neg c44, pk_lDiv hm (Nat.gcd_pos_of_pos_right _ hm0) (Nat.lt_of_le_of_lt (Nat.le_of_dvd hm0 (Nat.gcd_dvd_right _ _)) hm)]), rfl⟩
    · refine J.lload dX7_lowest_24 rfl ?_
      refine J.lload dX7_lowest_26 rfl ?_
      refine J.lrem dX7_lowest_28 (fun h9 => c21 ((lg_cmp_eq _ _).mpr h9)) ?_
      rw [pk_lRem hx (by have : ¬ y = 0 := (fun h9 => c21 ((lg_cmp_eq _ _).mpr (congrArg lN h9))); omega) hy]
      refine J.lstore dX7_lowest_29 (by decide) rfl ?_
      try dsimp only [List.set]
      refine J.lload dX7_lowest_31 rfl ?_
      refine J.lstore dX7_lowest_33 (by decide) rfl ?_
      try dsimp only [List.set]
      refine J.lload dX7_lowest_35 rfl ?_
      refine J.lstore dX7_lowest_37 (by decide) rfl ?_
      try dsimp only [List.set]
      refine J.goto (tgt := 17) dX7_lowest_39 (by decide) ?_
      exact ih (x % y) (Nat.mod_lt _ (by have : ¬ y = 0 := (fun h9 => c21 ((lg_cmp_eq _ _).mpr (congrArg lN h9))); omega)) y hy (Nat.lt_of_lt_of_le (Nat.mod_lt _ (by have : ¬ y = 0 := (fun h9 => c21 ((lg_cmp_eq _ _).mpr (congrArg lN h9))); omega)) (Nat.le_of_lt hy)) (by rw [← hg, Nat.gcd_comm x y, Nat.gcd_rec y x, Nat.gcd_comm]) _
theorem lI_absN {z : Int} (h : z < 0) : -lI z = lN z.natAbs := by
  rw [lI_neg, ← lI_nat]
  congr 1
  omega
theorem lI_absP {z : Int} (h : 0 ≤ z) : lI z = lN z.natAbs := by
  rw [← lI_nat]
  congr 1
  omega
set_option maxRecDepth 100000 in
set_option maxHeartbeats 4000000 in
theorem mX7_lowest (z0 : Int) (m0 : Nat) (wh : Int32) (h1 : -(2 ^ 63) < z0) (h2 : z0 < 2 ^ 63) (hm0 : 0 < m0) (hm : m0 < 2 ^ 63) : J KX7_lowest 0 (fun o B => o = some (.long (lowT z0 m0 wh)) ∧ B = []) 0 [some (.long (lI z0)), none, some (.long (lN m0)), none, some (.int wh), none, none, none, none, none, none] [] [] 0 0 := by
  refine J.lload_n dX7_lowest_0 rfl rfl ?_
  refine J.lconst 0 dX7_lowest_1 (by decide) ?_
  refine J.lcmp dX7_lowest_2 ?_
  refine J.if_ge (tgt := 11) dX7_lowest_3 (by decide) (fun c3 => ?_) (fun c3 => ?_)
  · refine J.lload_n dX7_lowest_11 rfl rfl ?_
    refine J.lstore dX7_lowest_12 (by decide) rfl ?_
    try dsimp only [List.set]
    refine J.lload_n dX7_lowest_14 rfl rfl ?_
    refine J.lstore dX7_lowest_15 (by decide) rfl ?_
    try dsimp only [List.set]
    first
    | (rw [show -lI z0 = lN z0.natAbs from lI_absN (by have := Int64.lt_iff_toInt_lt.mp (Int64.not_le.mp (fun h9 => c3 ((lg_cmp_ge _ _).mpr h9))); rw [lI_toInt (by omega) h2] at this; exact this)]
       exact mX7_lowest_l z0 m0 wh h1 h2 hm0 hm m0 z0.natAbs (by omega) hm rfl _)
    | (have e9 : lI z0 = lN z0.natAbs := lI_absP (by have := Int64.le_iff_toInt_le.mp ((lg_cmp_ge _ _).mp c3); rw [lI_toInt (by omega) h2] at this; exact this)
       exact J.at (mX7_lowest_l z0 m0 wh h1 h2 hm0 hm m0 z0.natAbs (by omega) hm rfl none) (by rw [e9] <;> rfl) rfl rfl)
  · refine J.lload_n dX7_lowest_6 rfl rfl ?_
    refine J.lneg dX7_lowest_7 ?_
    refine J.goto (tgt := 12) dX7_lowest_8 (by decide) ?_
    refine J.lstore dX7_lowest_12 (by decide) rfl ?_
    try dsimp only [List.set]
    refine J.lload_n dX7_lowest_14 rfl rfl ?_
    refine J.lstore dX7_lowest_15 (by decide) rfl ?_
    try dsimp only [List.set]
    first
    | (rw [show -lI z0 = lN z0.natAbs from lI_absN (by have := Int64.lt_iff_toInt_lt.mp (Int64.not_le.mp (fun h9 => c3 ((lg_cmp_ge _ _).mpr h9))); rw [lI_toInt (by omega) h2] at this; exact this)]
       exact mX7_lowest_l z0 m0 wh h1 h2 hm0 hm m0 z0.natAbs (by omega) hm rfl _)
    | (have e9 : lI z0 = lN z0.natAbs := lI_absP (by have := Int64.le_iff_toInt_le.mp ((lg_cmp_ge _ _).mp c3); rw [lI_toInt (by omega) h2] at this; exact this)
       exact J.at (mX7_lowest_l z0 m0 wh h1 h2 hm0 hm m0 z0.natAbs (by omega) hm rfl none) (by rw [e9] <;> rfl) rfl rfl)
