/-! ===== the reference: images, sheets ===== -/
theorem cset_cset (c : Nat → Nat → Int32) (k : Nat) (f g : Nat → Int32) : cset (cset c k f) k g = cset c k g := by
  funext y
  unfold cset
  split <;> rfl
section JN
variable {K : jM} {n0 : Nat} {Q : Option Value → jW → Prop} {pc : Nat} {L : List (Option Value)} {st : List Value} {cells slots : Nat} {s : Nat → Int32} {la : Nat → Int32} {r : rT} {v : vT} {c : Nat → Nat → Int32} {l : Nat → Int32} {tn : Int32} {p : Nat → Int32} {pa : Nat → Nat → Int32} {m : Nat} {q : rT} {b : Int32} {x : Nat → Nat} {h : Nat → Nat → Int64}
theorem J.ms16a (j : Nat) {e : Int32} {z : Nat} (d : decode K.2.1 pc = .ok (.iastore, 1)) (he : e = nI (2 * j)) (hj : j < 6) (k9 : J K n0 Q (pc + 1) L st (wM s la r (vset v 2 j z) c l tn p pa m q b x h) cells slots) : J K n0 Q pc L (.int (nI z) :: .int e :: .ref 16 :: st) (wM s la r v c l tn p pa m q b x h) cells slots := by
  subst he
  refine J.iastoreN d rfl (by omega) ?_
  refine J.arrI 16 0 (fun i => nI (if i % 2 = 0 then vset v 2 j z 2 (i / 2) else vset v 2 j z 3 (i / 2))) rfl (fun i hi => ?_) k9
  show (if i = 2 * j then nI z else nI (if i % 2 = 0 then v 2 (i / 2) else v 3 (i / 2))) = nI (if i % 2 = 0 then (if i / 2 = j then z else v 2 (i / 2)) else v 3 (i / 2))
  by_cases h : i = 2 * j
  · rw [if_pos h, if_pos (by omega), if_pos (by omega)]
  · rw [if_neg h]
    by_cases h2 : i % 2 = 0
    · rw [if_pos h2, if_pos h2, if_neg (by omega)]
    · rw [if_neg h2, if_neg h2]
theorem J.ms16b (j : Nat) {e : Int32} {z : Nat} (d : decode K.2.1 pc = .ok (.iastore, 1)) (he : e = nI (2 * j + 1)) (hj : j < 6) (k9 : J K n0 Q (pc + 1) L st (wM s la r (vset v 3 j z) c l tn p pa m q b x h) cells slots) : J K n0 Q pc L (.int (nI z) :: .int e :: .ref 16 :: st) (wM s la r v c l tn p pa m q b x h) cells slots := by
  subst he
  refine J.iastoreN d rfl (by omega) ?_
  refine J.arrI 16 0 (fun i => nI (if i % 2 = 0 then vset v 3 j z 2 (i / 2) else vset v 3 j z 3 (i / 2))) rfl (fun i hi => ?_) k9
  show (if i = 2 * j + 1 then nI z else nI (if i % 2 = 0 then v 2 (i / 2) else v 3 (i / 2))) = nI (if i % 2 = 0 then v 2 (i / 2) else (if i / 2 = j then z else v 3 (i / 2)))
  by_cases h : i = 2 * j + 1
  · rw [if_pos h, if_neg (by omega), if_pos (by omega)]
  · rw [if_neg h]
    by_cases h2 : i % 2 = 0
    · rw [if_pos h2, if_pos h2]
    · rw [if_neg h2, if_neg h2, if_neg (by omega)]
theorem J.ms18 (k : Nat) {e z : Int32} (d : decode K.2.1 pc = .ok (.iastore, 1)) (he : e = nI k) (hk : k < 4) (hz : mln z = z) (k9 : J K n0 Q (pc + 1) L st (wM s la r v c (lset l k z) tn p pa m q b x h) cells slots) : J K n0 Q pc L (.int z :: .int e :: .ref 18 :: st) (wM s la r v c l tn p pa m q b x h) cells slots := by
  subst he
  refine J.iastoreN d rfl hk ?_
  refine J.arrI 18 0 (fun j => mln (lset l k z j)) rfl (fun j hj => ?_) k9
  show (if j = k then z else mln (l j)) = mln (if j = k then z else l j)
  by_cases h : j = k
  · rw [if_pos h, if_pos h, hz]
  · rw [if_neg h, if_neg h]
theorem J.ms20 (k i : Nat) {e z : Int32} (d : decode K.2.1 pc = .ok (.iastore, 1)) (he : e = nI (40 * k + i)) (hk : k < 4) (hi : i < 40) (k9 : J K n0 Q (pc + 1) L st (wM s la r v (cset c k (upd (c k) i z)) l tn p pa m q b x h) cells slots) : J K n0 Q pc L (.int z :: .int e :: .ref 20 :: st) (wM s la r v c l tn p pa m q b x h) cells slots := by
  subst he
  refine J.iastoreN d rfl (by omega) ?_
  refine J.arrI 20 0 (fun j => cset c k (upd (c k) i z) (j / 40) (j % 40)) rfl (fun j hj => ?_) k9
  show (if j = 40 * k + i then z else c (j / 40) (j % 40)) = (if j / 40 = k then upd (c k) i z else c (j / 40)) (j % 40)
  by_cases h : j / 40 = k
  · rw [if_pos h]
    show _ = if j % 40 = i then z else c k (j % 40)
    by_cases h2 : j % 40 = i
    · rw [if_pos h2, if_pos (by omega)]
    · rw [if_neg h2, if_neg (by omega), h]
  · rw [if_neg h, if_neg (by omega)]
theorem J.ms19_0 {z : Nat} (d : decode K.2.1 pc = .ok (.iastore, 1)) (k9 : J K n0 Q (pc + 1) L st (wM s la r (vset v 4 2 z) c l tn p pa m q b x h) cells slots) : J K n0 Q pc L (.int (nI z) :: .int 0 :: .ref 19 :: st) (wM s la r v c l tn p pa m q b x h) cells slots := by
  refine J.iastoreN (i := 0) d rfl (by decide) ?_
  refine J.arrI 19 0 (fun j => nI (vset v 4 2 z 4 (2 + j))) rfl (fun j hj => ?_) k9
  show (if j = 0 then nI z else nI (v 4 (2 + j))) = nI (if 2 + j = 2 then z else v 4 (2 + j))
  by_cases h : j = 0
  · rw [if_pos h, if_pos (by omega)]
  · rw [if_neg h, if_neg (by omega)]
theorem J.ms19_1 {z : Nat} (d : decode K.2.1 pc = .ok (.iastore, 1)) (k9 : J K n0 Q (pc + 1) L st (wM s la r (vset v 4 3 z) c l tn p pa m q b x h) cells slots) : J K n0 Q pc L (.int (nI z) :: .int 1 :: .ref 19 :: st) (wM s la r v c l tn p pa m q b x h) cells slots := by
  refine J.iastoreN (i := 1) d rfl (by decide) ?_
  refine J.arrI 19 0 (fun j => nI (vset v 4 3 z 4 (2 + j))) rfl (fun j hj => ?_) k9
  show (if j = 1 then nI z else nI (v 4 (2 + j))) = nI (if 2 + j = 3 then z else v 4 (2 + j))
  by_cases h : j = 1
  · rw [if_pos h, if_pos (by omega)]
  · rw [if_neg h, if_neg (by omega)]
theorem J.ms19_2 {z : Nat} (d : decode K.2.1 pc = .ok (.iastore, 1)) (k9 : J K n0 Q (pc + 1) L st (wM s la r (vset v 4 4 z) c l tn p pa m q b x h) cells slots) : J K n0 Q pc L (.int (nI z) :: .int 2 :: .ref 19 :: st) (wM s la r v c l tn p pa m q b x h) cells slots := by
  refine J.iastoreN (i := 2) d rfl (by decide) ?_
  refine J.arrI 19 0 (fun j => nI (vset v 4 4 z 4 (2 + j))) rfl (fun j hj => ?_) k9
  show (if j = 2 then nI z else nI (v 4 (2 + j))) = nI (if 2 + j = 4 then z else v 4 (2 + j))
  by_cases h : j = 2
  · rw [if_pos h, if_pos (by omega)]
  · rw [if_neg h, if_neg (by omega)]
theorem J.ms19_3 {z : Nat} (d : decode K.2.1 pc = .ok (.iastore, 1)) (k9 : J K n0 Q (pc + 1) L st (wM s la r (vset v 4 5 z) c l tn p pa m q b x h) cells slots) : J K n0 Q pc L (.int (nI z) :: .int 3 :: .ref 19 :: st) (wM s la r v c l tn p pa m q b x h) cells slots := by
  refine J.iastoreN (i := 3) d rfl (by decide) ?_
  refine J.arrI 19 0 (fun j => nI (vset v 4 5 z 4 (2 + j))) rfl (fun j hj => ?_) k9
  show (if j = 3 then nI z else nI (v 4 (2 + j))) = nI (if 2 + j = 5 then z else v 4 (2 + j))
  by_cases h : j = 3
  · rw [if_pos h, if_pos (by omega)]
  · rw [if_neg h, if_neg (by omega)]
theorem wM_r (s : Nat → Int32) (la : Nat → Int32) (r : rT) (v : vT) (c : Nat → Nat → Int32) (l : Nat → Int32) (tn : Int32) (p : Nat → Int32) (pa : Nat → Nat → Int32) (m : Nat) (q : rT) (b : Int32) (x : Nat → Nat) (h : Nat → Nat → Int64) (r' : rT) (h0 : r 6 0 = r' 6 0) (h1 : r 6 1 = r' 6 1) (h2 : r 6 2 = r' 6 2) : (wM s la r v c l tn p pa m q b x h) = (wM s la r' v c l tn p pa m q b x h) := by
  unfold wM
  rw [h0, h1, h2]
end JN
theorem dX7_sheet_0 : decode cX7_sheet 0 = .ok (.iload_n 1, 1) := by decide +kernel
theorem dX7_sheet_1 : decode cX7_sheet 1 = .ok (.i2l, 1) := by decide +kernel
theorem dX7_sheet_2 : decode cX7_sheet 2 = .ok (.lconst 0, 1) := by decide +kernel
theorem dX7_sheet_3 : decode cX7_sheet 3 = .ok (.ldc2_w 143, 3) := by decide +kernel
theorem dX7_sheet_6 : decode cX7_sheet 6 = .ok (.invokestatic 74, 3) := by decide +kernel
theorem dX7_sheet_9 : decode cX7_sheet 9 = .ok (.ifCond .eq 21, 3) := by decide +kernel
theorem dX7_sheet_12 : decode cX7_sheet 12 = .ok (.iload_n 2, 1) := by decide +kernel
theorem dX7_sheet_13 : decode cX7_sheet 13 = .ok (.i2l, 1) := by decide +kernel
theorem dX7_sheet_14 : decode cX7_sheet 14 = .ok (.lconst 0, 1) := by decide +kernel
theorem dX7_sheet_15 : decode cX7_sheet 15 = .ok (.ldc2_w 136, 3) := by decide +kernel
theorem dX7_sheet_18 : decode cX7_sheet 18 = .ok (.invokestatic 74, 3) := by decide +kernel
theorem dX7_sheet_21 : decode cX7_sheet 21 = .ok (.ifCond .eq 9, 3) := by decide +kernel
theorem dX7_sheet_24 : decode cX7_sheet 24 = .ok (.iload_n 3, 1) := by decide +kernel
theorem dX7_sheet_25 : decode cX7_sheet 25 = .ok (.bipush 40, 2) := by decide +kernel
theorem dX7_sheet_27 : decode cX7_sheet 27 = .ok (.if_icmp .le 5, 3) := by decide +kernel
theorem dX7_sheet_30 : decode cX7_sheet 30 = .ok (.iconst (-1), 1) := by decide +kernel
theorem dX7_sheet_31 : decode cX7_sheet 31 = .ok (.ireturn, 1) := by decide +kernel
theorem dX7_sheet_32 : decode cX7_sheet 32 = .ok (.iload_n 3, 1) := by decide +kernel
theorem dX7_sheet_33 : decode cX7_sheet 33 = .ok (.ifCond .ge 6, 3) := by decide +kernel
theorem dX7_sheet_36 : decode cX7_sheet 36 = .ok (.bipush (-14), 2) := by decide +kernel
theorem dX7_sheet_38 : decode cX7_sheet 38 = .ok (.ireturn, 1) := by decide +kernel
theorem dX7_sheet_39 : decode cX7_sheet 39 = .ok (.aload_n 0, 1) := by decide +kernel
theorem dX7_sheet_40 : decode cX7_sheet 40 = .ok (.getfield 63, 3) := by decide +kernel
theorem dX7_sheet_43 : decode cX7_sheet 43 = .ok (.iload_n 1, 1) := by decide +kernel
theorem dX7_sheet_44 : decode cX7_sheet 44 = .ok (.iload_n 2, 1) := by decide +kernel
theorem dX7_sheet_45 : decode cX7_sheet 45 = .ok (.iastore, 1) := by decide +kernel
theorem dX7_sheet_46 : decode cX7_sheet 46 = .ok (.aload_n 0, 1) := by decide +kernel
theorem dX7_sheet_47 : decode cX7_sheet 47 = .ok (.getfield 66, 3) := by decide +kernel
theorem dX7_sheet_50 : decode cX7_sheet 50 = .ok (.iload_n 1, 1) := by decide +kernel
theorem dX7_sheet_51 : decode cX7_sheet 51 = .ok (.iload_n 3, 1) := by decide +kernel
theorem dX7_sheet_52 : decode cX7_sheet 52 = .ok (.iastore, 1) := by decide +kernel
theorem dX7_sheet_53 : decode cX7_sheet 53 = .ok (.iconst 0, 1) := by decide +kernel
theorem dX7_sheet_54 : decode cX7_sheet 54 = .ok (.istore 4, 2) := by decide +kernel
theorem dX7_sheet_56 : decode cX7_sheet 56 = .ok (.iload 4, 2) := by decide +kernel
theorem dX7_sheet_58 : decode cX7_sheet 58 = .ok (.bipush 40, 2) := by decide +kernel
theorem dX7_sheet_60 : decode cX7_sheet 60 = .ok (.if_icmp .ge 22, 3) := by decide +kernel
theorem dX7_sheet_63 : decode cX7_sheet 63 = .ok (.aload_n 0, 1) := by decide +kernel
theorem dX7_sheet_64 : decode cX7_sheet 64 = .ok (.getfield 69, 3) := by decide +kernel
theorem dX7_sheet_67 : decode cX7_sheet 67 = .ok (.bipush 40, 2) := by decide +kernel
theorem dX7_sheet_69 : decode cX7_sheet 69 = .ok (.iload_n 1, 1) := by decide +kernel
theorem dX7_sheet_70 : decode cX7_sheet 70 = .ok (.imul, 1) := by decide +kernel
theorem dX7_sheet_71 : decode cX7_sheet 71 = .ok (.iload 4, 2) := by decide +kernel
theorem dX7_sheet_73 : decode cX7_sheet 73 = .ok (.iadd, 1) := by decide +kernel
theorem dX7_sheet_74 : decode cX7_sheet 74 = .ok (.iconst 0, 1) := by decide +kernel
theorem dX7_sheet_75 : decode cX7_sheet 75 = .ok (.iastore, 1) := by decide +kernel
theorem dX7_sheet_76 : decode cX7_sheet 76 = .ok (.iinc 4 1, 3) := by decide +kernel
theorem dX7_sheet_79 : decode cX7_sheet 79 = .ok (.goto (-23), 3) := by decide +kernel
theorem dX7_sheet_82 : decode cX7_sheet 82 = .ok (.iconst 1, 1) := by decide +kernel
theorem dX7_sheet_83 : decode cX7_sheet 83 = .ok (.ireturn, 1) := by decide +kernel
theorem dX7_lay_0 : decode cX7_lay 0 = .ok (.iload_n 1, 1) := by decide +kernel
theorem dX7_lay_1 : decode cX7_lay 1 = .ok (.i2l, 1) := by decide +kernel
theorem dX7_lay_2 : decode cX7_lay 2 = .ok (.lconst 0, 1) := by decide +kernel
theorem dX7_lay_3 : decode cX7_lay 3 = .ok (.ldc2_w 143, 3) := by decide +kernel
theorem dX7_lay_6 : decode cX7_lay 6 = .ok (.invokestatic 74, 3) := by decide +kernel
theorem dX7_lay_9 : decode cX7_lay 9 = .ok (.ifCond .ne 5, 3) := by decide +kernel
theorem dX7_lay_12 : decode cX7_lay 12 = .ok (.iconst (-1), 1) := by decide +kernel
theorem dX7_lay_13 : decode cX7_lay 13 = .ok (.ireturn, 1) := by decide +kernel
theorem dX7_lay_14 : decode cX7_lay 14 = .ok (.aload_n 0, 1) := by decide +kernel
theorem dX7_lay_15 : decode cX7_lay 15 = .ok (.getfield 63, 3) := by decide +kernel
theorem dX7_lay_18 : decode cX7_lay 18 = .ok (.iload_n 1, 1) := by decide +kernel
theorem dX7_lay_19 : decode cX7_lay 19 = .ok (.iaload, 1) := by decide +kernel
theorem dX7_lay_20 : decode cX7_lay 20 = .ok (.bipush (-4), 2) := by decide +kernel
theorem dX7_lay_22 : decode cX7_lay 22 = .ok (.if_icmp .ne 6, 3) := by decide +kernel
theorem dX7_lay_25 : decode cX7_lay 25 = .ok (.bipush (-11), 2) := by decide +kernel
theorem dX7_lay_27 : decode cX7_lay 27 = .ok (.ireturn, 1) := by decide +kernel
theorem dX7_lay_28 : decode cX7_lay 28 = .ok (.iload_n 2, 1) := by decide +kernel
theorem dX7_lay_29 : decode cX7_lay 29 = .ok (.i2l, 1) := by decide +kernel
theorem dX7_lay_30 : decode cX7_lay 30 = .ok (.lconst 0, 1) := by decide +kernel
theorem dX7_lay_31 : decode cX7_lay 31 = .ok (.aload_n 0, 1) := by decide +kernel
theorem dX7_lay_32 : decode cX7_lay 32 = .ok (.getfield 66, 3) := by decide +kernel
theorem dX7_lay_35 : decode cX7_lay 35 = .ok (.iload_n 1, 1) := by decide +kernel
theorem dX7_lay_36 : decode cX7_lay 36 = .ok (.iaload, 1) := by decide +kernel
theorem dX7_lay_37 : decode cX7_lay 37 = .ok (.iconst 1, 1) := by decide +kernel
theorem dX7_lay_38 : decode cX7_lay 38 = .ok (.isub, 1) := by decide +kernel
theorem dX7_lay_39 : decode cX7_lay 39 = .ok (.i2l, 1) := by decide +kernel
theorem dX7_lay_40 : decode cX7_lay 40 = .ok (.invokestatic 74, 3) := by decide +kernel
theorem dX7_lay_43 : decode cX7_lay 43 = .ok (.ifCond .ne 6, 3) := by decide +kernel
theorem dX7_lay_46 : decode cX7_lay 46 = .ok (.bipush (-12), 2) := by decide +kernel
theorem dX7_lay_48 : decode cX7_lay 48 = .ok (.ireturn, 1) := by decide +kernel
theorem dX7_lay_49 : decode cX7_lay 49 = .ok (.aload_n 0, 1) := by decide +kernel
theorem dX7_lay_50 : decode cX7_lay 50 = .ok (.getfield 69, 3) := by decide +kernel
theorem dX7_lay_53 : decode cX7_lay 53 = .ok (.bipush 40, 2) := by decide +kernel
theorem dX7_lay_55 : decode cX7_lay 55 = .ok (.iload_n 1, 1) := by decide +kernel
theorem dX7_lay_56 : decode cX7_lay 56 = .ok (.imul, 1) := by decide +kernel
theorem dX7_lay_57 : decode cX7_lay 57 = .ok (.iload_n 2, 1) := by decide +kernel
theorem dX7_lay_58 : decode cX7_lay 58 = .ok (.iadd, 1) := by decide +kernel
theorem dX7_lay_59 : decode cX7_lay 59 = .ok (.aload_n 0, 1) := by decide +kernel
theorem dX7_lay_60 : decode cX7_lay 60 = .ok (.getfield 63, 3) := by decide +kernel
theorem dX7_lay_63 : decode cX7_lay 63 = .ok (.iload_n 1, 1) := by decide +kernel
theorem dX7_lay_64 : decode cX7_lay 64 = .ok (.iaload, 1) := by decide +kernel
theorem dX7_lay_65 : decode cX7_lay 65 = .ok (.ifCond .ne 13, 3) := by decide +kernel
theorem dX7_lay_68 : decode cX7_lay 68 = .ok (.iload_n 3, 1) := by decide +kernel
theorem dX7_lay_69 : decode cX7_lay 69 = .ok (.bipush 24, 2) := by decide +kernel
theorem dX7_lay_71 : decode cX7_lay 71 = .ok (.ishl, 1) := by decide +kernel
theorem dX7_lay_72 : decode cX7_lay 72 = .ok (.bipush 24, 2) := by decide +kernel
theorem dX7_lay_74 : decode cX7_lay 74 = .ok (.ishr, 1) := by decide +kernel
theorem dX7_lay_75 : decode cX7_lay 75 = .ok (.goto 24, 3) := by decide +kernel
theorem dX7_lay_78 : decode cX7_lay 78 = .ok (.aload_n 0, 1) := by decide +kernel
theorem dX7_lay_79 : decode cX7_lay 79 = .ok (.getfield 63, 3) := by decide +kernel
theorem dX7_lay_82 : decode cX7_lay 82 = .ok (.iload_n 1, 1) := by decide +kernel
theorem dX7_lay_83 : decode cX7_lay 83 = .ok (.iaload, 1) := by decide +kernel
theorem dX7_lay_84 : decode cX7_lay 84 = .ok (.iconst 1, 1) := by decide +kernel
theorem dX7_lay_85 : decode cX7_lay 85 = .ok (.if_icmp .ne 13, 3) := by decide +kernel
theorem dX7_lay_88 : decode cX7_lay 88 = .ok (.iload_n 3, 1) := by decide +kernel
theorem dX7_lay_89 : decode cX7_lay 89 = .ok (.bipush 16, 2) := by decide +kernel
theorem dX7_lay_91 : decode cX7_lay 91 = .ok (.ishl, 1) := by decide +kernel
theorem dX7_lay_92 : decode cX7_lay 92 = .ok (.bipush 16, 2) := by decide +kernel
theorem dX7_lay_94 : decode cX7_lay 94 = .ok (.ishr, 1) := by decide +kernel
theorem dX7_lay_95 : decode cX7_lay 95 = .ok (.goto 4, 3) := by decide +kernel
theorem dX7_lay_98 : decode cX7_lay 98 = .ok (.iload_n 3, 1) := by decide +kernel
theorem dX7_lay_99 : decode cX7_lay 99 = .ok (.iastore, 1) := by decide +kernel
theorem dX7_lay_100 : decode cX7_lay 100 = .ok (.iconst 1, 1) := by decide +kernel
theorem dX7_lay_101 : decode cX7_lay 101 = .ok (.ireturn, 1) := by decide +kernel
theorem dX7_read_0 : decode cX7_read 0 = .ok (.iload_n 1, 1) := by decide +kernel
theorem dX7_read_1 : decode cX7_read 1 = .ok (.i2l, 1) := by decide +kernel
theorem dX7_read_2 : decode cX7_read 2 = .ok (.lconst 0, 1) := by decide +kernel
theorem dX7_read_3 : decode cX7_read 3 = .ok (.ldc2_w 143, 3) := by decide +kernel
theorem dX7_read_6 : decode cX7_read 6 = .ok (.invokestatic 74, 3) := by decide +kernel
theorem dX7_read_9 : decode cX7_read 9 = .ok (.ifCond .eq 28, 3) := by decide +kernel
theorem dX7_read_12 : decode cX7_read 12 = .ok (.iload_n 2, 1) := by decide +kernel
theorem dX7_read_13 : decode cX7_read 13 = .ok (.i2l, 1) := by decide +kernel
theorem dX7_read_14 : decode cX7_read 14 = .ok (.lconst 0, 1) := by decide +kernel
theorem dX7_read_15 : decode cX7_read 15 = .ok (.ldc2_w 136, 3) := by decide +kernel
theorem dX7_read_18 : decode cX7_read 18 = .ok (.invokestatic 74, 3) := by decide +kernel
theorem dX7_read_21 : decode cX7_read 21 = .ok (.ifCond .eq 16, 3) := by decide +kernel
theorem dX7_read_24 : decode cX7_read 24 = .ok (.iload 4, 2) := by decide +kernel
theorem dX7_read_26 : decode cX7_read 26 = .ok (.i2l, 1) := by decide +kernel
theorem dX7_read_27 : decode cX7_read 27 = .ok (.lconst 0, 1) := by decide +kernel
theorem dX7_read_28 : decode cX7_read 28 = .ok (.ldc2_w 285, 3) := by decide +kernel
theorem dX7_read_31 : decode cX7_read 31 = .ok (.invokestatic 74, 3) := by decide +kernel
theorem dX7_read_34 : decode cX7_read 34 = .ok (.ifCond .ne 5, 3) := by decide +kernel
theorem dX7_read_37 : decode cX7_read 37 = .ok (.iconst (-1), 1) := by decide +kernel
theorem dX7_read_38 : decode cX7_read 38 = .ok (.ireturn, 1) := by decide +kernel
theorem dX7_read_39 : decode cX7_read 39 = .ok (.aload_n 0, 1) := by decide +kernel
theorem dX7_read_40 : decode cX7_read 40 = .ok (.iconst 0, 1) := by decide +kernel
theorem dX7_read_41 : decode cX7_read 41 = .ok (.bipush 60, 2) := by decide +kernel
theorem dX7_read_43 : decode cX7_read 43 = .ok (.invokevirtual 282, 3) := by decide +kernel
theorem dX7_read_46 : decode cX7_read 46 = .ok (.iconst 0, 1) := by decide +kernel
theorem dX7_read_47 : decode cX7_read 47 = .ok (.istore 5, 2) := by decide +kernel
theorem dX7_read_49 : decode cX7_read 49 = .ok (.iconst 0, 1) := by decide +kernel
theorem dX7_read_50 : decode cX7_read 50 = .ok (.istore 6, 2) := by decide +kernel
theorem dX7_read_52 : decode cX7_read 52 = .ok (.iload 6, 2) := by decide +kernel
theorem dX7_read_54 : decode cX7_read 54 = .ok (.iload 4, 2) := by decide +kernel
theorem dX7_read_56 : decode cX7_read 56 = .ok (.if_icmp .ge 111, 3) := by decide +kernel
theorem dX7_read_59 : decode cX7_read 59 = .ok (.iload 5, 2) := by decide +kernel
theorem dX7_read_61 : decode cX7_read 61 = .ok (.ifCond .ne 106, 3) := by decide +kernel
theorem dX7_read_64 : decode cX7_read 64 = .ok (.aload_n 0, 1) := by decide +kernel
theorem dX7_read_65 : decode cX7_read 65 = .ok (.getfield 63, 3) := by decide +kernel
theorem dX7_read_68 : decode cX7_read 68 = .ok (.iload_n 1, 1) := by decide +kernel
theorem dX7_read_69 : decode cX7_read 69 = .ok (.iaload, 1) := by decide +kernel
theorem dX7_read_70 : decode cX7_read 70 = .ok (.bipush (-4), 2) := by decide +kernel
theorem dX7_read_72 : decode cX7_read 72 = .ok (.if_icmp .ne 7, 3) := by decide +kernel
theorem dX7_read_75 : decode cX7_read 75 = .ok (.iconst 1, 1) := by decide +kernel
theorem dX7_read_76 : decode cX7_read 76 = .ok (.goto 44, 3) := by decide +kernel
theorem dX7_read_79 : decode cX7_read 79 = .ok (.aload_n 0, 1) := by decide +kernel
theorem dX7_read_80 : decode cX7_read 80 = .ok (.getfield 63, 3) := by decide +kernel
theorem dX7_read_83 : decode cX7_read 83 = .ok (.iload_n 1, 1) := by decide +kernel
theorem dX7_read_84 : decode cX7_read 84 = .ok (.iaload, 1) := by decide +kernel
theorem dX7_read_85 : decode cX7_read 85 = .ok (.iload_n 2, 1) := by decide +kernel
theorem dX7_read_86 : decode cX7_read 86 = .ok (.if_icmp .eq 7, 3) := by decide +kernel
theorem dX7_read_89 : decode cX7_read 89 = .ok (.iconst 3, 1) := by decide +kernel
theorem dX7_read_90 : decode cX7_read 90 = .ok (.goto 30, 3) := by decide +kernel
theorem dX7_read_93 : decode cX7_read 93 = .ok (.iload_n 3, 1) := by decide +kernel
theorem dX7_read_94 : decode cX7_read 94 = .ok (.i2l, 1) := by decide +kernel
theorem dX7_read_95 : decode cX7_read 95 = .ok (.iload 6, 2) := by decide +kernel
theorem dX7_read_97 : decode cX7_read 97 = .ok (.i2l, 1) := by decide +kernel
theorem dX7_read_98 : decode cX7_read 98 = .ok (.ladd, 1) := by decide +kernel
theorem dX7_read_99 : decode cX7_read 99 = .ok (.lconst 0, 1) := by decide +kernel
theorem dX7_read_100 : decode cX7_read 100 = .ok (.aload_n 0, 1) := by decide +kernel
theorem dX7_read_101 : decode cX7_read 101 = .ok (.getfield 66, 3) := by decide +kernel
theorem dX7_read_104 : decode cX7_read 104 = .ok (.iload_n 1, 1) := by decide +kernel
theorem dX7_read_105 : decode cX7_read 105 = .ok (.iaload, 1) := by decide +kernel
theorem dX7_read_106 : decode cX7_read 106 = .ok (.iconst 1, 1) := by decide +kernel
theorem dX7_read_107 : decode cX7_read 107 = .ok (.isub, 1) := by decide +kernel
theorem dX7_read_108 : decode cX7_read 108 = .ok (.i2l, 1) := by decide +kernel
theorem dX7_read_109 : decode cX7_read 109 = .ok (.invokestatic 74, 3) := by decide +kernel
theorem dX7_read_112 : decode cX7_read 112 = .ok (.ifCond .ne 7, 3) := by decide +kernel
theorem dX7_read_115 : decode cX7_read 115 = .ok (.iconst 2, 1) := by decide +kernel
theorem dX7_read_116 : decode cX7_read 116 = .ok (.goto 4, 3) := by decide +kernel
theorem dX7_read_119 : decode cX7_read 119 = .ok (.iconst 0, 1) := by decide +kernel
theorem dX7_read_120 : decode cX7_read 120 = .ok (.istore 5, 2) := by decide +kernel
theorem dX7_read_122 : decode cX7_read 122 = .ok (.iload 5, 2) := by decide +kernel
theorem dX7_read_124 : decode cX7_read 124 = .ok (.ifCond .ne (-72), 3) := by decide +kernel
theorem dX7_read_127 : decode cX7_read 127 = .ok (.aload_n 0, 1) := by decide +kernel
theorem dX7_read_128 : decode cX7_read 128 = .ok (.aload_n 0, 1) := by decide +kernel
theorem dX7_read_129 : decode cX7_read 129 = .ok (.getfield 69, 3) := by decide +kernel
theorem dX7_read_132 : decode cX7_read 132 = .ok (.bipush 40, 2) := by decide +kernel
theorem dX7_read_134 : decode cX7_read 134 = .ok (.iload_n 1, 1) := by decide +kernel
theorem dX7_read_135 : decode cX7_read 135 = .ok (.imul, 1) := by decide +kernel
theorem dX7_read_136 : decode cX7_read 136 = .ok (.iload_n 3, 1) := by decide +kernel
theorem dX7_read_137 : decode cX7_read 137 = .ok (.iadd, 1) := by decide +kernel
theorem dX7_read_138 : decode cX7_read 138 = .ok (.iload 6, 2) := by decide +kernel
theorem dX7_read_140 : decode cX7_read 140 = .ok (.iadd, 1) := by decide +kernel
theorem dX7_read_141 : decode cX7_read 141 = .ok (.iaload, 1) := by decide +kernel
theorem dX7_read_142 : decode cX7_read 142 = .ok (.invokevirtual 214, 3) := by decide +kernel
theorem dX7_read_145 : decode cX7_read 145 = .ok (.ifCond .ge 16, 3) := by decide +kernel
theorem dX7_read_148 : decode cX7_read 148 = .ok (.aload_n 0, 1) := by decide +kernel
theorem dX7_read_149 : decode cX7_read 149 = .ok (.bipush 60, 2) := by decide +kernel
theorem dX7_read_151 : decode cX7_read 151 = .ok (.iconst 0, 1) := by decide +kernel
theorem dX7_read_152 : decode cX7_read 152 = .ok (.invokevirtual 282, 3) := by decide +kernel
theorem dX7_read_155 : decode cX7_read 155 = .ok (.bipush (-20), 2) := by decide +kernel
theorem dX7_read_157 : decode cX7_read 157 = .ok (.iload 6, 2) := by decide +kernel
theorem dX7_read_159 : decode cX7_read 159 = .ok (.isub, 1) := by decide +kernel
theorem dX7_read_160 : decode cX7_read 160 = .ok (.ireturn, 1) := by decide +kernel
theorem dX7_read_161 : decode cX7_read 161 = .ok (.iinc 6 1, 3) := by decide +kernel
theorem dX7_read_164 : decode cX7_read 164 = .ok (.goto (-112), 3) := by decide +kernel
theorem dX7_read_167 : decode cX7_read 167 = .ok (.aload_n 0, 1) := by decide +kernel
theorem dX7_read_168 : decode cX7_read 168 = .ok (.iload 5, 2) := by decide +kernel
theorem dX7_read_170 : decode cX7_read 170 = .ok (.putfield 287, 3) := by decide +kernel
theorem dX7_read_173 : decode cX7_read 173 = .ok (.iload 6, 2) := by decide +kernel
theorem dX7_read_175 : decode cX7_read 175 = .ok (.ireturn, 1) := by decide +kernel
theorem dX7_count_0 : decode cX7_count 0 = .ok (.iconst 0, 1) := by decide +kernel
theorem dX7_count_1 : decode cX7_count 1 = .ok (.istore_n 2, 1) := by decide +kernel
theorem dX7_count_2 : decode cX7_count 2 = .ok (.iconst 0, 1) := by decide +kernel
theorem dX7_count_3 : decode cX7_count 3 = .ok (.istore_n 3, 1) := by decide +kernel
theorem dX7_count_4 : decode cX7_count 4 = .ok (.iload_n 3, 1) := by decide +kernel
theorem dX7_count_5 : decode cX7_count 5 = .ok (.aload_n 0, 1) := by decide +kernel
theorem dX7_count_6 : decode cX7_count 6 = .ok (.getfield 159, 3) := by decide +kernel
theorem dX7_count_9 : decode cX7_count 9 = .ok (.if_icmp .ge 22, 3) := by decide +kernel
theorem dX7_count_12 : decode cX7_count 12 = .ok (.iload_n 2, 1) := by decide +kernel
theorem dX7_count_13 : decode cX7_count 13 = .ok (.aload_n 0, 1) := by decide +kernel
theorem dX7_count_14 : decode cX7_count 14 = .ok (.getfield 7, 3) := by decide +kernel
theorem dX7_count_17 : decode cX7_count 17 = .ok (.iconst 3, 1) := by decide +kernel
theorem dX7_count_18 : decode cX7_count 18 = .ok (.iload_n 3, 1) := by decide +kernel
theorem dX7_count_19 : decode cX7_count 19 = .ok (.imul, 1) := by decide +kernel
theorem dX7_count_20 : decode cX7_count 20 = .ok (.iconst 1, 1) := by decide +kernel
theorem dX7_count_21 : decode cX7_count 21 = .ok (.iadd, 1) := by decide +kernel
theorem dX7_count_22 : decode cX7_count 22 = .ok (.iaload, 1) := by decide +kernel
theorem dX7_count_23 : decode cX7_count 23 = .ok (.iadd, 1) := by decide +kernel
theorem dX7_count_24 : decode cX7_count 24 = .ok (.istore_n 2, 1) := by decide +kernel
theorem dX7_count_25 : decode cX7_count 25 = .ok (.iinc 3 1, 3) := by decide +kernel
theorem dX7_count_28 : decode cX7_count 28 = .ok (.goto (-24), 3) := by decide +kernel
theorem dX7_count_31 : decode cX7_count 31 = .ok (.iload_n 1, 1) := by decide +kernel
theorem dX7_count_32 : decode cX7_count 32 = .ok (.tableswitch 113 0 5 #[40, 45, 75, 80, 103, 111], 40) := by decide +kernel
theorem dX7_count_72 : decode cX7_count 72 = .ok (.aload_n 0, 1) := by decide +kernel
theorem dX7_count_73 : decode cX7_count 73 = .ok (.getfield 168, 3) := by decide +kernel
theorem dX7_count_76 : decode cX7_count 76 = .ok (.ireturn, 1) := by decide +kernel
theorem dX7_count_77 : decode cX7_count 77 = .ok (.aload_n 0, 1) := by decide +kernel
theorem dX7_count_78 : decode cX7_count 78 = .ok (.getfield 59, 3) := by decide +kernel
theorem dX7_count_81 : decode cX7_count 81 = .ok (.iconst 0, 1) := by decide +kernel
theorem dX7_count_82 : decode cX7_count 82 = .ok (.baload, 1) := by decide +kernel
theorem dX7_count_83 : decode cX7_count 83 = .ok (.ifCond .eq 7, 3) := by decide +kernel
theorem dX7_count_86 : decode cX7_count 86 = .ok (.iconst 1, 1) := by decide +kernel
theorem dX7_count_87 : decode cX7_count 87 = .ok (.goto 4, 3) := by decide +kernel
theorem dX7_count_90 : decode cX7_count 90 = .ok (.iconst 0, 1) := by decide +kernel
theorem dX7_count_91 : decode cX7_count 91 = .ok (.aload_n 0, 1) := by decide +kernel
theorem dX7_count_92 : decode cX7_count 92 = .ok (.getfield 59, 3) := by decide +kernel
theorem dX7_count_95 : decode cX7_count 95 = .ok (.iconst 1, 1) := by decide +kernel
theorem dX7_count_96 : decode cX7_count 96 = .ok (.baload, 1) := by decide +kernel
theorem dX7_count_97 : decode cX7_count 97 = .ok (.ifCond .eq 7, 3) := by decide +kernel
theorem dX7_count_100 : decode cX7_count 100 = .ok (.iconst 1, 1) := by decide +kernel
theorem dX7_count_101 : decode cX7_count 101 = .ok (.goto 4, 3) := by decide +kernel
theorem dX7_count_104 : decode cX7_count 104 = .ok (.iconst 0, 1) := by decide +kernel
theorem dX7_count_105 : decode cX7_count 105 = .ok (.iadd, 1) := by decide +kernel
theorem dX7_count_106 : decode cX7_count 106 = .ok (.ireturn, 1) := by decide +kernel
theorem dX7_count_107 : decode cX7_count 107 = .ok (.aload_n 0, 1) := by decide +kernel
theorem dX7_count_108 : decode cX7_count 108 = .ok (.getfield 78, 3) := by decide +kernel
theorem dX7_count_111 : decode cX7_count 111 = .ok (.ireturn, 1) := by decide +kernel
theorem dX7_count_112 : decode cX7_count 112 = .ok (.aload_n 0, 1) := by decide +kernel
theorem dX7_count_113 : decode cX7_count 113 = .ok (.getfield 63, 3) := by decide +kernel
theorem dX7_count_116 : decode cX7_count 116 = .ok (.iconst 0, 1) := by decide +kernel
theorem dX7_count_117 : decode cX7_count 117 = .ok (.iaload, 1) := by decide +kernel
theorem dX7_count_118 : decode cX7_count 118 = .ok (.bipush (-4), 2) := by decide +kernel
theorem dX7_count_120 : decode cX7_count 120 = .ok (.if_icmp .ne 8, 3) := by decide +kernel
theorem dX7_count_123 : decode cX7_count 123 = .ok (.bipush (-4), 2) := by decide +kernel
theorem dX7_count_125 : decode cX7_count 125 = .ok (.goto 9, 3) := by decide +kernel
theorem dX7_count_128 : decode cX7_count 128 = .ok (.aload_n 0, 1) := by decide +kernel
theorem dX7_count_129 : decode cX7_count 129 = .ok (.getfield 66, 3) := by decide +kernel
theorem dX7_count_132 : decode cX7_count 132 = .ok (.iconst 0, 1) := by decide +kernel
theorem dX7_count_133 : decode cX7_count 133 = .ok (.iaload, 1) := by decide +kernel
theorem dX7_count_134 : decode cX7_count 134 = .ok (.ireturn, 1) := by decide +kernel
theorem dX7_count_135 : decode cX7_count 135 = .ok (.aload_n 0, 1) := by decide +kernel
theorem dX7_count_136 : decode cX7_count 136 = .ok (.invokevirtual 177, 3) := by decide +kernel
theorem dX7_count_139 : decode cX7_count 139 = .ok (.invokestatic 189, 3) := by decide +kernel
theorem dX7_count_142 : decode cX7_count 142 = .ok (.ireturn, 1) := by decide +kernel
theorem dX7_count_143 : decode cX7_count 143 = .ok (.iload_n 2, 1) := by decide +kernel
theorem dX7_count_144 : decode cX7_count 144 = .ok (.ireturn, 1) := by decide +kernel
theorem dX7_count_145 : decode cX7_count 145 = .ok (.iconst (-1), 1) := by decide +kernel
theorem dX7_count_146 : decode cX7_count 146 = .ok (.ireturn, 1) := by decide +kernel
theorem vsee (v : vT) (a k : Nat) : vset (vset (vset v 2 (v 4 1) a) 3 (v 4 1) k) 4 1 (v 4 1 + 1) = (fun y => if y = 2 then (fun j => if j = v 4 1 then a else v 2 j) else if y = 3 then (fun j => if j = v 4 1 then k else v 3 j) else if y = 4 then (fun j => if j = 1 then v 4 1 + 1 else v 4 j) else v y) := by
  funext y
  unfold vset
  by_cases h4 : y = 4
  · subst h4; rfl
  · by_cases h3 : y = 3
    · subst h3; rfl
    · by_cases h2 : y = 2
      · subst h2; rfl
      · simp only [if_neg h4, if_neg h3, if_neg h2]
set_option maxRecDepth 100000 in
set_option maxHeartbeats 4000000 in
theorem mX7_see (s : Nat → Int32) (la : Nat → Int32) (r : rT) (v : vT) (c : Nat → Nat → Int32) (l : Nat → Int32) (tn : Int32) (p : Nat → Int32) (pa : Nat → Nat → Int32) (m : Nat) (q : rT) (b : Int32) (x : Nat → Nat) (h : Nat → Nat → Int64) (a k : Nat) (ha : a ≤ 5) (hk : k ≤ 3) (hm : v 4 1 < 6) : J KX7_see 21 (fun o B => o = some (.int (nI (v 4 1 + 1))) ∧ B = (wM s la r (fun y => if y = 2 then (fun j => if j = v 4 1 then a else v 2 j) else if y = 3 then (fun j => if j = v 4 1 then k else v 3 j) else if y = 4 then (fun j => if j = 1 then v 4 1 + 1 else v 4 j) else v y) c l tn p pa m q b x h)) 0 [some (.ref 0), some (.int (nI a)), some (.int (nI k))] [] (wM s la r v c l tn p pa m q b x h) 0 0 := by
  refine J.iload_n dX7_see_0 rfl rfl ?_
  refine J.cs (as := [.int _]) (is := []) okX7_isLong jcX7_236 (mX7_isLong (nI a)) dX7_see_1 rfl rfl rfl rfl rfl rfl (fun r9 B9 hq => ?_)
  obtain ⟨rfl, rfl⟩ := hq
  refine ⟨rfl, ?_⟩
  show J _ _ _ _ _ (.int _ :: _) (wM s la r v c l tn p pa m q b x h) _ _
  refine J.if_eq (tgt := 19) dX7_see_4 (by decide) (fun c4 => absurd c4 (fun h => (jB_0 _).mp h (jw (a := 0) (c := 5) (by decide) (Nat.zero_le _) ha))) (fun c4 => ?_)
  refine J.iload_n dX7_see_7 rfl rfl ?_
  refine J.i2l dX7_see_8 ?_
  refine J.lconst 0 dX7_see_9 (by decide) ?_
  refine J.ldc2 (v := 3) dX7_see_10 (jt 946 rfl rfl) ?_
  refine J.cs (as := [.long _, .long _, .long _]) (is := []) okX7_in jcX7_74 (mX7_inI (nI k) 0 3 (by decide) (by decide)) dX7_see_13 rfl rfl rfl rfl rfl rfl (fun r9 B9 hq => ?_)
  obtain ⟨rfl, rfl⟩ := hq
  refine ⟨rfl, ?_⟩
  show J _ _ _ _ _ (.int _ :: _) (wM s la r v c l tn p pa m q b x h) _ _
  refine J.if_ne (tgt := 21) dX7_see_16 (by decide) (fun c16 => ?_) (fun c16 => absurd c16 (fun h => (jB_0 _).mp h (jw (a := 0) (c := 3) (by decide) (Nat.zero_le _) hk)))
  refine J.aload_n dX7_see_21 rfl rfl ?_
  refine J.mg36 dX7_see_22 rfl ?_
  refine J.bipush (6) dX7_see_25 (by decide) ?_
  refine J.icmp_ne (tgt := 33) dX7_see_27 (by decide) (fun c27 => ?_) (fun c27 => absurd c27 (fun h9 => by have := (nI_eqi (b := 6) (by omega) (by decide)).mp h9; omega))
  refine J.aload_n dX7_see_33 rfl rfl ?_
  refine J.mg35 dX7_see_34 rfl ?_
  refine J.iconst (2) dX7_see_37 (by decide) ?_
  refine J.aload_n dX7_see_38 rfl rfl ?_
  refine J.mg36 dX7_see_39 rfl ?_
  refine J.imul dX7_see_42 ?_
  refine J.iload_n dX7_see_43 rfl rfl ?_
  refine J.ms16a (v 4 1) dX7_see_44 (ix0 2 (v 4 1)) hm ?_
  try dsimp only [List.set]
  refine J.aload_n dX7_see_45 rfl rfl ?_
  refine J.mg35 dX7_see_46 rfl ?_
  refine J.iconst (2) dX7_see_49 (by decide) ?_
  refine J.aload_n dX7_see_50 rfl rfl ?_
  refine J.mg36 dX7_see_51 rfl ?_
  refine J.imul dX7_see_54 ?_
  refine J.iconst (1) dX7_see_55 (by decide) ?_
  refine J.iadd dX7_see_56 ?_
  refine J.iload_n dX7_see_57 rfl rfl ?_
  refine J.ms16b (v 4 1) dX7_see_58 (ix 2 (v 4 1) 1) hm ?_
  try dsimp only [List.set]
  refine J.aload_n dX7_see_59 rfl rfl ?_
  refine J.dup dX7_see_60 rfl ?_
  refine J.mg36 dX7_see_61 rfl ?_
  refine J.iconst (1) dX7_see_64 (by decide) ?_
  refine J.iadd dX7_see_65 ?_
  rw [nI_1]
  refine J.mp36 dX7_see_66 rfl ?_
  try dsimp only [List.set]
  refine J.aload_n dX7_see_69 rfl rfl ?_
  refine J.mg36 dX7_see_70 rfl ?_
  exact J.iret dX7_see_73 rfl rfl (Nat.le_refl _) (Nat.le_refl _) ⟨rfl, congrArg (fun v9 => (wM s la r v9 c l tn p pa m q b x h)) (vsee v a k)⟩
set_option maxRecDepth 100000 in
set_option maxHeartbeats 4000000 in
theorem mX7_see_full (s : Nat → Int32) (la : Nat → Int32) (r : rT) (v : vT) (c : Nat → Nat → Int32) (l : Nat → Int32) (tn : Int32) (p : Nat → Int32) (pa : Nat → Nat → Int32) (m : Nat) (q : rT) (b : Int32) (x : Nat → Nat) (h : Nat → Nat → Int64) (a k : Nat) (ha : a ≤ 5) (hk : k ≤ 3) (hm : v 4 1 = 6) : J KX7_see 21 (fun o B => o = some (.int (-3)) ∧ B = (wM s la r v c l tn p pa m q b x h)) 0 [some (.ref 0), some (.int (nI a)), some (.int (nI k))] [] (wM s la r v c l tn p pa m q b x h) 0 0 := by
  refine J.iload_n dX7_see_0 rfl rfl ?_
  refine J.cs (as := [.int _]) (is := []) okX7_isLong jcX7_236 (mX7_isLong (nI a)) dX7_see_1 rfl rfl rfl rfl rfl rfl (fun r9 B9 hq => ?_)
  obtain ⟨rfl, rfl⟩ := hq
  refine ⟨rfl, ?_⟩
  show J _ _ _ _ _ (.int _ :: _) (wM s la r v c l tn p pa m q b x h) _ _
  refine J.if_eq (tgt := 19) dX7_see_4 (by decide) (fun c4 => absurd c4 (fun h => (jB_0 _).mp h (jw (a := 0) (c := 5) (by decide) (Nat.zero_le _) ha))) (fun c4 => ?_)
  refine J.iload_n dX7_see_7 rfl rfl ?_
  refine J.i2l dX7_see_8 ?_
  refine J.lconst 0 dX7_see_9 (by decide) ?_
  refine J.ldc2 (v := 3) dX7_see_10 (jt 946 rfl rfl) ?_
  refine J.cs (as := [.long _, .long _, .long _]) (is := []) okX7_in jcX7_74 (mX7_inI (nI k) 0 3 (by decide) (by decide)) dX7_see_13 rfl rfl rfl rfl rfl rfl (fun r9 B9 hq => ?_)
  obtain ⟨rfl, rfl⟩ := hq
  refine ⟨rfl, ?_⟩
  show J _ _ _ _ _ (.int _ :: _) (wM s la r v c l tn p pa m q b x h) _ _
  refine J.if_ne (tgt := 21) dX7_see_16 (by decide) (fun c16 => ?_) (fun c16 => absurd c16 (fun h => (jB_0 _).mp h (jw (a := 0) (c := 3) (by decide) (Nat.zero_le _) hk)))
  refine J.aload_n dX7_see_21 rfl rfl ?_
  refine J.mg36 dX7_see_22 rfl ?_
  refine J.bipush (6) dX7_see_25 (by decide) ?_
  refine J.icmp_ne (tgt := 33) dX7_see_27 (by decide) (fun c27 => absurd c27 (fun h9 => h9 (by rw [hm] <;> rfl))) (fun c27 => ?_)
  refine J.bipush (-3) dX7_see_30 (by decide) ?_
  exact J.iret dX7_see_32 rfl rfl (Nat.le_refl _) (Nat.le_refl _) ⟨rfl, rfl⟩
set_option maxRecDepth 100000 in
set_option maxHeartbeats 4000000 in
theorem mX7_see_bad (s : Nat → Int32) (la : Nat → Int32) (r : rT) (v : vT) (c : Nat → Nat → Int32) (l : Nat → Int32) (tn : Int32) (p : Nat → Int32) (pa : Nat → Nat → Int32) (m : Nat) (q : rT) (b : Int32) (x : Nat → Nat) (h : Nat → Nat → Int64) (a k : Int32) (hb : ¬ (0 ≤ a ∧ a ≤ 5) ∨ ¬ (0 ≤ k ∧ k ≤ 3)) : J KX7_see 21 (fun o B => o = some (.int (-1)) ∧ B = (wM s la r v c l tn p pa m q b x h)) 0 [some (.ref 0), some (.int a), some (.int k)] [] (wM s la r v c l tn p pa m q b x h) 0 0 := by
  refine J.iload_n dX7_see_0 rfl rfl ?_
  refine J.cs (as := [.int _]) (is := []) okX7_isLong jcX7_236 (mX7_isLong a) dX7_see_1 rfl rfl rfl rfl rfl rfl (fun r9 B9 hq => ?_)
  obtain ⟨rfl, rfl⟩ := hq
  refine ⟨rfl, ?_⟩
  show J _ _ _ _ _ (.int _ :: _) (wM s la r v c l tn p pa m q b x h) _ _
  refine J.if_eq (tgt := 19) dX7_see_4 (by decide) (fun c4 => ?_) (fun c4 => ?_)
  · refine J.iconst (-1) dX7_see_19 (by decide) ?_
    exact J.iret dX7_see_20 rfl rfl (Nat.le_refl _) (Nat.le_refl _) ⟨rfl, rfl⟩
  · refine J.iload_n dX7_see_7 rfl rfl ?_
    refine J.i2l dX7_see_8 ?_
    refine J.lconst 0 dX7_see_9 (by decide) ?_
    refine J.ldc2 (v := 3) dX7_see_10 (jt 946 rfl rfl) ?_
    refine J.cs (as := [.long _, .long _, .long _]) (is := []) okX7_in jcX7_74 (mX7_inI k 0 3 (by decide) (by decide)) dX7_see_13 rfl rfl rfl rfl rfl rfl (fun r9 B9 hq => ?_)
    obtain ⟨rfl, rfl⟩ := hq
    refine ⟨rfl, ?_⟩
    show J _ _ _ _ _ (.int _ :: _) (wM s la r v c l tn p pa m q b x h) _ _
    refine J.if_ne (tgt := 21) dX7_see_16 (by decide) (fun c16 => absurd c16 (fun h => h ((jB_0 _).mpr (fun hC => (fun h => h.elim (fun h => h (Decidable.not_not.mp (fun h9 => c4 ((jB_0 _).mpr h9)))) (fun h => h hC)) hb)))) (fun c16 => ?_)
    refine J.iconst (-1) dX7_see_19 (by decide) ?_
    exact J.iret dX7_see_20 rfl rfl (Nat.le_refl _) (Nat.le_refl _) ⟨rfl, rfl⟩
set_option maxRecDepth 100000 in
set_option maxHeartbeats 4000000 in
theorem mX7_forget (s : Nat → Int32) (la : Nat → Int32) (r : rT) (v : vT) (c : Nat → Nat → Int32) (l : Nat → Int32) (tn : Int32) (p : Nat → Int32) (pa : Nat → Nat → Int32) (m : Nat) (q : rT) (b : Int32) (x : Nat → Nat) (h : Nat → Nat → Int64) (k : Nat) (hk : k ≤ v 4 1) (hm : v 4 1 ≤ 6) : J KX7_forget 21 (fun o B => o = some (.int (nI (v 4 1))) ∧ B = (wM s la r (vset v 4 1 k) c l tn p pa m q b x h)) 0 [some (.ref 0), some (.int (nI k)), none] [] (wM s la r v c l tn p pa m q b x h) 0 0 := by
  refine J.iload_n dX7_forget_0 rfl rfl ?_
  refine J.i2l dX7_forget_1 ?_
  refine J.lconst 0 dX7_forget_2 (by decide) ?_
  refine J.aload_n dX7_forget_3 rfl rfl ?_
  refine J.mg36 dX7_forget_4 rfl ?_
  refine J.i2l dX7_forget_7 ?_
  refine J.cs (as := [.long _, .long _, .long _]) (is := []) okX7_in jcX7_74 (mX7_inI (nI k) 0 (nI (v 4 1)) (by decide) rfl) dX7_forget_8 rfl rfl rfl rfl rfl rfl (fun r9 B9 hq => ?_)
  obtain ⟨rfl, rfl⟩ := hq
  refine ⟨rfl, ?_⟩
  show J _ _ _ _ _ (.int _ :: _) (wM s la r v c l tn p pa m q b x h) _ _
  refine J.if_ne (tgt := 16) dX7_forget_11 (by decide) (fun c11 => ?_) (fun c11 => absurd c11 (fun h => (jB_0 _).mp h (jw (a := 0) (by omega) (Nat.zero_le _) hk)))
  refine J.aload_n dX7_forget_16 rfl rfl ?_
  refine J.mg36 dX7_forget_17 rfl ?_
  refine J.istore_n dX7_forget_20 rfl (by decide) rfl ?_
  try dsimp only [List.set]
  refine J.aload_n dX7_forget_21 rfl rfl ?_
  refine J.iload_n dX7_forget_22 rfl rfl ?_
  refine J.mp36 dX7_forget_23 rfl ?_
  try dsimp only [List.set]
  refine J.iload_n dX7_forget_26 rfl rfl ?_
  exact J.iret dX7_forget_27 rfl rfl (Nat.le_refl _) (Nat.le_refl _) ⟨rfl, rfl⟩
set_option maxRecDepth 100000 in
set_option maxHeartbeats 4000000 in
theorem mX7_forget_bad (s : Nat → Int32) (la : Nat → Int32) (r : rT) (v : vT) (c : Nat → Nat → Int32) (l : Nat → Int32) (tn : Int32) (p : Nat → Int32) (pa : Nat → Nat → Int32) (m : Nat) (q : rT) (b : Int32) (x : Nat → Nat) (h : Nat → Nat → Int64) (k : Int32) (hb : ¬ (0 ≤ k ∧ k ≤ nI (v 4 1))) : J KX7_forget 21 (fun o B => o = some (.int (-1)) ∧ B = (wM s la r v c l tn p pa m q b x h)) 0 [some (.ref 0), some (.int k), none] [] (wM s la r v c l tn p pa m q b x h) 0 0 := by
  refine J.iload_n dX7_forget_0 rfl rfl ?_
  refine J.i2l dX7_forget_1 ?_
  refine J.lconst 0 dX7_forget_2 (by decide) ?_
  refine J.aload_n dX7_forget_3 rfl rfl ?_
  refine J.mg36 dX7_forget_4 rfl ?_
  refine J.i2l dX7_forget_7 ?_
  refine J.cs (as := [.long _, .long _, .long _]) (is := []) okX7_in jcX7_74 (mX7_inI k 0 (nI (v 4 1)) (by decide) rfl) dX7_forget_8 rfl rfl rfl rfl rfl rfl (fun r9 B9 hq => ?_)
  obtain ⟨rfl, rfl⟩ := hq
  refine ⟨rfl, ?_⟩
  show J _ _ _ _ _ (.int _ :: _) (wM s la r v c l tn p pa m q b x h) _ _
  refine J.if_ne (tgt := 16) dX7_forget_11 (by decide) (fun c11 => absurd c11 (fun h => h ((jB_0 _).mpr hb))) (fun c11 => ?_)
  refine J.iconst (-1) dX7_forget_14 (by decide) ?_
  exact J.iret dX7_forget_15 rfl rfl (Nat.le_refl _) (Nat.le_refl _) ⟨rfl, rfl⟩
def mcp (s : Nat → Int32) (f t i : Nat) : Nat → Int32 := fun j => if t ≤ j ∧ j < t + i then s (f + (j - t)) else s j
theorem mcp_0 (s : Nat → Int32) (f t : Nat) : mcp s f t 0 = s := by
  funext j
  exact if_neg (by omega)
theorem mcp_s (s : Nat → Int32) {f t i : Nat} (h : f + 20 ≤ t ∨ t + 20 ≤ f) (hi : i < 20) : upd (mcp s f t i) (t + i) (mcp s f t i (f + i)) = mcp s f t (i + 1) := by
  funext j
  have e : mcp s f t i (f + i) = s (f + i) := if_neg (by omega)
  show (if j = t + i then mcp s f t i (f + i) else mcp s f t i j) = _
  rw [e]
  unfold mcp
  by_cases h1 : j = t + i
  · rw [if_pos h1, if_pos (by omega), show f + (j - t) = f + i by omega]
  · rw [if_neg h1]
    by_cases h2 : t ≤ j ∧ j < t + i
    · rw [if_pos h2, if_pos (by omega)]
    · rw [if_neg h2, if_neg (by omega)]
theorem mcp_in (s : Nat → Int32) {f t j : Nat} (h : j < 20) : mcp s f t 20 (t + j) = s (f + j) := by
  unfold mcp
  rw [if_pos (by omega), show t + j - t = j by omega]
theorem mcp_out (s : Nat → Int32) {f t j : Nat} (h : j < t ∨ t + 20 ≤ j) : mcp s f t 20 j = s j := if_neg (by omega)
set_option maxRecDepth 100000 in
set_option maxHeartbeats 4000000 in
theorem mX7_copies_l (s : Nat → Int32) (la : Nat → Int32) (r : rT) (v : vT) (c : Nat → Nat → Int32) (l : Nat → Int32) (tn : Int32) (p : Nat → Int32) (pa : Nat → Nat → Int32) (m : Nat) (q : rT) (b : Int32) (x : Nat → Nat) (h : Nat → Nat → Int64) (f t : Nat) (hd : f + 20 ≤ t ∨ t + 20 ≤ f) (hf : f ≤ 60) (ht : t ≤ 60) : ∀ (k9 i : Nat), i + k9 = 20 → J KX7_copies 21 (fun o B => o = none ∧ B = (wM (mcp s f t 20) la r v c l tn p pa m q b x h)) 2 [some (.ref 0), some (.int (nI f)), some (.int (nI t)), some (.int (nI i))] [] (wM (mcp s f t i) la r v c l tn p pa m q b x h) 0 0 := by
  intro k9
  induction k9 with
  | zero =>
    intro i hi
    obtain hiN : i = 20 := by omega
    subst hiN
    refine J.iload_n dX7_copies_2 rfl rfl ?_
    refine J.bipush (20) dX7_copies_3 (by decide) ?_
    refine J.icmp_ge (tgt := 30) dX7_copies_5 (by decide) (fun c5 => ?_) (fun c5 => absurd c5 (fun h => h (by decide)))
    exact J.vret dX7_copies_30 rfl (Nat.le_refl _) (Nat.le_refl _) ⟨rfl, rfl⟩
  | succ k9 ih =>
    intro i hi
    have hiN : i < 20 := by omega
    refine J.iload_n dX7_copies_2 rfl rfl ?_
    refine J.bipush (20) dX7_copies_3 (by decide) ?_
    refine J.icmp_ge (tgt := 30) dX7_copies_5 (by decide) (fun c5 => absurd c5 (nI_ge (b := 20) (by omega) (by omega))) (fun c5 => ?_)
    refine J.aload_n dX7_copies_8 rfl rfl ?_
    refine J.mg0 dX7_copies_9 rfl ?_
    refine J.iload_n dX7_copies_12 rfl rfl ?_
    refine J.iload_n dX7_copies_13 rfl rfl ?_
    refine J.iadd dX7_copies_14 ?_
    refine J.aload_n dX7_copies_15 rfl rfl ?_
    refine J.mg0 dX7_copies_16 rfl ?_
    refine J.iload_n dX7_copies_19 rfl rfl ?_
    refine J.iload_n dX7_copies_20 rfl rfl ?_
    refine J.iadd dX7_copies_21 ?_
    refine J.ml1 (f + i) dX7_copies_22 (nI_add f i) (by omega) ?_
    refine J.ms1 (t + i) dX7_copies_23 (nI_add t i) (by omega) ?_
    try dsimp only [List.set]
    refine J.iinc (1) dX7_copies_24 (by decide) rfl (by decide) rfl ?_
    try dsimp only [List.set]
    refine J.goto (tgt := 2) dX7_copies_27 (by decide) ?_
    exact J.at (ih (i + 1) (by omega)) (by rw [← nI_1 i] <;> rfl) rfl (by rw [← mcp_s s hd hiN])
set_option maxRecDepth 100000 in
set_option maxHeartbeats 4000000 in
theorem mX7_copies (s : Nat → Int32) (la : Nat → Int32) (r : rT) (v : vT) (c : Nat → Nat → Int32) (l : Nat → Int32) (tn : Int32) (p : Nat → Int32) (pa : Nat → Nat → Int32) (m : Nat) (q : rT) (b : Int32) (x : Nat → Nat) (h : Nat → Nat → Int64) (f t : Nat) (hd : f + 20 ≤ t ∨ t + 20 ≤ f) (hf : f ≤ 60) (ht : t ≤ 60) : J KX7_copies 21 (fun o B => o = none ∧ B = (wM (mcp s f t 20) la r v c l tn p pa m q b x h)) 0 [some (.ref 0), some (.int (nI f)), some (.int (nI t)), none] [] (wM s la r v c l tn p pa m q b x h) 0 0 := by
  refine J.iconst (0) dX7_copies_0 (by decide) ?_
  refine J.istore_n dX7_copies_1 rfl (by decide) rfl ?_
  try dsimp only [List.set]
  exact J.at (mX7_copies_l s la r v c l tn p pa m q b x h f t hd hf ht 20 0 (by omega)) rfl rfl (by rw [mcp_0])
set_option maxRecDepth 100000 in
set_option maxHeartbeats 4000000 in
theorem mX7_keep0 (s : Nat → Int32) (la : Nat → Int32) (r : rT) (v : vT) (c : Nat → Nat → Int32) (l : Nat → Int32) (tn : Int32) (p : Nat → Int32) (pa : Nat → Nat → Int32) (m : Nat) (q : rT) (b : Int32) (x : Nat → Nat) (h : Nat → Nat → Int64) (hk : v 0 0 ≤ 1) : J KX7_keep 21 (fun o B => o = some (.int (nI (v 0 0))) ∧ B = (wM (mcp s 0 20 20) la r (vset v 0 0 1) c l tn p pa m q b x h)) 0 [some (.ref 0), some (.int 0), none] [] (wM s la r v c l tn p pa m q b x h) 0 0 := by
  refine J.iload_n dX7_keep_0 rfl rfl ?_
  refine J.i2l dX7_keep_1 ?_
  refine J.lconst 0 dX7_keep_2 (by decide) ?_
  refine J.lconst 1 dX7_keep_3 (by decide) ?_
  refine J.cs (as := [.long _, .long _, .long _]) (is := []) okX7_in jcX7_74 (mX7_inI 0 0 1 (by decide) (by decide)) dX7_keep_4 rfl rfl rfl rfl rfl rfl (fun r9 B9 hq => ?_)
  obtain ⟨rfl, rfl⟩ := hq
  refine ⟨rfl, ?_⟩
  show J _ _ _ _ _ (.int _ :: _) (wM s la r v c l tn p pa m q b x h) _ _
  refine J.if_ne (tgt := 12) dX7_keep_7 (by decide) (fun c7 => ?_) (fun c7 => absurd c7 (fun h => (jB_0 _).mp h (by decide)))
  refine J.aload_n dX7_keep_12 rfl rfl ?_
  refine J.iconst (0) dX7_keep_13 (by decide) ?_
  refine J.bipush (20) dX7_keep_14 (by decide) ?_
  refine J.iload_n dX7_keep_16 rfl rfl ?_
  refine J.iconst (1) dX7_keep_17 (by decide) ?_
  refine J.iadd dX7_keep_18 ?_
  refine J.imul dX7_keep_19 ?_
  refine J.cvM (as := [.int _, .int _]) s la r v c l tn p pa m q b x h okX7_copies jcX7_282 (mX7_copies s la r v c l tn p pa m q b x h (0) (20) (by omega) (by omega) (by omega)) dX7_keep_20 rfl rfl rfl rfl (fun r9 B9 hq9 => ?_)
  obtain ⟨rfl, rfl⟩ := hq9
  refine ⟨_, _, _, _, _, _, _, _, _, _, _, _, _, _, rfl, ?_⟩
  show J _ _ _ _ _ [] (wM (mcp s (0) (20) 20) la r v c l tn p pa m q b x h) _ _
  refine J.aload_n dX7_keep_23 rfl rfl ?_
  refine J.mg37 dX7_keep_24 rfl ?_
  refine J.iload_n dX7_keep_27 rfl rfl ?_
  refine J.ml17 (0) dX7_keep_28 rfl (by decide) ?_
  refine J.if_eq (tgt := 36) dX7_keep_29 (by decide) (fun c29 => ?_) (fun c29 => ?_)
  · refine J.iconst (0) dX7_keep_36 (by decide) ?_
    refine J.istore_n dX7_keep_37 rfl (by decide) rfl ?_
    try dsimp only [List.set]
    refine J.aload_n dX7_keep_38 rfl rfl ?_
    refine J.mg37 dX7_keep_39 rfl ?_
    refine J.iload_n dX7_keep_42 rfl rfl ?_
    refine J.iconst (1) dX7_keep_43 (by decide) ?_
    refine J.ms17 0 (z := 1) dX7_keep_44 rfl (by decide) (by decide) ?_
    try dsimp only [List.set]
    refine J.iload_n dX7_keep_45 rfl rfl ?_
    exact J.iret dX7_keep_46 rfl rfl (Nat.le_refl _) (Nat.le_refl _) ⟨congrArg (fun z => some (Value.int z)) (by first | exact (kept1 hk c29).symm | exact (show nI (v 0 0) = 0 from c29).symm), rfl⟩
  · refine J.iconst (1) dX7_keep_32 (by decide) ?_
    refine J.goto (tgt := 37) dX7_keep_33 (by decide) ?_
    refine J.istore_n dX7_keep_37 rfl (by decide) rfl ?_
    try dsimp only [List.set]
    refine J.aload_n dX7_keep_38 rfl rfl ?_
    refine J.mg37 dX7_keep_39 rfl ?_
    refine J.iload_n dX7_keep_42 rfl rfl ?_
    refine J.iconst (1) dX7_keep_43 (by decide) ?_
    refine J.ms17 0 (z := 1) dX7_keep_44 rfl (by decide) (by decide) ?_
    try dsimp only [List.set]
    refine J.iload_n dX7_keep_45 rfl rfl ?_
    exact J.iret dX7_keep_46 rfl rfl (Nat.le_refl _) (Nat.le_refl _) ⟨congrArg (fun z => some (Value.int z)) (by first | exact (kept1 hk c29).symm | exact (show nI (v 0 0) = 0 from c29).symm), rfl⟩
set_option maxRecDepth 100000 in
set_option maxHeartbeats 4000000 in
theorem mX7_back0n (s : Nat → Int32) (la : Nat → Int32) (r : rT) (v : vT) (c : Nat → Nat → Int32) (l : Nat → Int32) (tn : Int32) (p : Nat → Int32) (pa : Nat → Nat → Int32) (m : Nat) (q : rT) (b : Int32) (x : Nat → Nat) (h : Nat → Nat → Int64) (hk : v 0 0 = 0) : J KX7_back 21 (fun o B => o = some (.int (-2)) ∧ B = (wM s la r v c l tn p pa m q b x h)) 0 [some (.ref 0), some (.int 0)] [] (wM s la r v c l tn p pa m q b x h) 0 0 := by
  refine J.iload_n dX7_back_0 rfl rfl ?_
  refine J.i2l dX7_back_1 ?_
  refine J.lconst 0 dX7_back_2 (by decide) ?_
  refine J.lconst 1 dX7_back_3 (by decide) ?_
  refine J.cs (as := [.long _, .long _, .long _]) (is := []) okX7_in jcX7_74 (mX7_inI 0 0 1 (by decide) (by decide)) dX7_back_4 rfl rfl rfl rfl rfl rfl (fun r9 B9 hq => ?_)
  obtain ⟨rfl, rfl⟩ := hq
  refine ⟨rfl, ?_⟩
  show J _ _ _ _ _ (.int _ :: _) (wM s la r v c l tn p pa m q b x h) _ _
  refine J.if_ne (tgt := 12) dX7_back_7 (by decide) (fun c7 => ?_) (fun c7 => absurd c7 (fun h => (jB_0 _).mp h (by decide)))
  refine J.aload_n dX7_back_12 rfl rfl ?_
  refine J.mg37 dX7_back_13 rfl ?_
  refine J.iload_n dX7_back_16 rfl rfl ?_
  refine J.ml17 (0) dX7_back_17 rfl (by decide) ?_
  refine J.if_ne (tgt := 24) dX7_back_18 (by decide) (fun c18 => absurd c18 (fun h => h (show nI (v 0 0) = 0 by rw [hk] <;> rfl))) (fun c18 => ?_)
  refine J.bipush (-2) dX7_back_21 (by decide) ?_
  exact J.iret dX7_back_23 rfl rfl (Nat.le_refl _) (Nat.le_refl _) ⟨rfl, rfl⟩
set_option maxRecDepth 100000 in
set_option maxHeartbeats 4000000 in
theorem mX7_back0 (s : Nat → Int32) (la : Nat → Int32) (r : rT) (v : vT) (c : Nat → Nat → Int32) (l : Nat → Int32) (tn : Int32) (p : Nat → Int32) (pa : Nat → Nat → Int32) (m : Nat) (q : rT) (b : Int32) (x : Nat → Nat) (h : Nat → Nat → Int64) (hk : v 0 0 = 1) : J KX7_back 21 (fun o B => o = some (.int (s (20 + 19))) ∧ B = (wM (mcp s 20 0 20) la r v c l tn p pa m q b x h)) 0 [some (.ref 0), some (.int 0)] [] (wM s la r v c l tn p pa m q b x h) 0 0 := by
  refine J.iload_n dX7_back_0 rfl rfl ?_
  refine J.i2l dX7_back_1 ?_
  refine J.lconst 0 dX7_back_2 (by decide) ?_
  refine J.lconst 1 dX7_back_3 (by decide) ?_
  refine J.cs (as := [.long _, .long _, .long _]) (is := []) okX7_in jcX7_74 (mX7_inI 0 0 1 (by decide) (by decide)) dX7_back_4 rfl rfl rfl rfl rfl rfl (fun r9 B9 hq => ?_)
  obtain ⟨rfl, rfl⟩ := hq
  refine ⟨rfl, ?_⟩
  show J _ _ _ _ _ (.int _ :: _) (wM s la r v c l tn p pa m q b x h) _ _
  refine J.if_ne (tgt := 12) dX7_back_7 (by decide) (fun c7 => ?_) (fun c7 => absurd c7 (fun h => (jB_0 _).mp h (by decide)))
  refine J.aload_n dX7_back_12 rfl rfl ?_
  refine J.mg37 dX7_back_13 rfl ?_
  refine J.iload_n dX7_back_16 rfl rfl ?_
  refine J.ml17 (0) dX7_back_17 rfl (by decide) ?_
  refine J.if_ne (tgt := 24) dX7_back_18 (by decide) (fun c18 => ?_) (fun c18 => absurd c18 (show ¬ nI (v 0 0) = 0 by rw [hk]; decide))
  refine J.aload_n dX7_back_24 rfl rfl ?_
  refine J.bipush (20) dX7_back_25 (by decide) ?_
  refine J.iload_n dX7_back_27 rfl rfl ?_
  refine J.iconst (1) dX7_back_28 (by decide) ?_
  refine J.iadd dX7_back_29 ?_
  refine J.imul dX7_back_30 ?_
  refine J.iconst (0) dX7_back_31 (by decide) ?_
  refine J.cvM (as := [.int _, .int _]) s la r v c l tn p pa m q b x h okX7_copies jcX7_282 (mX7_copies s la r v c l tn p pa m q b x h (20) (0) (by omega) (by omega) (by omega)) dX7_back_32 rfl rfl rfl rfl (fun r9 B9 hq9 => ?_)
  obtain ⟨rfl, rfl⟩ := hq9
  refine ⟨_, _, _, _, _, _, _, _, _, _, _, _, _, _, rfl, ?_⟩
  show J _ _ _ _ _ [] (wM (mcp s (20) (0) 20) la r v c l tn p pa m q b x h) _ _
  refine J.aload_n dX7_back_35 rfl rfl ?_
  refine J.mg0 dX7_back_36 rfl ?_
  refine J.bipush (19) dX7_back_39 (by decide) ?_
  refine J.ml1 (19) dX7_back_41 rfl (by decide) ?_
  rw [show mcp s 20 0 20 19 = s (20 + 19) from mcp_in s (t := 0) (j := 19) (by decide)]
  exact J.iret dX7_back_42 rfl rfl (Nat.le_refl _) (Nat.le_refl _) ⟨rfl, rfl⟩
set_option maxRecDepth 100000 in
set_option maxHeartbeats 4000000 in
theorem mX7_keep1 (s : Nat → Int32) (la : Nat → Int32) (r : rT) (v : vT) (c : Nat → Nat → Int32) (l : Nat → Int32) (tn : Int32) (p : Nat → Int32) (pa : Nat → Nat → Int32) (m : Nat) (q : rT) (b : Int32) (x : Nat → Nat) (h : Nat → Nat → Int64) (hk : v 0 1 ≤ 1) : J KX7_keep 21 (fun o B => o = some (.int (nI (v 0 1))) ∧ B = (wM (mcp s 0 40 20) la r (vset v 0 1 1) c l tn p pa m q b x h)) 0 [some (.ref 0), some (.int 1), none] [] (wM s la r v c l tn p pa m q b x h) 0 0 := by
  refine J.iload_n dX7_keep_0 rfl rfl ?_
  refine J.i2l dX7_keep_1 ?_
  refine J.lconst 0 dX7_keep_2 (by decide) ?_
  refine J.lconst 1 dX7_keep_3 (by decide) ?_
  refine J.cs (as := [.long _, .long _, .long _]) (is := []) okX7_in jcX7_74 (mX7_inI 1 0 1 (by decide) (by decide)) dX7_keep_4 rfl rfl rfl rfl rfl rfl (fun r9 B9 hq => ?_)
  obtain ⟨rfl, rfl⟩ := hq
  refine ⟨rfl, ?_⟩
  show J _ _ _ _ _ (.int _ :: _) (wM s la r v c l tn p pa m q b x h) _ _
  refine J.if_ne (tgt := 12) dX7_keep_7 (by decide) (fun c7 => ?_) (fun c7 => absurd c7 (fun h => (jB_0 _).mp h (by decide)))
  refine J.aload_n dX7_keep_12 rfl rfl ?_
  refine J.iconst (0) dX7_keep_13 (by decide) ?_
  refine J.bipush (20) dX7_keep_14 (by decide) ?_
  refine J.iload_n dX7_keep_16 rfl rfl ?_
  refine J.iconst (1) dX7_keep_17 (by decide) ?_
  refine J.iadd dX7_keep_18 ?_
  refine J.imul dX7_keep_19 ?_
  refine J.cvM (as := [.int _, .int _]) s la r v c l tn p pa m q b x h okX7_copies jcX7_282 (mX7_copies s la r v c l tn p pa m q b x h (0) (40) (by omega) (by omega) (by omega)) dX7_keep_20 rfl rfl rfl rfl (fun r9 B9 hq9 => ?_)
  obtain ⟨rfl, rfl⟩ := hq9
  refine ⟨_, _, _, _, _, _, _, _, _, _, _, _, _, _, rfl, ?_⟩
  show J _ _ _ _ _ [] (wM (mcp s (0) (40) 20) la r v c l tn p pa m q b x h) _ _
  refine J.aload_n dX7_keep_23 rfl rfl ?_
  refine J.mg37 dX7_keep_24 rfl ?_
  refine J.iload_n dX7_keep_27 rfl rfl ?_
  refine J.ml17 (1) dX7_keep_28 rfl (by decide) ?_
  refine J.if_eq (tgt := 36) dX7_keep_29 (by decide) (fun c29 => ?_) (fun c29 => ?_)
  · refine J.iconst (0) dX7_keep_36 (by decide) ?_
    refine J.istore_n dX7_keep_37 rfl (by decide) rfl ?_
    try dsimp only [List.set]
    refine J.aload_n dX7_keep_38 rfl rfl ?_
    refine J.mg37 dX7_keep_39 rfl ?_
    refine J.iload_n dX7_keep_42 rfl rfl ?_
    refine J.iconst (1) dX7_keep_43 (by decide) ?_
    refine J.ms17 1 (z := 1) dX7_keep_44 rfl (by decide) (by decide) ?_
    try dsimp only [List.set]
    refine J.iload_n dX7_keep_45 rfl rfl ?_
    exact J.iret dX7_keep_46 rfl rfl (Nat.le_refl _) (Nat.le_refl _) ⟨congrArg (fun z => some (Value.int z)) (by first | exact (kept1 hk c29).symm | exact (show nI (v 0 1) = 0 from c29).symm), rfl⟩
  · refine J.iconst (1) dX7_keep_32 (by decide) ?_
    refine J.goto (tgt := 37) dX7_keep_33 (by decide) ?_
    refine J.istore_n dX7_keep_37 rfl (by decide) rfl ?_
    try dsimp only [List.set]
    refine J.aload_n dX7_keep_38 rfl rfl ?_
    refine J.mg37 dX7_keep_39 rfl ?_
    refine J.iload_n dX7_keep_42 rfl rfl ?_
    refine J.iconst (1) dX7_keep_43 (by decide) ?_
    refine J.ms17 1 (z := 1) dX7_keep_44 rfl (by decide) (by decide) ?_
    try dsimp only [List.set]
    refine J.iload_n dX7_keep_45 rfl rfl ?_
    exact J.iret dX7_keep_46 rfl rfl (Nat.le_refl _) (Nat.le_refl _) ⟨congrArg (fun z => some (Value.int z)) (by first | exact (kept1 hk c29).symm | exact (show nI (v 0 1) = 0 from c29).symm), rfl⟩
set_option maxRecDepth 100000 in
set_option maxHeartbeats 4000000 in
theorem mX7_back1n (s : Nat → Int32) (la : Nat → Int32) (r : rT) (v : vT) (c : Nat → Nat → Int32) (l : Nat → Int32) (tn : Int32) (p : Nat → Int32) (pa : Nat → Nat → Int32) (m : Nat) (q : rT) (b : Int32) (x : Nat → Nat) (h : Nat → Nat → Int64) (hk : v 0 1 = 0) : J KX7_back 21 (fun o B => o = some (.int (-2)) ∧ B = (wM s la r v c l tn p pa m q b x h)) 0 [some (.ref 0), some (.int 1)] [] (wM s la r v c l tn p pa m q b x h) 0 0 := by
  refine J.iload_n dX7_back_0 rfl rfl ?_
  refine J.i2l dX7_back_1 ?_
  refine J.lconst 0 dX7_back_2 (by decide) ?_
  refine J.lconst 1 dX7_back_3 (by decide) ?_
  refine J.cs (as := [.long _, .long _, .long _]) (is := []) okX7_in jcX7_74 (mX7_inI 1 0 1 (by decide) (by decide)) dX7_back_4 rfl rfl rfl rfl rfl rfl (fun r9 B9 hq => ?_)
  obtain ⟨rfl, rfl⟩ := hq
  refine ⟨rfl, ?_⟩
  show J _ _ _ _ _ (.int _ :: _) (wM s la r v c l tn p pa m q b x h) _ _
  refine J.if_ne (tgt := 12) dX7_back_7 (by decide) (fun c7 => ?_) (fun c7 => absurd c7 (fun h => (jB_0 _).mp h (by decide)))
  refine J.aload_n dX7_back_12 rfl rfl ?_
  refine J.mg37 dX7_back_13 rfl ?_
  refine J.iload_n dX7_back_16 rfl rfl ?_
  refine J.ml17 (1) dX7_back_17 rfl (by decide) ?_
  refine J.if_ne (tgt := 24) dX7_back_18 (by decide) (fun c18 => absurd c18 (fun h => h (show nI (v 0 1) = 0 by rw [hk] <;> rfl))) (fun c18 => ?_)
  refine J.bipush (-2) dX7_back_21 (by decide) ?_
  exact J.iret dX7_back_23 rfl rfl (Nat.le_refl _) (Nat.le_refl _) ⟨rfl, rfl⟩
set_option maxRecDepth 100000 in
set_option maxHeartbeats 4000000 in
theorem mX7_back1 (s : Nat → Int32) (la : Nat → Int32) (r : rT) (v : vT) (c : Nat → Nat → Int32) (l : Nat → Int32) (tn : Int32) (p : Nat → Int32) (pa : Nat → Nat → Int32) (m : Nat) (q : rT) (b : Int32) (x : Nat → Nat) (h : Nat → Nat → Int64) (hk : v 0 1 = 1) : J KX7_back 21 (fun o B => o = some (.int (s (40 + 19))) ∧ B = (wM (mcp s 40 0 20) la r v c l tn p pa m q b x h)) 0 [some (.ref 0), some (.int 1)] [] (wM s la r v c l tn p pa m q b x h) 0 0 := by
  refine J.iload_n dX7_back_0 rfl rfl ?_
  refine J.i2l dX7_back_1 ?_
  refine J.lconst 0 dX7_back_2 (by decide) ?_
  refine J.lconst 1 dX7_back_3 (by decide) ?_
  refine J.cs (as := [.long _, .long _, .long _]) (is := []) okX7_in jcX7_74 (mX7_inI 1 0 1 (by decide) (by decide)) dX7_back_4 rfl rfl rfl rfl rfl rfl (fun r9 B9 hq => ?_)
  obtain ⟨rfl, rfl⟩ := hq
  refine ⟨rfl, ?_⟩
  show J _ _ _ _ _ (.int _ :: _) (wM s la r v c l tn p pa m q b x h) _ _
  refine J.if_ne (tgt := 12) dX7_back_7 (by decide) (fun c7 => ?_) (fun c7 => absurd c7 (fun h => (jB_0 _).mp h (by decide)))
  refine J.aload_n dX7_back_12 rfl rfl ?_
  refine J.mg37 dX7_back_13 rfl ?_
  refine J.iload_n dX7_back_16 rfl rfl ?_
  refine J.ml17 (1) dX7_back_17 rfl (by decide) ?_
  refine J.if_ne (tgt := 24) dX7_back_18 (by decide) (fun c18 => ?_) (fun c18 => absurd c18 (show ¬ nI (v 0 1) = 0 by rw [hk]; decide))
  refine J.aload_n dX7_back_24 rfl rfl ?_
  refine J.bipush (20) dX7_back_25 (by decide) ?_
  refine J.iload_n dX7_back_27 rfl rfl ?_
  refine J.iconst (1) dX7_back_28 (by decide) ?_
  refine J.iadd dX7_back_29 ?_
  refine J.imul dX7_back_30 ?_
  refine J.iconst (0) dX7_back_31 (by decide) ?_
  refine J.cvM (as := [.int _, .int _]) s la r v c l tn p pa m q b x h okX7_copies jcX7_282 (mX7_copies s la r v c l tn p pa m q b x h (40) (0) (by omega) (by omega) (by omega)) dX7_back_32 rfl rfl rfl rfl (fun r9 B9 hq9 => ?_)
  obtain ⟨rfl, rfl⟩ := hq9
  refine ⟨_, _, _, _, _, _, _, _, _, _, _, _, _, _, rfl, ?_⟩
  show J _ _ _ _ _ [] (wM (mcp s (40) (0) 20) la r v c l tn p pa m q b x h) _ _
  refine J.aload_n dX7_back_35 rfl rfl ?_
  refine J.mg0 dX7_back_36 rfl ?_
  refine J.bipush (19) dX7_back_39 (by decide) ?_
  refine J.ml1 (19) dX7_back_41 rfl (by decide) ?_
  rw [show mcp s 40 0 20 19 = s (40 + 19) from mcp_in s (t := 0) (j := 19) (by decide)]
  exact J.iret dX7_back_42 rfl rfl (Nat.le_refl _) (Nat.le_refl _) ⟨rfl, rfl⟩
set_option maxRecDepth 100000 in
set_option maxHeartbeats 4000000 in
theorem mX7_keep_bad (s : Nat → Int32) (la : Nat → Int32) (r : rT) (v : vT) (c : Nat → Nat → Int32) (l : Nat → Int32) (tn : Int32) (p : Nat → Int32) (pa : Nat → Nat → Int32) (m : Nat) (q : rT) (b : Int32) (x : Nat → Nat) (h : Nat → Nat → Int64) (k : Int32) (hb : ¬ (0 ≤ k ∧ k ≤ 1)) : J KX7_keep 21 (fun o B => o = some (.int (-1)) ∧ B = (wM s la r v c l tn p pa m q b x h)) 0 [some (.ref 0), some (.int k), none] [] (wM s la r v c l tn p pa m q b x h) 0 0 := by
  refine J.iload_n dX7_keep_0 rfl rfl ?_
  refine J.i2l dX7_keep_1 ?_
  refine J.lconst 0 dX7_keep_2 (by decide) ?_
  refine J.lconst 1 dX7_keep_3 (by decide) ?_
  refine J.cs (as := [.long _, .long _, .long _]) (is := []) okX7_in jcX7_74 (mX7_inI k 0 1 (by decide) (by decide)) dX7_keep_4 rfl rfl rfl rfl rfl rfl (fun r9 B9 hq => ?_)
  obtain ⟨rfl, rfl⟩ := hq
  refine ⟨rfl, ?_⟩
  show J _ _ _ _ _ (.int _ :: _) (wM s la r v c l tn p pa m q b x h) _ _
  refine J.if_ne (tgt := 12) dX7_keep_7 (by decide) (fun c7 => absurd c7 (fun h => h ((jB_0 _).mpr hb))) (fun c7 => ?_)
  refine J.iconst (-1) dX7_keep_10 (by decide) ?_
  exact J.iret dX7_keep_11 rfl rfl (Nat.le_refl _) (Nat.le_refl _) ⟨rfl, rfl⟩
set_option maxRecDepth 100000 in
set_option maxHeartbeats 4000000 in
theorem mX7_back_bad (s : Nat → Int32) (la : Nat → Int32) (r : rT) (v : vT) (c : Nat → Nat → Int32) (l : Nat → Int32) (tn : Int32) (p : Nat → Int32) (pa : Nat → Nat → Int32) (m : Nat) (q : rT) (b : Int32) (x : Nat → Nat) (h : Nat → Nat → Int64) (k : Int32) (hb : ¬ (0 ≤ k ∧ k ≤ 1)) : J KX7_back 21 (fun o B => o = some (.int (-1)) ∧ B = (wM s la r v c l tn p pa m q b x h)) 0 [some (.ref 0), some (.int k)] [] (wM s la r v c l tn p pa m q b x h) 0 0 := by
  refine J.iload_n dX7_back_0 rfl rfl ?_
  refine J.i2l dX7_back_1 ?_
  refine J.lconst 0 dX7_back_2 (by decide) ?_
  refine J.lconst 1 dX7_back_3 (by decide) ?_
  refine J.cs (as := [.long _, .long _, .long _]) (is := []) okX7_in jcX7_74 (mX7_inI k 0 1 (by decide) (by decide)) dX7_back_4 rfl rfl rfl rfl rfl rfl (fun r9 B9 hq => ?_)
  obtain ⟨rfl, rfl⟩ := hq
  refine ⟨rfl, ?_⟩
  show J _ _ _ _ _ (.int _ :: _) (wM s la r v c l tn p pa m q b x h) _ _
  refine J.if_ne (tgt := 12) dX7_back_7 (by decide) (fun c7 => absurd c7 (fun h => h ((jB_0 _).mpr hb))) (fun c7 => ?_)
  refine J.iconst (-1) dX7_back_10 (by decide) ?_
  exact J.iret dX7_back_11 rfl rfl (Nat.le_refl _) (Nat.le_refl _) ⟨rfl, rfl⟩
theorem mln_id {z : Int32} (h : 0 ≤ z ∧ z ≤ 2) : mln z = z := if_neg (fun e => absurd h.1 (by rw [e]; decide))
set_option maxRecDepth 100000 in
set_option maxHeartbeats 4000000 in
theorem mX7_sheet_bad (s : Nat → Int32) (la : Nat → Int32) (r : rT) (v : vT) (c : Nat → Nat → Int32) (l : Nat → Int32) (tn : Int32) (p : Nat → Int32) (pa : Nat → Nat → Int32) (m : Nat) (q : rT) (b : Int32) (x : Nat → Nat) (h : Nat → Nat → Int64) (k la0 z : Int32) (hb : ¬ (0 ≤ k ∧ k ≤ 3) ∨ ¬ (0 ≤ la0 ∧ la0 ≤ 2) ∨ ¬ z ≤ 40) : J KX7_sheet 21 (fun o B => o = some (.int (-1)) ∧ B = (wM s la r v c l tn p pa m q b x h)) 0 [some (.ref 0), some (.int k), some (.int la0), some (.int z), none] [] (wM s la r v c l tn p pa m q b x h) 0 0 := by
  refine J.iload_n dX7_sheet_0 rfl rfl ?_
  refine J.i2l dX7_sheet_1 ?_
  refine J.lconst 0 dX7_sheet_2 (by decide) ?_
  refine J.ldc2 (v := 3) dX7_sheet_3 (jt 946 rfl rfl) ?_
  refine J.cs (as := [.long _, .long _, .long _]) (is := []) okX7_in jcX7_74 (mX7_inI k 0 3 (by decide) (by decide)) dX7_sheet_6 rfl rfl rfl rfl rfl rfl (fun r9 B9 hq => ?_)
  obtain ⟨rfl, rfl⟩ := hq
  refine ⟨rfl, ?_⟩
  show J _ _ _ _ _ (.int _ :: _) (wM s la r v c l tn p pa m q b x h) _ _
  refine J.if_eq (tgt := 30) dX7_sheet_9 (by decide) (fun c9 => ?_) (fun c9 => ?_)
  · refine J.iconst (-1) dX7_sheet_30 (by decide) ?_
    exact J.iret dX7_sheet_31 rfl rfl (Nat.le_refl _) (Nat.le_refl _) ⟨rfl, rfl⟩
  · refine J.iload_n dX7_sheet_12 rfl rfl ?_
    refine J.i2l dX7_sheet_13 ?_
    refine J.lconst 0 dX7_sheet_14 (by decide) ?_
    refine J.ldc2 (v := 2) dX7_sheet_15 (jt 956 rfl rfl) ?_
    refine J.cs (as := [.long _, .long _, .long _]) (is := []) okX7_in jcX7_74 (mX7_inI la0 0 2 (by decide) (by decide)) dX7_sheet_18 rfl rfl rfl rfl rfl rfl (fun r9 B9 hq => ?_)
    obtain ⟨rfl, rfl⟩ := hq
    refine ⟨rfl, ?_⟩
    show J _ _ _ _ _ (.int _ :: _) (wM s la r v c l tn p pa m q b x h) _ _
    refine J.if_eq (tgt := 30) dX7_sheet_21 (by decide) (fun c21 => ?_) (fun c21 => ?_)
    · refine J.iconst (-1) dX7_sheet_30 (by decide) ?_
      exact J.iret dX7_sheet_31 rfl rfl (Nat.le_refl _) (Nat.le_refl _) ⟨rfl, rfl⟩
    · refine J.iload_n dX7_sheet_24 rfl rfl ?_
      refine J.bipush (40) dX7_sheet_25 (by decide) ?_
      refine J.icmp_le (tgt := 32) dX7_sheet_27 (by decide) (fun c27 => absurd c27 (fun hC => hb.elim (fun h => h (Decidable.not_not.mp (fun h9 => c9 ((jB_0 _).mpr h9)))) (fun h => h.elim (fun h => h (Decidable.not_not.mp (fun h9 => c21 ((jB_0 _).mpr h9)))) (fun h => h hC)))) (fun c27 => ?_)
      refine J.iconst (-1) dX7_sheet_30 (by decide) ?_
      exact J.iret dX7_sheet_31 rfl rfl (Nat.le_refl _) (Nat.le_refl _) ⟨rfl, rfl⟩
set_option maxRecDepth 100000 in
set_option maxHeartbeats 4000000 in
theorem mX7_sheet_neg (s : Nat → Int32) (la : Nat → Int32) (r : rT) (v : vT) (c : Nat → Nat → Int32) (l : Nat → Int32) (tn : Int32) (p : Nat → Int32) (pa : Nat → Nat → Int32) (m : Nat) (q : rT) (b : Int32) (x : Nat → Nat) (h : Nat → Nat → Int64) (k la0 z : Int32) (hk : 0 ≤ k ∧ k ≤ 3) (hl : 0 ≤ la0 ∧ la0 ≤ 2) (hz : z < 0) : J KX7_sheet 21 (fun o B => o = some (.int (-14)) ∧ B = (wM s la r v c l tn p pa m q b x h)) 0 [some (.ref 0), some (.int k), some (.int la0), some (.int z), none] [] (wM s la r v c l tn p pa m q b x h) 0 0 := by
  refine J.iload_n dX7_sheet_0 rfl rfl ?_
  refine J.i2l dX7_sheet_1 ?_
  refine J.lconst 0 dX7_sheet_2 (by decide) ?_
  refine J.ldc2 (v := 3) dX7_sheet_3 (jt 946 rfl rfl) ?_
  refine J.cs (as := [.long _, .long _, .long _]) (is := []) okX7_in jcX7_74 (mX7_inI k 0 3 (by decide) (by decide)) dX7_sheet_6 rfl rfl rfl rfl rfl rfl (fun r9 B9 hq => ?_)
  obtain ⟨rfl, rfl⟩ := hq
  refine ⟨rfl, ?_⟩
  show J _ _ _ _ _ (.int _ :: _) (wM s la r v c l tn p pa m q b x h) _ _
  refine J.if_eq (tgt := 30) dX7_sheet_9 (by decide) (fun c9 => absurd c9 (fun h => (jB_0 _).mp h hk)) (fun c9 => ?_)
  refine J.iload_n dX7_sheet_12 rfl rfl ?_
  refine J.i2l dX7_sheet_13 ?_
  refine J.lconst 0 dX7_sheet_14 (by decide) ?_
  refine J.ldc2 (v := 2) dX7_sheet_15 (jt 956 rfl rfl) ?_
  refine J.cs (as := [.long _, .long _, .long _]) (is := []) okX7_in jcX7_74 (mX7_inI la0 0 2 (by decide) (by decide)) dX7_sheet_18 rfl rfl rfl rfl rfl rfl (fun r9 B9 hq => ?_)
  obtain ⟨rfl, rfl⟩ := hq
  refine ⟨rfl, ?_⟩
  show J _ _ _ _ _ (.int _ :: _) (wM s la r v c l tn p pa m q b x h) _ _
  refine J.if_eq (tgt := 30) dX7_sheet_21 (by decide) (fun c21 => absurd c21 (fun h => (jB_0 _).mp h hl)) (fun c21 => ?_)
  refine J.iload_n dX7_sheet_24 rfl rfl ?_
  refine J.bipush (40) dX7_sheet_25 (by decide) ?_
  refine J.icmp_le (tgt := 32) dX7_sheet_27 (by decide) (fun c27 => ?_) (fun c27 => absurd c27 (fun h => h (Int32.le_trans (Int32.le_of_lt hz) (by decide))))
  refine J.iload_n dX7_sheet_32 rfl rfl ?_
  refine J.if_ge (tgt := 39) dX7_sheet_33 (by decide) (fun c33 => absurd c33 (Int32.not_le.mpr hz)) (fun c33 => ?_)
  refine J.bipush (-14) dX7_sheet_36 (by decide) ?_
  exact J.iret dX7_sheet_38 rfl rfl (Nat.le_refl _) (Nat.le_refl _) ⟨rfl, rfl⟩
set_option maxRecDepth 100000 in
set_option maxHeartbeats 4000000 in
theorem mX7_sheet0_l (s : Nat → Int32) (la : Nat → Int32) (r : rT) (v : vT) (c : Nat → Nat → Int32) (l : Nat → Int32) (tn : Int32) (p : Nat → Int32) (pa : Nat → Nat → Int32) (m : Nat) (q : rT) (b : Int32) (x : Nat → Nat) (h : Nat → Nat → Int64) (la0 : Int32) (hl : 0 ≤ la0 ∧ la0 ≤ 2) (M : Nat) (hm : M ≤ 40) : ∀ (k9 i : Nat), i + k9 = 40 → J KX7_sheet 21 (fun o B => o = some (.int (1)) ∧ B = (wM s la r (vset v 4 2 M) (cset c 0 (fun _ => 0)) (lset l 0 la0) tn p pa m q b x h)) 56 [some (.ref 0), some (.int 0), some (.int la0), some (.int (nI M)), some (.int (nI i))] [] (wM s la r (vset v 4 2 M) (cset c 0 (fun j => if j < i then 0 else c 0 j)) (lset l 0 la0) tn p pa m q b x h) 0 0 := by
  intro k9
  induction k9 with
  | zero =>
    intro i hi
    obtain hiN : i = 40 := by omega
    subst hiN
    refine J.iload dX7_sheet_56 rfl ?_
    refine J.bipush (40) dX7_sheet_58 (by decide) ?_
    refine J.icmp_ge (tgt := 82) dX7_sheet_60 (by decide) (fun c60 => ?_) (fun c60 => absurd c60 (fun h => h (by decide)))
    refine J.iconst (1) dX7_sheet_82 (by decide) ?_
    refine J.arrI 20 0 (fun j => cset c 0 (fun _ => 0) (j / 40) (j % 40)) rfl (fun j hj => ?_) ?_
    · show (if j / 40 = 0 then (fun j => if j < 40 then 0 else c 0 j) else c (j / 40)) (j % 40) = (if j / 40 = 0 then (fun _ => 0) else c (j / 40)) (j % 40)
      split
      · exact if_pos (by omega)
      · rfl
    exact J.iret dX7_sheet_83 rfl rfl (Nat.le_refl _) (Nat.le_refl _) ⟨rfl, rfl⟩
  | succ k9 ih =>
    intro i hi
    have hiN : i < 40 := by omega
    refine J.iload dX7_sheet_56 rfl ?_
    refine J.bipush (40) dX7_sheet_58 (by decide) ?_
    refine J.icmp_ge (tgt := 82) dX7_sheet_60 (by decide) (fun c60 => absurd c60 (nI_ge (b := 40) (by omega) (by omega))) (fun c60 => ?_)
    refine J.aload_n dX7_sheet_63 rfl rfl ?_
    refine J.mg40 dX7_sheet_64 rfl ?_
    refine J.bipush (40) dX7_sheet_67 (by decide) ?_
    refine J.iload_n dX7_sheet_69 rfl rfl ?_
    refine J.imul dX7_sheet_70 ?_
    refine J.iload dX7_sheet_71 rfl ?_
    refine J.iadd dX7_sheet_73 ?_
    refine J.iconst (0) dX7_sheet_74 (by decide) ?_
    refine J.ms20 0 i dX7_sheet_75 (ix 40 0 i) (by decide) (by omega) ?_
    try dsimp only [List.set]
    refine J.iinc (1) dX7_sheet_76 (by decide) rfl (by decide) rfl ?_
    try dsimp only [List.set]
    refine J.goto (tgt := 56) dX7_sheet_79 (by decide) ?_
    refine J.at (ih (i + 1) (by omega)) (by rw [← nI_1 i] <;> rfl) rfl (congrArg (fun c9 => (wM s la r (vset v 4 2 M) c9 (lset l 0 la0) tn p pa m q b x h)) ?_)
    rw [cset_cset]
    refine congrArg (cset c 0) (funext fun j => ?_)
    show (if j < i + 1 then 0 else c 0 j) = if j = i then 0 else (if 0 = 0 then (fun j => if j < i then 0 else c 0 j) else c 0) j
    rw [if_pos rfl]
    exact jlt_e (fun _ => 0) (c 0) i j
set_option maxRecDepth 100000 in
set_option maxHeartbeats 4000000 in
theorem mX7_sheet0 (s : Nat → Int32) (la : Nat → Int32) (r : rT) (v : vT) (c : Nat → Nat → Int32) (l : Nat → Int32) (tn : Int32) (p : Nat → Int32) (pa : Nat → Nat → Int32) (m : Nat) (q : rT) (b : Int32) (x : Nat → Nat) (h : Nat → Nat → Int64) (la0 : Int32) (hl : 0 ≤ la0 ∧ la0 ≤ 2) (M : Nat) (hm : M ≤ 40) : J KX7_sheet 21 (fun o B => o = some (.int (1)) ∧ B = (wM s la r (vset v 4 2 M) (cset c 0 (fun _ => 0)) (lset l 0 la0) tn p pa m q b x h)) 0 [some (.ref 0), some (.int 0), some (.int la0), some (.int (nI M)), none] [] (wM s la r v c l tn p pa m q b x h) 0 0 := by
  refine J.iload_n dX7_sheet_0 rfl rfl ?_
  refine J.i2l dX7_sheet_1 ?_
  refine J.lconst 0 dX7_sheet_2 (by decide) ?_
  refine J.ldc2 (v := 3) dX7_sheet_3 (jt 946 rfl rfl) ?_
  refine J.cs (as := [.long _, .long _, .long _]) (is := []) okX7_in jcX7_74 (mX7_inI 0 0 3 (by decide) (by decide)) dX7_sheet_6 rfl rfl rfl rfl rfl rfl (fun r9 B9 hq => ?_)
  obtain ⟨rfl, rfl⟩ := hq
  refine ⟨rfl, ?_⟩
  show J _ _ _ _ _ (.int _ :: _) (wM s la r v c l tn p pa m q b x h) _ _
  refine J.if_eq (tgt := 30) dX7_sheet_9 (by decide) (fun c9 => absurd c9 (fun h => (jB_0 _).mp h (by decide))) (fun c9 => ?_)
  refine J.iload_n dX7_sheet_12 rfl rfl ?_
  refine J.i2l dX7_sheet_13 ?_
  refine J.lconst 0 dX7_sheet_14 (by decide) ?_
  refine J.ldc2 (v := 2) dX7_sheet_15 (jt 956 rfl rfl) ?_
  refine J.cs (as := [.long _, .long _, .long _]) (is := []) okX7_in jcX7_74 (mX7_inI la0 0 2 (by decide) (by decide)) dX7_sheet_18 rfl rfl rfl rfl rfl rfl (fun r9 B9 hq => ?_)
  obtain ⟨rfl, rfl⟩ := hq
  refine ⟨rfl, ?_⟩
  show J _ _ _ _ _ (.int _ :: _) (wM s la r v c l tn p pa m q b x h) _ _
  refine J.if_eq (tgt := 30) dX7_sheet_21 (by decide) (fun c21 => absurd c21 (fun h => (jB_0 _).mp h hl)) (fun c21 => ?_)
  refine J.iload_n dX7_sheet_24 rfl rfl ?_
  refine J.bipush (40) dX7_sheet_25 (by decide) ?_
  refine J.icmp_le (tgt := 32) dX7_sheet_27 (by decide) (fun c27 => ?_) (fun c27 => absurd c27 (fun h => h ((nI_lei (b := 40) (by omega) (by decide)).mpr hm)))
  refine J.iload_n dX7_sheet_32 rfl rfl ?_
  refine J.if_ge (tgt := 39) dX7_sheet_33 (by decide) (fun c33 => ?_) (fun c33 => absurd c33 (fun h => h (nI_pos' (by omega))))
  refine J.aload_n dX7_sheet_39 rfl rfl ?_
  refine J.mg38 dX7_sheet_40 rfl ?_
  refine J.iload_n dX7_sheet_43 rfl rfl ?_
  refine J.iload_n dX7_sheet_44 rfl rfl ?_
  refine J.ms18 0 dX7_sheet_45 rfl (by decide) (mln_id hl) ?_
  try dsimp only [List.set]
  refine J.aload_n dX7_sheet_46 rfl rfl ?_
  refine J.mg39 dX7_sheet_47 rfl ?_
  refine J.iload_n dX7_sheet_50 rfl rfl ?_
  refine J.iload_n dX7_sheet_51 rfl rfl ?_
  refine J.ms19_0 dX7_sheet_52 ?_
  try dsimp only [List.set]
  refine J.iconst (0) dX7_sheet_53 (by decide) ?_
  refine J.istore dX7_sheet_54 (by decide) rfl ?_
  try dsimp only [List.set]
  refine J.at (mX7_sheet0_l s la r v c l tn p pa m q b x h la0 hl M hm 40 0 (by omega)) rfl rfl (congrArg (fun c9 => (wM s la r (vset v 4 2 M) c9 (lset l 0 la0) tn p pa m q b x h)) (funext fun y => ?_))
  show (if y = 0 then (fun j => if j < 0 then 0 else c 0 j) else c y) = c y
  rw [jlt_0]
  split
  · next h => rw [h]
  · rfl
set_option maxRecDepth 100000 in
set_option maxHeartbeats 4000000 in
theorem mX7_sheet1_l (s : Nat → Int32) (la : Nat → Int32) (r : rT) (v : vT) (c : Nat → Nat → Int32) (l : Nat → Int32) (tn : Int32) (p : Nat → Int32) (pa : Nat → Nat → Int32) (m : Nat) (q : rT) (b : Int32) (x : Nat → Nat) (h : Nat → Nat → Int64) (la0 : Int32) (hl : 0 ≤ la0 ∧ la0 ≤ 2) (M : Nat) (hm : M ≤ 40) : ∀ (k9 i : Nat), i + k9 = 40 → J KX7_sheet 21 (fun o B => o = some (.int (1)) ∧ B = (wM s la r (vset v 4 3 M) (cset c 1 (fun _ => 0)) (lset l 1 la0) tn p pa m q b x h)) 56 [some (.ref 0), some (.int 1), some (.int la0), some (.int (nI M)), some (.int (nI i))] [] (wM s la r (vset v 4 3 M) (cset c 1 (fun j => if j < i then 0 else c 1 j)) (lset l 1 la0) tn p pa m q b x h) 0 0 := by
  intro k9
  induction k9 with
  | zero =>
    intro i hi
    obtain hiN : i = 40 := by omega
    subst hiN
    refine J.iload dX7_sheet_56 rfl ?_
    refine J.bipush (40) dX7_sheet_58 (by decide) ?_
    refine J.icmp_ge (tgt := 82) dX7_sheet_60 (by decide) (fun c60 => ?_) (fun c60 => absurd c60 (fun h => h (by decide)))
    refine J.iconst (1) dX7_sheet_82 (by decide) ?_
    refine J.arrI 20 0 (fun j => cset c 1 (fun _ => 0) (j / 40) (j % 40)) rfl (fun j hj => ?_) ?_
    · show (if j / 40 = 1 then (fun j => if j < 40 then 0 else c 1 j) else c (j / 40)) (j % 40) = (if j / 40 = 1 then (fun _ => 0) else c (j / 40)) (j % 40)
      split
      · exact if_pos (by omega)
      · rfl
    exact J.iret dX7_sheet_83 rfl rfl (Nat.le_refl _) (Nat.le_refl _) ⟨rfl, rfl⟩
  | succ k9 ih =>
    intro i hi
    have hiN : i < 40 := by omega
    refine J.iload dX7_sheet_56 rfl ?_
    refine J.bipush (40) dX7_sheet_58 (by decide) ?_
    refine J.icmp_ge (tgt := 82) dX7_sheet_60 (by decide) (fun c60 => absurd c60 (nI_ge (b := 40) (by omega) (by omega))) (fun c60 => ?_)
    refine J.aload_n dX7_sheet_63 rfl rfl ?_
    refine J.mg40 dX7_sheet_64 rfl ?_
    refine J.bipush (40) dX7_sheet_67 (by decide) ?_
    refine J.iload_n dX7_sheet_69 rfl rfl ?_
    refine J.imul dX7_sheet_70 ?_
    refine J.iload dX7_sheet_71 rfl ?_
    refine J.iadd dX7_sheet_73 ?_
    refine J.iconst (0) dX7_sheet_74 (by decide) ?_
    refine J.ms20 1 i dX7_sheet_75 (ix 40 1 i) (by decide) (by omega) ?_
    try dsimp only [List.set]
    refine J.iinc (1) dX7_sheet_76 (by decide) rfl (by decide) rfl ?_
    try dsimp only [List.set]
    refine J.goto (tgt := 56) dX7_sheet_79 (by decide) ?_
    refine J.at (ih (i + 1) (by omega)) (by rw [← nI_1 i] <;> rfl) rfl (congrArg (fun c9 => (wM s la r (vset v 4 3 M) c9 (lset l 1 la0) tn p pa m q b x h)) ?_)
    rw [cset_cset]
    refine congrArg (cset c 1) (funext fun j => ?_)
    show (if j < i + 1 then 0 else c 1 j) = if j = i then 0 else (if 1 = 1 then (fun j => if j < i then 0 else c 1 j) else c 1) j
    rw [if_pos rfl]
    exact jlt_e (fun _ => 0) (c 1) i j
set_option maxRecDepth 100000 in
set_option maxHeartbeats 4000000 in
theorem mX7_sheet1 (s : Nat → Int32) (la : Nat → Int32) (r : rT) (v : vT) (c : Nat → Nat → Int32) (l : Nat → Int32) (tn : Int32) (p : Nat → Int32) (pa : Nat → Nat → Int32) (m : Nat) (q : rT) (b : Int32) (x : Nat → Nat) (h : Nat → Nat → Int64) (la0 : Int32) (hl : 0 ≤ la0 ∧ la0 ≤ 2) (M : Nat) (hm : M ≤ 40) : J KX7_sheet 21 (fun o B => o = some (.int (1)) ∧ B = (wM s la r (vset v 4 3 M) (cset c 1 (fun _ => 0)) (lset l 1 la0) tn p pa m q b x h)) 0 [some (.ref 0), some (.int 1), some (.int la0), some (.int (nI M)), none] [] (wM s la r v c l tn p pa m q b x h) 0 0 := by
  refine J.iload_n dX7_sheet_0 rfl rfl ?_
  refine J.i2l dX7_sheet_1 ?_
  refine J.lconst 0 dX7_sheet_2 (by decide) ?_
  refine J.ldc2 (v := 3) dX7_sheet_3 (jt 946 rfl rfl) ?_
  refine J.cs (as := [.long _, .long _, .long _]) (is := []) okX7_in jcX7_74 (mX7_inI 1 0 3 (by decide) (by decide)) dX7_sheet_6 rfl rfl rfl rfl rfl rfl (fun r9 B9 hq => ?_)
  obtain ⟨rfl, rfl⟩ := hq
  refine ⟨rfl, ?_⟩
  show J _ _ _ _ _ (.int _ :: _) (wM s la r v c l tn p pa m q b x h) _ _
  refine J.if_eq (tgt := 30) dX7_sheet_9 (by decide) (fun c9 => absurd c9 (fun h => (jB_0 _).mp h (by decide))) (fun c9 => ?_)
  refine J.iload_n dX7_sheet_12 rfl rfl ?_
  refine J.i2l dX7_sheet_13 ?_
  refine J.lconst 0 dX7_sheet_14 (by decide) ?_
  refine J.ldc2 (v := 2) dX7_sheet_15 (jt 956 rfl rfl) ?_
  refine J.cs (as := [.long _, .long _, .long _]) (is := []) okX7_in jcX7_74 (mX7_inI la0 0 2 (by decide) (by decide)) dX7_sheet_18 rfl rfl rfl rfl rfl rfl (fun r9 B9 hq => ?_)
  obtain ⟨rfl, rfl⟩ := hq
  refine ⟨rfl, ?_⟩
  show J _ _ _ _ _ (.int _ :: _) (wM s la r v c l tn p pa m q b x h) _ _
  refine J.if_eq (tgt := 30) dX7_sheet_21 (by decide) (fun c21 => absurd c21 (fun h => (jB_0 _).mp h hl)) (fun c21 => ?_)
  refine J.iload_n dX7_sheet_24 rfl rfl ?_
  refine J.bipush (40) dX7_sheet_25 (by decide) ?_
  refine J.icmp_le (tgt := 32) dX7_sheet_27 (by decide) (fun c27 => ?_) (fun c27 => absurd c27 (fun h => h ((nI_lei (b := 40) (by omega) (by decide)).mpr hm)))
  refine J.iload_n dX7_sheet_32 rfl rfl ?_
  refine J.if_ge (tgt := 39) dX7_sheet_33 (by decide) (fun c33 => ?_) (fun c33 => absurd c33 (fun h => h (nI_pos' (by omega))))
  refine J.aload_n dX7_sheet_39 rfl rfl ?_
  refine J.mg38 dX7_sheet_40 rfl ?_
  refine J.iload_n dX7_sheet_43 rfl rfl ?_
  refine J.iload_n dX7_sheet_44 rfl rfl ?_
  refine J.ms18 1 dX7_sheet_45 rfl (by decide) (mln_id hl) ?_
  try dsimp only [List.set]
  refine J.aload_n dX7_sheet_46 rfl rfl ?_
  refine J.mg39 dX7_sheet_47 rfl ?_
  refine J.iload_n dX7_sheet_50 rfl rfl ?_
  refine J.iload_n dX7_sheet_51 rfl rfl ?_
  refine J.ms19_1 dX7_sheet_52 ?_
  try dsimp only [List.set]
  refine J.iconst (0) dX7_sheet_53 (by decide) ?_
  refine J.istore dX7_sheet_54 (by decide) rfl ?_
  try dsimp only [List.set]
  refine J.at (mX7_sheet1_l s la r v c l tn p pa m q b x h la0 hl M hm 40 0 (by omega)) rfl rfl (congrArg (fun c9 => (wM s la r (vset v 4 3 M) c9 (lset l 1 la0) tn p pa m q b x h)) (funext fun y => ?_))
  show (if y = 1 then (fun j => if j < 0 then 0 else c 1 j) else c y) = c y
  rw [jlt_0]
  split
  · next h => rw [h]
  · rfl
set_option maxRecDepth 100000 in
set_option maxHeartbeats 4000000 in
theorem mX7_sheet2_l (s : Nat → Int32) (la : Nat → Int32) (r : rT) (v : vT) (c : Nat → Nat → Int32) (l : Nat → Int32) (tn : Int32) (p : Nat → Int32) (pa : Nat → Nat → Int32) (m : Nat) (q : rT) (b : Int32) (x : Nat → Nat) (h : Nat → Nat → Int64) (la0 : Int32) (hl : 0 ≤ la0 ∧ la0 ≤ 2) (M : Nat) (hm : M ≤ 40) : ∀ (k9 i : Nat), i + k9 = 40 → J KX7_sheet 21 (fun o B => o = some (.int (1)) ∧ B = (wM s la r (vset v 4 4 M) (cset c 2 (fun _ => 0)) (lset l 2 la0) tn p pa m q b x h)) 56 [some (.ref 0), some (.int 2), some (.int la0), some (.int (nI M)), some (.int (nI i))] [] (wM s la r (vset v 4 4 M) (cset c 2 (fun j => if j < i then 0 else c 2 j)) (lset l 2 la0) tn p pa m q b x h) 0 0 := by
  intro k9
  induction k9 with
  | zero =>
    intro i hi
    obtain hiN : i = 40 := by omega
    subst hiN
    refine J.iload dX7_sheet_56 rfl ?_
    refine J.bipush (40) dX7_sheet_58 (by decide) ?_
    refine J.icmp_ge (tgt := 82) dX7_sheet_60 (by decide) (fun c60 => ?_) (fun c60 => absurd c60 (fun h => h (by decide)))
    refine J.iconst (1) dX7_sheet_82 (by decide) ?_
    refine J.arrI 20 0 (fun j => cset c 2 (fun _ => 0) (j / 40) (j % 40)) rfl (fun j hj => ?_) ?_
    · show (if j / 40 = 2 then (fun j => if j < 40 then 0 else c 2 j) else c (j / 40)) (j % 40) = (if j / 40 = 2 then (fun _ => 0) else c (j / 40)) (j % 40)
      split
      · exact if_pos (by omega)
      · rfl
    exact J.iret dX7_sheet_83 rfl rfl (Nat.le_refl _) (Nat.le_refl _) ⟨rfl, rfl⟩
  | succ k9 ih =>
    intro i hi
    have hiN : i < 40 := by omega
    refine J.iload dX7_sheet_56 rfl ?_
    refine J.bipush (40) dX7_sheet_58 (by decide) ?_
    refine J.icmp_ge (tgt := 82) dX7_sheet_60 (by decide) (fun c60 => absurd c60 (nI_ge (b := 40) (by omega) (by omega))) (fun c60 => ?_)
    refine J.aload_n dX7_sheet_63 rfl rfl ?_
    refine J.mg40 dX7_sheet_64 rfl ?_
    refine J.bipush (40) dX7_sheet_67 (by decide) ?_
    refine J.iload_n dX7_sheet_69 rfl rfl ?_
    refine J.imul dX7_sheet_70 ?_
    refine J.iload dX7_sheet_71 rfl ?_
    refine J.iadd dX7_sheet_73 ?_
    refine J.iconst (0) dX7_sheet_74 (by decide) ?_
    refine J.ms20 2 i dX7_sheet_75 (ix 40 2 i) (by decide) (by omega) ?_
    try dsimp only [List.set]
    refine J.iinc (1) dX7_sheet_76 (by decide) rfl (by decide) rfl ?_
    try dsimp only [List.set]
    refine J.goto (tgt := 56) dX7_sheet_79 (by decide) ?_
    refine J.at (ih (i + 1) (by omega)) (by rw [← nI_1 i] <;> rfl) rfl (congrArg (fun c9 => (wM s la r (vset v 4 4 M) c9 (lset l 2 la0) tn p pa m q b x h)) ?_)
    rw [cset_cset]
    refine congrArg (cset c 2) (funext fun j => ?_)
    show (if j < i + 1 then 0 else c 2 j) = if j = i then 0 else (if 2 = 2 then (fun j => if j < i then 0 else c 2 j) else c 2) j
    rw [if_pos rfl]
    exact jlt_e (fun _ => 0) (c 2) i j
set_option maxRecDepth 100000 in
set_option maxHeartbeats 4000000 in
theorem mX7_sheet2 (s : Nat → Int32) (la : Nat → Int32) (r : rT) (v : vT) (c : Nat → Nat → Int32) (l : Nat → Int32) (tn : Int32) (p : Nat → Int32) (pa : Nat → Nat → Int32) (m : Nat) (q : rT) (b : Int32) (x : Nat → Nat) (h : Nat → Nat → Int64) (la0 : Int32) (hl : 0 ≤ la0 ∧ la0 ≤ 2) (M : Nat) (hm : M ≤ 40) : J KX7_sheet 21 (fun o B => o = some (.int (1)) ∧ B = (wM s la r (vset v 4 4 M) (cset c 2 (fun _ => 0)) (lset l 2 la0) tn p pa m q b x h)) 0 [some (.ref 0), some (.int 2), some (.int la0), some (.int (nI M)), none] [] (wM s la r v c l tn p pa m q b x h) 0 0 := by
  refine J.iload_n dX7_sheet_0 rfl rfl ?_
  refine J.i2l dX7_sheet_1 ?_
  refine J.lconst 0 dX7_sheet_2 (by decide) ?_
  refine J.ldc2 (v := 3) dX7_sheet_3 (jt 946 rfl rfl) ?_
  refine J.cs (as := [.long _, .long _, .long _]) (is := []) okX7_in jcX7_74 (mX7_inI 2 0 3 (by decide) (by decide)) dX7_sheet_6 rfl rfl rfl rfl rfl rfl (fun r9 B9 hq => ?_)
  obtain ⟨rfl, rfl⟩ := hq
  refine ⟨rfl, ?_⟩
  show J _ _ _ _ _ (.int _ :: _) (wM s la r v c l tn p pa m q b x h) _ _
  refine J.if_eq (tgt := 30) dX7_sheet_9 (by decide) (fun c9 => absurd c9 (fun h => (jB_0 _).mp h (by decide))) (fun c9 => ?_)
  refine J.iload_n dX7_sheet_12 rfl rfl ?_
  refine J.i2l dX7_sheet_13 ?_
  refine J.lconst 0 dX7_sheet_14 (by decide) ?_
  refine J.ldc2 (v := 2) dX7_sheet_15 (jt 956 rfl rfl) ?_
  refine J.cs (as := [.long _, .long _, .long _]) (is := []) okX7_in jcX7_74 (mX7_inI la0 0 2 (by decide) (by decide)) dX7_sheet_18 rfl rfl rfl rfl rfl rfl (fun r9 B9 hq => ?_)
  obtain ⟨rfl, rfl⟩ := hq
  refine ⟨rfl, ?_⟩
  show J _ _ _ _ _ (.int _ :: _) (wM s la r v c l tn p pa m q b x h) _ _
  refine J.if_eq (tgt := 30) dX7_sheet_21 (by decide) (fun c21 => absurd c21 (fun h => (jB_0 _).mp h hl)) (fun c21 => ?_)
  refine J.iload_n dX7_sheet_24 rfl rfl ?_
  refine J.bipush (40) dX7_sheet_25 (by decide) ?_
  refine J.icmp_le (tgt := 32) dX7_sheet_27 (by decide) (fun c27 => ?_) (fun c27 => absurd c27 (fun h => h ((nI_lei (b := 40) (by omega) (by decide)).mpr hm)))
  refine J.iload_n dX7_sheet_32 rfl rfl ?_
  refine J.if_ge (tgt := 39) dX7_sheet_33 (by decide) (fun c33 => ?_) (fun c33 => absurd c33 (fun h => h (nI_pos' (by omega))))
  refine J.aload_n dX7_sheet_39 rfl rfl ?_
  refine J.mg38 dX7_sheet_40 rfl ?_
  refine J.iload_n dX7_sheet_43 rfl rfl ?_
  refine J.iload_n dX7_sheet_44 rfl rfl ?_
  refine J.ms18 2 dX7_sheet_45 rfl (by decide) (mln_id hl) ?_
  try dsimp only [List.set]
  refine J.aload_n dX7_sheet_46 rfl rfl ?_
  refine J.mg39 dX7_sheet_47 rfl ?_
  refine J.iload_n dX7_sheet_50 rfl rfl ?_
  refine J.iload_n dX7_sheet_51 rfl rfl ?_
  refine J.ms19_2 dX7_sheet_52 ?_
  try dsimp only [List.set]
  refine J.iconst (0) dX7_sheet_53 (by decide) ?_
  refine J.istore dX7_sheet_54 (by decide) rfl ?_
  try dsimp only [List.set]
  refine J.at (mX7_sheet2_l s la r v c l tn p pa m q b x h la0 hl M hm 40 0 (by omega)) rfl rfl (congrArg (fun c9 => (wM s la r (vset v 4 4 M) c9 (lset l 2 la0) tn p pa m q b x h)) (funext fun y => ?_))
  show (if y = 2 then (fun j => if j < 0 then 0 else c 2 j) else c y) = c y
  rw [jlt_0]
  split
  · next h => rw [h]
  · rfl
set_option maxRecDepth 100000 in
set_option maxHeartbeats 4000000 in
theorem mX7_sheet3_l (s : Nat → Int32) (la : Nat → Int32) (r : rT) (v : vT) (c : Nat → Nat → Int32) (l : Nat → Int32) (tn : Int32) (p : Nat → Int32) (pa : Nat → Nat → Int32) (m : Nat) (q : rT) (b : Int32) (x : Nat → Nat) (h : Nat → Nat → Int64) (la0 : Int32) (hl : 0 ≤ la0 ∧ la0 ≤ 2) (M : Nat) (hm : M ≤ 40) : ∀ (k9 i : Nat), i + k9 = 40 → J KX7_sheet 21 (fun o B => o = some (.int (1)) ∧ B = (wM s la r (vset v 4 5 M) (cset c 3 (fun _ => 0)) (lset l 3 la0) tn p pa m q b x h)) 56 [some (.ref 0), some (.int 3), some (.int la0), some (.int (nI M)), some (.int (nI i))] [] (wM s la r (vset v 4 5 M) (cset c 3 (fun j => if j < i then 0 else c 3 j)) (lset l 3 la0) tn p pa m q b x h) 0 0 := by
  intro k9
  induction k9 with
  | zero =>
    intro i hi
    obtain hiN : i = 40 := by omega
    subst hiN
    refine J.iload dX7_sheet_56 rfl ?_
    refine J.bipush (40) dX7_sheet_58 (by decide) ?_
    refine J.icmp_ge (tgt := 82) dX7_sheet_60 (by decide) (fun c60 => ?_) (fun c60 => absurd c60 (fun h => h (by decide)))
    refine J.iconst (1) dX7_sheet_82 (by decide) ?_
    refine J.arrI 20 0 (fun j => cset c 3 (fun _ => 0) (j / 40) (j % 40)) rfl (fun j hj => ?_) ?_
    · show (if j / 40 = 3 then (fun j => if j < 40 then 0 else c 3 j) else c (j / 40)) (j % 40) = (if j / 40 = 3 then (fun _ => 0) else c (j / 40)) (j % 40)
      split
      · exact if_pos (by omega)
      · rfl
    exact J.iret dX7_sheet_83 rfl rfl (Nat.le_refl _) (Nat.le_refl _) ⟨rfl, rfl⟩
  | succ k9 ih =>
    intro i hi
    have hiN : i < 40 := by omega
    refine J.iload dX7_sheet_56 rfl ?_
    refine J.bipush (40) dX7_sheet_58 (by decide) ?_
    refine J.icmp_ge (tgt := 82) dX7_sheet_60 (by decide) (fun c60 => absurd c60 (nI_ge (b := 40) (by omega) (by omega))) (fun c60 => ?_)
    refine J.aload_n dX7_sheet_63 rfl rfl ?_
    refine J.mg40 dX7_sheet_64 rfl ?_
    refine J.bipush (40) dX7_sheet_67 (by decide) ?_
    refine J.iload_n dX7_sheet_69 rfl rfl ?_
    refine J.imul dX7_sheet_70 ?_
    refine J.iload dX7_sheet_71 rfl ?_
    refine J.iadd dX7_sheet_73 ?_
    refine J.iconst (0) dX7_sheet_74 (by decide) ?_
    refine J.ms20 3 i dX7_sheet_75 (ix 40 3 i) (by decide) (by omega) ?_
    try dsimp only [List.set]
    refine J.iinc (1) dX7_sheet_76 (by decide) rfl (by decide) rfl ?_
    try dsimp only [List.set]
    refine J.goto (tgt := 56) dX7_sheet_79 (by decide) ?_
    refine J.at (ih (i + 1) (by omega)) (by rw [← nI_1 i] <;> rfl) rfl (congrArg (fun c9 => (wM s la r (vset v 4 5 M) c9 (lset l 3 la0) tn p pa m q b x h)) ?_)
    rw [cset_cset]
    refine congrArg (cset c 3) (funext fun j => ?_)
    show (if j < i + 1 then 0 else c 3 j) = if j = i then 0 else (if 3 = 3 then (fun j => if j < i then 0 else c 3 j) else c 3) j
    rw [if_pos rfl]
    exact jlt_e (fun _ => 0) (c 3) i j
set_option maxRecDepth 100000 in
set_option maxHeartbeats 4000000 in
theorem mX7_sheet3 (s : Nat → Int32) (la : Nat → Int32) (r : rT) (v : vT) (c : Nat → Nat → Int32) (l : Nat → Int32) (tn : Int32) (p : Nat → Int32) (pa : Nat → Nat → Int32) (m : Nat) (q : rT) (b : Int32) (x : Nat → Nat) (h : Nat → Nat → Int64) (la0 : Int32) (hl : 0 ≤ la0 ∧ la0 ≤ 2) (M : Nat) (hm : M ≤ 40) : J KX7_sheet 21 (fun o B => o = some (.int (1)) ∧ B = (wM s la r (vset v 4 5 M) (cset c 3 (fun _ => 0)) (lset l 3 la0) tn p pa m q b x h)) 0 [some (.ref 0), some (.int 3), some (.int la0), some (.int (nI M)), none] [] (wM s la r v c l tn p pa m q b x h) 0 0 := by
  refine J.iload_n dX7_sheet_0 rfl rfl ?_
  refine J.i2l dX7_sheet_1 ?_
  refine J.lconst 0 dX7_sheet_2 (by decide) ?_
  refine J.ldc2 (v := 3) dX7_sheet_3 (jt 946 rfl rfl) ?_
  refine J.cs (as := [.long _, .long _, .long _]) (is := []) okX7_in jcX7_74 (mX7_inI 3 0 3 (by decide) (by decide)) dX7_sheet_6 rfl rfl rfl rfl rfl rfl (fun r9 B9 hq => ?_)
  obtain ⟨rfl, rfl⟩ := hq
  refine ⟨rfl, ?_⟩
  show J _ _ _ _ _ (.int _ :: _) (wM s la r v c l tn p pa m q b x h) _ _
  refine J.if_eq (tgt := 30) dX7_sheet_9 (by decide) (fun c9 => absurd c9 (fun h => (jB_0 _).mp h (by decide))) (fun c9 => ?_)
  refine J.iload_n dX7_sheet_12 rfl rfl ?_
  refine J.i2l dX7_sheet_13 ?_
  refine J.lconst 0 dX7_sheet_14 (by decide) ?_
  refine J.ldc2 (v := 2) dX7_sheet_15 (jt 956 rfl rfl) ?_
  refine J.cs (as := [.long _, .long _, .long _]) (is := []) okX7_in jcX7_74 (mX7_inI la0 0 2 (by decide) (by decide)) dX7_sheet_18 rfl rfl rfl rfl rfl rfl (fun r9 B9 hq => ?_)
  obtain ⟨rfl, rfl⟩ := hq
  refine ⟨rfl, ?_⟩
  show J _ _ _ _ _ (.int _ :: _) (wM s la r v c l tn p pa m q b x h) _ _
  refine J.if_eq (tgt := 30) dX7_sheet_21 (by decide) (fun c21 => absurd c21 (fun h => (jB_0 _).mp h hl)) (fun c21 => ?_)
  refine J.iload_n dX7_sheet_24 rfl rfl ?_
  refine J.bipush (40) dX7_sheet_25 (by decide) ?_
  refine J.icmp_le (tgt := 32) dX7_sheet_27 (by decide) (fun c27 => ?_) (fun c27 => absurd c27 (fun h => h ((nI_lei (b := 40) (by omega) (by decide)).mpr hm)))
  refine J.iload_n dX7_sheet_32 rfl rfl ?_
  refine J.if_ge (tgt := 39) dX7_sheet_33 (by decide) (fun c33 => ?_) (fun c33 => absurd c33 (fun h => h (nI_pos' (by omega))))
  refine J.aload_n dX7_sheet_39 rfl rfl ?_
  refine J.mg38 dX7_sheet_40 rfl ?_
  refine J.iload_n dX7_sheet_43 rfl rfl ?_
  refine J.iload_n dX7_sheet_44 rfl rfl ?_
  refine J.ms18 3 dX7_sheet_45 rfl (by decide) (mln_id hl) ?_
  try dsimp only [List.set]
  refine J.aload_n dX7_sheet_46 rfl rfl ?_
  refine J.mg39 dX7_sheet_47 rfl ?_
  refine J.iload_n dX7_sheet_50 rfl rfl ?_
  refine J.iload_n dX7_sheet_51 rfl rfl ?_
  refine J.ms19_3 dX7_sheet_52 ?_
  try dsimp only [List.set]
  refine J.iconst (0) dX7_sheet_53 (by decide) ?_
  refine J.istore dX7_sheet_54 (by decide) rfl ?_
  try dsimp only [List.set]
  refine J.at (mX7_sheet3_l s la r v c l tn p pa m q b x h la0 hl M hm 40 0 (by omega)) rfl rfl (congrArg (fun c9 => (wM s la r (vset v 4 5 M) c9 (lset l 3 la0) tn p pa m q b x h)) (funext fun y => ?_))
  show (if y = 3 then (fun j => if j < 0 then 0 else c 3 j) else c y) = c y
  rw [jlt_0]
  split
  · next h => rw [h]
  · rfl
def lnOK (z : Int32) : Prop := z = -1 ∨ (0 ≤ z ∧ z ≤ 2)
theorem mln_4 {z : Int32} (h : lnOK z) : mln z = -4 ↔ z = -1 := by
  unfold mln
  by_cases e : z = -1
  · rw [if_pos e]; exact ⟨fun _ => e, fun _ => rfl⟩
  · rw [if_neg e]
    refine ⟨fun h9 => ?_, fun h9 => absurd h9 e⟩
    rcases h with h | h
    · exact absurd h e
    · rw [h9] at h; exact absurd h.1 (by decide)
theorem shb8 {rr : Nat} (h : rr < 256) : ((rr * 16777216 : Nat) : Int).bmod 4294967296 / 16777216 = (rr : Int).bmod 256 := by
  rw [Int.bmod_def, Int.bmod_def]
  have e1 : ((rr * 16777216 : Nat) : Int) % ((4294967296 : Nat) : Int) = (rr : Int) * 16777216 := by omega
  have e2 : (rr : Int) % ((256 : Nat) : Int) = rr := by omega
  rw [e1, e2]
  have e3 : ((rr : Int) * 16777216) / 16777216 = rr := by omega
  have e4 : ((rr : Int) * 16777216 - ((4294967296 : Nat) : Int)) / 16777216 = (rr : Int) - ((256 : Nat) : Int) := by omega
  by_cases hc : rr < 128
  · rw [if_pos (by omega), if_pos (by omega), e3]
  · rw [if_neg (by omega), if_neg (by omega), e4]
theorem sx8 (x : Int32) : x <<< ((24 : Int32) &&& 31) >>> ((24 : Int32) &&& 31) = x.toInt8.toInt32 := by
  apply Int32.toInt_inj.mp
  rw [pk_shr (x <<< ((24 : Int32) &&& 31)) ((24 : Int32) &&& 31) 24 (by decide), Int8.toInt_toInt32, Int32.toInt_toInt8]
  have h3 : (x <<< ((24 : Int32) &&& 31)).toInt = ((x <<< ((24 : Int32) &&& 31)).toBitVec.toNat : Int).bmod 4294967296 := BitVec.toInt_eq_toNat_bmod _
  have h4 : x.toInt = (x.toBitVec.toNat : Int).bmod 4294967296 := BitVec.toInt_eq_toNat_bmod _
  rw [h3, h4, pk_shl x ((24 : Int32) &&& 31) 24 (by decide), show x.toBitVec.toNat * 2 ^ 24 % 2 ^ 32 = x.toBitVec.toNat % 256 * 16777216 from Nat.mul_mod_mul_right 16777216 x.toBitVec.toNat 256, Int.shiftRight_eq_div_pow]
  have h5 := shb8 (Nat.mod_lt x.toBitVec.toNat (show 0 < 256 by decide))
  refine Eq.trans h5 ?_
  rw [Int.bmod_bmod_of_dvd (by decide), Int.natCast_emod]
  exact Int.emod_bmod _ _
theorem shb16 {rr : Nat} (h : rr < 65536) : ((rr * 65536 : Nat) : Int).bmod 4294967296 / 65536 = (rr : Int).bmod 65536 := by
  rw [Int.bmod_def, Int.bmod_def]
  have e1 : ((rr * 65536 : Nat) : Int) % ((4294967296 : Nat) : Int) = (rr : Int) * 65536 := by omega
  have e2 : (rr : Int) % ((65536 : Nat) : Int) = rr := by omega
  rw [e1, e2]
  have e3 : ((rr : Int) * 65536) / 65536 = rr := by omega
  have e4 : ((rr : Int) * 65536 - ((4294967296 : Nat) : Int)) / 65536 = (rr : Int) - ((65536 : Nat) : Int) := by omega
  by_cases hc : rr < 32768
  · rw [if_pos (by omega), if_pos (by omega), e3]
  · rw [if_neg (by omega), if_neg (by omega), e4]
theorem sx16 (x : Int32) : x <<< ((16 : Int32) &&& 31) >>> ((16 : Int32) &&& 31) = x.toInt16.toInt32 := by
  apply Int32.toInt_inj.mp
  rw [pk_shr (x <<< ((16 : Int32) &&& 31)) ((16 : Int32) &&& 31) 16 (by decide), Int16.toInt_toInt32, Int32.toInt_toInt16]
  have h3 : (x <<< ((16 : Int32) &&& 31)).toInt = ((x <<< ((16 : Int32) &&& 31)).toBitVec.toNat : Int).bmod 4294967296 := BitVec.toInt_eq_toNat_bmod _
  have h4 : x.toInt = (x.toBitVec.toNat : Int).bmod 4294967296 := BitVec.toInt_eq_toNat_bmod _
  rw [h3, h4, pk_shl x ((16 : Int32) &&& 31) 16 (by decide), show x.toBitVec.toNat * 2 ^ 16 % 2 ^ 32 = x.toBitVec.toNat % 65536 * 65536 from Nat.mul_mod_mul_right 65536 x.toBitVec.toNat 65536, Int.shiftRight_eq_div_pow]
  have h5 := shb16 (Nat.mod_lt x.toBitVec.toNat (show 0 < 65536 by decide))
  refine Eq.trans h5 ?_
  rw [Int.bmod_bmod_of_dvd (by decide), Int.natCast_emod]
  exact Int.emod_bmod _ _
set_option maxRecDepth 100000 in
set_option maxHeartbeats 4000000 in
theorem mX7_layf (s : Nat → Int32) (la : Nat → Int32) (r : rT) (v : vT) (c : Nat → Nat → Int32) (l : Nat → Int32) (tn : Int32) (p : Nat → Int32) (pa : Nat → Nat → Int32) (m : Nat) (q : rT) (b : Int32) (x : Nat → Nat) (h : Nat → Nat → Int64) (k : Nat) (hk : k < 4) (i z : Int32) (hln : lnOK (l k)) (hf : ¬ fat (l k) (v 4 (2 + k)) i = 0) : J KX7_lay 21 (fun o B => o = some (.int (-10 - fat (l k) (v 4 (2 + k)) i)) ∧ B = (wM s la r v c l tn p pa m q b x h)) 0 [some (.ref 0), some (.int (nI k)), some (.int i), some (.int z)] [] (wM s la r v c l tn p pa m q b x h) 0 0 := by
  refine J.iload_n dX7_lay_0 rfl rfl ?_
  refine J.i2l dX7_lay_1 ?_
  refine J.lconst 0 dX7_lay_2 (by decide) ?_
  refine J.ldc2 (v := 3) dX7_lay_3 (jt 946 rfl rfl) ?_
  refine J.cs (as := [.long _, .long _, .long _]) (is := []) okX7_in jcX7_74 (mX7_inI (nI k) 0 3 (by decide) (by decide)) dX7_lay_6 rfl rfl rfl rfl rfl rfl (fun r9 B9 hq => ?_)
  obtain ⟨rfl, rfl⟩ := hq
  refine ⟨rfl, ?_⟩
  show J _ _ _ _ _ (.int _ :: _) (wM s la r v c l tn p pa m q b x h) _ _
  refine J.if_ne (tgt := 14) dX7_lay_9 (by decide) (fun c9 => ?_) (fun c9 => absurd c9 (fun h => (jB_0 _).mp h (jw (a := 0) (c := 3) (by decide) (Nat.zero_le _) (show k ≤ 3 by omega))))
  refine J.aload_n dX7_lay_14 rfl rfl ?_
  refine J.mg38 dX7_lay_15 rfl ?_
  refine J.iload_n dX7_lay_18 rfl rfl ?_
  refine J.ml18 (k) dX7_lay_19 rfl hk ?_
  refine J.bipush (-4) dX7_lay_20 (by decide) ?_
  refine J.icmp_ne (tgt := 28) dX7_lay_22 (by decide) (fun c22 => ?_) (fun c22 => ?_)
  · refine J.iload_n dX7_lay_28 rfl rfl ?_
    refine J.i2l dX7_lay_29 ?_
    refine J.lconst 0 dX7_lay_30 (by decide) ?_
    refine J.aload_n dX7_lay_31 rfl rfl ?_
    refine J.mg39 dX7_lay_32 rfl ?_
    refine J.iload_n dX7_lay_35 rfl rfl ?_
    refine J.ml19 (k) dX7_lay_36 rfl hk ?_
    refine J.iconst (1) dX7_lay_37 (by decide) ?_
    refine J.isub dX7_lay_38 ?_
    refine J.i2l dX7_lay_39 ?_
    refine J.cs (as := [.long _, .long _, .long _]) (is := []) okX7_in jcX7_74 (mX7_inI i 0 (nI (v 4 (2 + k)) - 1) (by decide) rfl) dX7_lay_40 rfl rfl rfl rfl rfl rfl (fun r9 B9 hq => ?_)
    obtain ⟨rfl, rfl⟩ := hq
    refine ⟨rfl, ?_⟩
    show J _ _ _ _ _ (.int _ :: _) (wM s la r v c l tn p pa m q b x h) _ _
    refine J.if_ne (tgt := 49) dX7_lay_43 (by decide) (fun c43 => absurd c43 (fun h => h ((jB_0 _).mpr (fun h9 => hf (by rw [fat, if_neg (fun e => c22 ((mln_4 hln).mpr e)), if_pos h9]))))) (fun c43 => ?_)
    refine J.bipush (-12) dX7_lay_46 (by decide) ?_
    exact J.iret dX7_lay_48 rfl rfl (Nat.le_refl _) (Nat.le_refl _) ⟨congrArg (fun z => some (Value.int z)) (by rw [fat, if_neg (fun e => c22 ((mln_4 hln).mpr e)), if_neg ((jB_0 _).mp c43)] <;> rfl), rfl⟩
  · refine J.bipush (-11) dX7_lay_25 (by decide) ?_
    exact J.iret dX7_lay_27 rfl rfl (Nat.le_refl _) (Nat.le_refl _) ⟨congrArg (fun z => some (Value.int z)) (by rw [fat, if_pos ((mln_4 hln).mp c22)] <;> rfl), rfl⟩
set_option maxRecDepth 100000 in
set_option maxHeartbeats 4000000 in
theorem mX7_lay (s : Nat → Int32) (la : Nat → Int32) (r : rT) (v : vT) (c : Nat → Nat → Int32) (l : Nat → Int32) (tn : Int32) (p : Nat → Int32) (pa : Nat → Nat → Int32) (m : Nat) (q : rT) (b : Int32) (x : Nat → Nat) (h : Nat → Nat → Int64) (k : Nat) (hk : k < 4) (j : Nat) (z : Int32) (hln : lnOK (l k)) (hf : fat (l k) (v 4 (2 + k)) (nI j) = 0) (hj : j < v 4 (2 + k)) (hl : v 4 (2 + k) ≤ 40) : J KX7_lay 21 (fun o B => o = some (.int (1)) ∧ B = (wM s la r v (cset c k (upd (c k) j (cnv (l k) z))) l tn p pa m q b x h)) 0 [some (.ref 0), some (.int (nI k)), some (.int (nI j)), some (.int z)] [] (wM s la r v c l tn p pa m q b x h) 0 0 := by
  have hn : ¬ l k = -1 := by
    intro e
    rw [fat, if_pos e] at hf
    exact absurd hf (by decide)
  have e9 : mln (l k) = l k := if_neg hn
  refine J.iload_n dX7_lay_0 rfl rfl ?_
  refine J.i2l dX7_lay_1 ?_
  refine J.lconst 0 dX7_lay_2 (by decide) ?_
  refine J.ldc2 (v := 3) dX7_lay_3 (jt 946 rfl rfl) ?_
  refine J.cs (as := [.long _, .long _, .long _]) (is := []) okX7_in jcX7_74 (mX7_inI (nI k) 0 3 (by decide) (by decide)) dX7_lay_6 rfl rfl rfl rfl rfl rfl (fun r9 B9 hq => ?_)
  obtain ⟨rfl, rfl⟩ := hq
  refine ⟨rfl, ?_⟩
  show J _ _ _ _ _ (.int _ :: _) (wM s la r v c l tn p pa m q b x h) _ _
  refine J.if_ne (tgt := 14) dX7_lay_9 (by decide) (fun c9 => ?_) (fun c9 => absurd c9 (fun h => (jB_0 _).mp h (jw (a := 0) (c := 3) (by decide) (Nat.zero_le _) (show k ≤ 3 by omega))))
  refine J.aload_n dX7_lay_14 rfl rfl ?_
  refine J.mg38 dX7_lay_15 rfl ?_
  refine J.iload_n dX7_lay_18 rfl rfl ?_
  refine J.ml18 (k) dX7_lay_19 rfl hk ?_
  refine J.bipush (-4) dX7_lay_20 (by decide) ?_
  refine J.icmp_ne (tgt := 28) dX7_lay_22 (by decide) (fun c22 => ?_) (fun c22 => absurd c22 (fun e => hn ((mln_4 hln).mp e)))
  refine J.iload_n dX7_lay_28 rfl rfl ?_
  refine J.i2l dX7_lay_29 ?_
  refine J.lconst 0 dX7_lay_30 (by decide) ?_
  refine J.aload_n dX7_lay_31 rfl rfl ?_
  refine J.mg39 dX7_lay_32 rfl ?_
  refine J.iload_n dX7_lay_35 rfl rfl ?_
  refine J.ml19 (k) dX7_lay_36 rfl hk ?_
  refine J.iconst (1) dX7_lay_37 (by decide) ?_
  refine J.isub dX7_lay_38 ?_
  refine J.i2l dX7_lay_39 ?_
  refine J.cs (as := [.long _, .long _, .long _]) (is := []) okX7_in jcX7_74 (mX7_inI (nI j) 0 (nI (v 4 (2 + k)) - 1) (by decide) rfl) dX7_lay_40 rfl rfl rfl rfl rfl rfl (fun r9 B9 hq => ?_)
  obtain ⟨rfl, rfl⟩ := hq
  refine ⟨rfl, ?_⟩
  show J _ _ _ _ _ (.int _ :: _) (wM s la r v c l tn p pa m q b x h) _ _
  refine J.if_ne (tgt := 49) dX7_lay_43 (by decide) (fun c43 => ?_) (fun c43 => absurd c43 (fun h => (jB_0 _).mp h (jin_ge (by omega) hj)))
  refine J.aload_n dX7_lay_49 rfl rfl ?_
  refine J.mg40 dX7_lay_50 rfl ?_
  refine J.bipush (40) dX7_lay_53 (by decide) ?_
  refine J.iload_n dX7_lay_55 rfl rfl ?_
  refine J.imul dX7_lay_56 ?_
  refine J.iload_n dX7_lay_57 rfl rfl ?_
  refine J.iadd dX7_lay_58 ?_
  refine J.aload_n dX7_lay_59 rfl rfl ?_
  refine J.mg38 dX7_lay_60 rfl ?_
  refine J.iload_n dX7_lay_63 rfl rfl ?_
  refine J.ml18 (k) dX7_lay_64 rfl hk ?_
  refine J.if_ne (tgt := 78) dX7_lay_65 (by decide) (fun c65 => ?_) (fun c65 => ?_)
  · refine J.aload_n dX7_lay_78 rfl rfl ?_
    refine J.mg38 dX7_lay_79 rfl ?_
    refine J.iload_n dX7_lay_82 rfl rfl ?_
    refine J.ml18 (k) dX7_lay_83 rfl hk ?_
    refine J.iconst (1) dX7_lay_84 (by decide) ?_
    refine J.icmp_ne (tgt := 98) dX7_lay_85 (by decide) (fun c85 => ?_) (fun c85 => ?_)
    · refine J.iload_n dX7_lay_98 rfl rfl ?_
      first
      | (refine J.at (J.ms20 (z := cnv (l k) z) k j dX7_lay_99 (ix 40 k j) hk (by omega) ?_) rfl (by rw [show cnv (l k) z = z.toInt8.toInt32 from if_pos (show l k = 0 from e9 ▸ c65), sx8] <;> rfl) rfl)
      | (refine J.at (J.ms20 (z := cnv (l k) z) k j dX7_lay_99 (ix 40 k j) hk (by omega) ?_) rfl (by rw [show cnv (l k) z = z.toInt16.toInt32 from (if_neg (show ¬ l k = 0 from e9 ▸ c65)).trans (if_pos (show l k = 1 from e9 ▸ c85)), sx16] <;> rfl) rfl)
      | (refine J.at (J.ms20 (z := cnv (l k) z) k j dX7_lay_99 (ix 40 k j) hk (by omega) ?_) rfl (by rw [show cnv (l k) z = z from (if_neg (show ¬ l k = 0 from e9 ▸ c65)).trans (if_neg (show ¬ l k = 1 from e9 ▸ c85))] <;> rfl) rfl)
      try dsimp only [List.set]
      refine J.iconst (1) dX7_lay_100 (by decide) ?_
      exact J.iret dX7_lay_101 rfl rfl (Nat.le_refl _) (Nat.le_refl _) ⟨rfl, rfl⟩
    · refine J.iload_n dX7_lay_88 rfl rfl ?_
      refine J.bipush (16) dX7_lay_89 (by decide) ?_
      refine J.ishl dX7_lay_91 ?_
      refine J.bipush (16) dX7_lay_92 (by decide) ?_
      refine J.ishr dX7_lay_94 ?_
      refine J.goto (tgt := 99) dX7_lay_95 (by decide) ?_
      first
      | (refine J.at (J.ms20 (z := cnv (l k) z) k j dX7_lay_99 (ix 40 k j) hk (by omega) ?_) rfl (by rw [show cnv (l k) z = z.toInt8.toInt32 from if_pos (show l k = 0 from e9 ▸ c65), sx8] <;> rfl) rfl)
      | (refine J.at (J.ms20 (z := cnv (l k) z) k j dX7_lay_99 (ix 40 k j) hk (by omega) ?_) rfl (by rw [show cnv (l k) z = z.toInt16.toInt32 from (if_neg (show ¬ l k = 0 from e9 ▸ c65)).trans (if_pos (show l k = 1 from e9 ▸ c85)), sx16] <;> rfl) rfl)
      | (refine J.at (J.ms20 (z := cnv (l k) z) k j dX7_lay_99 (ix 40 k j) hk (by omega) ?_) rfl (by rw [show cnv (l k) z = z from (if_neg (show ¬ l k = 0 from e9 ▸ c65)).trans (if_neg (show ¬ l k = 1 from e9 ▸ c85))] <;> rfl) rfl)
      try dsimp only [List.set]
      refine J.iconst (1) dX7_lay_100 (by decide) ?_
      exact J.iret dX7_lay_101 rfl rfl (Nat.le_refl _) (Nat.le_refl _) ⟨rfl, rfl⟩
  · refine J.iload_n dX7_lay_68 rfl rfl ?_
    refine J.bipush (24) dX7_lay_69 (by decide) ?_
    refine J.ishl dX7_lay_71 ?_
    refine J.bipush (24) dX7_lay_72 (by decide) ?_
    refine J.ishr dX7_lay_74 ?_
    refine J.goto (tgt := 99) dX7_lay_75 (by decide) ?_
    first
    | (refine J.at (J.ms20 (z := cnv (l k) z) k j dX7_lay_99 (ix 40 k j) hk (by omega) ?_) rfl (by rw [show cnv (l k) z = z.toInt8.toInt32 from if_pos (show l k = 0 from e9 ▸ c65), sx8] <;> rfl) rfl)
    | (refine J.at (J.ms20 (z := cnv (l k) z) k j dX7_lay_99 (ix 40 k j) hk (by omega) ?_) rfl (by rw [show cnv (l k) z = z.toInt16.toInt32 from (if_neg (show ¬ l k = 0 from e9 ▸ c65)).trans (if_pos (show l k = 1 from e9 ▸ c85)), sx16] <;> rfl) rfl)
    | (refine J.at (J.ms20 (z := cnv (l k) z) k j dX7_lay_99 (ix 40 k j) hk (by omega) ?_) rfl (by rw [show cnv (l k) z = z from (if_neg (show ¬ l k = 0 from e9 ▸ c65)).trans (if_neg (show ¬ l k = 1 from e9 ▸ c85))] <;> rfl) rfl)
    try dsimp only [List.set]
    refine J.iconst (1) dX7_lay_100 (by decide) ?_
    exact J.iret dX7_lay_101 rfl rfl (Nat.le_refl _) (Nat.le_refl _) ⟨rfl, rfl⟩
set_option maxRecDepth 100000 in
set_option maxHeartbeats 4000000 in
theorem mX7_lay_bad (s : Nat → Int32) (la : Nat → Int32) (r : rT) (v : vT) (c : Nat → Nat → Int32) (l : Nat → Int32) (tn : Int32) (p : Nat → Int32) (pa : Nat → Nat → Int32) (m : Nat) (q : rT) (b : Int32) (x : Nat → Nat) (h : Nat → Nat → Int64) (k i z : Int32) (hb : ¬ (0 ≤ k ∧ k ≤ 3)) : J KX7_lay 21 (fun o B => o = some (.int (-1)) ∧ B = (wM s la r v c l tn p pa m q b x h)) 0 [some (.ref 0), some (.int k), some (.int i), some (.int z)] [] (wM s la r v c l tn p pa m q b x h) 0 0 := by
  refine J.iload_n dX7_lay_0 rfl rfl ?_
  refine J.i2l dX7_lay_1 ?_
  refine J.lconst 0 dX7_lay_2 (by decide) ?_
  refine J.ldc2 (v := 3) dX7_lay_3 (jt 946 rfl rfl) ?_
  refine J.cs (as := [.long _, .long _, .long _]) (is := []) okX7_in jcX7_74 (mX7_inI k 0 3 (by decide) (by decide)) dX7_lay_6 rfl rfl rfl rfl rfl rfl (fun r9 B9 hq => ?_)
  obtain ⟨rfl, rfl⟩ := hq
  refine ⟨rfl, ?_⟩
  show J _ _ _ _ _ (.int _ :: _) (wM s la r v c l tn p pa m q b x h) _ _
  refine J.if_ne (tgt := 14) dX7_lay_9 (by decide) (fun c9 => absurd c9 (fun h => h ((jB_0 _).mpr hb))) (fun c9 => ?_)
  refine J.iconst (-1) dX7_lay_12 (by decide) ?_
  exact J.iret dX7_lay_13 rfl rfl (Nat.le_refl _) (Nat.le_refl _) ⟨rfl, rfl⟩
theorem kept1' {n : Nat} (h : n ≤ 1) (h0 : ¬ nI n = 0) : nI n = 1 := kept1 h h0
set_option maxRecDepth 100000 in
set_option maxHeartbeats 4000000 in
theorem mX7_count_l (s : Nat → Int32) (la : Nat → Int32) (r : rT) (v : vT) (c : Nat → Nat → Int32) (l : Nat → Int32) (tn : Int32) (p : Nat → Int32) (pa : Nat → Nat → Int32) (m : Nat) (q : rT) (b : Int32) (x : Nat → Nat) (h : Nat → Nat → Int64) (z : Int32) (hS : mS s r) (hr : rOK r) (h0 : v 0 0 ≤ 1) (h1 : v 0 1 ≤ 1) (hln : lnOK (l 0)) : ∀ (k9 i : Nat), i + k9 = r 6 0 → J KX7_count 21 (fun o B => o = some (.int (countA v r l z)) ∧ B = (wM s la r v c l tn p pa m q b x h)) 4 [some (.ref 0), some (.int z), some (.int (nI (rages r i))), some (.int (nI i))] [] (wM s la r v c l tn p pa m q b x h) 0 0 := by
  intro k9
  induction k9 with
  | zero =>
    intro i hi
    obtain hiN : i = r 6 0 := by omega
    rw [hiN]
    clear hiN hi i
    refine J.iload_n dX7_count_4 rfl rfl ?_
    refine J.aload_n dX7_count_5 rfl rfl ?_
    refine J.mg1 dX7_count_6 rfl ?_
    refine J.icmp_ge (tgt := 31) dX7_count_9 (by decide) (fun c9 => ?_) (fun c9 => absurd c9 (fun h => h (Int32.le_refl _)))
    refine J.iload_n dX7_count_31 rfl rfl ?_
    by_cases sw0 : z = 0
    · subst sw0
      refine J.tableIn (off := 40) (tgt := 72) dX7_count_32 (by decide) (by decide) (by decide) (by decide) ?_
      refine J.aload_n dX7_count_72 rfl rfl ?_
      refine J.mg36 dX7_count_73 rfl ?_
      exact J.iret dX7_count_76 rfl rfl (Nat.le_refl _) (Nat.le_refl _) ⟨rfl, rfl⟩
    by_cases sw1 : z = 1
    · subst sw1
      refine J.tableIn (off := 45) (tgt := 77) dX7_count_32 (by decide) (by decide) (by decide) (by decide) ?_
      refine J.aload_n dX7_count_77 rfl rfl ?_
      refine J.mg37 dX7_count_78 rfl ?_
      refine J.iconst (0) dX7_count_81 (by decide) ?_
      refine J.ml17 (0) dX7_count_82 rfl (by decide) ?_
      refine J.if_eq (tgt := 90) dX7_count_83 (by decide) (fun c83 => ?_) (fun c83 => ?_)
      · refine J.iconst (0) dX7_count_90 (by decide) ?_
        refine J.aload_n dX7_count_91 rfl rfl ?_
        refine J.mg37 dX7_count_92 rfl ?_
        refine J.iconst (1) dX7_count_95 (by decide) ?_
        refine J.ml17 (1) dX7_count_96 rfl (by decide) ?_
        refine J.if_eq (tgt := 104) dX7_count_97 (by decide) (fun c97 => ?_) (fun c97 => ?_)
        · refine J.iconst (0) dX7_count_104 (by decide) ?_
          refine J.iadd dX7_count_105 ?_
          refine J.iret dX7_count_106 rfl rfl (Nat.le_refl _) (Nat.le_refl _) ⟨congrArg (fun z => some (Value.int z)) (show _ = nI (v 0 0) + nI (v 0 1) from ?_), rfl⟩
          first | rw [(show nI (v 0 0) = 0 from c83), (show nI (v 0 1) = 0 from c97)] | rw [(show nI (v 0 0) = 0 from c83), kept1 h1 c97] | rw [kept1 h0 c83, (show nI (v 0 1) = 0 from c97)] | rw [kept1 h0 c83, kept1 h1 c97]
        · refine J.iconst (1) dX7_count_100 (by decide) ?_
          refine J.goto (tgt := 105) dX7_count_101 (by decide) ?_
          refine J.iadd dX7_count_105 ?_
          refine J.iret dX7_count_106 rfl rfl (Nat.le_refl _) (Nat.le_refl _) ⟨congrArg (fun z => some (Value.int z)) (show _ = nI (v 0 0) + nI (v 0 1) from ?_), rfl⟩
          first | rw [(show nI (v 0 0) = 0 from c83), (show nI (v 0 1) = 0 from c97)] | rw [(show nI (v 0 0) = 0 from c83), kept1 h1 c97] | rw [kept1 h0 c83, (show nI (v 0 1) = 0 from c97)] | rw [kept1 h0 c83, kept1 h1 c97]
      · refine J.iconst (1) dX7_count_86 (by decide) ?_
        refine J.goto (tgt := 91) dX7_count_87 (by decide) ?_
        refine J.aload_n dX7_count_91 rfl rfl ?_
        refine J.mg37 dX7_count_92 rfl ?_
        refine J.iconst (1) dX7_count_95 (by decide) ?_
        refine J.ml17 (1) dX7_count_96 rfl (by decide) ?_
        refine J.if_eq (tgt := 104) dX7_count_97 (by decide) (fun c97 => ?_) (fun c97 => ?_)
        · refine J.iconst (0) dX7_count_104 (by decide) ?_
          refine J.iadd dX7_count_105 ?_
          refine J.iret dX7_count_106 rfl rfl (Nat.le_refl _) (Nat.le_refl _) ⟨congrArg (fun z => some (Value.int z)) (show _ = nI (v 0 0) + nI (v 0 1) from ?_), rfl⟩
          first | rw [(show nI (v 0 0) = 0 from c83), (show nI (v 0 1) = 0 from c97)] | rw [(show nI (v 0 0) = 0 from c83), kept1 h1 c97] | rw [kept1 h0 c83, (show nI (v 0 1) = 0 from c97)] | rw [kept1 h0 c83, kept1 h1 c97]
        · refine J.iconst (1) dX7_count_100 (by decide) ?_
          refine J.goto (tgt := 105) dX7_count_101 (by decide) ?_
          refine J.iadd dX7_count_105 ?_
          refine J.iret dX7_count_106 rfl rfl (Nat.le_refl _) (Nat.le_refl _) ⟨congrArg (fun z => some (Value.int z)) (show _ = nI (v 0 0) + nI (v 0 1) from ?_), rfl⟩
          first | rw [(show nI (v 0 0) = 0 from c83), (show nI (v 0 1) = 0 from c97)] | rw [(show nI (v 0 0) = 0 from c83), kept1 h1 c97] | rw [kept1 h0 c83, (show nI (v 0 1) = 0 from c97)] | rw [kept1 h0 c83, kept1 h1 c97]
    by_cases sw2 : z = 2
    · subst sw2
      refine J.tableIn (off := 75) (tgt := 107) dX7_count_32 (by decide) (by decide) (by decide) (by decide) ?_
      refine J.aload_n dX7_count_107 rfl rfl ?_
      refine J.mg13 dX7_count_108 rfl ?_
      exact J.iret dX7_count_111 rfl rfl (Nat.le_refl _) (Nat.le_refl _) ⟨rfl, rfl⟩
    by_cases sw3 : z = 3
    · subst sw3
      refine J.tableIn (off := 80) (tgt := 112) dX7_count_32 (by decide) (by decide) (by decide) (by decide) ?_
      refine J.aload_n dX7_count_112 rfl rfl ?_
      refine J.mg38 dX7_count_113 rfl ?_
      refine J.iconst (0) dX7_count_116 (by decide) ?_
      refine J.ml18 (0) dX7_count_117 rfl (by decide) ?_
      refine J.bipush (-4) dX7_count_118 (by decide) ?_
      refine J.icmp_ne (tgt := 128) dX7_count_120 (by decide) (fun c120 => ?_) (fun c120 => ?_)
      · refine J.aload_n dX7_count_128 rfl rfl ?_
        refine J.mg39 dX7_count_129 rfl ?_
        refine J.iconst (0) dX7_count_132 (by decide) ?_
        refine J.ml19 (0) dX7_count_133 rfl (by decide) ?_
        first | exact J.iret dX7_count_134 rfl rfl (Nat.le_refl _) (Nat.le_refl _) ⟨congrArg (fun z => some (Value.int z)) (if_pos ((mln_4 hln).mp c120)).symm, rfl⟩ | exact J.iret dX7_count_134 rfl rfl (Nat.le_refl _) (Nat.le_refl _) ⟨congrArg (fun z => some (Value.int z)) (if_neg (fun e => c120 ((mln_4 hln).mpr e))).symm, rfl⟩
      · refine J.bipush (-4) dX7_count_123 (by decide) ?_
        refine J.goto (tgt := 134) dX7_count_125 (by decide) ?_
        first | exact J.iret dX7_count_134 rfl rfl (Nat.le_refl _) (Nat.le_refl _) ⟨congrArg (fun z => some (Value.int z)) (if_pos ((mln_4 hln).mp c120)).symm, rfl⟩ | exact J.iret dX7_count_134 rfl rfl (Nat.le_refl _) (Nat.le_refl _) ⟨congrArg (fun z => some (Value.int z)) (if_neg (fun e => c120 ((mln_4 hln).mpr e))).symm, rfl⟩
    by_cases sw4 : z = 4
    · subst sw4
      refine J.tableIn (off := 103) (tgt := 135) dX7_count_32 (by decide) (by decide) (by decide) (by decide) ?_
      refine J.aload_n dX7_count_135 rfl rfl ?_
      refine J.cvM (as := []) s la r v c l tn p pa m q b x h okX7_wholeNow jcX7_177 (mX7_wholeNow s la r v c l tn p pa m q b x h hS hr) dX7_count_136 rfl rfl rfl rfl (fun r9 B9 hq9 => ?_)
      obtain ⟨rfl, rfl⟩ := hq9
      refine ⟨_, _, _, _, _, _, _, _, _, _, _, _, _, _, rfl, ?_⟩
      show J _ _ _ _ _ (.int _ :: _) (wM s la r v c l tn p pa m q b x h) _ _
      refine J.cs (as := [.int _]) (is := []) okX7_bitsOf jcX7_189 (mX7_bitsOf (r 6 3) hr.w) dX7_count_139 rfl rfl rfl rfl rfl rfl (fun r9 B9 hq => ?_)
      obtain ⟨rfl, rfl⟩ := hq
      refine ⟨rfl, ?_⟩
      show J _ _ _ _ _ (.int _ :: _) (wM s la r v c l tn p pa m q b x h) _ _
      exact J.iret dX7_count_142 rfl rfl (Nat.le_refl _) (Nat.le_refl _) ⟨rfl, rfl⟩
    by_cases sw5 : z = 5
    · subst sw5
      refine J.tableIn (off := 111) (tgt := 143) dX7_count_32 (by decide) (by decide) (by decide) (by decide) ?_
      refine J.iload_n dX7_count_143 rfl rfl ?_
      exact J.iret dX7_count_144 rfl rfl (Nat.le_refl _) (Nat.le_refl _) ⟨rfl, rfl⟩
    refine J.tableOut (tgt := 145) dX7_count_32 (by have t0 := lv_neT sw0 (show (0 : Int32).toInt = 0 from rfl); have t1 := lv_neT sw1 (show (1 : Int32).toInt = 1 from rfl); have t2 := lv_neT sw2 (show (2 : Int32).toInt = 2 from rfl); have t3 := lv_neT sw3 (show (3 : Int32).toInt = 3 from rfl); have t4 := lv_neT sw4 (show (4 : Int32).toInt = 4 from rfl); have t5 := lv_neT sw5 (show (5 : Int32).toInt = 5 from rfl); omega) (by decide) ?_
    refine J.iconst (-1) dX7_count_145 (by decide) ?_
    exact J.iret dX7_count_146 rfl rfl (Nat.le_refl _) (Nat.le_refl _) ⟨congrArg (fun x => some (Value.int x)) (by rw [countA, if_neg sw0, if_neg sw1, if_neg sw2, if_neg sw3, if_neg sw4, if_neg sw5]), rfl⟩
  | succ k9 ih =>
    intro i hi
    have hiN : i < r 6 0 := by omega
    refine J.iload_n dX7_count_4 rfl rfl ?_
    refine J.aload_n dX7_count_5 rfl rfl ?_
    refine J.mg1 dX7_count_6 rfl ?_
    refine J.icmp_ge (tgt := 31) dX7_count_9 (by decide) (fun c9 => absurd c9 (nI_ge (by omega) (by have := hr.1; omega))) (fun c9 => ?_)
    refine J.iload_n dX7_count_12 rfl rfl ?_
    refine J.aload_n dX7_count_13 rfl rfl ?_
    refine J.mg0 dX7_count_14 rfl ?_
    refine J.iconst (3) dX7_count_17 (by decide) ?_
    refine J.iload_n dX7_count_18 rfl rfl ?_
    refine J.imul dX7_count_19 ?_
    refine J.iconst (1) dX7_count_20 (by decide) ?_
    refine J.iadd dX7_count_21 ?_
    refine J.ml1 (3 * i + 1) dX7_count_22 (ix 3 i 1) (by have := hr.1; omega) ?_
    rw [(hS.1 i hiN).2.1]
    refine J.iadd dX7_count_23 ?_
    rw [nI_add]
    refine J.istore_n dX7_count_24 rfl (by decide) rfl ?_
    try dsimp only [List.set]
    refine J.iinc (1) dX7_count_25 (by decide) rfl (by decide) rfl ?_
    try dsimp only [List.set]
    refine J.goto (tgt := 4) dX7_count_28 (by decide) ?_
    exact J.at (ih (i + 1) (by omega)) (by rw [← nI_1 i] <;> rfl) rfl rfl
set_option maxRecDepth 100000 in
set_option maxHeartbeats 4000000 in
theorem mX7_count (s : Nat → Int32) (la : Nat → Int32) (r : rT) (v : vT) (c : Nat → Nat → Int32) (l : Nat → Int32) (tn : Int32) (p : Nat → Int32) (pa : Nat → Nat → Int32) (m : Nat) (q : rT) (b : Int32) (x : Nat → Nat) (h : Nat → Nat → Int64) (z : Int32) (hS : mS s r) (hr : rOK r) (h0 : v 0 0 ≤ 1) (h1 : v 0 1 ≤ 1) (hln : lnOK (l 0)) : J KX7_count 21 (fun o B => o = some (.int (countA v r l z)) ∧ B = (wM s la r v c l tn p pa m q b x h)) 0 [some (.ref 0), some (.int z), none, none] [] (wM s la r v c l tn p pa m q b x h) 0 0 := by
  refine J.iconst (0) dX7_count_0 (by decide) ?_
  refine J.istore_n dX7_count_1 rfl (by decide) rfl ?_
  try dsimp only [List.set]
  refine J.iconst (0) dX7_count_2 (by decide) ?_
  refine J.istore_n dX7_count_3 rfl (by decide) rfl ?_
  try dsimp only [List.set]
  exact J.at (mX7_count_l s la r v c l tn p pa m q b x h z hS hr h0 h1 hln (r 6 0) 0 (by omega)) rfl rfl rfl
