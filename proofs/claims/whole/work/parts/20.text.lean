theorem dJ0_coder_7d493_0 : decode cJ0_coder_7d493 0 = .ok (.getstatic 38, 3) := by decide +kernel
theorem dJ0_coder_7d493_3 : decode cJ0_coder_7d493 3 = .ok (.ifCond .eq 10, 3) := by decide +kernel
theorem dJ0_coder_7d493_6 : decode cJ0_coder_7d493 6 = .ok (.aload_n 0, 1) := by decide +kernel
theorem dJ0_coder_7d493_7 : decode cJ0_coder_7d493 7 = .ok (.getfield 15, 3) := by decide +kernel
theorem dJ0_coder_7d493_10 : decode cJ0_coder_7d493 10 = .ok (.goto 4, 3) := by decide +kernel
theorem dJ0_coder_7d493_13 : decode cJ0_coder_7d493 13 = .ok (.iconst 1, 1) := by decide +kernel
theorem dJ0_coder_7d493_14 : decode cJ0_coder_7d493 14 = .ok (.ireturn, 1) := by decide +kernel
theorem dJ0_isLatin1_aae02_0 : decode cJ0_isLatin1_aae02 0 = .ok (.getstatic 38, 3) := by decide +kernel
theorem dJ0_isLatin1_aae02_3 : decode cJ0_isLatin1_aae02 3 = .ok (.ifCond .eq 14, 3) := by decide +kernel
theorem dJ0_isLatin1_aae02_6 : decode cJ0_isLatin1_aae02 6 = .ok (.aload_n 0, 1) := by decide +kernel
theorem dJ0_isLatin1_aae02_7 : decode cJ0_isLatin1_aae02 7 = .ok (.getfield 15, 3) := by decide +kernel
theorem dJ0_isLatin1_aae02_10 : decode cJ0_isLatin1_aae02 10 = .ok (.ifCond .ne 7, 3) := by decide +kernel
theorem dJ0_isLatin1_aae02_13 : decode cJ0_isLatin1_aae02 13 = .ok (.iconst 1, 1) := by decide +kernel
theorem dJ0_isLatin1_aae02_14 : decode cJ0_isLatin1_aae02 14 = .ok (.goto 4, 3) := by decide +kernel
theorem dJ0_isLatin1_aae02_17 : decode cJ0_isLatin1_aae02 17 = .ok (.iconst 0, 1) := by decide +kernel
theorem dJ0_isLatin1_aae02_18 : decode cJ0_isLatin1_aae02 18 = .ok (.ireturn, 1) := by decide +kernel
theorem dJ0_length_8abf5_0 : decode cJ0_length_8abf5 0 = .ok (.aload_n 0, 1) := by decide +kernel
theorem dJ0_length_8abf5_1 : decode cJ0_length_8abf5 1 = .ok (.getfield 9, 3) := by decide +kernel
theorem dJ0_length_8abf5_4 : decode cJ0_length_8abf5 4 = .ok (.arraylength, 1) := by decide +kernel
theorem dJ0_length_8abf5_5 : decode cJ0_length_8abf5 5 = .ok (.aload_n 0, 1) := by decide +kernel
theorem dJ0_length_8abf5_6 : decode cJ0_length_8abf5 6 = .ok (.invokevirtual 335, 3) := by decide +kernel
theorem dJ0_length_8abf5_9 : decode cJ0_length_8abf5 9 = .ok (.ishr, 1) := by decide +kernel
theorem dJ0_length_8abf5_10 : decode cJ0_length_8abf5 10 = .ok (.ireturn, 1) := by decide +kernel
theorem dJ3_checkIndex_8e157_0 : decode cJ3_checkIndex_8e157 0 = .ok (.iload_n 0, 1) := by decide +kernel
theorem dJ3_checkIndex_8e157_1 : decode cJ3_checkIndex_8e157 1 = .ok (.ifCond .lt 8, 3) := by decide +kernel
theorem dJ3_checkIndex_8e157_4 : decode cJ3_checkIndex_8e157 4 = .ok (.iload_n 0, 1) := by decide +kernel
theorem dJ3_checkIndex_8e157_5 : decode cJ3_checkIndex_8e157 5 = .ok (.iload_n 1, 1) := by decide +kernel
theorem dJ3_checkIndex_8e157_6 : decode cJ3_checkIndex_8e157 6 = .ok (.if_icmp .lt 10, 3) := by decide +kernel
theorem dJ3_checkIndex_8e157_9 : decode cJ3_checkIndex_8e157 9 = .ok (.aload_n 2, 1) := by decide +kernel
theorem dJ3_checkIndex_8e157_10 : decode cJ3_checkIndex_8e157 10 = .ok (.iload_n 0, 1) := by decide +kernel
theorem dJ3_checkIndex_8e157_11 : decode cJ3_checkIndex_8e157 11 = .ok (.iload_n 1, 1) := by decide +kernel
theorem dJ3_checkIndex_8e157_12 : decode cJ3_checkIndex_8e157 12 = .ok (.invokestatic 95, 3) := by decide +kernel
theorem dJ3_checkIndex_8e157_15 : decode cJ3_checkIndex_8e157 15 = .ok (.athrow, 1) := by decide +kernel
theorem dJ3_checkIndex_8e157_16 : decode cJ3_checkIndex_8e157 16 = .ok (.iload_n 0, 1) := by decide +kernel
theorem dJ3_checkIndex_8e157_17 : decode cJ3_checkIndex_8e157 17 = .ok (.ireturn, 1) := by decide +kernel
theorem dJ0_checkIndex_df160_0 : decode cJ0_checkIndex_df160 0 = .ok (.iload_n 0, 1) := by decide +kernel
theorem dJ0_checkIndex_df160_1 : decode cJ0_checkIndex_df160 1 = .ok (.iload_n 1, 1) := by decide +kernel
theorem dJ0_checkIndex_df160_2 : decode cJ0_checkIndex_df160 2 = .ok (.getstatic 1053, 3) := by decide +kernel
theorem dJ0_checkIndex_df160_5 : decode cJ0_checkIndex_df160 5 = .ok (.invokestatic 1059, 3) := by decide +kernel
theorem dJ0_checkIndex_df160_8 : decode cJ0_checkIndex_df160 8 = .ok (.pop, 1) := by decide +kernel
theorem dJ0_checkIndex_df160_9 : decode cJ0_checkIndex_df160 9 = .ok (.return_, 1) := by decide +kernel
theorem dJ1_charAt_3b067_0 : decode cJ1_charAt_3b067 0 = .ok (.iload_n 1, 1) := by decide +kernel
theorem dJ1_charAt_3b067_1 : decode cJ1_charAt_3b067 1 = .ok (.aload_n 0, 1) := by decide +kernel
theorem dJ1_charAt_3b067_2 : decode cJ1_charAt_3b067 2 = .ok (.arraylength, 1) := by decide +kernel
theorem dJ1_charAt_3b067_3 : decode cJ1_charAt_3b067 3 = .ok (.invokestatic 9, 3) := by decide +kernel
theorem dJ1_charAt_3b067_6 : decode cJ1_charAt_3b067 6 = .ok (.aload_n 0, 1) := by decide +kernel
theorem dJ1_charAt_3b067_7 : decode cJ1_charAt_3b067 7 = .ok (.iload_n 1, 1) := by decide +kernel
theorem dJ1_charAt_3b067_8 : decode cJ1_charAt_3b067 8 = .ok (.baload, 1) := by decide +kernel
theorem dJ1_charAt_3b067_9 : decode cJ1_charAt_3b067 9 = .ok (.sipush 255, 3) := by decide +kernel
theorem dJ1_charAt_3b067_12 : decode cJ1_charAt_3b067 12 = .ok (.iand, 1) := by decide +kernel
theorem dJ1_charAt_3b067_13 : decode cJ1_charAt_3b067 13 = .ok (.i2c, 1) := by decide +kernel
theorem dJ1_charAt_3b067_14 : decode cJ1_charAt_3b067 14 = .ok (.ireturn, 1) := by decide +kernel
theorem dJ0_charAt_5068e_0 : decode cJ0_charAt_5068e 0 = .ok (.aload_n 0, 1) := by decide +kernel
theorem dJ0_charAt_5068e_1 : decode cJ0_charAt_5068e 1 = .ok (.invokevirtual 492, 3) := by decide +kernel
theorem dJ0_charAt_5068e_4 : decode cJ0_charAt_5068e 4 = .ok (.ifCond .eq 12, 3) := by decide +kernel
theorem dJ0_charAt_5068e_7 : decode cJ0_charAt_5068e 7 = .ok (.aload_n 0, 1) := by decide +kernel
theorem dJ0_charAt_5068e_8 : decode cJ0_charAt_5068e 8 = .ok (.getfield 9, 3) := by decide +kernel
theorem dJ0_charAt_5068e_11 : decode cJ0_charAt_5068e 11 = .ok (.iload_n 1, 1) := by decide +kernel
theorem dJ0_charAt_5068e_12 : decode cJ0_charAt_5068e 12 = .ok (.invokestatic 495, 3) := by decide +kernel
theorem dJ0_charAt_5068e_15 : decode cJ0_charAt_5068e 15 = .ok (.ireturn, 1) := by decide +kernel
theorem dJ0_charAt_5068e_16 : decode cJ0_charAt_5068e 16 = .ok (.aload_n 0, 1) := by decide +kernel
theorem dJ0_charAt_5068e_17 : decode cJ0_charAt_5068e 17 = .ok (.getfield 9, 3) := by decide +kernel
theorem dJ0_charAt_5068e_20 : decode cJ0_charAt_5068e 20 = .ok (.iload_n 1, 1) := by decide +kernel
theorem dJ0_charAt_5068e_21 : decode cJ0_charAt_5068e 21 = .ok (.invokestatic 498, 3) := by decide +kernel
theorem dJ0_charAt_5068e_24 : decode cJ0_charAt_5068e 24 = .ok (.ireturn, 1) := by decide +kernel
set_option maxRecDepth 100000 in
theorem jsJ0_335 : jcVS RJ0 335 KJ0_coder_7d493 0 := ⟨jt 330 rfl rfl, jt 331 rfl rfl, jt 332 rfl rfl, by decide +kernel, rfl⟩
set_option maxRecDepth 100000 in
theorem jsJ0_492 : jcVS RJ0 492 KJ0_isLatin1_aae02 0 := ⟨jt 340 rfl rfl, jt 341 rfl rfl, jt 342 rfl rfl, by decide +kernel, rfl⟩
set_option maxRecDepth 100000 in
theorem jsX1_157 : jcVS RX1 157 KJ0_length_8abf5 0 := ⟨jt 326 rfl rfl, jt 327 rfl rfl, jt 328 rfl rfl, by decide +kernel, rfl⟩
set_option maxRecDepth 100000 in
theorem jsX1_161 : jcVS RX1 161 KJ0_charAt_5068e 1 := ⟨jt 336 rfl rfl, jt 337 rfl rfl, jt 338 rfl rfl, by decide +kernel, rfl⟩
set_option maxRecDepth 100000 in
set_option maxHeartbeats 4000000 in
theorem mJ0_coder (j : Nat) (hj : j < 11) : J KJ0_coder_7d493 0 (fun o B => o = some (.int 0) ∧ B = []) 0 [some (.ref (1000 + j))] [] [] 0 0 := by
  refine J.getsC dJ0_coder_7d493_0 (jt 334 rfl rfl) ?_
  refine J.if_eq (tgt := 13) dJ0_coder_7d493_3 (by decide) (fun c3 => absurd c3 (by decide)) (fun c3 => ?_)
  refine J.aload_n dJ0_coder_7d493_6 rfl rfl ?_
  refine J.getfC dJ0_coder_7d493_7 hj (jt 1210 rfl rfl) ?_
  refine J.goto (tgt := 14) dJ0_coder_7d493_10 (by decide) ?_
  exact J.iret dJ0_coder_7d493_14 rfl (by decide) (Nat.le_refl _) (Nat.le_refl _) ⟨rfl, rfl⟩
set_option maxRecDepth 100000 in
set_option maxHeartbeats 4000000 in
theorem mJ0_isLatin1 (j : Nat) (hj : j < 11) : J KJ0_isLatin1_aae02 0 (fun o B => o = some (.int 1) ∧ B = []) 0 [some (.ref (1000 + j))] [] [] 0 0 := by
  refine J.getsC dJ0_isLatin1_aae02_0 (jt 334 rfl rfl) ?_
  refine J.if_eq (tgt := 17) dJ0_isLatin1_aae02_3 (by decide) (fun c3 => absurd c3 (by decide)) (fun c3 => ?_)
  refine J.aload_n dJ0_isLatin1_aae02_6 rfl rfl ?_
  refine J.getfC dJ0_isLatin1_aae02_7 hj (jt 1210 rfl rfl) ?_
  refine J.if_ne (tgt := 17) dJ0_isLatin1_aae02_10 (by decide) (fun c10 => absurd c10 (fun h => h rfl)) (fun c10 => ?_)
  refine J.iconst (1) dJ0_isLatin1_aae02_13 (by decide) ?_
  refine J.goto (tgt := 18) dJ0_isLatin1_aae02_14 (by decide) ?_
  exact J.iret dJ0_isLatin1_aae02_18 rfl (by decide) (Nat.le_refl _) (Nat.le_refl _) ⟨rfl, rfl⟩
theorem slen_eval : ∀ j, j < 11 → Int32.ofNat (jlen.getD j 0) >>> ((0 : Int32) &&& 31) = nI (jlen.getD j 0) := by decide +kernel
theorem slen_lt : ∀ j, j < 11 → jlen.getD j 0 < 8 := by decide +kernel
theorem schr_eval : ∀ j, j < 11 → ∀ i, i < jlen.getD j 0 → ((jbyt.getD j []).getD i 0 &&& 255).toUInt32.toUInt16.toUInt32.toInt32 = (jbyt.getD j []).getD i 0 := by decide +kernel
theorem schr_nar : ∀ j, j < 11 → ∀ i, i < jlen.getD j 0 → narrow .char (.int ((jbyt.getD j []).getD i 0)) = .int ((jbyt.getD j []).getD i 0) := by decide +kernel
set_option maxRecDepth 100000 in
set_option maxHeartbeats 4000000 in
theorem mJ0_length (j : Nat) (hj : j < 11) : J KJ0_length_8abf5 0 (fun o B => o = some (.int (nI (jlen.getD j 0))) ∧ B = []) 0 [some (.ref (1000 + j))] [] [] 0 0 := by
  refine J.aload_n dJ0_length_8abf5_0 rfl rfl ?_
  refine J.getfS dJ0_length_8abf5_1 hj (jt 1209 rfl rfl) ?_
  refine J.alenS dJ0_length_8abf5_4 hj ?_
  refine J.aload_n dJ0_length_8abf5_5 rfl rfl ?_
  refine J.cvS (as := []) okJ0_coder_7d493 jsJ0_335 (mJ0_coder j hj) dJ0_length_8abf5_6 hj rfl rfl rfl rfl (fun r9 B9 hq => ?_)
  obtain ⟨rfl, rfl⟩ := hq
  refine ⟨rfl, ?_⟩
  show J _ _ _ _ _ (.int _ :: .int _ :: _) [] _ _
  refine J.ishr dJ0_length_8abf5_9 ?_
  exact J.iret dJ0_length_8abf5_10 rfl rfl (Nat.le_refl _) (Nat.le_refl _) ⟨congrArg (fun x => some (Value.int x)) (slen_eval j hj), rfl⟩
set_option maxRecDepth 100000 in
set_option maxHeartbeats 4000000 in
theorem mJ3_checkIndex (i n : Nat) (v : Value) (hi : i < n) (hn : n < 1000) : J KJ3_checkIndex_8e157 0 (fun o B => o = some (.int (nI i)) ∧ B = []) 0 [some (.int (nI i)), some (.int (nI n)), some v] [] [] 0 0 := by
  refine J.iload_n dJ3_checkIndex_8e157_0 rfl rfl ?_
  refine J.if_lt (tgt := 9) dJ3_checkIndex_8e157_1 (by decide) (fun c1 => absurd c1 (nI_pos (by omega))) (fun c1 => ?_)
  refine J.iload_n dJ3_checkIndex_8e157_4 rfl rfl ?_
  refine J.iload_n dJ3_checkIndex_8e157_5 rfl rfl ?_
  refine J.icmp_lt (tgt := 16) dJ3_checkIndex_8e157_6 (by decide) (fun c6 => ?_) (fun c6 => absurd c6 (fun h => h ((nI_lti (by omega) (by omega)).mpr hi)))
  refine J.iload_n dJ3_checkIndex_8e157_16 rfl rfl ?_
  exact J.iret dJ3_checkIndex_8e157_17 rfl rfl (Nat.le_refl _) (Nat.le_refl _) ⟨rfl, rfl⟩
set_option maxRecDepth 100000 in
set_option maxHeartbeats 4000000 in
theorem mJ0_checkIndex (i n : Nat) (hi : i < n) (hn : n < 1000) : J KJ0_checkIndex_df160 0 (fun o B => o = none ∧ B = []) 0 [some (.int (nI i)), some (.int (nI n))] [] [] 0 0 := by
  refine J.iload_n dJ0_checkIndex_df160_0 rfl rfl ?_
  refine J.iload_n dJ0_checkIndex_df160_1 rfl rfl ?_
  refine J.getsF dJ0_checkIndex_df160_2 (jt 350 rfl rfl) ?_ ?_
  · refine J.cs (as := [.int _, .int _, .null]) (is := []) okJ3_checkIndex_8e157 jcJ0_1059 (mJ3_checkIndex i n .null hi hn) dJ0_checkIndex_df160_5 rfl rfl rfl rfl rfl rfl (fun r9 B9 hq => ?_)
    obtain ⟨rfl, rfl⟩ := hq
    refine ⟨rfl, ?_⟩
    show J _ _ _ _ _ (.int _ :: _) [] _ _
    refine J.pop dJ0_checkIndex_df160_8 rfl ?_
    exact J.vret dJ0_checkIndex_df160_9 rfl (Nat.le_refl _) (Nat.le_refl _) ⟨rfl, rfl⟩
  · refine J.cs (as := [.int _, .int _, (.ref 3000)]) (is := []) okJ3_checkIndex_8e157 jcJ0_1059 (mJ3_checkIndex i n (.ref 3000) hi hn) dJ0_checkIndex_df160_5 rfl rfl rfl rfl rfl rfl (fun r9 B9 hq => ?_)
    obtain ⟨rfl, rfl⟩ := hq
    refine ⟨rfl, ?_⟩
    show J _ _ _ _ _ (.int _ :: _) [] _ _
    refine J.pop dJ0_checkIndex_df160_8 rfl ?_
    exact J.vret dJ0_checkIndex_df160_9 rfl (Nat.le_refl _) (Nat.le_refl _) ⟨rfl, rfl⟩
set_option maxRecDepth 100000 in
set_option maxHeartbeats 4000000 in
theorem mJ1_charAt (j i : Nat) (hj : j < 11) (hi : i < jlen.getD j 0) : J KJ1_charAt_3b067 0 (fun o B => o = some (.int ((jbyt.getD j []).getD i 0)) ∧ B = []) 0 [some (.ref (2000 + j)), some (.int (nI i))] [] [] 0 0 := by
  refine J.iload_n dJ1_charAt_3b067_0 rfl rfl ?_
  refine J.aload_n dJ1_charAt_3b067_1 rfl rfl ?_
  refine J.alenS dJ1_charAt_3b067_2 hj ?_
  refine J.cs (as := [.int (nI i), .int (nI (jlen.getD j 0))]) (is := []) okJ0_checkIndex_df160 jcJ1_9 (mJ0_checkIndex i (jlen.getD j 0) hi (by have := slen_lt j hj; omega)) dJ1_charAt_3b067_3 rfl rfl rfl rfl rfl rfl (fun r9 B9 hq => ?_)
  obtain ⟨rfl, rfl⟩ := hq
  refine ⟨rfl, ?_⟩
  show J _ _ _ _ _ [] [] _ _
  refine J.aload_n dJ1_charAt_3b067_6 rfl rfl ?_
  refine J.iload_n dJ1_charAt_3b067_7 rfl rfl ?_
  refine J.baldS dJ1_charAt_3b067_8 hj (vp_in_nI hi (by have := slen_lt j hj; omega)) ?_
  rw [nI_clamp (by have := slen_lt j hj; omega)]
  refine J.sipush (255) dJ1_charAt_3b067_9 (by decide) ?_
  refine J.iand dJ1_charAt_3b067_12 ?_
  refine J.i2c dJ1_charAt_3b067_13 ?_
  exact J.iret dJ1_charAt_3b067_14 rfl (by rw [schr_eval j hj i hi]; exact schr_nar j hj i hi) (Nat.le_refl _) (Nat.le_refl _) ⟨congrArg (fun x => some (Value.int x)) (schr_eval j hj i hi), rfl⟩
set_option maxRecDepth 100000 in
set_option maxHeartbeats 4000000 in
theorem mJ0_charAt (j i : Nat) (hj : j < 11) (hi : i < jlen.getD j 0) : J KJ0_charAt_5068e 0 (fun o B => o = some (.int ((jbyt.getD j []).getD i 0)) ∧ B = []) 0 [some (.ref (1000 + j)), some (.int (nI i))] [] [] 0 0 := by
  refine J.aload_n dJ0_charAt_5068e_0 rfl rfl ?_
  refine J.cvS (as := []) okJ0_isLatin1_aae02 jsJ0_492 (mJ0_isLatin1 j hj) dJ0_charAt_5068e_1 hj rfl rfl rfl rfl (fun r9 B9 hq => ?_)
  obtain ⟨rfl, rfl⟩ := hq
  refine ⟨rfl, ?_⟩
  show J _ _ _ _ _ (.int _ :: _) [] _ _
  refine J.if_eq (tgt := 16) dJ0_charAt_5068e_4 (by decide) (fun c4 => absurd c4 (by decide)) (fun c4 => ?_)
  refine J.aload_n dJ0_charAt_5068e_7 rfl rfl ?_
  refine J.getfS dJ0_charAt_5068e_8 hj (jt 1209 rfl rfl) ?_
  refine J.iload_n dJ0_charAt_5068e_11 rfl rfl ?_
  refine J.cs (as := [.ref (2000 + j), .int (nI i)]) (is := []) (rest := []) okJ1_charAt_3b067 jcJ0_495 (mJ1_charAt j i hj hi) dJ0_charAt_5068e_12 rfl (by simp [jg, jr]; omega) rfl rfl rfl rfl (fun r9 B9 hq => ?_)
  obtain ⟨rfl, rfl⟩ := hq
  refine ⟨rfl, ?_⟩
  show J _ _ _ _ _ (.int _ :: _) [] _ _
  exact J.iret dJ0_charAt_5068e_15 rfl (schr_nar j hj i hi) (Nat.le_refl _) (Nat.le_refl _) ⟨rfl, rfl⟩
