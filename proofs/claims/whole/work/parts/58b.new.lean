theorem jNX6_9 : jNw RX6 9 2 [.null, .null, .null, .null, .null, .null, .int 0, .int 0, .int 0, .int 0, .int 0, .int 0, .int 0] := ⟨RX2, TX2, 13, tyX2, rfl, tyX2_ok, jin2, jt 23 rfl rfl, jt 24 rfl rfl, jt 2 rfl rfl, by decide +kernel, rfl, by simp⟩
theorem jIX6_11 : jcI RX6 11 KX2_init 0 := ⟨Or.inr ⟨"SwordSeat", jn 25 rfl rfl⟩, jt 26 rfl rfl, rfl, rfl, by decide +kernel⟩
theorem jNX6_27 : jNw RX6 27 1 [.null, .null, .int 0, .int 0, .int 0, .int 0, .int 0, .int 0, .int 0, .int 0, .int 0] := ⟨RX1, TX1, 11, tyX1, rfl, tyX1_ok, jin1, jt 101 rfl rfl, jt 102 rfl rfl, jt 3 rfl rfl, by decide +kernel, rfl, by simp⟩
theorem jIX6_29 : jcI RX6 29 KX1_init 0 := ⟨Or.inr ⟨"SwordSeat", jn 103 rfl rfl⟩, jt 104 rfl rfl, rfl, rfl, by decide +kernel⟩
theorem jNX6_34 : jNw RX6 34 0 [.null, .null, .null, .int 0, .int 0, .null, .null, .null, .null, .null, .long 0, .long 0] := ⟨RX0, TX0, 12, tyX0, rfl, tyX0_ok, jin0, jt 163 rfl rfl, jt 164 rfl rfl, jt 5 rfl rfl, by decide +kernel, rfl, by simp⟩
theorem jIX6_36 : jcI RX6 36 KX0_init 0 := ⟨Or.inr ⟨"SwordSeat", jn 165 rfl rfl⟩, jt 166 rfl rfl, rfl, rfl, by decide +kernel⟩
theorem jNX6_41 : jNw RX6 41 3 [.null, .null, .int 0] := ⟨RX3, TX3, 3, tyX3, rfl, tyX3_ok, jin3, jt 211 rfl rfl, jt 212 rfl rfl, jt 6 rfl rfl, by decide +kernel, rfl, by simp⟩
theorem jIX6_43 : jcI RX6 43 KX3_init 0 := ⟨Or.inr ⟨"SwordSeat", jn 213 rfl rfl⟩, jt 214 rfl rfl, rfl, rfl, by decide +kernel⟩
theorem jNX6_48 : jNw RX6 48 4 [.null, .int 0, .int 0] := ⟨RX4, TX4, 3, tyX4, rfl, tyX4_ok, jin4, jt 230 rfl rfl, jt 232 rfl rfl, jt 7 rfl rfl, by decide +kernel, rfl, by simp⟩
theorem jIX6_58 : jcI RX6 58 KX4_init 0 := ⟨Or.inr ⟨"SwordSeat", jn 233 rfl rfl⟩, jt 234 rfl rfl, rfl, rfl, by decide +kernel⟩
theorem dX6_init_0 : decode cX6_init 0 = .ok (.aload_n 0, 1) := by decide +kernel
theorem dX6_init_1 : decode cX6_init 1 = .ok (.invokespecial 3, 3) := by decide +kernel
theorem dX6_init_4 : decode cX6_init 4 = .ok (.aload_n 0, 1) := by decide +kernel
theorem dX6_init_5 : decode cX6_init 5 = .ok (.new 9, 3) := by decide +kernel
theorem dX6_init_8 : decode cX6_init 8 = .ok (.dup, 1) := by decide +kernel
theorem dX6_init_9 : decode cX6_init 9 = .ok (.invokespecial 11, 3) := by decide +kernel
theorem dX6_init_12 : decode cX6_init 12 = .ok (.putfield 12, 3) := by decide +kernel
theorem dX6_init_15 : decode cX6_init 15 = .ok (.aload_n 0, 1) := by decide +kernel
theorem dX6_init_16 : decode cX6_init 16 = .ok (.new 9, 3) := by decide +kernel
theorem dX6_init_19 : decode cX6_init 19 = .ok (.dup, 1) := by decide +kernel
theorem dX6_init_20 : decode cX6_init 20 = .ok (.invokespecial 11, 3) := by decide +kernel
theorem dX6_init_23 : decode cX6_init 23 = .ok (.putfield 16, 3) := by decide +kernel
theorem dX6_init_26 : decode cX6_init 26 = .ok (.aload_n 0, 1) := by decide +kernel
theorem dX6_init_27 : decode cX6_init 27 = .ok (.iconst 2, 1) := by decide +kernel
theorem dX6_init_28 : decode cX6_init 28 = .ok (.anewarray 9, 3) := by decide +kernel
theorem dX6_init_31 : decode cX6_init 31 = .ok (.putfield 19, 3) := by decide +kernel
theorem dX6_init_34 : decode cX6_init 34 = .ok (.aload_n 0, 1) := by decide +kernel
theorem dX6_init_35 : decode cX6_init 35 = .ok (.iconst 2, 1) := by decide +kernel
theorem dX6_init_36 : decode cX6_init 36 = .ok (.newarray .boolean, 2) := by decide +kernel
theorem dX6_init_38 : decode cX6_init 38 = .ok (.putfield 23, 3) := by decide +kernel
theorem dX6_init_41 : decode cX6_init 41 = .ok (.aload_n 0, 1) := by decide +kernel
theorem dX6_init_42 : decode cX6_init 42 = .ok (.new 27, 3) := by decide +kernel
theorem dX6_init_45 : decode cX6_init 45 = .ok (.dup, 1) := by decide +kernel
theorem dX6_init_46 : decode cX6_init 46 = .ok (.invokespecial 29, 3) := by decide +kernel
theorem dX6_init_49 : decode cX6_init 49 = .ok (.putfield 30, 3) := by decide +kernel
theorem dX6_init_52 : decode cX6_init 52 = .ok (.aload_n 0, 1) := by decide +kernel
theorem dX6_init_53 : decode cX6_init 53 = .ok (.new 34, 3) := by decide +kernel
theorem dX6_init_56 : decode cX6_init 56 = .ok (.dup, 1) := by decide +kernel
theorem dX6_init_57 : decode cX6_init 57 = .ok (.invokespecial 36, 3) := by decide +kernel
theorem dX6_init_60 : decode cX6_init 60 = .ok (.putfield 37, 3) := by decide +kernel
theorem dX6_init_63 : decode cX6_init 63 = .ok (.aload_n 0, 1) := by decide +kernel
theorem dX6_init_64 : decode cX6_init 64 = .ok (.new 41, 3) := by decide +kernel
theorem dX6_init_67 : decode cX6_init 67 = .ok (.dup, 1) := by decide +kernel
theorem dX6_init_68 : decode cX6_init 68 = .ok (.invokespecial 43, 3) := by decide +kernel
theorem dX6_init_71 : decode cX6_init 71 = .ok (.putfield 44, 3) := by decide +kernel
theorem dX6_init_74 : decode cX6_init 74 = .ok (.aload_n 0, 1) := by decide +kernel
theorem dX6_init_75 : decode cX6_init 75 = .ok (.iconst 4, 1) := by decide +kernel
theorem dX6_init_76 : decode cX6_init 76 = .ok (.anewarray 48, 3) := by decide +kernel
theorem dX6_init_79 : decode cX6_init 79 = .ok (.putfield 50, 3) := by decide +kernel
theorem dX6_init_82 : decode cX6_init 82 = .ok (.aload_n 0, 1) := by decide +kernel
theorem dX6_init_83 : decode cX6_init 83 = .ok (.iconst 0, 1) := by decide +kernel
theorem dX6_init_84 : decode cX6_init 84 = .ok (.putfield 54, 3) := by decide +kernel
theorem dX6_init_87 : decode cX6_init 87 = .ok (.iconst 0, 1) := by decide +kernel
theorem dX6_init_88 : decode cX6_init 88 = .ok (.istore_n 1, 1) := by decide +kernel
theorem dX6_init_89 : decode cX6_init 89 = .ok (.iload_n 1, 1) := by decide +kernel
theorem dX6_init_90 : decode cX6_init 90 = .ok (.aload_n 0, 1) := by decide +kernel
theorem dX6_init_91 : decode cX6_init 91 = .ok (.getfield 19, 3) := by decide +kernel
theorem dX6_init_94 : decode cX6_init 94 = .ok (.arraylength, 1) := by decide +kernel
theorem dX6_init_95 : decode cX6_init 95 = .ok (.if_icmp .ge 22, 3) := by decide +kernel
theorem dX6_init_98 : decode cX6_init 98 = .ok (.aload_n 0, 1) := by decide +kernel
theorem dX6_init_99 : decode cX6_init 99 = .ok (.getfield 19, 3) := by decide +kernel
theorem dX6_init_102 : decode cX6_init 102 = .ok (.iload_n 1, 1) := by decide +kernel
theorem dX6_init_103 : decode cX6_init 103 = .ok (.new 9, 3) := by decide +kernel
theorem dX6_init_106 : decode cX6_init 106 = .ok (.dup, 1) := by decide +kernel
theorem dX6_init_107 : decode cX6_init 107 = .ok (.invokespecial 11, 3) := by decide +kernel
theorem dX6_init_110 : decode cX6_init 110 = .ok (.aastore, 1) := by decide +kernel
theorem dX6_init_111 : decode cX6_init 111 = .ok (.iinc 1 1, 3) := by decide +kernel
theorem dX6_init_114 : decode cX6_init 114 = .ok (.goto (-25), 3) := by decide +kernel
theorem dX6_init_117 : decode cX6_init 117 = .ok (.iconst 0, 1) := by decide +kernel
theorem dX6_init_118 : decode cX6_init 118 = .ok (.istore_n 1, 1) := by decide +kernel
theorem dX6_init_119 : decode cX6_init 119 = .ok (.iload_n 1, 1) := by decide +kernel
theorem dX6_init_120 : decode cX6_init 120 = .ok (.aload_n 0, 1) := by decide +kernel
theorem dX6_init_121 : decode cX6_init 121 = .ok (.getfield 50, 3) := by decide +kernel
theorem dX6_init_124 : decode cX6_init 124 = .ok (.arraylength, 1) := by decide +kernel
theorem dX6_init_125 : decode cX6_init 125 = .ok (.if_icmp .ge 22, 3) := by decide +kernel
theorem dX6_init_128 : decode cX6_init 128 = .ok (.aload_n 0, 1) := by decide +kernel
theorem dX6_init_129 : decode cX6_init 129 = .ok (.getfield 50, 3) := by decide +kernel
theorem dX6_init_132 : decode cX6_init 132 = .ok (.iload_n 1, 1) := by decide +kernel
theorem dX6_init_133 : decode cX6_init 133 = .ok (.new 48, 3) := by decide +kernel
theorem dX6_init_136 : decode cX6_init 136 = .ok (.dup, 1) := by decide +kernel
theorem dX6_init_137 : decode cX6_init 137 = .ok (.invokespecial 58, 3) := by decide +kernel
theorem dX6_init_140 : decode cX6_init 140 = .ok (.aastore, 1) := by decide +kernel
theorem dX6_init_141 : decode cX6_init 141 = .ok (.iinc 1 1, 3) := by decide +kernel
theorem dX6_init_144 : decode cX6_init 144 = .ok (.goto (-25), 3) := by decide +kernel
theorem dX6_init_147 : decode cX6_init 147 = .ok (.return_, 1) := by decide +kernel

set_option maxRecDepth 100000 in
set_option maxHeartbeats 8000000 in
theorem mX6_init : J KX6_initA 1 (fun o B => o = none ∧ B = wC (fun _ => R0) (fun _ _ => 0) (fun _ _ => 0) (fun _ => 0) (fun _ => 0) (fun _ _ => 0) (fun _ _ => 0) (fun _ => -1) 0) 0 [some (.ref 0), none] [] [.inr (6, [.null, .null, .null, .null, .null, .null, .null, .null, .int 0])] 0 0 := by
  show J _ _ _ 0 _ [] [.inr (6, [.null, .null, .null, .null, .null, .null, .null, .null, .int 0])] 0 0
  refine J.aload_n dX6_init_0 rfl rfl ?_
  refine J.objInit dX6_init_1 (jt 20 rfl rfl) (jt 21 rfl rfl) (jt 22 rfl rfl) rfl ?_
  refine J.aload_n dX6_init_4 rfl rfl ?_
  refine J.mk 1 [.inr (2, [.ref 2, .ref 3, .ref 4, .ref 5, .ref 6, .ref 7, .int (nI (R0 6 0)), .int (nI (R0 6 1)), .int (nI (R0 6 2)), .int (nI (R0 6 3)), .int (nI (R0 6 4)), .int (nI (R0 6 5)), .int (nI (R0 6 6))]), .inl (0, 3, .inl (fun j => nI (R0 0 j))), .inl (0, 3, .inl (fun j => nI (R0 1 j))), .inl (0, 4, .inl (fun j => nI (R0 2 j))), .inl (0, 4, .inl (fun j => nI (R0 3 j))), .inl (0, 3, .inl (fun j => nI (R0 4 j))), .inl (0, 3, .inl (fun j => nI (R0 5 j)))] dX6_init_5 dX6_init_8 dX6_init_9 jNX6_9 okX2_init jIX6_11 mX2_init rfl rfl rfl (jcl_b (by decide +kernel)) (by decide +kernel) (by decide +kernel) (by decide +kernel) (Nat.le_of_ble_eq_true rfl) (Nat.le_of_ble_eq_true rfl) (by decide +kernel) (jcl_b (by decide +kernel)) (by decide +kernel) rfl ?_
  dsimp only [List.cons_append, List.nil_append]
  refine J.putfieldF dX6_init_12 jFX6_12 jP6_0 rfl rfl (jnoN (by decide +kernel)) rfl rfl rfl (Nat.le_of_ble_eq_true rfl) ?_
  dsimp only [List.set]
  refine J.aload_n dX6_init_15 rfl rfl ?_
  refine J.mk 8 [.inr (2, [.ref 9, .ref 10, .ref 11, .ref 12, .ref 13, .ref 14, .int (nI (R0 6 0)), .int (nI (R0 6 1)), .int (nI (R0 6 2)), .int (nI (R0 6 3)), .int (nI (R0 6 4)), .int (nI (R0 6 5)), .int (nI (R0 6 6))]), .inl (0, 3, .inl (fun j => nI (R0 0 j))), .inl (0, 3, .inl (fun j => nI (R0 1 j))), .inl (0, 4, .inl (fun j => nI (R0 2 j))), .inl (0, 4, .inl (fun j => nI (R0 3 j))), .inl (0, 3, .inl (fun j => nI (R0 4 j))), .inl (0, 3, .inl (fun j => nI (R0 5 j)))] dX6_init_16 dX6_init_19 dX6_init_20 jNX6_9 okX2_init jIX6_11 mX2_init rfl rfl rfl (jcl_b (by decide +kernel)) (by decide +kernel) (by decide +kernel) (by decide +kernel) (Nat.le_of_ble_eq_true rfl) (Nat.le_of_ble_eq_true rfl) (by decide +kernel) (jcl_b (by decide +kernel)) (by decide +kernel) rfl ?_
  dsimp only [List.cons_append, List.nil_append]
  refine J.putfieldF dX6_init_23 jFX6_16 jP6_1 rfl rfl (jnoN (by decide +kernel)) rfl rfl rfl (Nat.le_of_ble_eq_true rfl) ?_
  dsimp only [List.set]
  refine J.aload_n dX6_init_26 rfl rfl ?_
  refine J.iconst (2) dX6_init_27 (by decide) ?_
  refine J.newR dX6_init_28 2 (by decide) (by decide) (by decide) (jok_b (jcl_b (by decide +kernel)) (by decide +kernel)) (Nat.le_of_ble_eq_true rfl) (Nat.le_of_ble_eq_true rfl) (jt 23 rfl rfl) ?_
  dsimp only [List.cons_append, List.nil_append]
  refine J.at (st := [.ref 15, .ref 0]) ?_ rfl rfl rfl
  refine J.arrR 15 4 (jrf []) rfl (by decide) ?_
  dsimp only [List.set]
  refine J.putfieldF dX6_init_31 jFX6_19 jP6_2 rfl rfl (jnoN (by decide +kernel)) rfl rfl rfl (Nat.le_of_ble_eq_true rfl) ?_
  dsimp only [List.set]
  refine J.aload_n dX6_init_34 rfl rfl ?_
  refine J.iconst (2) dX6_init_35 (by decide) ?_
  refine J.newZ dX6_init_36 rfl 2 (by decide) (by decide) (by decide) (jok_b (jcl_x 15 15 (by decide +kernel) rfl rfl (jrf_cl (by decide +kernel)) (jrf_cl (by decide +kernel))) (by decide +kernel)) (Nat.le_of_ble_eq_true rfl) (Nat.le_of_ble_eq_true rfl) (jt 122 rfl rfl) ?_
  dsimp only [List.cons_append, List.nil_append]
  refine J.at (st := [.ref 16, .ref 0]) ?_ rfl rfl rfl
  refine J.putfieldF dX6_init_38 jFX6_23 jP6_3 rfl rfl (jnoN (by decide +kernel)) rfl rfl rfl (Nat.le_of_ble_eq_true rfl) ?_
  dsimp only [List.set]
  refine J.aload_n dX6_init_41 rfl rfl ?_
  refine J.mk 17 [.inr (1, [.ref 18, .ref 20, .int (nI 0), .int (nI 0), .int (nI 0), .int (nI 0), .int (nI 0), .int (nI 0), .int (nI 0), .int (nI 0), .int (nI 0)]), .inr (5, [.ref 19, .int (nI 0)]), .inl (2, 160, .inl (fun _ => nI 0)), .inr (2, [.ref 21, .ref 22, .ref 23, .ref 24, .ref 25, .ref 26, .int (nI (R0 6 0)), .int (nI (R0 6 1)), .int (nI (R0 6 2)), .int (nI (R0 6 3)), .int (nI (R0 6 4)), .int (nI (R0 6 5)), .int (nI (R0 6 6))]), .inl (0, 3, .inl (fun j => nI (R0 0 j))), .inl (0, 3, .inl (fun j => nI (R0 1 j))), .inl (0, 4, .inl (fun j => nI (R0 2 j))), .inl (0, 4, .inl (fun j => nI (R0 3 j))), .inl (0, 3, .inl (fun j => nI (R0 4 j))), .inl (0, 3, .inl (fun j => nI (R0 5 j)))] dX6_init_42 dX6_init_45 dX6_init_46 jNX6_27 okX1_init jIX6_29 mX1_init rfl rfl rfl (jcl_x 15 15 (by decide +kernel) rfl rfl (jrf_cl (by decide +kernel)) (jrf_cl (by decide +kernel))) (by decide +kernel) (by decide +kernel) (by decide +kernel) (Nat.le_of_ble_eq_true rfl) (Nat.le_of_ble_eq_true rfl) (by decide +kernel) (jcl_b (by decide +kernel)) (by decide +kernel) rfl ?_
  dsimp only [List.cons_append, List.nil_append]
  refine J.putfieldF dX6_init_49 jFX6_30 jP6_4 rfl rfl (jnoN (by decide +kernel)) rfl rfl rfl (Nat.le_of_ble_eq_true rfl) ?_
  dsimp only [List.set]
  refine J.aload_n dX6_init_52 rfl rfl ?_
  refine J.mk 27 [.inr (0, [.ref 28, .ref 29, .ref 30, .int (nI 0), .int (nI 0), .ref 31, .ref 32, .ref 33, .ref 34, .ref 35, .long 0, .long 0]), .inl (0, 3, .inl (fun _ => nI 0)), .inl (0, 3, .inl (fun _ => nI 0)), .inl (0, 3, .inl (fun _ => nI 0)), .inl (1, 8, .inr (.inl (fun _ => lN 0))), .inl (1, 8, .inr (.inl (fun _ => 0))), .inl (1, 8, .inr (.inl (fun _ => 0))), .inl (1, 8, .inr (.inl (fun _ => 0))), .inl (1, 6, .inr (.inl (fun _ => 0)))] dX6_init_53 dX6_init_56 dX6_init_57 jNX6_34 okX0_init jIX6_36 mX0_init rfl rfl rfl (jcl_x 15 15 (by decide +kernel) rfl rfl (jrf_cl (by decide +kernel)) (jrf_cl (by decide +kernel))) (by decide +kernel) (by decide +kernel) (by decide +kernel) (Nat.le_of_ble_eq_true rfl) (Nat.le_of_ble_eq_true rfl) (by decide +kernel) (jcl_b (by decide +kernel)) (by decide +kernel) rfl ?_
  dsimp only [List.cons_append, List.nil_append]
  refine J.putfieldF dX6_init_60 jFX6_37 jP6_5 rfl rfl (jnoN (by decide +kernel)) rfl rfl rfl (Nat.le_of_ble_eq_true rfl) ?_
  dsimp only [List.set]
  refine J.aload_n dX6_init_63 rfl rfl ?_
  refine J.mk 36 [.inr (3, [.ref 37, .ref 38, .int (nI 0)]), .inl (0, 6, .inl (fun _ => nI 0)), .inl (0, 6, .inl (fun _ => nI 0))] dX6_init_64 dX6_init_67 dX6_init_68 jNX6_41 okX3_init jIX6_43 mX3_init rfl rfl rfl (jcl_x 15 15 (by decide +kernel) rfl rfl (jrf_cl (by decide +kernel)) (jrf_cl (by decide +kernel))) (by decide +kernel) (by decide +kernel) (by decide +kernel) (Nat.le_of_ble_eq_true rfl) (Nat.le_of_ble_eq_true rfl) (by decide +kernel) (jcl_b (by decide +kernel)) (by decide +kernel) rfl ?_
  dsimp only [List.cons_append, List.nil_append]
  refine J.putfieldF dX6_init_71 jFX6_44 jP6_6 rfl rfl (jnoN (by decide +kernel)) rfl rfl rfl (Nat.le_of_ble_eq_true rfl) ?_
  dsimp only [List.set]
  refine J.aload_n dX6_init_74 rfl rfl ?_
  refine J.iconst (4) dX6_init_75 (by decide) ?_
  refine J.newS dX6_init_76 4 (by decide) (by decide) (by decide) (jok_b (jcl_x 15 15 (by decide +kernel) rfl rfl (jrf_cl (by decide +kernel)) (jrf_cl (by decide +kernel))) (by decide +kernel)) (Nat.le_of_ble_eq_true rfl) (Nat.le_of_ble_eq_true rfl) (jt 230 rfl rfl) ?_
  dsimp only [List.cons_append, List.nil_append]
  refine J.at (st := [.ref 39, .ref 0]) ?_ rfl rfl rfl
  refine J.arrR 39 5 (jrf []) rfl (by decide) ?_
  dsimp only [List.set]
  refine J.putfieldF dX6_init_79 jFX6_50 jP6_7 rfl rfl (jnoN (by decide +kernel)) rfl rfl rfl (Nat.le_of_ble_eq_true rfl) ?_
  dsimp only [List.set]
  refine J.aload_n dX6_init_82 rfl rfl ?_
  refine J.iconst (0) dX6_init_83 (by decide) ?_
  refine J.putfield dX6_init_84 jFX6_54 jP6_8 rfl rfl rfl (Nat.le_of_ble_eq_true rfl) ?_
  dsimp only [List.set]
  refine J.iconst (0) dX6_init_87 (by decide) ?_
  refine J.istore_n dX6_init_88 rfl (by decide) rfl ?_
  dsimp only [List.set]
  refine J.iload_n dX6_init_89 rfl rfl ?_
  refine J.aload_n dX6_init_90 rfl rfl ?_
  refine J.getfield dX6_init_91 jFX6_19 rfl rfl ?_
  refine J.arraylength dX6_init_94 rfl (by decide) ?_
  refine J.icmp_ge (tgt := 117) dX6_init_95 (by decide) (fun h => absurd h (show ¬ ((2 : Int32) ≤ 0) by decide)) (fun _ => ?_)
  refine J.aload_n dX6_init_98 rfl rfl ?_
  refine J.getfield dX6_init_99 jFX6_19 rfl rfl ?_
  refine J.iload_n dX6_init_102 rfl rfl ?_
  refine J.mk 40 [.inr (2, [.ref 41, .ref 42, .ref 43, .ref 44, .ref 45, .ref 46, .int (nI (R0 6 0)), .int (nI (R0 6 1)), .int (nI (R0 6 2)), .int (nI (R0 6 3)), .int (nI (R0 6 4)), .int (nI (R0 6 5)), .int (nI (R0 6 6))]), .inl (0, 3, .inl (fun j => nI (R0 0 j))), .inl (0, 3, .inl (fun j => nI (R0 1 j))), .inl (0, 4, .inl (fun j => nI (R0 2 j))), .inl (0, 4, .inl (fun j => nI (R0 3 j))), .inl (0, 3, .inl (fun j => nI (R0 4 j))), .inl (0, 3, .inl (fun j => nI (R0 5 j)))] dX6_init_103 dX6_init_106 dX6_init_107 jNX6_9 okX2_init jIX6_11 mX2_init rfl rfl rfl (jcl_x 15 39 (by decide +kernel) rfl rfl (jrf_cl (by decide +kernel)) (jrf_cl (by decide +kernel))) (by decide +kernel) (by decide +kernel) (by decide +kernel) (Nat.le_of_ble_eq_true rfl) (Nat.le_of_ble_eq_true rfl) (by decide +kernel) (jcl_b (by decide +kernel)) (by decide +kernel) rfl ?_
  dsimp only [List.cons_append, List.nil_append]
  refine J.aastore4 dX6_init_110 rfl rfl rfl (by unfold vp_in; decide) ?_
  dsimp only [List.set]
  refine J.arrR 15 4 (jrf [some 40, none]) rfl (by decide) ?_
  dsimp only [List.set]
  refine J.iinc (1) dX6_init_111 (by decide) rfl (by decide) rfl ?_
  show J _ _ _ _ [some (.ref 0), some (.int (1))] _ _ _ _
  refine J.goto (tgt := 89) dX6_init_114 (by decide) ?_
  refine J.iload_n dX6_init_89 rfl rfl ?_
  refine J.aload_n dX6_init_90 rfl rfl ?_
  refine J.getfield dX6_init_91 jFX6_19 rfl rfl ?_
  refine J.arraylength dX6_init_94 rfl (by decide) ?_
  refine J.icmp_ge (tgt := 117) dX6_init_95 (by decide) (fun h => absurd h (show ¬ ((2 : Int32) ≤ 1) by decide)) (fun _ => ?_)
  refine J.aload_n dX6_init_98 rfl rfl ?_
  refine J.getfield dX6_init_99 jFX6_19 rfl rfl ?_
  refine J.iload_n dX6_init_102 rfl rfl ?_
  refine J.mk 47 [.inr (2, [.ref 48, .ref 49, .ref 50, .ref 51, .ref 52, .ref 53, .int (nI (R0 6 0)), .int (nI (R0 6 1)), .int (nI (R0 6 2)), .int (nI (R0 6 3)), .int (nI (R0 6 4)), .int (nI (R0 6 5)), .int (nI (R0 6 6))]), .inl (0, 3, .inl (fun j => nI (R0 0 j))), .inl (0, 3, .inl (fun j => nI (R0 1 j))), .inl (0, 4, .inl (fun j => nI (R0 2 j))), .inl (0, 4, .inl (fun j => nI (R0 3 j))), .inl (0, 3, .inl (fun j => nI (R0 4 j))), .inl (0, 3, .inl (fun j => nI (R0 5 j)))] dX6_init_103 dX6_init_106 dX6_init_107 jNX6_9 okX2_init jIX6_11 mX2_init rfl rfl rfl (jcl_x 15 39 (by decide +kernel) rfl rfl (jrf_cl (by decide +kernel)) (jrf_cl (by decide +kernel))) (by decide +kernel) (by decide +kernel) (by decide +kernel) (Nat.le_of_ble_eq_true rfl) (Nat.le_of_ble_eq_true rfl) (by decide +kernel) (jcl_b (by decide +kernel)) (by decide +kernel) rfl ?_
  dsimp only [List.cons_append, List.nil_append]
  refine J.aastore4 dX6_init_110 rfl rfl rfl (by unfold vp_in; decide) ?_
  dsimp only [List.set]
  refine J.arrR 15 4 (jrf [some 40, some 47]) rfl (by decide) ?_
  dsimp only [List.set]
  refine J.iinc (1) dX6_init_111 (by decide) rfl (by decide) rfl ?_
  show J _ _ _ _ [some (.ref 0), some (.int (2))] _ _ _ _
  refine J.goto (tgt := 89) dX6_init_114 (by decide) ?_
  refine J.iload_n dX6_init_89 rfl rfl ?_
  refine J.aload_n dX6_init_90 rfl rfl ?_
  refine J.getfield dX6_init_91 jFX6_19 rfl rfl ?_
  refine J.arraylength dX6_init_94 rfl (by decide) ?_
  refine J.icmp_ge (tgt := 117) dX6_init_95 (by decide) (fun _ => ?_) (fun h => absurd (show ((2 : Int32) ≤ 2) by decide) h)
  refine J.iconst (0) dX6_init_117 (by decide) ?_
  refine J.istore_n dX6_init_118 rfl (by decide) rfl ?_
  dsimp only [List.set]
  refine J.iload_n dX6_init_119 rfl rfl ?_
  refine J.aload_n dX6_init_120 rfl rfl ?_
  refine J.getfield dX6_init_121 jFX6_50 rfl rfl ?_
  refine J.arraylength dX6_init_124 rfl (by decide) ?_
  refine J.icmp_ge (tgt := 147) dX6_init_125 (by decide) (fun h => absurd h (show ¬ ((4 : Int32) ≤ 0) by decide)) (fun _ => ?_)
  refine J.aload_n dX6_init_128 rfl rfl ?_
  refine J.getfield dX6_init_129 jFX6_50 rfl rfl ?_
  refine J.iload_n dX6_init_132 rfl rfl ?_
  refine J.mk 54 [.inr (4, [.ref 55, .int (-1), .int (nI 0)]), .inl (0, 40, .inl (fun _ => 0))] dX6_init_133 dX6_init_136 dX6_init_137 jNX6_48 okX4_init jIX6_58 mX4_init rfl rfl rfl (jcl_x 15 39 (by decide +kernel) rfl rfl (jrf_cl (by decide +kernel)) (jrf_cl (by decide +kernel))) (by decide +kernel) (by decide +kernel) (by decide +kernel) (Nat.le_of_ble_eq_true rfl) (Nat.le_of_ble_eq_true rfl) (by decide +kernel) (jcl_b (by decide +kernel)) (by decide +kernel) rfl ?_
  dsimp only [List.cons_append, List.nil_append]
  refine J.aastore5 dX6_init_140 rfl rfl rfl (by unfold vp_in; decide) ?_
  dsimp only [List.set]
  refine J.arrR 39 5 (jrf [some 54, none, none, none]) rfl (by decide) ?_
  dsimp only [List.set]
  refine J.iinc (1) dX6_init_141 (by decide) rfl (by decide) rfl ?_
  show J _ _ _ _ [some (.ref 0), some (.int (1))] _ _ _ _
  refine J.goto (tgt := 119) dX6_init_144 (by decide) ?_
  refine J.iload_n dX6_init_119 rfl rfl ?_
  refine J.aload_n dX6_init_120 rfl rfl ?_
  refine J.getfield dX6_init_121 jFX6_50 rfl rfl ?_
  refine J.arraylength dX6_init_124 rfl (by decide) ?_
  refine J.icmp_ge (tgt := 147) dX6_init_125 (by decide) (fun h => absurd h (show ¬ ((4 : Int32) ≤ 1) by decide)) (fun _ => ?_)
  refine J.aload_n dX6_init_128 rfl rfl ?_
  refine J.getfield dX6_init_129 jFX6_50 rfl rfl ?_
  refine J.iload_n dX6_init_132 rfl rfl ?_
  refine J.mk 56 [.inr (4, [.ref 57, .int (-1), .int (nI 0)]), .inl (0, 40, .inl (fun _ => 0))] dX6_init_133 dX6_init_136 dX6_init_137 jNX6_48 okX4_init jIX6_58 mX4_init rfl rfl rfl (jcl_x 15 39 (by decide +kernel) rfl rfl (jrf_cl (by decide +kernel)) (jrf_cl (by decide +kernel))) (by decide +kernel) (by decide +kernel) (by decide +kernel) (Nat.le_of_ble_eq_true rfl) (Nat.le_of_ble_eq_true rfl) (by decide +kernel) (jcl_b (by decide +kernel)) (by decide +kernel) rfl ?_
  dsimp only [List.cons_append, List.nil_append]
  refine J.aastore5 dX6_init_140 rfl rfl rfl (by unfold vp_in; decide) ?_
  dsimp only [List.set]
  refine J.arrR 39 5 (jrf [some 54, some 56, none, none]) rfl (by decide) ?_
  dsimp only [List.set]
  refine J.iinc (1) dX6_init_141 (by decide) rfl (by decide) rfl ?_
  show J _ _ _ _ [some (.ref 0), some (.int (2))] _ _ _ _
  refine J.goto (tgt := 119) dX6_init_144 (by decide) ?_
  refine J.iload_n dX6_init_119 rfl rfl ?_
  refine J.aload_n dX6_init_120 rfl rfl ?_
  refine J.getfield dX6_init_121 jFX6_50 rfl rfl ?_
  refine J.arraylength dX6_init_124 rfl (by decide) ?_
  refine J.icmp_ge (tgt := 147) dX6_init_125 (by decide) (fun h => absurd h (show ¬ ((4 : Int32) ≤ 2) by decide)) (fun _ => ?_)
  refine J.aload_n dX6_init_128 rfl rfl ?_
  refine J.getfield dX6_init_129 jFX6_50 rfl rfl ?_
  refine J.iload_n dX6_init_132 rfl rfl ?_
  refine J.mk 58 [.inr (4, [.ref 59, .int (-1), .int (nI 0)]), .inl (0, 40, .inl (fun _ => 0))] dX6_init_133 dX6_init_136 dX6_init_137 jNX6_48 okX4_init jIX6_58 mX4_init rfl rfl rfl (jcl_x 15 39 (by decide +kernel) rfl rfl (jrf_cl (by decide +kernel)) (jrf_cl (by decide +kernel))) (by decide +kernel) (by decide +kernel) (by decide +kernel) (Nat.le_of_ble_eq_true rfl) (Nat.le_of_ble_eq_true rfl) (by decide +kernel) (jcl_b (by decide +kernel)) (by decide +kernel) rfl ?_
  dsimp only [List.cons_append, List.nil_append]
  refine J.aastore5 dX6_init_140 rfl rfl rfl (by unfold vp_in; decide) ?_
  dsimp only [List.set]
  refine J.arrR 39 5 (jrf [some 54, some 56, some 58, none]) rfl (by decide) ?_
  dsimp only [List.set]
  refine J.iinc (1) dX6_init_141 (by decide) rfl (by decide) rfl ?_
  show J _ _ _ _ [some (.ref 0), some (.int (3))] _ _ _ _
  refine J.goto (tgt := 119) dX6_init_144 (by decide) ?_
  refine J.iload_n dX6_init_119 rfl rfl ?_
  refine J.aload_n dX6_init_120 rfl rfl ?_
  refine J.getfield dX6_init_121 jFX6_50 rfl rfl ?_
  refine J.arraylength dX6_init_124 rfl (by decide) ?_
  refine J.icmp_ge (tgt := 147) dX6_init_125 (by decide) (fun h => absurd h (show ¬ ((4 : Int32) ≤ 3) by decide)) (fun _ => ?_)
  refine J.aload_n dX6_init_128 rfl rfl ?_
  refine J.getfield dX6_init_129 jFX6_50 rfl rfl ?_
  refine J.iload_n dX6_init_132 rfl rfl ?_
  refine J.mk 60 [.inr (4, [.ref 61, .int (-1), .int (nI 0)]), .inl (0, 40, .inl (fun _ => 0))] dX6_init_133 dX6_init_136 dX6_init_137 jNX6_48 okX4_init jIX6_58 mX4_init rfl rfl rfl (jcl_x 15 39 (by decide +kernel) rfl rfl (jrf_cl (by decide +kernel)) (jrf_cl (by decide +kernel))) (by decide +kernel) (by decide +kernel) (by decide +kernel) (Nat.le_of_ble_eq_true rfl) (Nat.le_of_ble_eq_true rfl) (by decide +kernel) (jcl_b (by decide +kernel)) (by decide +kernel) rfl ?_
  dsimp only [List.cons_append, List.nil_append]
  refine J.aastore5 dX6_init_140 rfl rfl rfl (by unfold vp_in; decide) ?_
  dsimp only [List.set]
  refine J.arrR 39 5 (jrf [some 54, some 56, some 58, some 60]) rfl (by decide) ?_
  dsimp only [List.set]
  refine J.iinc (1) dX6_init_141 (by decide) rfl (by decide) rfl ?_
  show J _ _ _ _ [some (.ref 0), some (.int (4))] _ _ _ _
  refine J.goto (tgt := 119) dX6_init_144 (by decide) ?_
  refine J.iload_n dX6_init_119 rfl rfl ?_
  refine J.aload_n dX6_init_120 rfl rfl ?_
  refine J.getfield dX6_init_121 jFX6_50 rfl rfl ?_
  refine J.arraylength dX6_init_124 rfl (by decide) ?_
  refine J.icmp_ge (tgt := 147) dX6_init_125 (by decide) (fun _ => ?_) (fun h => absurd (show ((4 : Int32) ≤ 4) by decide) h)
  refine J.arrR 15 4 (fun j => if j = 0 then some 40 else some 47) rfl (by decide) ?_
  dsimp only [List.set]
  refine J.arrR 39 5 (fun j => if j = 0 then some 54 else if j = 1 then some 56 else if j = 2 then some 58 else some 60) rfl (by decide) ?_
  dsimp only [List.set]
  exact J.vret dX6_init_147 rfl (Nat.le_of_ble_eq_true rfl) (Nat.le_of_ble_eq_true rfl) ⟨rfl, rfl⟩
