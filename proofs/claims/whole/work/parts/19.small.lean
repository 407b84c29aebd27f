theorem dX3_append_0 : decode cX3_append 0 = .ok (.aload_n 0, 1) := by decide +kernel
theorem dX3_append_1 : decode cX3_append 1 = .ok (.getfield 18, 3) := by decide +kernel
theorem dX3_append_4 : decode cX3_append 4 = .ok (.bipush 6, 2) := by decide +kernel
theorem dX3_append_6 : decode cX3_append 6 = .ok (.if_icmp .lt 5, 3) := by decide +kernel
theorem dX3_append_9 : decode cX3_append 9 = .ok (.iconst 0, 1) := by decide +kernel
theorem dX3_append_10 : decode cX3_append 10 = .ok (.ireturn, 1) := by decide +kernel
theorem dX3_append_11 : decode cX3_append 11 = .ok (.aload_n 0, 1) := by decide +kernel
theorem dX3_append_12 : decode cX3_append 12 = .ok (.getfield 9, 3) := by decide +kernel
theorem dX3_append_15 : decode cX3_append 15 = .ok (.aload_n 0, 1) := by decide +kernel
theorem dX3_append_16 : decode cX3_append 16 = .ok (.getfield 18, 3) := by decide +kernel
theorem dX3_append_19 : decode cX3_append 19 = .ok (.iload_n 1, 1) := by decide +kernel
theorem dX3_append_20 : decode cX3_append 20 = .ok (.iastore, 1) := by decide +kernel
theorem dX3_append_21 : decode cX3_append 21 = .ok (.aload_n 0, 1) := by decide +kernel
theorem dX3_append_22 : decode cX3_append 22 = .ok (.getfield 15, 3) := by decide +kernel
theorem dX3_append_25 : decode cX3_append 25 = .ok (.aload_n 0, 1) := by decide +kernel
theorem dX3_append_26 : decode cX3_append 26 = .ok (.getfield 18, 3) := by decide +kernel
theorem dX3_append_29 : decode cX3_append 29 = .ok (.iload_n 2, 1) := by decide +kernel
theorem dX3_append_30 : decode cX3_append 30 = .ok (.iastore, 1) := by decide +kernel
theorem dX3_append_31 : decode cX3_append 31 = .ok (.aload_n 0, 1) := by decide +kernel
theorem dX3_append_32 : decode cX3_append 32 = .ok (.dup, 1) := by decide +kernel
theorem dX3_append_33 : decode cX3_append 33 = .ok (.getfield 18, 3) := by decide +kernel
theorem dX3_append_36 : decode cX3_append 36 = .ok (.iconst 1, 1) := by decide +kernel
theorem dX3_append_37 : decode cX3_append 37 = .ok (.iadd, 1) := by decide +kernel
theorem dX3_append_38 : decode cX3_append 38 = .ok (.putfield 18, 3) := by decide +kernel
theorem dX3_append_41 : decode cX3_append 41 = .ok (.iconst 1, 1) := by decide +kernel
theorem dX3_append_42 : decode cX3_append 42 = .ok (.ireturn, 1) := by decide +kernel
theorem dX3_lastHour_0 : decode cX3_lastHour 0 = .ok (.iconst 0, 1) := by decide +kernel
theorem dX3_lastHour_1 : decode cX3_lastHour 1 = .ok (.istore_n 1, 1) := by decide +kernel
theorem dX3_lastHour_2 : decode cX3_lastHour 2 = .ok (.iconst 0, 1) := by decide +kernel
theorem dX3_lastHour_3 : decode cX3_lastHour 3 = .ok (.istore_n 2, 1) := by decide +kernel
theorem dX3_lastHour_4 : decode cX3_lastHour 4 = .ok (.iload_n 2, 1) := by decide +kernel
theorem dX3_lastHour_5 : decode cX3_lastHour 5 = .ok (.aload_n 0, 1) := by decide +kernel
theorem dX3_lastHour_6 : decode cX3_lastHour 6 = .ok (.getfield 18, 3) := by decide +kernel
theorem dX3_lastHour_9 : decode cX3_lastHour 9 = .ok (.if_icmp .ge 20, 3) := by decide +kernel
theorem dX3_lastHour_12 : decode cX3_lastHour 12 = .ok (.iload_n 1, 1) := by decide +kernel
theorem dX3_lastHour_13 : decode cX3_lastHour 13 = .ok (.aload_n 0, 1) := by decide +kernel
theorem dX3_lastHour_14 : decode cX3_lastHour 14 = .ok (.getfield 9, 3) := by decide +kernel
theorem dX3_lastHour_17 : decode cX3_lastHour 17 = .ok (.iload_n 2, 1) := by decide +kernel
theorem dX3_lastHour_18 : decode cX3_lastHour 18 = .ok (.iaload, 1) := by decide +kernel
theorem dX3_lastHour_19 : decode cX3_lastHour 19 = .ok (.invokestatic 22, 3) := by decide +kernel
theorem dX3_lastHour_22 : decode cX3_lastHour 22 = .ok (.istore_n 1, 1) := by decide +kernel
theorem dX3_lastHour_23 : decode cX3_lastHour 23 = .ok (.iinc 2 1, 3) := by decide +kernel
theorem dX3_lastHour_26 : decode cX3_lastHour 26 = .ok (.goto (-22), 3) := by decide +kernel
theorem dX3_lastHour_29 : decode cX3_lastHour 29 = .ok (.iload_n 1, 1) := by decide +kernel
theorem dX3_lastHour_30 : decode cX3_lastHour 30 = .ok (.ireturn, 1) := by decide +kernel
theorem dX4_renew_0 : decode cX4_renew 0 = .ok (.aload_n 0, 1) := by decide +kernel
theorem dX4_renew_1 : decode cX4_renew 1 = .ok (.iload_n 1, 1) := by decide +kernel
theorem dX4_renew_2 : decode cX4_renew 2 = .ok (.putfield 15, 3) := by decide +kernel
theorem dX4_renew_5 : decode cX4_renew 5 = .ok (.aload_n 0, 1) := by decide +kernel
theorem dX4_renew_6 : decode cX4_renew 6 = .ok (.iload_n 2, 1) := by decide +kernel
theorem dX4_renew_7 : decode cX4_renew 7 = .ok (.aload_n 0, 1) := by decide +kernel
theorem dX4_renew_8 : decode cX4_renew 8 = .ok (.getfield 9, 3) := by decide +kernel
theorem dX4_renew_11 : decode cX4_renew 11 = .ok (.arraylength, 1) := by decide +kernel
theorem dX4_renew_12 : decode cX4_renew 12 = .ok (.invokestatic 22, 3) := by decide +kernel
theorem dX4_renew_15 : decode cX4_renew 15 = .ok (.putfield 19, 3) := by decide +kernel
theorem dX4_renew_18 : decode cX4_renew 18 = .ok (.iconst 0, 1) := by decide +kernel
theorem dX4_renew_19 : decode cX4_renew 19 = .ok (.istore_n 3, 1) := by decide +kernel
theorem dX4_renew_20 : decode cX4_renew 20 = .ok (.iload_n 3, 1) := by decide +kernel
theorem dX4_renew_21 : decode cX4_renew 21 = .ok (.aload_n 0, 1) := by decide +kernel
theorem dX4_renew_22 : decode cX4_renew 22 = .ok (.getfield 9, 3) := by decide +kernel
theorem dX4_renew_25 : decode cX4_renew 25 = .ok (.arraylength, 1) := by decide +kernel
theorem dX4_renew_26 : decode cX4_renew 26 = .ok (.if_icmp .ge 16, 3) := by decide +kernel
theorem dX4_renew_29 : decode cX4_renew 29 = .ok (.aload_n 0, 1) := by decide +kernel
theorem dX4_renew_30 : decode cX4_renew 30 = .ok (.getfield 9, 3) := by decide +kernel
theorem dX4_renew_33 : decode cX4_renew 33 = .ok (.iload_n 3, 1) := by decide +kernel
theorem dX4_renew_34 : decode cX4_renew 34 = .ok (.iconst 0, 1) := by decide +kernel
theorem dX4_renew_35 : decode cX4_renew 35 = .ok (.iastore, 1) := by decide +kernel
theorem dX4_renew_36 : decode cX4_renew 36 = .ok (.iinc 3 1, 3) := by decide +kernel
theorem dX4_renew_39 : decode cX4_renew 39 = .ok (.goto (-19), 3) := by decide +kernel
theorem dX4_renew_42 : decode cX4_renew 42 = .ok (.return_, 1) := by decide +kernel
theorem dX4_faultAt_0 : decode cX4_faultAt 0 = .ok (.aload_n 0, 1) := by decide +kernel
theorem dX4_faultAt_1 : decode cX4_faultAt 1 = .ok (.getfield 15, 3) := by decide +kernel
theorem dX4_faultAt_4 : decode cX4_faultAt 4 = .ok (.iconst (-1), 1) := by decide +kernel
theorem dX4_faultAt_5 : decode cX4_faultAt 5 = .ok (.if_icmp .ne 5, 3) := by decide +kernel
theorem dX4_faultAt_8 : decode cX4_faultAt 8 = .ok (.iconst 1, 1) := by decide +kernel
theorem dX4_faultAt_9 : decode cX4_faultAt 9 = .ok (.ireturn, 1) := by decide +kernel
theorem dX4_faultAt_10 : decode cX4_faultAt 10 = .ok (.iload_n 1, 1) := by decide +kernel
theorem dX4_faultAt_11 : decode cX4_faultAt 11 = .ok (.iconst 0, 1) := by decide +kernel
theorem dX4_faultAt_12 : decode cX4_faultAt 12 = .ok (.aload_n 0, 1) := by decide +kernel
theorem dX4_faultAt_13 : decode cX4_faultAt 13 = .ok (.getfield 19, 3) := by decide +kernel
theorem dX4_faultAt_16 : decode cX4_faultAt 16 = .ok (.iconst 1, 1) := by decide +kernel
theorem dX4_faultAt_17 : decode cX4_faultAt 17 = .ok (.isub, 1) := by decide +kernel
theorem dX4_faultAt_18 : decode cX4_faultAt 18 = .ok (.invokestatic 28, 3) := by decide +kernel
theorem dX4_faultAt_21 : decode cX4_faultAt 21 = .ok (.ifCond .eq 7, 3) := by decide +kernel
theorem dX4_faultAt_24 : decode cX4_faultAt 24 = .ok (.iconst 0, 1) := by decide +kernel
theorem dX4_faultAt_25 : decode cX4_faultAt 25 = .ok (.goto 4, 3) := by decide +kernel
theorem dX4_faultAt_28 : decode cX4_faultAt 28 = .ok (.iconst 2, 1) := by decide +kernel
theorem dX4_faultAt_29 : decode cX4_faultAt 29 = .ok (.ireturn, 1) := by decide +kernel
theorem dX4_faultAs_0 : decode cX4_faultAs 0 = .ok (.aload_n 0, 1) := by decide +kernel
theorem dX4_faultAs_1 : decode cX4_faultAs 1 = .ok (.getfield 15, 3) := by decide +kernel
theorem dX4_faultAs_4 : decode cX4_faultAs 4 = .ok (.iconst (-1), 1) := by decide +kernel
theorem dX4_faultAs_5 : decode cX4_faultAs 5 = .ok (.if_icmp .eq 11, 3) := by decide +kernel
theorem dX4_faultAs_8 : decode cX4_faultAs 8 = .ok (.aload_n 0, 1) := by decide +kernel
theorem dX4_faultAs_9 : decode cX4_faultAs 9 = .ok (.getfield 15, 3) := by decide +kernel
theorem dX4_faultAs_12 : decode cX4_faultAs 12 = .ok (.iload_n 1, 1) := by decide +kernel
theorem dX4_faultAs_13 : decode cX4_faultAs 13 = .ok (.if_icmp .ne 11, 3) := by decide +kernel
theorem dX4_faultAs_16 : decode cX4_faultAs 16 = .ok (.aload_n 0, 1) := by decide +kernel
theorem dX4_faultAs_17 : decode cX4_faultAs 17 = .ok (.iload_n 2, 1) := by decide +kernel
theorem dX4_faultAs_18 : decode cX4_faultAs 18 = .ok (.invokevirtual 32, 3) := by decide +kernel
theorem dX4_faultAs_21 : decode cX4_faultAs 21 = .ok (.goto 4, 3) := by decide +kernel
theorem dX4_faultAs_24 : decode cX4_faultAs 24 = .ok (.iconst 3, 1) := by decide +kernel
theorem dX4_faultAs_25 : decode cX4_faultAs 25 = .ok (.ireturn, 1) := by decide +kernel
theorem dX4_write_0 : decode cX4_write 0 = .ok (.iload_n 1, 1) := by decide +kernel
theorem dX4_write_1 : decode cX4_write 1 = .ok (.iconst 0, 1) := by decide +kernel
theorem dX4_write_2 : decode cX4_write 2 = .ok (.aload_n 0, 1) := by decide +kernel
theorem dX4_write_3 : decode cX4_write 3 = .ok (.getfield 19, 3) := by decide +kernel
theorem dX4_write_6 : decode cX4_write 6 = .ok (.iconst 1, 1) := by decide +kernel
theorem dX4_write_7 : decode cX4_write 7 = .ok (.isub, 1) := by decide +kernel
theorem dX4_write_8 : decode cX4_write 8 = .ok (.invokestatic 28, 3) := by decide +kernel
theorem dX4_write_11 : decode cX4_write 11 = .ok (.ifCond .eq 35, 3) := by decide +kernel
theorem dX4_write_14 : decode cX4_write 14 = .ok (.aload_n 0, 1) := by decide +kernel
theorem dX4_write_15 : decode cX4_write 15 = .ok (.getfield 9, 3) := by decide +kernel
theorem dX4_write_18 : decode cX4_write 18 = .ok (.iload_n 1, 1) := by decide +kernel
theorem dX4_write_19 : decode cX4_write 19 = .ok (.aload_n 0, 1) := by decide +kernel
theorem dX4_write_20 : decode cX4_write 20 = .ok (.getfield 15, 3) := by decide +kernel
theorem dX4_write_23 : decode cX4_write 23 = .ok (.ifCond .ne 8, 3) := by decide +kernel
theorem dX4_write_26 : decode cX4_write 26 = .ok (.iload_n 2, 1) := by decide +kernel
theorem dX4_write_27 : decode cX4_write 27 = .ok (.i2b, 1) := by decide +kernel
theorem dX4_write_28 : decode cX4_write 28 = .ok (.goto 17, 3) := by decide +kernel
theorem dX4_write_31 : decode cX4_write 31 = .ok (.aload_n 0, 1) := by decide +kernel
theorem dX4_write_32 : decode cX4_write 32 = .ok (.getfield 15, 3) := by decide +kernel
theorem dX4_write_35 : decode cX4_write 35 = .ok (.iconst 1, 1) := by decide +kernel
theorem dX4_write_36 : decode cX4_write 36 = .ok (.if_icmp .ne 8, 3) := by decide +kernel
theorem dX4_write_39 : decode cX4_write 39 = .ok (.iload_n 2, 1) := by decide +kernel
theorem dX4_write_40 : decode cX4_write 40 = .ok (.i2s, 1) := by decide +kernel
theorem dX4_write_41 : decode cX4_write 41 = .ok (.goto 4, 3) := by decide +kernel
theorem dX4_write_44 : decode cX4_write 44 = .ok (.iload_n 2, 1) := by decide +kernel
theorem dX4_write_45 : decode cX4_write 45 = .ok (.iastore, 1) := by decide +kernel
theorem dX4_write_46 : decode cX4_write 46 = .ok (.return_, 1) := by decide +kernel
theorem dX5_append_0 : decode cX5_append 0 = .ok (.aload_n 0, 1) := by decide +kernel
theorem dX5_append_1 : decode cX5_append 1 = .ok (.getfield 15, 3) := by decide +kernel
theorem dX5_append_4 : decode cX5_append 4 = .ok (.aload_n 0, 1) := by decide +kernel
theorem dX5_append_5 : decode cX5_append 5 = .ok (.getfield 9, 3) := by decide +kernel
theorem dX5_append_8 : decode cX5_append 8 = .ok (.arraylength, 1) := by decide +kernel
theorem dX5_append_9 : decode cX5_append 9 = .ok (.if_icmp .lt 5, 3) := by decide +kernel
theorem dX5_append_12 : decode cX5_append 12 = .ok (.iconst 0, 1) := by decide +kernel
theorem dX5_append_13 : decode cX5_append 13 = .ok (.ireturn, 1) := by decide +kernel
theorem dX5_append_14 : decode cX5_append 14 = .ok (.aload_n 0, 1) := by decide +kernel
theorem dX5_append_15 : decode cX5_append 15 = .ok (.getfield 9, 3) := by decide +kernel
theorem dX5_append_18 : decode cX5_append 18 = .ok (.aload_n 0, 1) := by decide +kernel
theorem dX5_append_19 : decode cX5_append 19 = .ok (.getfield 15, 3) := by decide +kernel
theorem dX5_append_22 : decode cX5_append 22 = .ok (.iload_n 1, 1) := by decide +kernel
theorem dX5_append_23 : decode cX5_append 23 = .ok (.i2b, 1) := by decide +kernel
theorem dX5_append_24 : decode cX5_append 24 = .ok (.bastore, 1) := by decide +kernel
theorem dX5_append_25 : decode cX5_append 25 = .ok (.aload_n 0, 1) := by decide +kernel
theorem dX5_append_26 : decode cX5_append 26 = .ok (.dup, 1) := by decide +kernel
theorem dX5_append_27 : decode cX5_append 27 = .ok (.getfield 15, 3) := by decide +kernel
theorem dX5_append_30 : decode cX5_append 30 = .ok (.iconst 1, 1) := by decide +kernel
theorem dX5_append_31 : decode cX5_append 31 = .ok (.iadd, 1) := by decide +kernel
theorem dX5_append_32 : decode cX5_append 32 = .ok (.putfield 15, 3) := by decide +kernel
theorem dX5_append_35 : decode cX5_append 35 = .ok (.iconst 1, 1) := by decide +kernel
theorem dX5_append_36 : decode cX5_append 36 = .ok (.ireturn, 1) := by decide +kernel
theorem dX5_byteAt_0 : decode cX5_byteAt 0 = .ok (.iload_n 1, 1) := by decide +kernel
theorem dX5_byteAt_1 : decode cX5_byteAt 1 = .ok (.ifCond .lt 29, 3) := by decide +kernel
theorem dX5_byteAt_4 : decode cX5_byteAt 4 = .ok (.iload_n 1, 1) := by decide +kernel
theorem dX5_byteAt_5 : decode cX5_byteAt 5 = .ok (.aload_n 0, 1) := by decide +kernel
theorem dX5_byteAt_6 : decode cX5_byteAt 6 = .ok (.getfield 15, 3) := by decide +kernel
theorem dX5_byteAt_9 : decode cX5_byteAt 9 = .ok (.if_icmp .ge 21, 3) := by decide +kernel
theorem dX5_byteAt_12 : decode cX5_byteAt 12 = .ok (.iload_n 1, 1) := by decide +kernel
theorem dX5_byteAt_13 : decode cX5_byteAt 13 = .ok (.aload_n 0, 1) := by decide +kernel
theorem dX5_byteAt_14 : decode cX5_byteAt 14 = .ok (.getfield 9, 3) := by decide +kernel
theorem dX5_byteAt_17 : decode cX5_byteAt 17 = .ok (.arraylength, 1) := by decide +kernel
theorem dX5_byteAt_18 : decode cX5_byteAt 18 = .ok (.if_icmp .ge 12, 3) := by decide +kernel
theorem dX5_byteAt_21 : decode cX5_byteAt 21 = .ok (.aload_n 0, 1) := by decide +kernel
theorem dX5_byteAt_22 : decode cX5_byteAt 22 = .ok (.getfield 9, 3) := by decide +kernel
theorem dX5_byteAt_25 : decode cX5_byteAt 25 = .ok (.iload_n 1, 1) := by decide +kernel
theorem dX5_byteAt_26 : decode cX5_byteAt 26 = .ok (.baload, 1) := by decide +kernel
theorem dX5_byteAt_27 : decode cX5_byteAt 27 = .ok (.goto 4, 3) := by decide +kernel
theorem dX5_byteAt_30 : decode cX5_byteAt 30 = .ok (.iconst (-1), 1) := by decide +kernel
theorem dX5_byteAt_31 : decode cX5_byteAt 31 = .ok (.ireturn, 1) := by decide +kernel
/-! ===== Seen, Sheet, Tape ===== -/
def wN (a b : Nat → Nat) (m : Nat) : jW := [.inr (3, [.ref 1, .ref 2, .int (nI m)]), .inl (0, 6, .inl (fun j => nI (a j))), .inl (0, 6, .inl (fun j => nI (b j)))]
def wS (c : Nat → Int32) (lane : Int32) (len : Nat) : jW := [.inr (4, [.ref 1, .int lane, .int (nI len)]), .inl (0, 40, .inl c)]
def wT (b : Nat → Nat) (len : Nat) : jW := [.inr (5, [.ref 1, .int (nI len)]), .inl (2, 160, .inl (fun j => nI (b j)))]
def mxs (a : Nat → Nat) : Nat → Nat
  | 0 => 0
  | n + 1 => max (mxs a n) (a n)
def fat (lane : Int32) (len : Nat) (i : Int32) : Int32 := if lane = -1 then 1 else if 0 ≤ i ∧ i ≤ nI len - 1 then 0 else 2
def fas (lane : Int32) (len : Nat) (l i : Int32) : Int32 := if lane = -1 ∨ lane = l then fat lane len i else 3
def cnv (lane v : Int32) : Int32 := if lane = 0 then v.toInt8.toInt32 else if lane = 1 then v.toInt16.toInt32 else v
set_option maxRecDepth 100000 in
set_option maxHeartbeats 4000000 in
theorem mX3_append (a b : Nat → Nat) (m n k : Nat) (hm : m < 6) : J KX3_append 3 (fun o B => o = some (.int 1) ∧ B = wN (fun j => if j = m then n else a j) (fun j => if j = m then k else b j) (m + 1)) 0 [some (.ref 0), some (.int (nI n)), some (.int (nI k))] [] (wN a b m) 0 0 := by
  unfold wN
  refine J.aload_n dX3_append_0 rfl rfl ?_
  refine J.getfield dX3_append_1 jFX3_18 rfl rfl ?_
  refine J.bipush (6) dX3_append_4 (by decide) ?_
  refine J.icmp_lt (tgt := 11) dX3_append_6 (by decide) (fun c6 => ?_) (fun c6 => absurd c6 (fun h => h ((nI_lti (b := 6) (by omega) (by decide)).mpr hm)))
  refine J.aload_n dX3_append_11 rfl rfl ?_
  refine J.getfield dX3_append_12 jFX3_9 rfl rfl ?_
  refine J.aload_n dX3_append_15 rfl rfl ?_
  refine J.getfield dX3_append_16 jFX3_18 rfl rfl ?_
  refine J.iload_n dX3_append_19 rfl rfl ?_
  refine J.iastoreN dX3_append_20 rfl hm ?_
  rw [upd_nI]
  try dsimp only [List.set, wN, wS, wT]
  refine J.aload_n dX3_append_21 rfl rfl ?_
  refine J.getfield dX3_append_22 jFX3_15 rfl rfl ?_
  refine J.aload_n dX3_append_25 rfl rfl ?_
  refine J.getfield dX3_append_26 jFX3_18 rfl rfl ?_
  refine J.iload_n dX3_append_29 rfl rfl ?_
  refine J.iastoreN dX3_append_30 rfl hm ?_
  rw [upd_nI]
  try dsimp only [List.set, wN, wS, wT]
  refine J.aload_n dX3_append_31 rfl rfl ?_
  refine J.dup dX3_append_32 rfl ?_
  refine J.getfield dX3_append_33 jFX3_18 rfl rfl ?_
  refine J.iconst (1) dX3_append_36 (by decide) ?_
  refine J.iadd dX3_append_37 ?_
  rw [nI_1]
  refine J.putfield dX3_append_38 jFX3_18 jP3_2 rfl rfl rfl (Nat.le_of_ble_eq_true rfl) ?_
  try dsimp only [List.set, wN, wS, wT]
  refine J.iconst (1) dX3_append_41 (by decide) ?_
  exact J.iret dX3_append_42 rfl (by decide) (Nat.le_refl _) (Nat.le_refl _) ⟨rfl, rfl⟩
set_option maxRecDepth 100000 in
set_option maxHeartbeats 4000000 in
theorem mX3_append6 (a b : Nat → Nat) (n k : Nat) : J KX3_append 3 (fun o B => o = some (.int 0) ∧ B = wN a b 6) 0 [some (.ref 0), some (.int (nI n)), some (.int (nI k))] [] (wN a b 6) 0 0 := by
  refine J.aload_n dX3_append_0 rfl rfl ?_
  refine J.getfield dX3_append_1 jFX3_18 rfl rfl ?_
  refine J.bipush (6) dX3_append_4 (by decide) ?_
  refine J.icmp_lt (tgt := 11) dX3_append_6 (by decide) (fun c6 => absurd c6 (by decide)) (fun c6 => ?_)
  refine J.iconst (0) dX3_append_9 (by decide) ?_
  exact J.iret dX3_append_10 rfl (by decide) (Nat.le_refl _) (Nat.le_refl _) ⟨rfl, rfl⟩
theorem mxs_le {a : Nat → Nat} {c : Nat} (h : ∀ i, a i ≤ c) : ∀ n, mxs a n ≤ c
  | 0 => Nat.zero_le _
  | n + 1 => by have := mxs_le h n; have := h n; simp only [mxs]; omega
set_option maxRecDepth 100000 in
set_option maxHeartbeats 4000000 in
theorem mX3_lastHour_l (a b : Nat → Nat) (m : Nat) (hm : m ≤ 6) (ha : ∀ i, a i ≤ 100) : ∀ (k9 i : Nat), i + k9 = m → J KX3_lastHour 3 (fun o B => o = some (.int (nI (mxs a m))) ∧ B = wN a b m) 4 [some (.ref 0), some (.int (nI (mxs a i))), some (.int (nI i))] [] (wN a b m) 0 0 := by
  intro k9
  induction k9 with
  | zero =>
    intro i hi
    obtain hiN : i = m := by omega
    subst hiN
    refine J.iload_n dX3_lastHour_4 rfl rfl ?_
    refine J.aload_n dX3_lastHour_5 rfl rfl ?_
    refine J.getfield dX3_lastHour_6 jFX3_18 rfl rfl ?_
    refine J.icmp_ge (tgt := 29) dX3_lastHour_9 (by decide) (fun c9 => ?_) (fun c9 => absurd c9 (fun h => h (Int32.le_refl _)))
    refine J.iload_n dX3_lastHour_29 rfl rfl ?_
    exact J.iret dX3_lastHour_30 rfl rfl (Nat.le_refl _) (Nat.le_refl _) ⟨rfl, rfl⟩
  | succ k9 ih =>
    intro i hi
    have hiN : i < m := by omega
    refine J.iload_n dX3_lastHour_4 rfl rfl ?_
    refine J.aload_n dX3_lastHour_5 rfl rfl ?_
    refine J.getfield dX3_lastHour_6 jFX3_18 rfl rfl ?_
    refine J.icmp_ge (tgt := 29) dX3_lastHour_9 (by decide) (fun c9 => absurd c9 (nI_ge hiN (by omega))) (fun c9 => ?_)
    refine J.iload_n dX3_lastHour_12 rfl rfl ?_
    refine J.aload_n dX3_lastHour_13 rfl rfl ?_
    refine J.getfield dX3_lastHour_14 jFX3_9 rfl rfl ?_
    refine J.iload_n dX3_lastHour_17 rfl rfl ?_
    refine J.ialoadN dX3_lastHour_18 rfl (show i < 6 by omega) ?_
    refine J.mmax dX3_lastHour_19 (jt 701 rfl rfl) rfl ?_
    rw [nI_max (by have := mxs_le ha i; omega) (by have := ha i; omega)]
    refine J.istore_n dX3_lastHour_22 rfl (by decide) rfl ?_
    try dsimp only [List.set, wN, wS, wT]
    refine J.iinc (1) dX3_lastHour_23 (by decide) rfl (by decide) rfl ?_
    try dsimp only [List.set, wN, wS, wT]
    refine J.goto (tgt := 4) dX3_lastHour_26 (by decide) ?_
    exact J.at (ih (i + 1) (by omega)) (by rw [← nI_1, mxs]) rfl rfl
set_option maxRecDepth 100000 in
set_option maxHeartbeats 4000000 in
theorem mX3_lastHour (a b : Nat → Nat) (m : Nat) (hm : m ≤ 6) (ha : ∀ i, a i ≤ 100) : J KX3_lastHour 3 (fun o B => o = some (.int (nI (mxs a m))) ∧ B = wN a b m) 0 [some (.ref 0), none, none] [] (wN a b m) 0 0 := by
  refine J.iconst (0) dX3_lastHour_0 (by decide) ?_
  refine J.istore_n dX3_lastHour_1 rfl (by decide) rfl ?_
  try dsimp only [List.set, wN, wS, wT]
  refine J.iconst (0) dX3_lastHour_2 (by decide) ?_
  refine J.istore_n dX3_lastHour_3 rfl (by decide) rfl ?_
  try dsimp only [List.set, wN, wS, wT]
  exact mX3_lastHour_l a b m hm ha m 0 (by omega)
set_option maxRecDepth 100000 in
set_option maxHeartbeats 4000000 in
theorem mX4_renew_l (c : Nat → Int32) (l : Int32) (n : Nat) : ∀ (k9 i : Nat), i + k9 = 40 → J KX4_renew 2 (fun o B => o = none ∧ B = wS (fun _ => 0) l n) 20 [some (.ref 0), some (.int l), some (.int (nI n)), some (.int (nI i))] [] (wS (fun j => if j < i then 0 else c j) l n) 0 0 := by
  intro k9
  induction k9 with
  | zero =>
    intro i hi
    obtain hiN : i = 40 := by omega
    subst hiN
    refine J.iload_n dX4_renew_20 rfl rfl ?_
    refine J.aload_n dX4_renew_21 rfl rfl ?_
    refine J.getfield dX4_renew_22 jFX4_9 rfl rfl ?_
    refine J.arraylength dX4_renew_25 rfl (by decide) ?_
    refine J.icmp_ge (tgt := 42) dX4_renew_26 (by decide) (fun c26 => ?_) (fun c26 => absurd c26 (fun h => h (show nI 40 ≤ nI 40 from Int32.le_refl _)))
    refine J.arrI 1 0 (fun _ => 0) rfl (fun j hj => if_pos hj) ?_
    exact J.vret dX4_renew_42 rfl (Nat.le_refl _) (Nat.le_refl _) ⟨rfl, rfl⟩
  | succ k9 ih =>
    intro i hi
    have hiN : i < 40 := by omega
    refine J.iload_n dX4_renew_20 rfl rfl ?_
    refine J.aload_n dX4_renew_21 rfl rfl ?_
    refine J.getfield dX4_renew_22 jFX4_9 rfl rfl ?_
    refine J.arraylength dX4_renew_25 rfl (by decide) ?_
    refine J.icmp_ge (tgt := 42) dX4_renew_26 (by decide) (fun c26 => absurd c26 (nI_ge (b := 40) hiN (by decide))) (fun c26 => ?_)
    refine J.aload_n dX4_renew_29 rfl rfl ?_
    refine J.getfield dX4_renew_30 jFX4_9 rfl rfl ?_
    refine J.iload_n dX4_renew_33 rfl rfl ?_
    refine J.iconst (0) dX4_renew_34 (by decide) ?_
    refine J.iastoreN dX4_renew_35 rfl hiN ?_
    try dsimp only [List.set, wN, wS, wT]
    refine J.iinc (1) dX4_renew_36 (by decide) rfl (by decide) rfl ?_
    try dsimp only [List.set, wN, wS, wT]
    refine J.goto (tgt := 20) dX4_renew_39 (by decide) ?_
    refine J.at (ih (i + 1) (by omega)) (by rw [← nI_1]) rfl ?_
    have e9 : upd (fun j => if j < i then 0 else c j) i 0 = fun j => if j < i + 1 then 0 else c j := (jlt_s (fun _ => (0 : Int32)) c i)
    rw [e9]
    rfl
set_option maxRecDepth 100000 in
set_option maxHeartbeats 4000000 in
theorem mX4_renew (c : Nat → Int32) (l0 l : Int32) (len n : Nat) (hn : n ≤ 40) : J KX4_renew 2 (fun o B => o = none ∧ B = wS (fun _ => 0) l n) 0 [some (.ref 0), some (.int l), some (.int (nI n)), none] [] (wS c l0 len) 0 0 := by
  unfold wS
  refine J.aload_n dX4_renew_0 rfl rfl ?_
  refine J.iload_n dX4_renew_1 rfl rfl ?_
  refine J.putfield dX4_renew_2 jFX4_15 jP4_1 rfl rfl rfl (Nat.le_of_ble_eq_true rfl) ?_
  try dsimp only [List.set, wN, wS, wT]
  refine J.aload_n dX4_renew_5 rfl rfl ?_
  refine J.iload_n dX4_renew_6 rfl rfl ?_
  refine J.aload_n dX4_renew_7 rfl rfl ?_
  refine J.getfield dX4_renew_8 jFX4_9 rfl rfl ?_
  refine J.arraylength dX4_renew_11 rfl (by decide) ?_
  refine J.mmin dX4_renew_12 (jt 736 rfl rfl) rfl ?_
  rw [show (Int32.ofNat 40) = nI 40 from rfl, show (if nI 40 < nI n then nI 40 else nI n) = nI n from if_neg (fun h => absurd ((nI_lti (by decide) (by omega)).mp h) (by omega))]
  refine J.putfield dX4_renew_15 jFX4_19 jP4_2 rfl rfl rfl (Nat.le_of_ble_eq_true rfl) ?_
  try dsimp only [List.set, wN, wS, wT]
  refine J.iconst (0) dX4_renew_18 (by decide) ?_
  refine J.istore_n dX4_renew_19 rfl (by decide) rfl ?_
  try dsimp only [List.set, wN, wS, wT]
  exact J.at (mX4_renew_l c l n 40 0 (by omega)) rfl rfl (by simp only [Nat.not_lt_zero, if_false] <;> rfl)
set_option maxRecDepth 100000 in
set_option maxHeartbeats 4000000 in
theorem mX4_faultAt (c : Nat → Int32) (lane : Int32) (len : Nat) (i : Int32) : J KX4_faultAt 2 (fun o B => o = some (.int (fat lane len i)) ∧ B = wS c lane len) 0 [some (.ref 0), some (.int i)] [] (wS c lane len) 0 0 := by
  refine J.aload_n dX4_faultAt_0 rfl rfl ?_
  refine J.getfield dX4_faultAt_1 jFX4_15 rfl rfl ?_
  refine J.iconst (-1) dX4_faultAt_4 (by decide) ?_
  refine J.icmp_ne (tgt := 10) dX4_faultAt_5 (by decide) (fun c5 => ?_) (fun c5 => ?_)
  · refine J.iload_n dX4_faultAt_10 rfl rfl ?_
    refine J.iconst (0) dX4_faultAt_11 (by decide) ?_
    refine J.aload_n dX4_faultAt_12 rfl rfl ?_
    refine J.getfield dX4_faultAt_13 jFX4_19 rfl rfl ?_
    refine J.iconst (1) dX4_faultAt_16 (by decide) ?_
    refine J.isub dX4_faultAt_17 ?_
    refine J.cs (as := [.int _, .int _, .int _]) (is := []) okX6_within jcX4_28 (mX6_within _ _ _) dX4_faultAt_18 rfl rfl rfl rfl rfl rfl (fun r9 B9 hq => ?_)
    obtain ⟨rfl, rfl⟩ := hq
    refine ⟨rfl, ?_⟩
    show J _ _ _ _ _ (.int _ :: _) (wS c lane len) _ _
    refine J.if_eq (tgt := 28) dX4_faultAt_21 (by decide) (fun c21 => ?_) (fun c21 => ?_)
    · refine J.iconst (2) dX4_faultAt_28 (by decide) ?_
      exact J.iret dX4_faultAt_29 rfl rfl (Nat.le_refl _) (Nat.le_refl _) ⟨congrArg (fun x => some (Value.int x)) (by first | exact ((if_neg c5).trans (if_neg ((jB_0 _).mp c21))).symm | exact ((if_neg c5).trans (if_pos (Decidable.not_not.mp (fun h => c21 ((jB_0 _).mpr h))))).symm), rfl⟩
    · refine J.iconst (0) dX4_faultAt_24 (by decide) ?_
      refine J.goto (tgt := 29) dX4_faultAt_25 (by decide) ?_
      exact J.iret dX4_faultAt_29 rfl rfl (Nat.le_refl _) (Nat.le_refl _) ⟨congrArg (fun x => some (Value.int x)) (by first | exact ((if_neg c5).trans (if_neg ((jB_0 _).mp c21))).symm | exact ((if_neg c5).trans (if_pos (Decidable.not_not.mp (fun h => c21 ((jB_0 _).mpr h))))).symm), rfl⟩
  · refine J.iconst (1) dX4_faultAt_8 (by decide) ?_
    exact J.iret dX4_faultAt_9 rfl rfl (Nat.le_refl _) (Nat.le_refl _) ⟨congrArg (fun x => some (Value.int x)) ((if_pos c5).symm), rfl⟩
set_option maxRecDepth 100000 in
set_option maxHeartbeats 4000000 in
theorem mX4_faultAs (c : Nat → Int32) (lane : Int32) (len : Nat) (l i : Int32) : J KX4_faultAs 2 (fun o B => o = some (.int (fas lane len l i)) ∧ B = wS c lane len) 0 [some (.ref 0), some (.int l), some (.int i)] [] (wS c lane len) 0 0 := by
  refine J.aload_n dX4_faultAs_0 rfl rfl ?_
  refine J.getfield dX4_faultAs_1 jFX4_15 rfl rfl ?_
  refine J.iconst (-1) dX4_faultAs_4 (by decide) ?_
  refine J.icmp_eq (tgt := 16) dX4_faultAs_5 (by decide) (fun c5 => ?_) (fun c5 => ?_)
  · refine J.aload_n dX4_faultAs_16 rfl rfl ?_
    refine J.iload_n dX4_faultAs_17 rfl rfl ?_
    refine J.cv (as := [.int _]) (is := [0, 1]) (o := 0) okX4_faultAt jcX4_32 (mX4_faultAt c lane len i) dX4_faultAs_18 rfl rfl rfl rfl rfl rfl rfl (fun r9 B9 hq => ?_)
    obtain ⟨rfl, rfl⟩ := hq
    refine ⟨rfl, ?_⟩
    show J _ _ _ _ _ (.int _ :: _) (wS c lane len) _ _
    refine J.goto (tgt := 25) dX4_faultAs_21 (by decide) ?_
    exact J.iret dX4_faultAs_25 rfl rfl (Nat.le_refl _) (Nat.le_refl _) ⟨congrArg (fun x => some (Value.int x)) (by first | exact (if_pos (Or.inl c5)).symm | exact (if_pos (Or.inr c13)).symm | exact (if_neg (fun h => h.elim c5 c13)).symm), rfl⟩
  · refine J.aload_n dX4_faultAs_8 rfl rfl ?_
    refine J.getfield dX4_faultAs_9 jFX4_15 rfl rfl ?_
    refine J.iload_n dX4_faultAs_12 rfl rfl ?_
    refine J.icmp_ne (tgt := 24) dX4_faultAs_13 (by decide) (fun c13 => ?_) (fun c13 => ?_)
    · refine J.iconst (3) dX4_faultAs_24 (by decide) ?_
      exact J.iret dX4_faultAs_25 rfl rfl (Nat.le_refl _) (Nat.le_refl _) ⟨congrArg (fun x => some (Value.int x)) (by first | exact (if_pos (Or.inl c5)).symm | exact (if_pos (Or.inr c13)).symm | exact (if_neg (fun h => h.elim c5 c13)).symm), rfl⟩
    · refine J.aload_n dX4_faultAs_16 rfl rfl ?_
      refine J.iload_n dX4_faultAs_17 rfl rfl ?_
      refine J.cv (as := [.int _]) (is := [0, 1]) (o := 0) okX4_faultAt jcX4_32 (mX4_faultAt c lane len i) dX4_faultAs_18 rfl rfl rfl rfl rfl rfl rfl (fun r9 B9 hq => ?_)
      obtain ⟨rfl, rfl⟩ := hq
      refine ⟨rfl, ?_⟩
      show J _ _ _ _ _ (.int _ :: _) (wS c lane len) _ _
      refine J.goto (tgt := 25) dX4_faultAs_21 (by decide) ?_
      exact J.iret dX4_faultAs_25 rfl rfl (Nat.le_refl _) (Nat.le_refl _) ⟨congrArg (fun x => some (Value.int x)) (by first | exact (if_pos (Or.inl c5)).symm | exact (if_pos (Or.inr c13)).symm | exact (if_neg (fun h => h.elim c5 c13)).symm), rfl⟩
set_option maxRecDepth 100000 in
set_option maxHeartbeats 4000000 in
theorem mX4_write (c : Nat → Int32) (lane : Int32) (len j : Nat) (v : Int32) (hj : j < len) (hl : len ≤ 40) : J KX4_write 2 (fun o B => o = none ∧ B = wS (upd c j (cnv lane v)) lane len) 0 [some (.ref 0), some (.int (nI j)), some (.int v)] [] (wS c lane len) 0 0 := by
  refine J.iload_n dX4_write_0 rfl rfl ?_
  refine J.iconst (0) dX4_write_1 (by decide) ?_
  refine J.aload_n dX4_write_2 rfl rfl ?_
  refine J.getfield dX4_write_3 jFX4_19 rfl rfl ?_
  refine J.iconst (1) dX4_write_6 (by decide) ?_
  refine J.isub dX4_write_7 ?_
  refine J.cs (as := [.int _, .int _, .int _]) (is := []) okX6_within jcX4_28 (mX6_within _ _ _) dX4_write_8 rfl rfl rfl rfl rfl rfl (fun r9 B9 hq => ?_)
  obtain ⟨rfl, rfl⟩ := hq
  refine ⟨rfl, ?_⟩
  show J _ _ _ _ _ (.int _ :: _) (wS c lane len) _ _
  refine J.if_eq (tgt := 46) dX4_write_11 (by decide) (fun c11 => absurd c11 (fun h => (jB_0 _).mp h (jin_ge (by omega) hj))) (fun c11 => ?_)
  refine J.aload_n dX4_write_14 rfl rfl ?_
  refine J.getfield dX4_write_15 jFX4_9 rfl rfl ?_
  refine J.iload_n dX4_write_18 rfl rfl ?_
  refine J.aload_n dX4_write_19 rfl rfl ?_
  refine J.getfield dX4_write_20 jFX4_15 rfl rfl ?_
  refine J.if_ne (tgt := 31) dX4_write_23 (by decide) (fun c23 => ?_) (fun c23 => ?_)
  · refine J.aload_n dX4_write_31 rfl rfl ?_
    refine J.getfield dX4_write_32 jFX4_15 rfl rfl ?_
    refine J.iconst (1) dX4_write_35 (by decide) ?_
    refine J.icmp_ne (tgt := 44) dX4_write_36 (by decide) (fun c36 => ?_) (fun c36 => ?_)
    · refine J.iload_n dX4_write_44 rfl rfl ?_
      refine J.iastoreN dX4_write_45 rfl (show j < 40 by omega) ?_
      try dsimp only [List.set, wN, wS, wT]
      exact J.vret dX4_write_46 rfl (Nat.le_refl _) (Nat.le_refl _) ⟨rfl, by (rw [show cnv lane v = _ from by (unfold cnv; first | exact if_pos c23 | exact (if_neg c23).trans (if_pos c36) | exact (if_neg c23).trans (if_neg c36))])⟩
    · refine J.iload_n dX4_write_39 rfl rfl ?_
      refine J.i2s dX4_write_40 ?_
      refine J.goto (tgt := 45) dX4_write_41 (by decide) ?_
      refine J.iastoreN dX4_write_45 rfl (show j < 40 by omega) ?_
      try dsimp only [List.set, wN, wS, wT]
      exact J.vret dX4_write_46 rfl (Nat.le_refl _) (Nat.le_refl _) ⟨rfl, by (rw [show cnv lane v = _ from by (unfold cnv; first | exact if_pos c23 | exact (if_neg c23).trans (if_pos c36) | exact (if_neg c23).trans (if_neg c36))])⟩
  · refine J.iload_n dX4_write_26 rfl rfl ?_
    refine J.i2b dX4_write_27 ?_
    refine J.goto (tgt := 45) dX4_write_28 (by decide) ?_
    refine J.iastoreN dX4_write_45 rfl (show j < 40 by omega) ?_
    try dsimp only [List.set, wN, wS, wT]
    exact J.vret dX4_write_46 rfl (Nat.le_refl _) (Nat.le_refl _) ⟨rfl, by (rw [show cnv lane v = _ from by (unfold cnv; first | exact if_pos c23 | exact (if_neg c23).trans (if_pos c36) | exact (if_neg c23).trans (if_neg c36))])⟩
theorem byt_eval : ∀ x, x < 128 → vp_nar .byte ((nI x).toInt8.toInt32) = nI x := by decide +kernel
set_option maxRecDepth 100000 in
set_option maxHeartbeats 4000000 in
theorem mX5_append (b : Nat → Nat) (len x : Nat) (hl : len < 160) (hx : x < 128) : J KX5_append 2 (fun o B => o = some (.int 1) ∧ B = wT (fun j => if j = len then x else b j) (len + 1)) 0 [some (.ref 0), some (.int (nI x))] [] (wT b len) 0 0 := by
  unfold wT
  refine J.aload_n dX5_append_0 rfl rfl ?_
  refine J.getfield dX5_append_1 jFX5_15 rfl rfl ?_
  refine J.aload_n dX5_append_4 rfl rfl ?_
  refine J.getfield dX5_append_5 jFX5_9 rfl rfl ?_
  refine J.arraylength dX5_append_8 rfl (by decide) ?_
  refine J.icmp_lt (tgt := 14) dX5_append_9 (by decide) (fun c9 => ?_) (fun c9 => absurd c9 (fun h => h ((nI_lti (b := 160) (by omega) (by decide)).mpr hl)))
  refine J.aload_n dX5_append_14 rfl rfl ?_
  refine J.getfield dX5_append_15 jFX5_9 rfl rfl ?_
  refine J.aload_n dX5_append_18 rfl rfl ?_
  refine J.getfield dX5_append_19 jFX5_15 rfl rfl ?_
  refine J.iload_n dX5_append_22 rfl rfl ?_
  refine J.i2b dX5_append_23 ?_
  refine J.bastoreN dX5_append_24 rfl hl ?_
  rw [byt_eval _ hx, upd_nI]
  try dsimp only [List.set, wN, wS, wT]
  refine J.aload_n dX5_append_25 rfl rfl ?_
  refine J.dup dX5_append_26 rfl ?_
  refine J.getfield dX5_append_27 jFX5_15 rfl rfl ?_
  refine J.iconst (1) dX5_append_30 (by decide) ?_
  refine J.iadd dX5_append_31 ?_
  rw [nI_1]
  refine J.putfield dX5_append_32 jFX5_15 jP5_1 rfl rfl rfl (Nat.le_of_ble_eq_true rfl) ?_
  try dsimp only [List.set, wN, wS, wT]
  refine J.iconst (1) dX5_append_35 (by decide) ?_
  exact J.iret dX5_append_36 rfl (by decide) (Nat.le_refl _) (Nat.le_refl _) ⟨rfl, rfl⟩
set_option maxRecDepth 100000 in
set_option maxHeartbeats 4000000 in
theorem mX5_append160 (b : Nat → Nat) (x : Nat) : J KX5_append 2 (fun o B => o = some (.int 0) ∧ B = wT b 160) 0 [some (.ref 0), some (.int (nI x))] [] (wT b 160) 0 0 := by
  refine J.aload_n dX5_append_0 rfl rfl ?_
  refine J.getfield dX5_append_1 jFX5_15 rfl rfl ?_
  refine J.aload_n dX5_append_4 rfl rfl ?_
  refine J.getfield dX5_append_5 jFX5_9 rfl rfl ?_
  refine J.arraylength dX5_append_8 rfl (by decide) ?_
  refine J.icmp_lt (tgt := 14) dX5_append_9 (by decide) (fun c9 => absurd c9 (show ¬ nI 160 < nI 160 from by decide)) (fun c9 => ?_)
  refine J.iconst (0) dX5_append_12 (by decide) ?_
  exact J.iret dX5_append_13 rfl (by decide) (Nat.le_refl _) (Nat.le_refl _) ⟨rfl, rfl⟩
/-- the byte at a place of the tape, -1 where there is none -/
def bya (b : Nat → Nat) (len p : Nat) : Int32 := if p < len then nI (b p) else -1
set_option maxRecDepth 100000 in
set_option maxHeartbeats 4000000 in
theorem mX5_byteAt (b : Nat → Nat) (len p : Nat) (hl : len ≤ 160) (hp : p < 1000) : J KX5_byteAt 2 (fun o B => o = some (.int (bya b len p)) ∧ B = wT b len) 0 [some (.ref 0), some (.int (nI p))] [] (wT b len) 0 0 := by
  refine J.iload_n dX5_byteAt_0 rfl rfl ?_
  refine J.if_lt (tgt := 30) dX5_byteAt_1 (by decide) (fun c1 => absurd c1 (nI_pos (by omega))) (fun c1 => ?_)
  refine J.iload_n dX5_byteAt_4 rfl rfl ?_
  refine J.aload_n dX5_byteAt_5 rfl rfl ?_
  refine J.getfield dX5_byteAt_6 jFX5_15 rfl rfl ?_
  refine J.icmp_ge (tgt := 30) dX5_byteAt_9 (by decide) (fun c9 => ?_) (fun c9 => ?_)
  · refine J.iconst (-1) dX5_byteAt_30 (by decide) ?_
    exact J.iret dX5_byteAt_31 rfl rfl (Nat.le_refl _) (Nat.le_refl _) ⟨congrArg (fun x => some (Value.int x)) (by first | exact (if_neg (by have := (nI_lei (a := len) (b := p) (by omega) (by omega)).mp c9; omega)).symm | exact (if_pos (by have := mt (nI_lei (a := len) (b := p) (by omega) (by omega)).mpr c9; omega)).symm), rfl⟩
  · refine J.iload_n dX5_byteAt_12 rfl rfl ?_
    refine J.aload_n dX5_byteAt_13 rfl rfl ?_
    refine J.getfield dX5_byteAt_14 jFX5_9 rfl rfl ?_
    refine J.arraylength dX5_byteAt_17 rfl (by decide) ?_
    refine J.icmp_ge (tgt := 30) dX5_byteAt_18 (by decide) (fun c18 => absurd c18 (nI_ge (b := 160) (by have := mt (nI_lei (a := len) (b := p) (by omega) (by omega)).mpr c9; omega) (by decide))) (fun c18 => ?_)
    refine J.aload_n dX5_byteAt_21 rfl rfl ?_
    refine J.getfield dX5_byteAt_22 jFX5_9 rfl rfl ?_
    refine J.iload_n dX5_byteAt_25 rfl rfl ?_
    refine J.baloadN dX5_byteAt_26 rfl (by have := mt (nI_lei (a := len) (b := p) (by omega) (by omega)).mpr c9; omega) ?_
    refine J.goto (tgt := 31) dX5_byteAt_27 (by decide) ?_
    exact J.iret dX5_byteAt_31 rfl rfl (Nat.le_refl _) (Nat.le_refl _) ⟨congrArg (fun x => some (Value.int x)) (by first | exact (if_neg (by have := (nI_lei (a := len) (b := p) (by omega) (by omega)).mp c9; omega)).symm | exact (if_pos (by have := mt (nI_lei (a := len) (b := p) (by omega) (by omega)).mpr c9; omega)).symm), rfl⟩
