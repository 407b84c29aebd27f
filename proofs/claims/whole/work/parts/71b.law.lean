section LAW
variable {N9 : Nat} {xs : Nat → Int32} {nm : String}
set_option maxRecDepth 100000 in
set_option maxHeartbeats 4000000 in
theorem law_body (i : Nat) (hi9 : i ≤ N9) (hN : N9 ≤ 2560) (IH : i + 5 ≤ N9 → LAt N9 xs nm 18 (i + 5)) : LAt N9 xs nm 18 i := by
  intro rs v q x n u c l tn s la p pa m q' b x' h hI
  have HA : (wC rs v q x n u c l tn ++ w7 (wM s la (rs 0) v c l tn p pa m q' b x' h)).length ≤ 4000 := by
    rw [List.length_append, show (w7 (wM s la (rs 0) v c l tn p pa m q' b x' h)).length = 21 from rfl]
    exact Nat.le_of_ble_eq_true rfl
  refine JX.iload_n dL_law_18 rfl rfl ?_
  refine JX.aload_n dL_law_19 rfl rfl ?_
  refine JX.slen dL_law_20 HA ?_
  refine JX.iconst (5) dL_law_21 (by decide) ?_
  refine JX.isub dL_law_22 ?_
  refine JX.icmp_gt (tgt := 1506) dL_law_23 (by decide) (fun h9 => ?_) (fun h9 => ?_)
  · refine JX.iconst (1) dL_law_1506 (by decide) ?_
    exact JX.iret (ty := .boolean) dL_law_1507 rfl (by decide) (Nat.le_of_ble_eq_true rfl) (Nat.le_of_ble_eq_true rfl) rfl
  · have h5 : i + 5 ≤ N9 := law_in hN (by omega) h9
    have nx : LAt N9 xs nm 1500 i := law_next i (IH h5)
    refine JX.aload_n dL_law_26 rfl rfl ?_
    refine JX.iload_n dL_law_27 rfl rfl ?_
    refine JX.sald dL_law_28 HA (vp_in_nI (by omega) (by omega)) ?_
    refine JX.bipush (63) dL_law_29 (by decide) ?_
    refine JX.iand dL_law_31 ?_
    obtain ⟨k, hk, e⟩ := sw_in (xs (nI i).toNatClampNeg)
    rw [e]
    clear e
    match k, hk with
    | 0, _ => exact JX.tableIn (tgt := 204) dL_law_32 (by decide) (by decide) rfl (by decide) (law_0 i h5 hN nx rs v q x n u c l tn s la p pa m q' b x' h hI)
    | 1, _ => exact JX.tableIn (tgt := 227) dL_law_32 (by decide) (by decide) rfl (by decide) (law_1 i h5 hN nx rs v q x n u c l tn s la p pa m q' b x' h hI)
    | 2, _ => exact JX.tableIn (tgt := 250) dL_law_32 (by decide) (by decide) rfl (by decide) (law_2 i h5 hN nx rs v q x n u c l tn s la p pa m q' b x' h hI)
    | 3, _ => exact JX.tableIn (tgt := 263) dL_law_32 (by decide) (by decide) rfl (by decide) (law_3 i h5 hN nx rs v q x n u c l tn s la p pa m q' b x' h hI)
    | 4, _ => exact JX.tableIn (tgt := 276) dL_law_32 (by decide) (by decide) rfl (by decide) (law_4 i h5 hN nx rs v q x n u c l tn s la p pa m q' b x' h hI)
    | 5, _ => exact JX.tableIn (tgt := 299) dL_law_32 (by decide) (by decide) rfl (by decide) (law_5 i h5 hN nx rs v q x n u c l tn s la p pa m q' b x' h hI)
    | 6, _ => exact JX.tableIn (tgt := 332) dL_law_32 (by decide) (by decide) rfl (by decide) (law_6 i h5 hN nx rs v q x n u c l tn s la p pa m q' b x' h hI)
    | 7, _ => exact JX.tableIn (tgt := 365) dL_law_32 (by decide) (by decide) rfl (by decide) (law_7 i h5 hN nx rs v q x n u c l tn s la p pa m q' b x' h hI)
    | 8, _ => exact JX.tableIn (tgt := 398) dL_law_32 (by decide) (by decide) rfl (by decide) (law_8 i h5 hN nx rs v q x n u c l tn s la p pa m q' b x' h hI)
    | 9, _ => exact JX.tableIn (tgt := 431) dL_law_32 (by decide) (by decide) rfl (by decide) (law_9 i h5 hN nx rs v q x n u c l tn s la p pa m q' b x' h hI)
    | 10, _ => exact JX.tableIn (tgt := 464) dL_law_32 (by decide) (by decide) rfl (by decide) (law_10 i h5 hN nx rs v q x n u c l tn s la p pa m q' b x' h hI)
    | 11, _ => exact JX.tableIn (tgt := 497) dL_law_32 (by decide) (by decide) rfl (by decide) (law_11 i h5 hN nx rs v q x n u c l tn s la p pa m q' b x' h hI)
    | 12, _ => exact JX.tableIn (tgt := 546) dL_law_32 (by decide) (by decide) rfl (by decide) (law_12 i h5 hN nx rs v q x n u c l tn s la p pa m q' b x' h hI)
    | 13, _ => exact JX.tableIn (tgt := 589) dL_law_32 (by decide) (by decide) rfl (by decide) (law_13 i h5 hN nx rs v q x n u c l tn s la p pa m q' b x' h hI)
    | 14, _ => exact JX.tableIn (tgt := 612) dL_law_32 (by decide) (by decide) rfl (by decide) (law_14 i h5 hN nx rs v q x n u c l tn s la p pa m q' b x' h hI)
    | 15, _ => exact JX.tableIn (tgt := 646) dL_law_32 (by decide) (by decide) rfl (by decide) (law_15 i h5 hN nx rs v q x n u c l tn s la p pa m q' b x' h hI)
    | 16, _ => exact JX.tableIn (tgt := 690) dL_law_32 (by decide) (by decide) rfl (by decide) (law_16 i h5 hN nx rs v q x n u c l tn s la p pa m q' b x' h hI)
    | 17, _ => exact JX.tableIn (tgt := 724) dL_law_32 (by decide) (by decide) rfl (by decide) (law_17 i h5 hN nx rs v q x n u c l tn s la p pa m q' b x' h hI)
    | 18, _ => exact JX.tableIn (tgt := 768) dL_law_32 (by decide) (by decide) rfl (by decide) (law_18 i h5 hN nx rs v q x n u c l tn s la p pa m q' b x' h hI)
    | 19, _ => exact JX.tableIn (tgt := 812) dL_law_32 (by decide) (by decide) rfl (by decide) (law_19 i h5 hN nx rs v q x n u c l tn s la p pa m q' b x' h hI)
    | 20, _ => exact JX.tableIn (tgt := 856) dL_law_32 (by decide) (by decide) rfl (by decide) (law_20 i h5 hN nx rs v q x n u c l tn s la p pa m q' b x' h hI)
    | 21, _ => exact JX.tableIn (tgt := 899) dL_law_32 (by decide) (by decide) rfl (by decide) (law_21 i h5 hN nx rs v q x n u c l tn s la p pa m q' b x' h hI)
    | 22, _ => exact JX.tableIn (tgt := 932) dL_law_32 (by decide) (by decide) rfl (by decide) (law_22 i h5 hN nx rs v q x n u c l tn s la p pa m q' b x' h hI)
    | 23, _ => exact JX.tableIn (tgt := 966) dL_law_32 (by decide) (by decide) rfl (by decide) (law_23 i h5 hN nx rs v q x n u c l tn s la p pa m q' b x' h hI)
    | 24, _ => exact JX.tableIn (tgt := 1020) dL_law_32 (by decide) (by decide) rfl (by decide) (law_24 i h5 hN nx rs v q x n u c l tn s la p pa m q' b x' h hI)
    | 25, _ => exact JX.tableIn (tgt := 1054) dL_law_32 (by decide) (by decide) rfl (by decide) (law_25 i h5 hN nx rs v q x n u c l tn s la p pa m q' b x' h hI)
    | 26, _ => exact JX.tableIn (tgt := 1088) dL_law_32 (by decide) (by decide) rfl (by decide) (law_26 i h5 hN nx rs v q x n u c l tn s la p pa m q' b x' h hI)
    | 27, _ => exact JX.tableIn (tgt := 1112) dL_law_32 (by decide) (by decide) rfl (by decide) (law_27 i h5 hN nx rs v q x n u c l tn s la p pa m q' b x' h hI)
    | 28, _ => exact JX.tableIn (tgt := 1145) dL_law_32 (by decide) (by decide) rfl (by decide) (law_28 i h5 hN nx rs v q x n u c l tn s la p pa m q' b x' h hI)
    | 29, _ => exact JX.tableIn (tgt := 1168) dL_law_32 (by decide) (by decide) rfl (by decide) (law_29 i h5 hN nx rs v q x n u c l tn s la p pa m q' b x' h hI)
    | 30, _ => exact JX.tableIn (tgt := 1212) dL_law_32 (by decide) (by decide) rfl (by decide) (law_30 i h5 hN nx rs v q x n u c l tn s la p pa m q' b x' h hI)
    | 31, _ => exact JX.tableIn (tgt := 1236) dL_law_32 (by decide) (by decide) rfl (by decide) (law_31 i h5 hN nx rs v q x n u c l tn s la p pa m q' b x' h hI)
    | 32, _ => exact JX.tableIn (tgt := 1279) dL_law_32 (by decide) (by decide) rfl (by decide) (law_32 i h5 hN nx rs v q x n u c l tn s la p pa m q' b x' h hI)
    | 33, _ => exact JX.tableIn (tgt := 1302) dL_law_32 (by decide) (by decide) rfl (by decide) (law_33 i h5 hN nx rs v q x n u c l tn s la p pa m q' b x' h hI)
    | 34, _ => exact JX.tableIn (tgt := 1325) dL_law_32 (by decide) (by decide) rfl (by decide) (law_34 i h5 hN nx rs v q x n u c l tn s la p pa m q' b x' h hI)
    | 35, _ => exact JX.tableIn (tgt := 1368) dL_law_32 (by decide) (by decide) rfl (by decide) (law_35 i h5 hN nx rs v q x n u c l tn s la p pa m q' b x' h hI)
    | 36, _ => exact JX.tableIn (tgt := 1411) dL_law_32 (by decide) (by decide) rfl (by decide) (law_36 i h5 hN nx rs v q x n u c l tn s la p pa m q' b x' h hI)
    | 37, _ => exact JX.tableIn (tgt := 1464) dL_law_32 (by decide) (by decide) rfl (by decide) (law_37 i h5 hN nx rs v q x n u c l tn s la p pa m q' b x' h hI)
    | 38, _ => exact JX.tableIn (tgt := 1477) dL_law_32 (by decide) (by decide) rfl (by decide) (law_38 i h5 hN nx rs v q x n u c l tn s la p pa m q' b x' h hI)
    | k + 39, hk =>
      refine JX.tableOut (tgt := 1500) dL_law_32 (Or.inr ?_) (by decide) (nx rs v q x n u c l tn s la p pa m q' b x' h hI)
      rw [nI_toInt (by omega)]
      omega
theorem law_l (hN : N9 ≤ 2560) : ∀ (f i : Nat), N9 ≤ i + f → i ≤ N9 → LAt N9 xs nm 18 i
  | 0, i, h1, h2 => law_body i h2 hN (fun h => absurd h (by omega))
  | f + 1, i, h1, h2 => law_body i h2 hN (fun h => law_l hN f (i + 5) (by omega) h)
end LAW
