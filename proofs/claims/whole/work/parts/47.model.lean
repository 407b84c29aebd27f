/-! ===== a KING who sits so long, come what may ===== -/
def mst (qc : rT) (m wo : Nat) : Nat → Nat
  | 0 => 0
  | t + 1 => mst qc m wo t * 10 ^ m + (10 ^ (m * (t + 1)) - mho qc m (t + 1) 0) * wo
theorem wtn_00 (T : Nat → Nat) : wtn T 0 0 = 1000 := by
  have h : ∀ i, bit 0 i = 0 := fun i => by rw [bit, Nat.zero_div]
  simp [wtn, pw, fac, h]
theorem sZ_one (f : Nat → Int) {w : Nat} (h0 : 0 < w) (h8 : w < 8) : sZ (fun s => if s = 0 then 0 else (one w s : Int) * f s) 8 = f w := by
  have : w = 1 ∨ w = 2 ∨ w = 3 ∨ w = 4 ∨ w = 5 ∨ w = 6 ∨ w = 7 := by omega
  rcases this with rfl | rfl | rfl | rfl | rfl | rfl | rfl <;> simp [sZ, one]
theorem sh_hi (qc : rT) {w : Nat} : ∀ t s, w < s → s < 8 → sh qc (one w) t s = 0
  | 0, s, h, _ => if_neg (by omega)
  | t + 1, s, h, h8 => by
    rw [sh, acc_sm, ← sm_zero 8]
    refine sm_congr (fun j hj => ?_)
    by_cases e : w < j
    · rw [sh_hi qc t j e hj, Nat.zero_mul]
    · rw [wtn_hi _ hj h8 (by omega), Nat.mul_zero]
theorem sZ_split (f : Nat → Int) : sZ f 8 = f 0 + sZ (fun s => if s = 0 then 0 else f s) 8 := by
  simp only [sZ]
  simp
  omega
theorem sh_sZ (qc : rT) (X : Nat → Nat) (t : Nat) (G : Nat → Int) : sZ (fun s => (X s : Int) * sZ (fun r => (wtn (ten qc s t) s r : Int) * G r) 8) 8 = sZ (fun r => (acc qc X t 8 r : Int) * G r) 8 := by
  have h1 : ∀ s, s < 8 → (X s : Int) * sZ (fun r => (wtn (ten qc s t) s r : Int) * G r) 8 = sZ (fun r => (X s : Int) * ((wtn (ten qc s t) s r : Int) * G r)) 8 := fun s _ => (sZ_mul _ _ 8).symm
  rw [sZ_congr h1, sZ_comm]
  refine sZ_congr (fun r _ => ?_)
  rw [acc_sm, sZ_nat, Int.mul_comm, ← sZ_mul]
  refine sZ_congr (fun s _ => ?_)
  rw [Int.natCast_mul, ← Int.mul_assoc, Int.mul_comm]
theorem ring1 (x1 L u W hd S1 x0 D : Int) : (x1 * (-L * u) + (W * u * hd + S1)) - x0 * (1000 * (-L * u)) + u * 1000 * (D - x0 * L) = S1 + u * (D * 1000 + hd * W - x1 * L) := by
  simp only [Int.mul_add, Int.mul_sub, Int.add_mul, Int.sub_mul, Int.neg_mul, Int.mul_neg]
  simp only [Int.mul_assoc, Int.mul_comm, Int.mul_left_comm]
  omega
theorem sits_F {r : rT} (h : rOK r) (h0 : ¬ r 6 3 = 0) (k N : Nat) : ∀ t, t ≤ N →
    sZ (fun s => if s = 0 then 0 else (sh (oqR r) (one (r 6 3)) t s : Int) * ggZ (oqR r) (r 2 k : Nat) (-((r 3 k : Nat) : Int)) False (r 6 3) N (N - t) s) 8 + (1000 ^ (N - t) : Nat) * ((((10 ^ (3 - r 6 0)) ^ t * mst (oqR r) (r 6 0) (r 2 k) t : Nat) : Int) - (sh (oqR r) (one (r 6 3)) t 0 : Nat) * ((r 3 k : Nat) : Int)) = gnZ r k N False
  | 0, _ => by
    have e : sh (oqR r) (one (r 6 3)) 0 0 = 0 := if_neg (by omega)
    rw [e]
    simp only [mst, Nat.sub_zero, Nat.mul_zero]
    rw [show sh (oqR r) (one (r 6 3)) 0 = one (r 6 3) from rfl, sZ_one _ (by omega) h.w]
    simp [gnZ]
  | t + 1, ht => by
    have ih := sits_F h h0 k N t (by omega)
    have hw := h.w
    rw [← ih, show N - t = (N - (t + 1)) + 1 by omega]
    generalize hK : N - (t + 1) = K
    have hV : ∀ s, 1 ≤ s → s < 8 → (sh (oqR r) (one (r 6 3)) t s : Int) * ggZ (oqR r) (r 2 k : Nat) (-((r 3 k : Nat) : Int)) False (r 6 3) N (K + 1) s = (sh (oqR r) (one (r 6 3)) t s : Int) * sZ (fun q => (wtn (ten (oqR r) s t) s q : Int) * (if q = 0 then -((r 3 k : Nat) : Int) * (1000 ^ K : Nat) else ((r 2 k : Nat) : Int) * (1000 ^ K : Nat) + ggZ (oqR r) (r 2 k : Nat) (-((r 3 k : Nat) : Int)) False (r 6 3) N K q)) 8 := by
      intro s h1 h8
      by_cases e : s ≤ r 6 3
      · rw [ggZ, if_pos ⟨h1, e⟩, gsZ, if_neg (fun h => h.1), svZ_sum, show N - 1 - K = t by omega]
        congr 1
        exact (sZ_cut _ (s + 1) 8 (by omega) (fun j a b => by (try dsimp only); rw [wtn_hi _ h8 b (by omega)]; simp)).symm
      · rw [sh_hi _ t s (by omega) h8]
        simp
    rw [sZ_congr (g := fun s => if s = 0 then 0 else (sh (oqR r) (one (r 6 3)) t s : Int) * sZ (fun q => (wtn (ten (oqR r) s t) s q : Int) * (if q = 0 then -((r 3 k : Nat) : Int) * (1000 ^ K : Nat) else ((r 2 k : Nat) : Int) * (1000 ^ K : Nat) + ggZ (oqR r) (r 2 k : Nat) (-((r 3 k : Nat) : Int)) False (r 6 3) N K q)) 8) (n := 8) (f := fun s => if s = 0 then 0 else (sh (oqR r) (one (r 6 3)) t s : Int) * ggZ (oqR r) (r 2 k : Nat) (-((r 3 k : Nat) : Int)) False (r 6 3) N (K + 1) s) (fun s hs => by
      by_cases e : s = 0
      · rw [if_pos e, if_pos e]
      · rw [if_neg e, if_neg e, hV s (by omega) hs])]
    have e1 := sZ_split (fun s => (sh (oqR r) (one (r 6 3)) t s : Int) * sZ (fun q => (wtn (ten (oqR r) s t) s q : Int) * (if q = 0 then -((r 3 k : Nat) : Int) * (1000 ^ K : Nat) else ((r 2 k : Nat) : Int) * (1000 ^ K : Nat) + ggZ (oqR r) (r 2 k : Nat) (-((r 3 k : Nat) : Int)) False (r 6 3) N K q)) 8)
    rw [sh_sZ] at e1
    have e2 : sZ (fun q => (wtn (ten (oqR r) 0 t) 0 q : Int) * (if q = 0 then -((r 3 k : Nat) : Int) * (1000 ^ K : Nat) else ((r 2 k : Nat) : Int) * (1000 ^ K : Nat) + ggZ (oqR r) (r 2 k : Nat) (-((r 3 k : Nat) : Int)) False (r 6 3) N K q)) 8 = 1000 * (-((r 3 k : Nat) : Int) * (1000 ^ K : Nat)) := by
      rw [sZ_cut _ 1 8 (by decide) (fun j a b => by (try dsimp only); rw [wtn_hi _ (by decide) b (by omega)]; simp)]
      simp only [sZ, wtn_00, if_pos]
      omega
    have e3 : sZ (fun q => (acc (oqR r) (sh (oqR r) (one (r 6 3)) t) t 8 q : Int) * (if q = 0 then -((r 3 k : Nat) : Int) * (1000 ^ K : Nat) else ((r 2 k : Nat) : Int) * (1000 ^ K : Nat) + ggZ (oqR r) (r 2 k : Nat) (-((r 3 k : Nat) : Int)) False (r 6 3) N K q)) 8 = (sh (oqR r) (one (r 6 3)) (t + 1) 0 : Int) * (-((r 3 k : Nat) : Int) * (1000 ^ K : Nat)) + (((r 2 k : Nat) : Int) * (1000 ^ K : Nat) * (sm (not0 (sh (oqR r) (one (r 6 3)) (t + 1))) 8 : Nat) + sZ (fun s => if s = 0 then 0 else (sh (oqR r) (one (r 6 3)) (t + 1) s : Int) * ggZ (oqR r) (r 2 k : Nat) (-((r 3 k : Nat) : Int)) False (r 6 3) N K s) 8) := by
      rw [sZ_split, sZ_nat, ← sZ_mul, ← sZ_add]
      congr 1
      refine sZ_congr (fun s _ => ?_)
      by_cases e : s = 0
      · rw [if_pos e, if_pos e, not0, if_pos e]
        simp
      · rw [if_neg e, if_neg e, if_neg e, not0, if_neg e, Int.mul_add]
        congr 1
        exact Int.mul_comm _ _
    rw [e3] at e1
    rw [e2] at e1
    have e4 : ((10 ^ (3 - r 6 0)) ^ (t + 1) * mst (oqR r) (r 6 0) (r 2 k) (t + 1) : Nat) = ((10 ^ (3 - r 6 0)) ^ t * mst (oqR r) (r 6 0) (r 2 k) t) * 1000 + sm (not0 (sh (oqR r) (one (r 6 3)) (t + 1))) 8 * r 2 k := by
      have hh : sm (not0 (sh (oqR r) (one (r 6 3)) (t + 1))) 8 = (10 ^ (3 - r 6 0)) ^ (t + 1) * (10 ^ (r 6 0 * (t + 1)) - mho (oqR r) (r 6 0) (t + 1) 0) := hdR_m h (t + 1)
      have h1000 : (10 ^ (3 - r 6 0)) ^ (t + 1) * 10 ^ r 6 0 = (10 ^ (3 - r 6 0)) ^ t * 1000 := by
        have := p10_c h.1 1
        rw [Nat.pow_one, Nat.mul_one, Nat.pow_one] at this
        rw [Nat.pow_succ, Nat.mul_assoc, this]
      rw [hh, mst, Nat.mul_add, ← Nat.mul_assoc, ← Nat.mul_assoc, Nat.mul_right_comm _ _ (10 ^ r 6 0), h1000]
      congr 1
      exact Nat.mul_right_comm _ _ _
    have e5 := ring1 (sh (oqR r) (one (r 6 3)) (t + 1) 0) (r 3 k) (1000 ^ K : Nat) (r 2 k) (sm (not0 (sh (oqR r) (one (r 6 3)) (t + 1))) 8 : Nat) (sZ (fun s => if s = 0 then 0 else (sh (oqR r) (one (r 6 3)) (t + 1) s : Int) * ggZ (oqR r) (r 2 k : Nat) (-((r 3 k : Nat) : Int)) False (r 6 3) N K s) 8) (sh (oqR r) (one (r 6 3)) t 0) ((10 ^ (3 - r 6 0)) ^ t * mst (oqR r) (r 6 0) (r 2 k) t : Nat)
    rw [e4, Int.natCast_add, Int.natCast_mul, Int.natCast_mul (sm _ _), Nat.pow_succ, Int.natCast_mul (1000 ^ K)]
    rw [show ((1000 : Nat) : Int) = (1000 : Int) from rfl]
    refine Eq.trans e5.symm ?_
    rw [e1]
    omega
theorem gnF_m {r : rT} (h : rOK r) (h0 : ¬ r 6 3 = 0) (k N : Nat) : gnZ r k N False = (((10 ^ (3 - r 6 0)) ^ N : Nat) : Int) * ((mst (oqR r) (r 6 0) (r 2 k) N : Nat) - (mho (oqR r) (r 6 0) N 0 : Nat) * ((r 3 k : Nat) : Int)) := by
  have e := sits_F h h0 k N N (Nat.le_refl _)
  have z : sZ (fun s => if s = 0 then 0 else (sh (oqR r) (one (r 6 3)) N s : Int) * ggZ (oqR r) (r 2 k : Nat) (-((r 3 k : Nat) : Int)) False (r 6 3) N (N - N) s) 8 = 0 := by
    rw [← sZ_zero 8]
    refine sZ_congr (fun s _ => ?_)
    rw [Nat.sub_self]
    split
    · rfl
    · exact Int.mul_zero _
  have hx : sh (oqR r) (one (r 6 3)) N 0 = _ := (mho_sc (mlay_ok h) N).zero
  rw [z, Nat.sub_self, Nat.pow_zero, hx, Int.natCast_mul, Int.natCast_mul, Int.zero_add, Int.natCast_one, Int.one_mul] at e
  rw [← e, Int.mul_sub, Int.mul_assoc]
theorem gn_0 {r : rT} (h0 : r 6 3 = 0) (k N : Nat) (sees : Prop) [Decidable sees] : gnZ r k N sees = 0 := by
  unfold gnZ
  rw [h0]
  exact ggZ_0 _ _ _ _ _ _ _
theorem sitsE {r : rT} (h : rOK r) (h0 : ¬ r 6 3 = 0) (k N : Nat) (wh : Int32) : lowT ((mst (oqR r) (r 6 0) (r 2 k) N : Nat) - (mho (oqR r) (r 6 0) N 0 : Nat) * ((r 3 k : Nat) : Int)) (10 ^ (r 6 0 * N)) wh = lowT (gnZ r k N False) (1000 ^ N) wh := by
  rw [gnF_m h h0, ← p10_c h.1 N, lowT_s (c_pos (r 6 0) N)]
theorem sits0E {r : rT} (h : rOK r) (h0 : r 6 3 = 0) (k N : Nat) (wh : Int32) : lowT 0 (10 ^ (r 6 0 * N)) wh = lowT (gnZ r k N False) (1000 ^ N) wh := by
  rw [gn_0 h0, ← p10_c h.1 N, ← lowT_s (c_pos (r 6 0) N) 0, Int.mul_zero]
theorem sits_le {r : rT} (h : rOK r) (h0 : ¬ r 6 3 = 0) (k : Nat) {N : Nat} (hN : N ≤ 5) : ((mst (oqR r) (r 6 0) (r 2 k) N : Nat) - (mho (oqR r) (r 6 0) N 0 : Nat) * ((r 3 k : Nat) : Int)).natAbs ≤ 1000000000000000000 := by
  have h1 := gnZ_le h k hN False
  rw [gnF_m h h0, Int.natAbs_mul, Int.natAbs_natCast] at h1
  exact Nat.le_trans (Nat.le_mul_of_pos_left _ (c_pos (r 6 0) N)) h1
theorem lN_subm (a b c : Nat) : lN a - lN b * lN c = lI ((a : Int) - (b : Int) * (c : Int)) := by
  rw [lNZ, lNZ, lNZ, lI_mul, Int64.sub_eq_add_neg, lI_neg, lI_add]
  rfl
theorem dX7_sits_0 : decode cX7_sits 0 = .ok (.aload_n 0, 1) := by decide +kernel
theorem dX7_sits_1 : decode cX7_sits 1 = .ok (.iload_n 1, 1) := by decide +kernel
theorem dX7_sits_2 : decode cX7_sits 2 = .ok (.invokevirtual 203, 3) := by decide +kernel
theorem dX7_sits_5 : decode cX7_sits 5 = .ok (.ifCond .eq 20, 3) := by decide +kernel
theorem dX7_sits_8 : decode cX7_sits 8 = .ok (.iload_n 2, 1) := by decide +kernel
theorem dX7_sits_9 : decode cX7_sits 9 = .ok (.invokestatic 236, 3) := by decide +kernel
theorem dX7_sits_12 : decode cX7_sits 12 = .ok (.ifCond .eq 13, 3) := by decide +kernel
theorem dX7_sits_15 : decode cX7_sits 15 = .ok (.iload_n 3, 1) := by decide +kernel
theorem dX7_sits_16 : decode cX7_sits 16 = .ok (.i2l, 1) := by decide +kernel
theorem dX7_sits_17 : decode cX7_sits 17 = .ok (.lconst 0, 1) := by decide +kernel
theorem dX7_sits_18 : decode cX7_sits 18 = .ok (.lconst 1, 1) := by decide +kernel
theorem dX7_sits_19 : decode cX7_sits 19 = .ok (.invokestatic 74, 3) := by decide +kernel
theorem dX7_sits_22 : decode cX7_sits 22 = .ok (.ifCond .ne 7, 3) := by decide +kernel
theorem dX7_sits_25 : decode cX7_sits 25 = .ok (.ldc2_w 239, 3) := by decide +kernel
theorem dX7_sits_28 : decode cX7_sits 28 = .ok (.lreturn, 1) := by decide +kernel
theorem dX7_sits_29 : decode cX7_sits 29 = .ok (.aload_n 0, 1) := by decide +kernel
theorem dX7_sits_30 : decode cX7_sits 30 = .ok (.invokevirtual 196, 3) := by decide +kernel
theorem dX7_sits_33 : decode cX7_sits 33 = .ok (.lconst 0, 1) := by decide +kernel
theorem dX7_sits_34 : decode cX7_sits 34 = .ok (.lstore 4, 2) := by decide +kernel
theorem dX7_sits_36 : decode cX7_sits 36 = .ok (.aload_n 0, 1) := by decide +kernel
theorem dX7_sits_37 : decode cX7_sits 37 = .ok (.invokevirtual 223, 3) := by decide +kernel
theorem dX7_sits_40 : decode cX7_sits 40 = .ok (.iconst 0, 1) := by decide +kernel
theorem dX7_sits_41 : decode cX7_sits 41 = .ok (.istore 6, 2) := by decide +kernel
theorem dX7_sits_43 : decode cX7_sits 43 = .ok (.iload 6, 2) := by decide +kernel
theorem dX7_sits_45 : decode cX7_sits 45 = .ok (.iload_n 2, 1) := by decide +kernel
theorem dX7_sits_46 : decode cX7_sits 46 = .ok (.if_icmp .ge 67, 3) := by decide +kernel
theorem dX7_sits_49 : decode cX7_sits 49 = .ok (.aload_n 0, 1) := by decide +kernel
theorem dX7_sits_50 : decode cX7_sits 50 = .ok (.getfield 183, 3) := by decide +kernel
theorem dX7_sits_53 : decode cX7_sits 53 = .ok (.ifCond .eq 60, 3) := by decide +kernel
theorem dX7_sits_56 : decode cX7_sits 56 = .ok (.aload_n 0, 1) := by decide +kernel
theorem dX7_sits_57 : decode cX7_sits 57 = .ok (.iload 6, 2) := by decide +kernel
theorem dX7_sits_59 : decode cX7_sits 59 = .ok (.invokevirtual 226, 3) := by decide +kernel
theorem dX7_sits_62 : decode cX7_sits 62 = .ok (.lload 4, 2) := by decide +kernel
theorem dX7_sits_64 : decode cX7_sits 64 = .ok (.aload_n 0, 1) := by decide +kernel
theorem dX7_sits_65 : decode cX7_sits 65 = .ok (.getfield 180, 3) := by decide +kernel
theorem dX7_sits_68 : decode cX7_sits 68 = .ok (.invokestatic 232, 3) := by decide +kernel
theorem dX7_sits_71 : decode cX7_sits 71 = .ok (.lmul, 1) := by decide +kernel
theorem dX7_sits_72 : decode cX7_sits 72 = .ok (.aload_n 0, 1) := by decide +kernel
theorem dX7_sits_73 : decode cX7_sits 73 = .ok (.getfield 180, 3) := by decide +kernel
theorem dX7_sits_76 : decode cX7_sits 76 = .ok (.iload 6, 2) := by decide +kernel
theorem dX7_sits_78 : decode cX7_sits 78 = .ok (.iconst 1, 1) := by decide +kernel
theorem dX7_sits_79 : decode cX7_sits 79 = .ok (.iadd, 1) := by decide +kernel
theorem dX7_sits_80 : decode cX7_sits 80 = .ok (.imul, 1) := by decide +kernel
theorem dX7_sits_81 : decode cX7_sits 81 = .ok (.invokestatic 232, 3) := by decide +kernel
theorem dX7_sits_84 : decode cX7_sits 84 = .ok (.aload_n 0, 1) := by decide +kernel
theorem dX7_sits_85 : decode cX7_sits 85 = .ok (.getfield 37, 3) := by decide +kernel
theorem dX7_sits_88 : decode cX7_sits 88 = .ok (.iconst 0, 1) := by decide +kernel
theorem dX7_sits_89 : decode cX7_sits 89 = .ok (.laload, 1) := by decide +kernel
theorem dX7_sits_90 : decode cX7_sits 90 = .ok (.lsub, 1) := by decide +kernel
theorem dX7_sits_91 : decode cX7_sits 91 = .ok (.aload_n 0, 1) := by decide +kernel
theorem dX7_sits_92 : decode cX7_sits 92 = .ok (.getfield 7, 3) := by decide +kernel
theorem dX7_sits_95 : decode cX7_sits 95 = .ok (.bipush 10, 2) := by decide +kernel
theorem dX7_sits_97 : decode cX7_sits 97 = .ok (.iconst 2, 1) := by decide +kernel
theorem dX7_sits_98 : decode cX7_sits 98 = .ok (.iload_n 1, 1) := by decide +kernel
theorem dX7_sits_99 : decode cX7_sits 99 = .ok (.imul, 1) := by decide +kernel
theorem dX7_sits_100 : decode cX7_sits 100 = .ok (.iadd, 1) := by decide +kernel
theorem dX7_sits_101 : decode cX7_sits 101 = .ok (.iaload, 1) := by decide +kernel
theorem dX7_sits_102 : decode cX7_sits 102 = .ok (.i2l, 1) := by decide +kernel
theorem dX7_sits_103 : decode cX7_sits 103 = .ok (.lmul, 1) := by decide +kernel
theorem dX7_sits_104 : decode cX7_sits 104 = .ok (.ladd, 1) := by decide +kernel
theorem dX7_sits_105 : decode cX7_sits 105 = .ok (.lstore 4, 2) := by decide +kernel
theorem dX7_sits_107 : decode cX7_sits 107 = .ok (.iinc 6 1, 3) := by decide +kernel
theorem dX7_sits_110 : decode cX7_sits 110 = .ok (.goto (-67), 3) := by decide +kernel
theorem dX7_sits_113 : decode cX7_sits 113 = .ok (.lload 4, 2) := by decide +kernel
theorem dX7_sits_115 : decode cX7_sits 115 = .ok (.aload_n 0, 1) := by decide +kernel
theorem dX7_sits_116 : decode cX7_sits 116 = .ok (.getfield 183, 3) := by decide +kernel
theorem dX7_sits_119 : decode cX7_sits 119 = .ok (.ifCond .eq 7, 3) := by decide +kernel
theorem dX7_sits_122 : decode cX7_sits 122 = .ok (.iload_n 2, 1) := by decide +kernel
theorem dX7_sits_123 : decode cX7_sits 123 = .ok (.ifCond .ne 7, 3) := by decide +kernel
theorem dX7_sits_126 : decode cX7_sits 126 = .ok (.lconst 0, 1) := by decide +kernel
theorem dX7_sits_127 : decode cX7_sits 127 = .ok (.goto 24, 3) := by decide +kernel
theorem dX7_sits_130 : decode cX7_sits 130 = .ok (.aload_n 0, 1) := by decide +kernel
theorem dX7_sits_131 : decode cX7_sits 131 = .ok (.getfield 37, 3) := by decide +kernel
theorem dX7_sits_134 : decode cX7_sits 134 = .ok (.iconst 0, 1) := by decide +kernel
theorem dX7_sits_135 : decode cX7_sits 135 = .ok (.laload, 1) := by decide +kernel
theorem dX7_sits_136 : decode cX7_sits 136 = .ok (.aload_n 0, 1) := by decide +kernel
theorem dX7_sits_137 : decode cX7_sits 137 = .ok (.getfield 7, 3) := by decide +kernel
theorem dX7_sits_140 : decode cX7_sits 140 = .ok (.bipush 10, 2) := by decide +kernel
theorem dX7_sits_142 : decode cX7_sits 142 = .ok (.iconst 2, 1) := by decide +kernel
theorem dX7_sits_143 : decode cX7_sits 143 = .ok (.iload_n 1, 1) := by decide +kernel
theorem dX7_sits_144 : decode cX7_sits 144 = .ok (.imul, 1) := by decide +kernel
theorem dX7_sits_145 : decode cX7_sits 145 = .ok (.iadd, 1) := by decide +kernel
theorem dX7_sits_146 : decode cX7_sits 146 = .ok (.iconst 1, 1) := by decide +kernel
theorem dX7_sits_147 : decode cX7_sits 147 = .ok (.iadd, 1) := by decide +kernel
theorem dX7_sits_148 : decode cX7_sits 148 = .ok (.iaload, 1) := by decide +kernel
theorem dX7_sits_149 : decode cX7_sits 149 = .ok (.i2l, 1) := by decide +kernel
theorem dX7_sits_150 : decode cX7_sits 150 = .ok (.lmul, 1) := by decide +kernel
theorem dX7_sits_151 : decode cX7_sits 151 = .ok (.lsub, 1) := by decide +kernel
theorem dX7_sits_152 : decode cX7_sits 152 = .ok (.lstore 4, 2) := by decide +kernel
theorem dX7_sits_154 : decode cX7_sits 154 = .ok (.lload 4, 2) := by decide +kernel
theorem dX7_sits_156 : decode cX7_sits 156 = .ok (.aload_n 0, 1) := by decide +kernel
theorem dX7_sits_157 : decode cX7_sits 157 = .ok (.getfield 180, 3) := by decide +kernel
theorem dX7_sits_160 : decode cX7_sits 160 = .ok (.iload_n 2, 1) := by decide +kernel
theorem dX7_sits_161 : decode cX7_sits 161 = .ok (.imul, 1) := by decide +kernel
theorem dX7_sits_162 : decode cX7_sits 162 = .ok (.invokestatic 232, 3) := by decide +kernel
theorem dX7_sits_165 : decode cX7_sits 165 = .ok (.iload_n 3, 1) := by decide +kernel
theorem dX7_sits_166 : decode cX7_sits 166 = .ok (.invokestatic 244, 3) := by decide +kernel
theorem dX7_sits_169 : decode cX7_sits 169 = .ok (.lreturn, 1) := by decide +kernel
theorem dX7_duels_0 : decode cX7_duels 0 = .ok (.iconst 0, 1) := by decide +kernel
theorem dX7_duels_1 : decode cX7_duels 1 = .ok (.istore 4, 2) := by decide +kernel
theorem dX7_duels_3 : decode cX7_duels 3 = .ok (.iload 4, 2) := by decide +kernel
theorem dX7_duels_5 : decode cX7_duels 5 = .ok (.bipush 8, 2) := by decide +kernel
theorem dX7_duels_7 : decode cX7_duels 7 = .ok (.if_icmp .ge 25, 3) := by decide +kernel
theorem dX7_duels_10 : decode cX7_duels 10 = .ok (.aload_n 0, 1) := by decide +kernel
theorem dX7_duels_11 : decode cX7_duels 11 = .ok (.getfield 50, 3) := by decide +kernel
theorem dX7_duels_14 : decode cX7_duels 14 = .ok (.iload 4, 2) := by decide +kernel
theorem dX7_duels_16 : decode cX7_duels 16 = .ok (.lconst 0, 1) := by decide +kernel
theorem dX7_duels_17 : decode cX7_duels 17 = .ok (.lastore, 1) := by decide +kernel
theorem dX7_duels_18 : decode cX7_duels 18 = .ok (.aload_n 0, 1) := by decide +kernel
theorem dX7_duels_19 : decode cX7_duels 19 = .ok (.getfield 53, 3) := by decide +kernel
theorem dX7_duels_22 : decode cX7_duels 22 = .ok (.iload 4, 2) := by decide +kernel
theorem dX7_duels_24 : decode cX7_duels 24 = .ok (.lconst 0, 1) := by decide +kernel
theorem dX7_duels_25 : decode cX7_duels 25 = .ok (.lastore, 1) := by decide +kernel
theorem dX7_duels_26 : decode cX7_duels 26 = .ok (.iinc 4 1, 3) := by decide +kernel
theorem dX7_duels_29 : decode cX7_duels 29 = .ok (.goto (-26), 3) := by decide +kernel
theorem dX7_duels_32 : decode cX7_duels 32 = .ok (.aload_n 0, 1) := by decide +kernel
theorem dX7_duels_33 : decode cX7_duels 33 = .ok (.iconst 0, 1) := by decide +kernel
theorem dX7_duels_34 : decode cX7_duels 34 = .ok (.putfield 248, 3) := by decide +kernel
theorem dX7_duels_37 : decode cX7_duels 37 = .ok (.iload_n 3, 1) := by decide +kernel
theorem dX7_duels_38 : decode cX7_duels 38 = .ok (.iconst 1, 1) := by decide +kernel
theorem dX7_duels_39 : decode cX7_duels 39 = .ok (.isub, 1) := by decide +kernel
theorem dX7_duels_40 : decode cX7_duels 40 = .ok (.istore 4, 2) := by decide +kernel
theorem dX7_duels_42 : decode cX7_duels 42 = .ok (.iload 4, 2) := by decide +kernel
theorem dX7_duels_44 : decode cX7_duels 44 = .ok (.ifCond .lt 403, 3) := by decide +kernel
theorem dX7_duels_47 : decode cX7_duels 47 = .ok (.iload 4, 2) := by decide +kernel
theorem dX7_duels_49 : decode cX7_duels 49 = .ok (.iconst 2, 1) := by decide +kernel
theorem dX7_duels_50 : decode cX7_duels 50 = .ok (.irem, 1) := by decide +kernel
theorem dX7_duels_51 : decode cX7_duels 51 = .ok (.ifCond .ne 7, 3) := by decide +kernel
theorem dX7_duels_54 : decode cX7_duels 54 = .ok (.iload_n 1, 1) := by decide +kernel
theorem dX7_duels_55 : decode cX7_duels 55 = .ok (.goto 4, 3) := by decide +kernel
theorem dX7_duels_58 : decode cX7_duels 58 = .ok (.iload_n 2, 1) := by decide +kernel
theorem dX7_duels_59 : decode cX7_duels 59 = .ok (.istore 5, 2) := by decide +kernel
theorem dX7_duels_61 : decode cX7_duels 61 = .ok (.aload_n 0, 1) := by decide +kernel
theorem dX7_duels_62 : decode cX7_duels 62 = .ok (.getfield 180, 3) := by decide +kernel
theorem dX7_duels_65 : decode cX7_duels 65 = .ok (.iload_n 3, 1) := by decide +kernel
theorem dX7_duels_66 : decode cX7_duels 66 = .ok (.iload 4, 2) := by decide +kernel
theorem dX7_duels_68 : decode cX7_duels 68 = .ok (.isub, 1) := by decide +kernel
theorem dX7_duels_69 : decode cX7_duels 69 = .ok (.iconst 1, 1) := by decide +kernel
theorem dX7_duels_70 : decode cX7_duels 70 = .ok (.isub, 1) := by decide +kernel
theorem dX7_duels_71 : decode cX7_duels 71 = .ok (.imul, 1) := by decide +kernel
theorem dX7_duels_72 : decode cX7_duels 72 = .ok (.invokestatic 232, 3) := by decide +kernel
theorem dX7_duels_75 : decode cX7_duels 75 = .ok (.lstore 6, 2) := by decide +kernel
theorem dX7_duels_77 : decode cX7_duels 77 = .ok (.iconst 0, 1) := by decide +kernel
theorem dX7_duels_78 : decode cX7_duels 78 = .ok (.istore 8, 2) := by decide +kernel
theorem dX7_duels_80 : decode cX7_duels 80 = .ok (.iload 8, 2) := by decide +kernel
theorem dX7_duels_82 : decode cX7_duels 82 = .ok (.iconst 1, 1) := by decide +kernel
theorem dX7_duels_83 : decode cX7_duels 83 = .ok (.aload_n 0, 1) := by decide +kernel
theorem dX7_duels_84 : decode cX7_duels 84 = .ok (.getfield 180, 3) := by decide +kernel
theorem dX7_duels_87 : decode cX7_duels 87 = .ok (.ishl, 1) := by decide +kernel
theorem dX7_duels_88 : decode cX7_duels 88 = .ok (.if_icmp .ge 271, 3) := by decide +kernel
theorem dX7_duels_91 : decode cX7_duels 91 = .ok (.lconst 0, 1) := by decide +kernel
theorem dX7_duels_92 : decode cX7_duels 92 = .ok (.lstore 9, 2) := by decide +kernel
theorem dX7_duels_94 : decode cX7_duels 94 = .ok (.lconst 0, 1) := by decide +kernel
theorem dX7_duels_95 : decode cX7_duels 95 = .ok (.lstore 11, 2) := by decide +kernel
theorem dX7_duels_97 : decode cX7_duels 97 = .ok (.iconst 0, 1) := by decide +kernel
theorem dX7_duels_98 : decode cX7_duels 98 = .ok (.istore 13, 2) := by decide +kernel
theorem dX7_duels_100 : decode cX7_duels 100 = .ok (.iload 13, 2) := by decide +kernel
theorem dX7_duels_102 : decode cX7_duels 102 = .ok (.iconst 1, 1) := by decide +kernel
theorem dX7_duels_103 : decode cX7_duels 103 = .ok (.aload_n 0, 1) := by decide +kernel
theorem dX7_duels_104 : decode cX7_duels 104 = .ok (.getfield 180, 3) := by decide +kernel
theorem dX7_duels_107 : decode cX7_duels 107 = .ok (.ishl, 1) := by decide +kernel
theorem dX7_duels_108 : decode cX7_duels 108 = .ok (.if_icmp .ge 158, 3) := by decide +kernel
theorem dX7_duels_111 : decode cX7_duels 111 = .ok (.iload 8, 2) := by decide +kernel
theorem dX7_duels_113 : decode cX7_duels 113 = .ok (.ifCond .eq 153, 3) := by decide +kernel
theorem dX7_duels_116 : decode cX7_duels 116 = .ok (.aload_n 0, 1) := by decide +kernel
theorem dX7_duels_117 : decode cX7_duels 117 = .ok (.iload 8, 2) := by decide +kernel
theorem dX7_duels_119 : decode cX7_duels 119 = .ok (.iload 13, 2) := by decide +kernel
theorem dX7_duels_121 : decode cX7_duels 121 = .ok (.iload 4, 2) := by decide +kernel
theorem dX7_duels_123 : decode cX7_duels 123 = .ok (.invokevirtual 219, 3) := by decide +kernel
theorem dX7_duels_126 : decode cX7_duels 126 = .ok (.lstore 14, 2) := by decide +kernel
theorem dX7_duels_128 : decode cX7_duels 128 = .ok (.iload 4, 2) := by decide +kernel
theorem dX7_duels_130 : decode cX7_duels 130 = .ok (.iconst 2, 1) := by decide +kernel
theorem dX7_duels_131 : decode cX7_duels 131 = .ok (.irem, 1) := by decide +kernel
theorem dX7_duels_132 : decode cX7_duels 132 = .ok (.ifCond .ne 13, 3) := by decide +kernel
theorem dX7_duels_135 : decode cX7_duels 135 = .ok (.aload_n 0, 1) := by decide +kernel
theorem dX7_duels_136 : decode cX7_duels 136 = .ok (.getfield 50, 3) := by decide +kernel
theorem dX7_duels_139 : decode cX7_duels 139 = .ok (.iload 13, 2) := by decide +kernel
theorem dX7_duels_141 : decode cX7_duels 141 = .ok (.laload, 1) := by decide +kernel
theorem dX7_duels_142 : decode cX7_duels 142 = .ok (.goto 10, 3) := by decide +kernel
theorem dX7_duels_145 : decode cX7_duels 145 = .ok (.aload_n 0, 1) := by decide +kernel
theorem dX7_duels_146 : decode cX7_duels 146 = .ok (.getfield 53, 3) := by decide +kernel
theorem dX7_duels_149 : decode cX7_duels 149 = .ok (.iload 13, 2) := by decide +kernel
theorem dX7_duels_151 : decode cX7_duels 151 = .ok (.laload, 1) := by decide +kernel
theorem dX7_duels_152 : decode cX7_duels 152 = .ok (.lstore 16, 2) := by decide +kernel
theorem dX7_duels_154 : decode cX7_duels 154 = .ok (.iload 4, 2) := by decide +kernel
theorem dX7_duels_156 : decode cX7_duels 156 = .ok (.iconst 2, 1) := by decide +kernel
theorem dX7_duels_157 : decode cX7_duels 157 = .ok (.irem, 1) := by decide +kernel
theorem dX7_duels_158 : decode cX7_duels 158 = .ok (.ifCond .ne 13, 3) := by decide +kernel
theorem dX7_duels_161 : decode cX7_duels 161 = .ok (.aload_n 0, 1) := by decide +kernel
theorem dX7_duels_162 : decode cX7_duels 162 = .ok (.getfield 53, 3) := by decide +kernel
theorem dX7_duels_165 : decode cX7_duels 165 = .ok (.iload 13, 2) := by decide +kernel
theorem dX7_duels_167 : decode cX7_duels 167 = .ok (.laload, 1) := by decide +kernel
theorem dX7_duels_168 : decode cX7_duels 168 = .ok (.goto 10, 3) := by decide +kernel
theorem dX7_duels_171 : decode cX7_duels 171 = .ok (.aload_n 0, 1) := by decide +kernel
theorem dX7_duels_172 : decode cX7_duels 172 = .ok (.getfield 50, 3) := by decide +kernel
theorem dX7_duels_175 : decode cX7_duels 175 = .ok (.iload 13, 2) := by decide +kernel
theorem dX7_duels_177 : decode cX7_duels 177 = .ok (.laload, 1) := by decide +kernel
theorem dX7_duels_178 : decode cX7_duels 178 = .ok (.lstore 18, 2) := by decide +kernel
theorem dX7_duels_180 : decode cX7_duels 180 = .ok (.lload 9, 2) := by decide +kernel
theorem dX7_duels_182 : decode cX7_duels 182 = .ok (.lload 14, 2) := by decide +kernel
theorem dX7_duels_184 : decode cX7_duels 184 = .ok (.iload 13, 2) := by decide +kernel
theorem dX7_duels_186 : decode cX7_duels 186 = .ok (.ifCond .ne 25, 3) := by decide +kernel
theorem dX7_duels_189 : decode cX7_duels 189 = .ok (.lload 6, 2) := by decide +kernel
theorem dX7_duels_191 : decode cX7_duels 191 = .ok (.lneg, 1) := by decide +kernel
theorem dX7_duels_192 : decode cX7_duels 192 = .ok (.aload_n 0, 1) := by decide +kernel
theorem dX7_duels_193 : decode cX7_duels 193 = .ok (.getfield 7, 3) := by decide +kernel
theorem dX7_duels_196 : decode cX7_duels 196 = .ok (.bipush 10, 2) := by decide +kernel
theorem dX7_duels_198 : decode cX7_duels 198 = .ok (.iconst 2, 1) := by decide +kernel
theorem dX7_duels_199 : decode cX7_duels 199 = .ok (.iload 5, 2) := by decide +kernel
theorem dX7_duels_201 : decode cX7_duels 201 = .ok (.imul, 1) := by decide +kernel
theorem dX7_duels_202 : decode cX7_duels 202 = .ok (.iadd, 1) := by decide +kernel
theorem dX7_duels_203 : decode cX7_duels 203 = .ok (.iconst 1, 1) := by decide +kernel
theorem dX7_duels_204 : decode cX7_duels 204 = .ok (.iadd, 1) := by decide +kernel
theorem dX7_duels_205 : decode cX7_duels 205 = .ok (.iaload, 1) := by decide +kernel
theorem dX7_duels_206 : decode cX7_duels 206 = .ok (.i2l, 1) := by decide +kernel
theorem dX7_duels_207 : decode cX7_duels 207 = .ok (.lmul, 1) := by decide +kernel
theorem dX7_duels_208 : decode cX7_duels 208 = .ok (.goto 22, 3) := by decide +kernel
theorem dX7_duels_211 : decode cX7_duels 211 = .ok (.lload 6, 2) := by decide +kernel
theorem dX7_duels_213 : decode cX7_duels 213 = .ok (.aload_n 0, 1) := by decide +kernel
theorem dX7_duels_214 : decode cX7_duels 214 = .ok (.getfield 7, 3) := by decide +kernel
theorem dX7_duels_217 : decode cX7_duels 217 = .ok (.bipush 10, 2) := by decide +kernel
theorem dX7_duels_219 : decode cX7_duels 219 = .ok (.iconst 2, 1) := by decide +kernel
theorem dX7_duels_220 : decode cX7_duels 220 = .ok (.iload 5, 2) := by decide +kernel
theorem dX7_duels_222 : decode cX7_duels 222 = .ok (.imul, 1) := by decide +kernel
theorem dX7_duels_223 : decode cX7_duels 223 = .ok (.iadd, 1) := by decide +kernel
theorem dX7_duels_224 : decode cX7_duels 224 = .ok (.iaload, 1) := by decide +kernel
theorem dX7_duels_225 : decode cX7_duels 225 = .ok (.i2l, 1) := by decide +kernel
theorem dX7_duels_226 : decode cX7_duels 226 = .ok (.lmul, 1) := by decide +kernel
theorem dX7_duels_227 : decode cX7_duels 227 = .ok (.lload 16, 2) := by decide +kernel
theorem dX7_duels_229 : decode cX7_duels 229 = .ok (.ladd, 1) := by decide +kernel
theorem dX7_duels_230 : decode cX7_duels 230 = .ok (.lmul, 1) := by decide +kernel
theorem dX7_duels_231 : decode cX7_duels 231 = .ok (.ladd, 1) := by decide +kernel
theorem dX7_duels_232 : decode cX7_duels 232 = .ok (.lstore 9, 2) := by decide +kernel
theorem dX7_duels_234 : decode cX7_duels 234 = .ok (.lload 11, 2) := by decide +kernel
theorem dX7_duels_236 : decode cX7_duels 236 = .ok (.lload 14, 2) := by decide +kernel
theorem dX7_duels_238 : decode cX7_duels 238 = .ok (.iload 13, 2) := by decide +kernel
theorem dX7_duels_240 : decode cX7_duels 240 = .ok (.ifCond .ne 14, 3) := by decide +kernel
theorem dX7_duels_243 : decode cX7_duels 243 = .ok (.lload 6, 2) := by decide +kernel
theorem dX7_duels_245 : decode cX7_duels 245 = .ok (.aload_n 0, 1) := by decide +kernel
theorem dX7_duels_246 : decode cX7_duels 246 = .ok (.invokevirtual 174, 3) := by decide +kernel
theorem dX7_duels_249 : decode cX7_duels 249 = .ok (.i2l, 1) := by decide +kernel
theorem dX7_duels_250 : decode cX7_duels 250 = .ok (.lmul, 1) := by decide +kernel
theorem dX7_duels_251 : decode cX7_duels 251 = .ok (.goto 5, 3) := by decide +kernel
theorem dX7_duels_254 : decode cX7_duels 254 = .ok (.lload 18, 2) := by decide +kernel
theorem dX7_duels_256 : decode cX7_duels 256 = .ok (.lmul, 1) := by decide +kernel
theorem dX7_duels_257 : decode cX7_duels 257 = .ok (.ladd, 1) := by decide +kernel
theorem dX7_duels_258 : decode cX7_duels 258 = .ok (.lstore 11, 2) := by decide +kernel
theorem dX7_duels_260 : decode cX7_duels 260 = .ok (.iinc 13 1, 3) := by decide +kernel
theorem dX7_duels_263 : decode cX7_duels 263 = .ok (.goto (-163), 3) := by decide +kernel
theorem dX7_duels_266 : decode cX7_duels 266 = .ok (.lload 9, 2) := by decide +kernel
theorem dX7_duels_268 : decode cX7_duels 268 = .ok (.lconst 0, 1) := by decide +kernel
theorem dX7_duels_269 : decode cX7_duels 269 = .ok (.lcmp, 1) := by decide +kernel
theorem dX7_duels_270 : decode cX7_duels 270 = .ok (.ifCond .le 7, 3) := by decide +kernel
theorem dX7_duels_273 : decode cX7_duels 273 = .ok (.iconst 1, 1) := by decide +kernel
theorem dX7_duels_274 : decode cX7_duels 274 = .ok (.goto 4, 3) := by decide +kernel
theorem dX7_duels_277 : decode cX7_duels 277 = .ok (.iconst 0, 1) := by decide +kernel
theorem dX7_duels_278 : decode cX7_duels 278 = .ok (.istore 13, 2) := by decide +kernel
theorem dX7_duels_280 : decode cX7_duels 280 = .ok (.aload_n 0, 1) := by decide +kernel
theorem dX7_duels_281 : decode cX7_duels 281 = .ok (.iload 8, 2) := by decide +kernel
theorem dX7_duels_283 : decode cX7_duels 283 = .ok (.aload_n 0, 1) := by decide +kernel
theorem dX7_duels_284 : decode cX7_duels 284 = .ok (.getfield 183, 3) := by decide +kernel
theorem dX7_duels_287 : decode cX7_duels 287 = .ok (.if_icmp .ne 8, 3) := by decide +kernel
theorem dX7_duels_290 : decode cX7_duels 290 = .ok (.iload 13, 2) := by decide +kernel
theorem dX7_duels_292 : decode cX7_duels 292 = .ok (.goto 7, 3) := by decide +kernel
theorem dX7_duels_295 : decode cX7_duels 295 = .ok (.aload_n 0, 1) := by decide +kernel
theorem dX7_duels_296 : decode cX7_duels 296 = .ok (.getfield 248, 3) := by decide +kernel
theorem dX7_duels_299 : decode cX7_duels 299 = .ok (.putfield 248, 3) := by decide +kernel
theorem dX7_duels_302 : decode cX7_duels 302 = .ok (.aload_n 0, 1) := by decide +kernel
theorem dX7_duels_303 : decode cX7_duels 303 = .ok (.getfield 44, 3) := by decide +kernel
theorem dX7_duels_306 : decode cX7_duels 306 = .ok (.iload 8, 2) := by decide +kernel
theorem dX7_duels_308 : decode cX7_duels 308 = .ok (.iload 13, 2) := by decide +kernel
theorem dX7_duels_310 : decode cX7_duels 310 = .ok (.ifCond .eq 8, 3) := by decide +kernel
theorem dX7_duels_313 : decode cX7_duels 313 = .ok (.lload 9, 2) := by decide +kernel
theorem dX7_duels_315 : decode cX7_duels 315 = .ok (.goto 4, 3) := by decide +kernel
theorem dX7_duels_318 : decode cX7_duels 318 = .ok (.lconst 0, 1) := by decide +kernel
theorem dX7_duels_319 : decode cX7_duels 319 = .ok (.lastore, 1) := by decide +kernel
theorem dX7_duels_320 : decode cX7_duels 320 = .ok (.aload_n 0, 1) := by decide +kernel
theorem dX7_duels_321 : decode cX7_duels 321 = .ok (.getfield 47, 3) := by decide +kernel
theorem dX7_duels_324 : decode cX7_duels 324 = .ok (.iload 8, 2) := by decide +kernel
theorem dX7_duels_326 : decode cX7_duels 326 = .ok (.iload 13, 2) := by decide +kernel
theorem dX7_duels_328 : decode cX7_duels 328 = .ok (.ifCond .eq 8, 3) := by decide +kernel
theorem dX7_duels_331 : decode cX7_duels 331 = .ok (.lload 11, 2) := by decide +kernel
theorem dX7_duels_333 : decode cX7_duels 333 = .ok (.goto 19, 3) := by decide +kernel
theorem dX7_duels_336 : decode cX7_duels 336 = .ok (.lload 6, 2) := by decide +kernel
theorem dX7_duels_338 : decode cX7_duels 338 = .ok (.aload_n 0, 1) := by decide +kernel
theorem dX7_duels_339 : decode cX7_duels 339 = .ok (.getfield 180, 3) := by decide +kernel
theorem dX7_duels_342 : decode cX7_duels 342 = .ok (.invokestatic 232, 3) := by decide +kernel
theorem dX7_duels_345 : decode cX7_duels 345 = .ok (.lmul, 1) := by decide +kernel
theorem dX7_duels_346 : decode cX7_duels 346 = .ok (.aload_n 0, 1) := by decide +kernel
theorem dX7_duels_347 : decode cX7_duels 347 = .ok (.invokevirtual 174, 3) := by decide +kernel
theorem dX7_duels_350 : decode cX7_duels 350 = .ok (.i2l, 1) := by decide +kernel
theorem dX7_duels_351 : decode cX7_duels 351 = .ok (.lmul, 1) := by decide +kernel
theorem dX7_duels_352 : decode cX7_duels 352 = .ok (.lastore, 1) := by decide +kernel
theorem dX7_duels_353 : decode cX7_duels 353 = .ok (.iinc 8 1, 3) := by decide +kernel
theorem dX7_duels_356 : decode cX7_duels 356 = .ok (.goto (-276), 3) := by decide +kernel
theorem dX7_duels_359 : decode cX7_duels 359 = .ok (.iconst 0, 1) := by decide +kernel
theorem dX7_duels_360 : decode cX7_duels 360 = .ok (.istore 8, 2) := by decide +kernel
theorem dX7_duels_362 : decode cX7_duels 362 = .ok (.iload 8, 2) := by decide +kernel
theorem dX7_duels_364 : decode cX7_duels 364 = .ok (.iconst 1, 1) := by decide +kernel
theorem dX7_duels_365 : decode cX7_duels 365 = .ok (.aload_n 0, 1) := by decide +kernel
theorem dX7_duels_366 : decode cX7_duels 366 = .ok (.getfield 180, 3) := by decide +kernel
theorem dX7_duels_369 : decode cX7_duels 369 = .ok (.ishl, 1) := by decide +kernel
theorem dX7_duels_370 : decode cX7_duels 370 = .ok (.if_icmp .ge 71, 3) := by decide +kernel
theorem dX7_duels_373 : decode cX7_duels 373 = .ok (.aload_n 0, 1) := by decide +kernel
theorem dX7_duels_374 : decode cX7_duels 374 = .ok (.getfield 50, 3) := by decide +kernel
theorem dX7_duels_377 : decode cX7_duels 377 = .ok (.iload 8, 2) := by decide +kernel
theorem dX7_duels_379 : decode cX7_duels 379 = .ok (.iload 4, 2) := by decide +kernel
theorem dX7_duels_381 : decode cX7_duels 381 = .ok (.iconst 2, 1) := by decide +kernel
theorem dX7_duels_382 : decode cX7_duels 382 = .ok (.irem, 1) := by decide +kernel
theorem dX7_duels_383 : decode cX7_duels 383 = .ok (.ifCond .ne 13, 3) := by decide +kernel
theorem dX7_duels_386 : decode cX7_duels 386 = .ok (.aload_n 0, 1) := by decide +kernel
theorem dX7_duels_387 : decode cX7_duels 387 = .ok (.getfield 44, 3) := by decide +kernel
theorem dX7_duels_390 : decode cX7_duels 390 = .ok (.iload 8, 2) := by decide +kernel
theorem dX7_duels_392 : decode cX7_duels 392 = .ok (.laload, 1) := by decide +kernel
theorem dX7_duels_393 : decode cX7_duels 393 = .ok (.goto 10, 3) := by decide +kernel
theorem dX7_duels_396 : decode cX7_duels 396 = .ok (.aload_n 0, 1) := by decide +kernel
theorem dX7_duels_397 : decode cX7_duels 397 = .ok (.getfield 47, 3) := by decide +kernel
theorem dX7_duels_400 : decode cX7_duels 400 = .ok (.iload 8, 2) := by decide +kernel
theorem dX7_duels_402 : decode cX7_duels 402 = .ok (.laload, 1) := by decide +kernel
theorem dX7_duels_403 : decode cX7_duels 403 = .ok (.lastore, 1) := by decide +kernel
theorem dX7_duels_404 : decode cX7_duels 404 = .ok (.aload_n 0, 1) := by decide +kernel
theorem dX7_duels_405 : decode cX7_duels 405 = .ok (.getfield 53, 3) := by decide +kernel
theorem dX7_duels_408 : decode cX7_duels 408 = .ok (.iload 8, 2) := by decide +kernel
theorem dX7_duels_410 : decode cX7_duels 410 = .ok (.iload 4, 2) := by decide +kernel
theorem dX7_duels_412 : decode cX7_duels 412 = .ok (.iconst 2, 1) := by decide +kernel
theorem dX7_duels_413 : decode cX7_duels 413 = .ok (.irem, 1) := by decide +kernel
theorem dX7_duels_414 : decode cX7_duels 414 = .ok (.ifCond .ne 13, 3) := by decide +kernel
theorem dX7_duels_417 : decode cX7_duels 417 = .ok (.aload_n 0, 1) := by decide +kernel
theorem dX7_duels_418 : decode cX7_duels 418 = .ok (.getfield 47, 3) := by decide +kernel
theorem dX7_duels_421 : decode cX7_duels 421 = .ok (.iload 8, 2) := by decide +kernel
theorem dX7_duels_423 : decode cX7_duels 423 = .ok (.laload, 1) := by decide +kernel
theorem dX7_duels_424 : decode cX7_duels 424 = .ok (.goto 10, 3) := by decide +kernel
theorem dX7_duels_427 : decode cX7_duels 427 = .ok (.aload_n 0, 1) := by decide +kernel
theorem dX7_duels_428 : decode cX7_duels 428 = .ok (.getfield 44, 3) := by decide +kernel
theorem dX7_duels_431 : decode cX7_duels 431 = .ok (.iload 8, 2) := by decide +kernel
theorem dX7_duels_433 : decode cX7_duels 433 = .ok (.laload, 1) := by decide +kernel
theorem dX7_duels_434 : decode cX7_duels 434 = .ok (.lastore, 1) := by decide +kernel
theorem dX7_duels_435 : decode cX7_duels 435 = .ok (.iinc 8 1, 3) := by decide +kernel
theorem dX7_duels_438 : decode cX7_duels 438 = .ok (.goto (-76), 3) := by decide +kernel
theorem dX7_duels_441 : decode cX7_duels 441 = .ok (.iinc 4 (-1), 3) := by decide +kernel
theorem dX7_duels_444 : decode cX7_duels 444 = .ok (.goto (-402), 3) := by decide +kernel
theorem dX7_duels_447 : decode cX7_duels 447 = .ok (.return_, 1) := by decide +kernel
theorem dX7_duel_0 : decode cX7_duel 0 = .ok (.aload_n 0, 1) := by decide +kernel
theorem dX7_duel_1 : decode cX7_duel 1 = .ok (.iload_n 1, 1) := by decide +kernel
theorem dX7_duel_2 : decode cX7_duel 2 = .ok (.invokevirtual 203, 3) := by decide +kernel
theorem dX7_duel_5 : decode cX7_duel 5 = .ok (.ifCond .eq 36, 3) := by decide +kernel
theorem dX7_duel_8 : decode cX7_duel 8 = .ok (.aload_n 0, 1) := by decide +kernel
theorem dX7_duel_9 : decode cX7_duel 9 = .ok (.iload_n 2, 1) := by decide +kernel
theorem dX7_duel_10 : decode cX7_duel 10 = .ok (.invokevirtual 203, 3) := by decide +kernel
theorem dX7_duel_13 : decode cX7_duel 13 = .ok (.ifCond .eq 28, 3) := by decide +kernel
theorem dX7_duel_16 : decode cX7_duel 16 = .ok (.iload_n 1, 1) := by decide +kernel
theorem dX7_duel_17 : decode cX7_duel 17 = .ok (.iload_n 2, 1) := by decide +kernel
theorem dX7_duel_18 : decode cX7_duel 18 = .ok (.if_icmp .eq 23, 3) := by decide +kernel
theorem dX7_duel_21 : decode cX7_duel 21 = .ok (.iload_n 3, 1) := by decide +kernel
theorem dX7_duel_22 : decode cX7_duel 22 = .ok (.invokestatic 236, 3) := by decide +kernel
theorem dX7_duel_25 : decode cX7_duel 25 = .ok (.ifCond .eq 16, 3) := by decide +kernel
theorem dX7_duel_28 : decode cX7_duel 28 = .ok (.iload 4, 2) := by decide +kernel
theorem dX7_duel_30 : decode cX7_duel 30 = .ok (.i2l, 1) := by decide +kernel
theorem dX7_duel_31 : decode cX7_duel 31 = .ok (.lconst 0, 1) := by decide +kernel
theorem dX7_duel_32 : decode cX7_duel 32 = .ok (.ldc2_w 145, 3) := by decide +kernel
theorem dX7_duel_35 : decode cX7_duel 35 = .ok (.invokestatic 74, 3) := by decide +kernel
theorem dX7_duel_38 : decode cX7_duel 38 = .ok (.ifCond .ne 7, 3) := by decide +kernel
theorem dX7_duel_41 : decode cX7_duel 41 = .ok (.ldc2_w 239, 3) := by decide +kernel
theorem dX7_duel_44 : decode cX7_duel 44 = .ok (.lreturn, 1) := by decide +kernel
theorem dX7_duel_45 : decode cX7_duel 45 = .ok (.aload_n 0, 1) := by decide +kernel
theorem dX7_duel_46 : decode cX7_duel 46 = .ok (.invokevirtual 196, 3) := by decide +kernel
theorem dX7_duel_49 : decode cX7_duel 49 = .ok (.aload_n 0, 1) := by decide +kernel
theorem dX7_duel_50 : decode cX7_duel 50 = .ok (.iload_n 1, 1) := by decide +kernel
theorem dX7_duel_51 : decode cX7_duel 51 = .ok (.iload_n 2, 1) := by decide +kernel
theorem dX7_duel_52 : decode cX7_duel 52 = .ok (.iload_n 3, 1) := by decide +kernel
theorem dX7_duel_53 : decode cX7_duel 53 = .ok (.invokevirtual 264, 3) := by decide +kernel
theorem dX7_duel_56 : decode cX7_duel 56 = .ok (.iload 4, 2) := by decide +kernel
theorem dX7_duel_58 : decode cX7_duel 58 = .ok (.iconst 4, 1) := by decide +kernel
theorem dX7_duel_59 : decode cX7_duel 59 = .ok (.if_icmp .ne 16, 3) := by decide +kernel
theorem dX7_duel_62 : decode cX7_duel 62 = .ok (.aload_n 0, 1) := by decide +kernel
theorem dX7_duel_63 : decode cX7_duel 63 = .ok (.getfield 248, 3) := by decide +kernel
theorem dX7_duel_66 : decode cX7_duel 66 = .ok (.ifCond .eq 7, 3) := by decide +kernel
theorem dX7_duel_69 : decode cX7_duel 69 = .ok (.lconst 1, 1) := by decide +kernel
theorem dX7_duel_70 : decode cX7_duel 70 = .ok (.goto 4, 3) := by decide +kernel
theorem dX7_duel_73 : decode cX7_duel 73 = .ok (.lconst 0, 1) := by decide +kernel
theorem dX7_duel_74 : decode cX7_duel 74 = .ok (.lreturn, 1) := by decide +kernel
theorem dX7_duel_75 : decode cX7_duel 75 = .ok (.iload 4, 2) := by decide +kernel
theorem dX7_duel_77 : decode cX7_duel 77 = .ok (.iconst 2, 1) := by decide +kernel
theorem dX7_duel_78 : decode cX7_duel 78 = .ok (.if_icmp .ge 15, 3) := by decide +kernel
theorem dX7_duel_81 : decode cX7_duel 81 = .ok (.aload_n 0, 1) := by decide +kernel
theorem dX7_duel_82 : decode cX7_duel 82 = .ok (.getfield 50, 3) := by decide +kernel
theorem dX7_duel_85 : decode cX7_duel 85 = .ok (.aload_n 0, 1) := by decide +kernel
theorem dX7_duel_86 : decode cX7_duel 86 = .ok (.getfield 183, 3) := by decide +kernel
theorem dX7_duel_89 : decode cX7_duel 89 = .ok (.laload, 1) := by decide +kernel
theorem dX7_duel_90 : decode cX7_duel 90 = .ok (.goto 12, 3) := by decide +kernel
theorem dX7_duel_93 : decode cX7_duel 93 = .ok (.aload_n 0, 1) := by decide +kernel
theorem dX7_duel_94 : decode cX7_duel 94 = .ok (.getfield 53, 3) := by decide +kernel
theorem dX7_duel_97 : decode cX7_duel 97 = .ok (.aload_n 0, 1) := by decide +kernel
theorem dX7_duel_98 : decode cX7_duel 98 = .ok (.getfield 183, 3) := by decide +kernel
theorem dX7_duel_101 : decode cX7_duel 101 = .ok (.laload, 1) := by decide +kernel
theorem dX7_duel_102 : decode cX7_duel 102 = .ok (.aload_n 0, 1) := by decide +kernel
theorem dX7_duel_103 : decode cX7_duel 103 = .ok (.getfield 180, 3) := by decide +kernel
theorem dX7_duel_106 : decode cX7_duel 106 = .ok (.iload_n 3, 1) := by decide +kernel
theorem dX7_duel_107 : decode cX7_duel 107 = .ok (.imul, 1) := by decide +kernel
theorem dX7_duel_108 : decode cX7_duel 108 = .ok (.invokestatic 232, 3) := by decide +kernel
theorem dX7_duel_111 : decode cX7_duel 111 = .ok (.iload 4, 2) := by decide +kernel
theorem dX7_duel_113 : decode cX7_duel 113 = .ok (.iconst 2, 1) := by decide +kernel
theorem dX7_duel_114 : decode cX7_duel 114 = .ok (.irem, 1) := by decide +kernel
theorem dX7_duel_115 : decode cX7_duel 115 = .ok (.invokestatic 244, 3) := by decide +kernel
theorem dX7_duel_118 : decode cX7_duel 118 = .ok (.lreturn, 1) := by decide +kernel
set_option maxRecDepth 100000 in
set_option maxHeartbeats 4000000 in
theorem mX7_sits_l (s : Nat → Int32) (la : Nat → Int32) (r : rT) (v : vT) (c : Nat → Nat → Int32) (l : Nat → Int32) (tn : Int32) (p : Nat → Int32) (pa : Nat → Nat → Int32) (m : Nat) (q : rT) (b : Int32) (k N : Nat) (hk : k < r 6 1) (hN : N ≤ 5) (wh : Int32) (hS : mS s r) (hr : rOK r) (h0 : ¬ r 6 3 = 0) : ∀ (k9 i : Nat), i + k9 = N → ∀ (h : Nat → Nat → Int64), J KX7_sits 21 (fun o B => o = some (.long (lowT (gnZ r k N False) (1000 ^ N) wh)) ∧ ∃ m9 q9 b9 x9 h9, B = (wM s la r v c l tn p pa m9 q9 b9 x9 h9)) 43 [some (.ref 0), some (.int (nI k)), some (.int (nI N)), some (.int wh), some (.long (lN (mst (oqR r) (r 6 0) (r 2 k) i))), none, some (.int (nI i))] [] (wM s la r v c l tn p pa (r 6 0) (mlay q r (r 6 0)) b (mho (oqR r) (r 6 0) i) h) 0 0 := by
  intro k9
  induction k9 with
  | zero =>
    intro i hi
    obtain hiN : i = N := by omega
    intro h
    rw [hiN]
    clear hiN hi i
    refine J.iload dX7_sits_43 rfl ?_
    refine J.iload_n dX7_sits_45 rfl rfl ?_
    refine J.icmp_ge (tgt := 113) dX7_sits_46 (by decide) (fun c46 => ?_) (fun c46 => absurd c46 (fun h => h (Int32.le_refl _)))
    refine J.lload dX7_sits_113 rfl ?_
    refine J.aload_n dX7_sits_115 rfl rfl ?_
    refine J.mg26 dX7_sits_116 rfl ?_
    rw [(mlay_E q r 0 (r 6 0)).2.1]
    refine J.if_eq (tgt := 126) dX7_sits_119 (by decide) (fun c119 => absurd c119 (fun h9 => h0 ((nI_eqi (b := 0) (by have := hr.w; omega) (by decide)).mp h9))) (fun c119 => ?_)
    refine J.iload_n dX7_sits_122 rfl rfl ?_
    refine J.if_ne (tgt := 130) dX7_sits_123 (by decide) (fun c123 => ?_) (fun c123 => ?_)
    · refine J.aload_n dX7_sits_130 rfl rfl ?_
      refine J.mg28 dX7_sits_131 rfl ?_
      refine J.iconst (0) dX7_sits_134 (by decide) ?_
      refine J.ml10 (0) dX7_sits_135 rfl (by decide) ?_
      refine J.aload_n dX7_sits_136 rfl rfl ?_
      refine J.mg0 dX7_sits_137 rfl ?_
      refine J.bipush (10) dX7_sits_140 (by decide) ?_
      refine J.iconst (2) dX7_sits_142 (by decide) ?_
      refine J.iload_n dX7_sits_143 rfl rfl ?_
      refine J.imul dX7_sits_144 ?_
      refine J.iadd dX7_sits_145 ?_
      refine J.iconst (1) dX7_sits_146 (by decide) ?_
      refine J.iadd dX7_sits_147 ?_
      refine J.ml1 (10 + 2 * k + 1) dX7_sits_148 (ixk1 10 2 k 1) (by have := hr.2.1; omega) ?_
      rw [(hS.2.2.1 k hk).2]
      refine J.i2l dX7_sits_149 ?_
      refine J.lmul dX7_sits_150 ?_
      refine J.lsub dX7_sits_151 ?_
      refine J.lstore dX7_sits_152 (by decide) rfl ?_
      try dsimp only [List.set]
      refine J.lload dX7_sits_154 rfl ?_
      refine J.aload_n dX7_sits_156 rfl rfl ?_
      refine J.mg25 dX7_sits_157 rfl ?_
      refine J.iload_n dX7_sits_160 rfl rfl ?_
      refine J.imul dX7_sits_161 ?_
      rw [ix0 (r 6 0) N]
      refine J.cs (as := [.int _]) (is := []) okX7_tens jcX7_232 (mX7_tens ((r 6 0) * N) (by have := Nat.mul_le_mul hr.1 hN; omega)) dX7_sits_162 rfl rfl rfl rfl rfl rfl (fun r9 B9 hq => ?_)
      obtain ⟨rfl, rfl⟩ := hq
      refine ⟨rfl, ?_⟩
      show J _ _ _ _ _ (.long _ :: _) (wM s la r v c l tn p pa (r 6 0) (mlay q r (r 6 0)) b (mho (oqR r) (r 6 0) N) h) _ _
      refine J.iload_n dX7_sits_165 rfl rfl ?_
      first
      | (rw [nI_l (by have := hr.2.2.2.2.2.2.2.2.2.2.2.1 k; omega), lN_subm])
      | (rw [show lN (mst (oqR r) (r 6 0) (r 2 k) N) - 0 = lI (((mst (oqR r) (r 6 0) (r 2 k) N) : Nat) - ((mho (oqR r) (r 6 0) N) 0 : Nat) * ((r 3 k : Nat) : Int)) from by have hN0 : N = 0 := (nI_eqi (b := 0) (by omega) (by decide)).mp c123; rw [show (0 : Int64) = lN 0 * lN (r 3 k) from by rw [lN_mul, Nat.zero_mul] <;> rfl, lN_subm, show (mho (oqR r) (r 6 0) N) 0 = 0 from by rw [hN0]; exact if_neg (by show ¬ 0 = r 6 3; omega)]])
      refine J.cs (as := [.long _, .long _, .int _]) (is := []) okX7_lowest jcX7_244 (mX7_lowest (((mst (oqR r) (r 6 0) (r 2 k) N) : Nat) - ((mho (oqR r) (r 6 0) N) 0 : Nat) * ((r 3 k : Nat) : Int)) (10 ^ ((r 6 0) * N)) (wh) (by have := sits_le hr h0 k hN; omega) (by have := sits_le hr h0 k hN; omega) (by have := ten_10 hr.1 hN; omega) (by have := ten_10 hr.1 hN; omega)) dX7_sits_166 rfl rfl rfl rfl rfl rfl (fun r9 B9 hq => ?_)
      obtain ⟨rfl, rfl⟩ := hq
      refine ⟨rfl, ?_⟩
      show J _ _ _ _ _ (.long _ :: _) (wM s la r v c l tn p pa (r 6 0) (mlay q r (r 6 0)) b (mho (oqR r) (r 6 0) N) h) _ _
      exact J.lret dX7_sits_169 rfl (Nat.le_refl _) (Nat.le_refl _) ⟨congrArg (fun z => some (Value.long z)) (sitsE hr h0 k N wh), _, _, _, _, _, rfl⟩
    · refine J.lconst 0 dX7_sits_126 (by decide) ?_
      refine J.goto (tgt := 151) dX7_sits_127 (by decide) ?_
      refine J.lsub dX7_sits_151 ?_
      refine J.lstore dX7_sits_152 (by decide) rfl ?_
      try dsimp only [List.set]
      refine J.lload dX7_sits_154 rfl ?_
      refine J.aload_n dX7_sits_156 rfl rfl ?_
      refine J.mg25 dX7_sits_157 rfl ?_
      refine J.iload_n dX7_sits_160 rfl rfl ?_
      refine J.imul dX7_sits_161 ?_
      rw [ix0 (r 6 0) N]
      refine J.cs (as := [.int _]) (is := []) okX7_tens jcX7_232 (mX7_tens ((r 6 0) * N) (by have := Nat.mul_le_mul hr.1 hN; omega)) dX7_sits_162 rfl rfl rfl rfl rfl rfl (fun r9 B9 hq => ?_)
      obtain ⟨rfl, rfl⟩ := hq
      refine ⟨rfl, ?_⟩
      show J _ _ _ _ _ (.long _ :: _) (wM s la r v c l tn p pa (r 6 0) (mlay q r (r 6 0)) b (mho (oqR r) (r 6 0) N) h) _ _
      refine J.iload_n dX7_sits_165 rfl rfl ?_
      first
      | (rw [nI_l (by have := hr.2.2.2.2.2.2.2.2.2.2.2.1 k; omega), lN_subm])
      | (rw [show lN (mst (oqR r) (r 6 0) (r 2 k) N) - 0 = lI (((mst (oqR r) (r 6 0) (r 2 k) N) : Nat) - ((mho (oqR r) (r 6 0) N) 0 : Nat) * ((r 3 k : Nat) : Int)) from by have hN0 : N = 0 := (nI_eqi (b := 0) (by omega) (by decide)).mp c123; rw [show (0 : Int64) = lN 0 * lN (r 3 k) from by rw [lN_mul, Nat.zero_mul] <;> rfl, lN_subm, show (mho (oqR r) (r 6 0) N) 0 = 0 from by rw [hN0]; exact if_neg (by show ¬ 0 = r 6 3; omega)]])
      refine J.cs (as := [.long _, .long _, .int _]) (is := []) okX7_lowest jcX7_244 (mX7_lowest (((mst (oqR r) (r 6 0) (r 2 k) N) : Nat) - ((mho (oqR r) (r 6 0) N) 0 : Nat) * ((r 3 k : Nat) : Int)) (10 ^ ((r 6 0) * N)) (wh) (by have := sits_le hr h0 k hN; omega) (by have := sits_le hr h0 k hN; omega) (by have := ten_10 hr.1 hN; omega) (by have := ten_10 hr.1 hN; omega)) dX7_sits_166 rfl rfl rfl rfl rfl rfl (fun r9 B9 hq => ?_)
      obtain ⟨rfl, rfl⟩ := hq
      refine ⟨rfl, ?_⟩
      show J _ _ _ _ _ (.long _ :: _) (wM s la r v c l tn p pa (r 6 0) (mlay q r (r 6 0)) b (mho (oqR r) (r 6 0) N) h) _ _
      exact J.lret dX7_sits_169 rfl (Nat.le_refl _) (Nat.le_refl _) ⟨congrArg (fun z => some (Value.long z)) (sitsE hr h0 k N wh), _, _, _, _, _, rfl⟩
  | succ k9 ih =>
    intro i hi
    have hiN : i < N := by omega
    intro h
    refine J.iload dX7_sits_43 rfl ?_
    refine J.iload_n dX7_sits_45 rfl rfl ?_
    refine J.icmp_ge (tgt := 113) dX7_sits_46 (by decide) (fun c46 => absurd c46 (nI_ge (by omega) (by omega))) (fun c46 => ?_)
    refine J.aload_n dX7_sits_49 rfl rfl ?_
    refine J.mg26 dX7_sits_50 rfl ?_
    rw [(mlay_E q r 0 (r 6 0)).2.1]
    refine J.if_eq (tgt := 113) dX7_sits_53 (by decide) (fun c53 => absurd c53 (fun h9 => h0 ((nI_eqi (b := 0) (by have := hr.w; omega) (by decide)).mp h9))) (fun c53 => ?_)
    refine J.aload_n dX7_sits_56 rfl rfl ?_
    refine J.iload dX7_sits_57 rfl ?_
    refine J.cvM (as := [.int _]) s la r v c l tn p pa (r 6 0) (mlay q r (r 6 0)) b (mho (oqR r) (r 6 0) i) h okX7_hourOn jcX7_226 (mX7_hourOn s la r v c l tn p pa (r 6 0) (mlay q r (r 6 0)) b (mho (oqR r) (r 6 0) i) h (oqR r) (mlay_q q) (mlay_ok hr) i (by omega)) dX7_sits_59 rfl rfl rfl rfl (fun r9 B9 hq9 => ?_)
    obtain ⟨rfl, h9, rfl⟩ := hq9
    refine ⟨_, _, _, _, _, _, _, _, _, _, _, _, _, _, rfl, ?_⟩
    show J _ _ _ _ _ [] (wM s la r v c l tn p pa (r 6 0) (mlay q r (r 6 0)) b (mho (oqR r) (r 6 0) (i + 1)) h9) _ _
    refine J.lload dX7_sits_62 rfl ?_
    refine J.aload_n dX7_sits_64 rfl rfl ?_
    refine J.mg25 dX7_sits_65 rfl ?_
    refine J.cs (as := [.int _]) (is := []) okX7_tens jcX7_232 (mX7_tens (r 6 0) (by have := hr.1; omega)) dX7_sits_68 rfl rfl rfl rfl rfl rfl (fun r9 B9 hq => ?_)
    obtain ⟨rfl, rfl⟩ := hq
    refine ⟨rfl, ?_⟩
    show J _ _ _ _ _ (.long _ :: _) (wM s la r v c l tn p pa (r 6 0) (mlay q r (r 6 0)) b (mho (oqR r) (r 6 0) (i + 1)) h9) _ _
    refine J.lmul dX7_sits_71 ?_
    refine J.aload_n dX7_sits_72 rfl rfl ?_
    refine J.mg25 dX7_sits_73 rfl ?_
    refine J.iload dX7_sits_76 rfl ?_
    refine J.iconst (1) dX7_sits_78 (by decide) ?_
    refine J.iadd dX7_sits_79 ?_
    refine J.imul dX7_sits_80 ?_
    rw [nI_1 i, ix0 (r 6 0) (i + 1)]
    refine J.cs (as := [.int _]) (is := []) okX7_tens jcX7_232 (mX7_tens (r 6 0 * (i + 1)) (by have := Nat.mul_le_mul hr.1 (show i + 1 ≤ 5 by omega); omega)) dX7_sits_81 rfl rfl rfl rfl rfl rfl (fun r9 B9 hq => ?_)
    obtain ⟨rfl, rfl⟩ := hq
    refine ⟨rfl, ?_⟩
    show J _ _ _ _ _ (.long _ :: _) (wM s la r v c l tn p pa (r 6 0) (mlay q r (r 6 0)) b (mho (oqR r) (r 6 0) (i + 1)) h9) _ _
    refine J.aload_n dX7_sits_84 rfl rfl ?_
    refine J.mg28 dX7_sits_85 rfl ?_
    refine J.iconst (0) dX7_sits_88 (by decide) ?_
    refine J.ml10 (0) dX7_sits_89 rfl (by decide) ?_
    refine J.lsub dX7_sits_90 ?_
    refine J.aload_n dX7_sits_91 rfl rfl ?_
    refine J.mg0 dX7_sits_92 rfl ?_
    refine J.bipush (10) dX7_sits_95 (by decide) ?_
    refine J.iconst (2) dX7_sits_97 (by decide) ?_
    refine J.iload_n dX7_sits_98 rfl rfl ?_
    refine J.imul dX7_sits_99 ?_
    refine J.iadd dX7_sits_100 ?_
    refine J.ml1 (10 + 2 * k) dX7_sits_101 (ixk 10 2 k) (by have := hr.2.1; omega) ?_
    rw [(hS.2.2.1 k hk).1]
    refine J.i2l dX7_sits_102 ?_
    refine J.lmul dX7_sits_103 ?_
    refine J.ladd dX7_sits_104 ?_
    rw [lN_sub (mho_0 (mlay_ok hr) (i + 1)), nI_l (by have := hr.2.2.2.2.2.2.2.2.2.2.1 k; omega), lN_mul, lN_mul, lN_add]
    refine J.lstore dX7_sits_105 (by decide) rfl ?_
    try dsimp only [List.set]
    refine J.iinc (1) dX7_sits_107 (by decide) rfl (by decide) rfl ?_
    try dsimp only [List.set]
    refine J.goto (tgt := 43) dX7_sits_110 (by decide) ?_
    exact J.at (ih (i + 1) (by omega) h9) (by rw [← nI_1 i] <;> rfl) rfl rfl
set_option maxRecDepth 100000 in
set_option maxHeartbeats 4000000 in
theorem mX7_sits (s : Nat → Int32) (la : Nat → Int32) (r : rT) (v : vT) (c : Nat → Nat → Int32) (l : Nat → Int32) (tn : Int32) (p : Nat → Int32) (pa : Nat → Nat → Int32) (m : Nat) (q : rT) (b : Int32) (x : Nat → Nat) (h : Nat → Nat → Int64) (k N : Nat) (hk : k < r 6 1) (hN : N ≤ 5) (wh : Int32) (hw : 0 ≤ wh ∧ wh ≤ 1) (hS : mS s r) (hr : rOK r) : J KX7_sits 21 (fun o B => o = some (.long (lowT (gnZ r k N False) (1000 ^ N) wh)) ∧ ∃ m9 q9 b9 x9 h9, B = (wM s la r v c l tn p pa m9 q9 b9 x9 h9)) 0 [some (.ref 0), some (.int (nI k)), some (.int (nI N)), some (.int wh), none, none, none] [] (wM s la r v c l tn p pa m q b x h) 0 0 := by
  by_cases h0 : r 6 3 = 0
  · skip
    refine J.aload_n dX7_sits_0 rfl rfl ?_
    refine J.iload_n dX7_sits_1 rfl rfl ?_
    refine J.cvM (as := [.int _]) s la r v c l tn p pa m q b x h okX7_isKing jcX7_203 (mX7_isKing s la r v c l tn p pa m q b x h (nI k)) dX7_sits_2 rfl rfl rfl rfl (fun r9 B9 hq9 => ?_)
    obtain ⟨rfl, rfl⟩ := hq9
    refine ⟨_, _, _, _, _, _, _, _, _, _, _, _, _, _, rfl, ?_⟩
    show J _ _ _ _ _ (.int _ :: _) (wM s la r v c l tn p pa m q b x h) _ _
    refine J.if_eq (tgt := 25) dX7_sits_5 (by decide) (fun c5 => absurd c5 (fun h => (jB_0 _).mp h (jin_ge (by have := hr.2.1; omega) hk))) (fun c5 => ?_)
    refine J.iload_n dX7_sits_8 rfl rfl ?_
    refine J.cs (as := [.int _]) (is := []) okX7_isLong jcX7_236 (mX7_isLong (nI N)) dX7_sits_9 rfl rfl rfl rfl rfl rfl (fun r9 B9 hq => ?_)
    obtain ⟨rfl, rfl⟩ := hq
    refine ⟨rfl, ?_⟩
    show J _ _ _ _ _ (.int _ :: _) (wM s la r v c l tn p pa m q b x h) _ _
    refine J.if_eq (tgt := 25) dX7_sits_12 (by decide) (fun c12 => absurd c12 (fun h => (jB_0 _).mp h (jw (a := 0) (c := 5) (by decide) (Nat.zero_le _) hN))) (fun c12 => ?_)
    refine J.iload_n dX7_sits_15 rfl rfl ?_
    refine J.i2l dX7_sits_16 ?_
    refine J.lconst 0 dX7_sits_17 (by decide) ?_
    refine J.lconst 1 dX7_sits_18 (by decide) ?_
    refine J.cs (as := [.long _, .long _, .long _]) (is := []) okX7_in jcX7_74 (mX7_inI wh 0 1 (by decide) (by decide)) dX7_sits_19 rfl rfl rfl rfl rfl rfl (fun r9 B9 hq => ?_)
    obtain ⟨rfl, rfl⟩ := hq
    refine ⟨rfl, ?_⟩
    show J _ _ _ _ _ (.int _ :: _) (wM s la r v c l tn p pa m q b x h) _ _
    refine J.if_ne (tgt := 29) dX7_sits_22 (by decide) (fun c22 => ?_) (fun c22 => absurd c22 (fun h => (jB_0 _).mp h hw))
    refine J.aload_n dX7_sits_29 rfl rfl ?_
    refine J.cvM (as := []) s la r v c l tn p pa m q b x h okX7_lays jcX7_196 (mX7_lays s la r v c l tn p pa m q b x h hS hr) dX7_sits_30 rfl rfl rfl rfl (fun r9 B9 hq9 => ?_)
    obtain ⟨rfl, rfl⟩ := hq9
    refine ⟨_, _, _, _, _, _, _, _, _, _, _, _, _, _, rfl, ?_⟩
    show J _ _ _ _ _ [] (wM s la r v c l tn p pa (r 6 0) (mlay q r (r 6 0)) b x h) _ _
    refine J.lconst 0 dX7_sits_33 (by decide) ?_
    refine J.lstore dX7_sits_34 (by decide) rfl ?_
    try dsimp only [List.set]
    refine J.aload_n dX7_sits_36 rfl rfl ?_
    refine J.cvM (as := []) s la r v c l tn p pa (r 6 0) (mlay q r (r 6 0)) b x h okX7_begins jcX7_223 (mX7_begins s la r v c l tn p pa (r 6 0) (mlay q r (r 6 0)) b x h (by rw [(mlay_E q r 0 (r 6 0)).2.1]; exact hr.w)) dX7_sits_37 rfl rfl rfl rfl (fun r9 B9 hq9 => ?_)
    obtain ⟨rfl, rfl⟩ := hq9
    refine ⟨_, _, _, _, _, _, _, _, _, _, _, _, _, _, rfl, ?_⟩
    show J _ _ _ _ _ [] (wM s la r v c l tn p pa (r 6 0) (mlay q r (r 6 0)) b (one ((mlay q r (r 6 0)) 6 0)) h) _ _
    rw [(mlay_E q r 0 (r 6 0)).2.1]
    refine J.iconst (0) dX7_sits_40 (by decide) ?_
    refine J.istore dX7_sits_41 (by decide) rfl ?_
    try dsimp only [List.set]
    refine J.iload dX7_sits_43 rfl ?_
    refine J.iload_n dX7_sits_45 rfl rfl ?_
    refine J.icmp_ge (tgt := 113) dX7_sits_46 (by decide) (fun c46 => ?_) (fun c46 => ?_)
    · refine J.lload dX7_sits_113 rfl ?_
      refine J.aload_n dX7_sits_115 rfl rfl ?_
      refine J.mg26 dX7_sits_116 rfl ?_
      rw [(mlay_E q r 0 (r 6 0)).2.1]
      refine J.if_eq (tgt := 126) dX7_sits_119 (by decide) (fun c119 => ?_) (fun c119 => absurd c119 (fun h9 => h9 (by rw [h0] <;> rfl)))
      refine J.lconst 0 dX7_sits_126 (by decide) ?_
      refine J.goto (tgt := 151) dX7_sits_127 (by decide) ?_
      refine J.lsub dX7_sits_151 ?_
      refine J.lstore dX7_sits_152 (by decide) rfl ?_
      try dsimp only [List.set]
      refine J.lload dX7_sits_154 rfl ?_
      refine J.aload_n dX7_sits_156 rfl rfl ?_
      refine J.mg25 dX7_sits_157 rfl ?_
      refine J.iload_n dX7_sits_160 rfl rfl ?_
      refine J.imul dX7_sits_161 ?_
      rw [ix0 (r 6 0) N]
      refine J.cs (as := [.int _]) (is := []) okX7_tens jcX7_232 (mX7_tens ((r 6 0) * N) (by have := Nat.mul_le_mul hr.1 hN; omega)) dX7_sits_162 rfl rfl rfl rfl rfl rfl (fun r9 B9 hq => ?_)
      obtain ⟨rfl, rfl⟩ := hq
      refine ⟨rfl, ?_⟩
      show J _ _ _ _ _ (.long _ :: _) (wM s la r v c l tn p pa (r 6 0) (mlay q r (r 6 0)) b (one (r 6 3)) h) _ _
      refine J.iload_n dX7_sits_165 rfl rfl ?_
      rw [show (0 : Int64) - 0 = lI 0 from rfl]
      refine J.cs (as := [.long _, .long _, .int _]) (is := []) okX7_lowest jcX7_244 (mX7_lowest 0 (10 ^ ((r 6 0) * N)) (wh) (by decide) (by decide) (by have := ten_10 hr.1 hN; omega) (by have := ten_10 hr.1 hN; omega)) dX7_sits_166 rfl rfl rfl rfl rfl rfl (fun r9 B9 hq => ?_)
      obtain ⟨rfl, rfl⟩ := hq
      refine ⟨rfl, ?_⟩
      show J _ _ _ _ _ (.long _ :: _) (wM s la r v c l tn p pa (r 6 0) (mlay q r (r 6 0)) b (one (r 6 3)) h) _ _
      exact J.lret dX7_sits_169 rfl (Nat.le_refl _) (Nat.le_refl _) ⟨congrArg (fun z => some (Value.long z)) (sits0E hr h0 k N wh), _, _, _, _, _, rfl⟩
    · refine J.aload_n dX7_sits_49 rfl rfl ?_
      refine J.mg26 dX7_sits_50 rfl ?_
      rw [(mlay_E q r 0 (r 6 0)).2.1]
      refine J.if_eq (tgt := 113) dX7_sits_53 (by decide) (fun c53 => ?_) (fun c53 => absurd c53 (fun h9 => h9 (by rw [h0] <;> rfl)))
      refine J.lload dX7_sits_113 rfl ?_
      refine J.aload_n dX7_sits_115 rfl rfl ?_
      refine J.mg26 dX7_sits_116 rfl ?_
      rw [(mlay_E q r 0 (r 6 0)).2.1]
      refine J.if_eq (tgt := 126) dX7_sits_119 (by decide) (fun c119 => ?_) (fun c119 => absurd c119 (fun h9 => h9 (by rw [h0] <;> rfl)))
      refine J.lconst 0 dX7_sits_126 (by decide) ?_
      refine J.goto (tgt := 151) dX7_sits_127 (by decide) ?_
      refine J.lsub dX7_sits_151 ?_
      refine J.lstore dX7_sits_152 (by decide) rfl ?_
      try dsimp only [List.set]
      refine J.lload dX7_sits_154 rfl ?_
      refine J.aload_n dX7_sits_156 rfl rfl ?_
      refine J.mg25 dX7_sits_157 rfl ?_
      refine J.iload_n dX7_sits_160 rfl rfl ?_
      refine J.imul dX7_sits_161 ?_
      rw [ix0 (r 6 0) N]
      refine J.cs (as := [.int _]) (is := []) okX7_tens jcX7_232 (mX7_tens ((r 6 0) * N) (by have := Nat.mul_le_mul hr.1 hN; omega)) dX7_sits_162 rfl rfl rfl rfl rfl rfl (fun r9 B9 hq => ?_)
      obtain ⟨rfl, rfl⟩ := hq
      refine ⟨rfl, ?_⟩
      show J _ _ _ _ _ (.long _ :: _) (wM s la r v c l tn p pa (r 6 0) (mlay q r (r 6 0)) b (one (r 6 3)) h) _ _
      refine J.iload_n dX7_sits_165 rfl rfl ?_
      rw [show (0 : Int64) - 0 = lI 0 from rfl]
      refine J.cs (as := [.long _, .long _, .int _]) (is := []) okX7_lowest jcX7_244 (mX7_lowest 0 (10 ^ ((r 6 0) * N)) (wh) (by decide) (by decide) (by have := ten_10 hr.1 hN; omega) (by have := ten_10 hr.1 hN; omega)) dX7_sits_166 rfl rfl rfl rfl rfl rfl (fun r9 B9 hq => ?_)
      obtain ⟨rfl, rfl⟩ := hq
      refine ⟨rfl, ?_⟩
      show J _ _ _ _ _ (.long _ :: _) (wM s la r v c l tn p pa (r 6 0) (mlay q r (r 6 0)) b (one (r 6 3)) h) _ _
      exact J.lret dX7_sits_169 rfl (Nat.le_refl _) (Nat.le_refl _) ⟨congrArg (fun z => some (Value.long z)) (sits0E hr h0 k N wh), _, _, _, _, _, rfl⟩
  · skip
    refine J.aload_n dX7_sits_0 rfl rfl ?_
    refine J.iload_n dX7_sits_1 rfl rfl ?_
    refine J.cvM (as := [.int _]) s la r v c l tn p pa m q b x h okX7_isKing jcX7_203 (mX7_isKing s la r v c l tn p pa m q b x h (nI k)) dX7_sits_2 rfl rfl rfl rfl (fun r9 B9 hq9 => ?_)
    obtain ⟨rfl, rfl⟩ := hq9
    refine ⟨_, _, _, _, _, _, _, _, _, _, _, _, _, _, rfl, ?_⟩
    show J _ _ _ _ _ (.int _ :: _) (wM s la r v c l tn p pa m q b x h) _ _
    refine J.if_eq (tgt := 25) dX7_sits_5 (by decide) (fun c5 => absurd c5 (fun h => (jB_0 _).mp h (jin_ge (by have := hr.2.1; omega) hk))) (fun c5 => ?_)
    refine J.iload_n dX7_sits_8 rfl rfl ?_
    refine J.cs (as := [.int _]) (is := []) okX7_isLong jcX7_236 (mX7_isLong (nI N)) dX7_sits_9 rfl rfl rfl rfl rfl rfl (fun r9 B9 hq => ?_)
    obtain ⟨rfl, rfl⟩ := hq
    refine ⟨rfl, ?_⟩
    show J _ _ _ _ _ (.int _ :: _) (wM s la r v c l tn p pa m q b x h) _ _
    refine J.if_eq (tgt := 25) dX7_sits_12 (by decide) (fun c12 => absurd c12 (fun h => (jB_0 _).mp h (jw (a := 0) (c := 5) (by decide) (Nat.zero_le _) hN))) (fun c12 => ?_)
    refine J.iload_n dX7_sits_15 rfl rfl ?_
    refine J.i2l dX7_sits_16 ?_
    refine J.lconst 0 dX7_sits_17 (by decide) ?_
    refine J.lconst 1 dX7_sits_18 (by decide) ?_
    refine J.cs (as := [.long _, .long _, .long _]) (is := []) okX7_in jcX7_74 (mX7_inI wh 0 1 (by decide) (by decide)) dX7_sits_19 rfl rfl rfl rfl rfl rfl (fun r9 B9 hq => ?_)
    obtain ⟨rfl, rfl⟩ := hq
    refine ⟨rfl, ?_⟩
    show J _ _ _ _ _ (.int _ :: _) (wM s la r v c l tn p pa m q b x h) _ _
    refine J.if_ne (tgt := 29) dX7_sits_22 (by decide) (fun c22 => ?_) (fun c22 => absurd c22 (fun h => (jB_0 _).mp h hw))
    refine J.aload_n dX7_sits_29 rfl rfl ?_
    refine J.cvM (as := []) s la r v c l tn p pa m q b x h okX7_lays jcX7_196 (mX7_lays s la r v c l tn p pa m q b x h hS hr) dX7_sits_30 rfl rfl rfl rfl (fun r9 B9 hq9 => ?_)
    obtain ⟨rfl, rfl⟩ := hq9
    refine ⟨_, _, _, _, _, _, _, _, _, _, _, _, _, _, rfl, ?_⟩
    show J _ _ _ _ _ [] (wM s la r v c l tn p pa (r 6 0) (mlay q r (r 6 0)) b x h) _ _
    refine J.lconst 0 dX7_sits_33 (by decide) ?_
    refine J.lstore dX7_sits_34 (by decide) rfl ?_
    try dsimp only [List.set]
    refine J.aload_n dX7_sits_36 rfl rfl ?_
    refine J.cvM (as := []) s la r v c l tn p pa (r 6 0) (mlay q r (r 6 0)) b x h okX7_begins jcX7_223 (mX7_begins s la r v c l tn p pa (r 6 0) (mlay q r (r 6 0)) b x h (by rw [(mlay_E q r 0 (r 6 0)).2.1]; exact hr.w)) dX7_sits_37 rfl rfl rfl rfl (fun r9 B9 hq9 => ?_)
    obtain ⟨rfl, rfl⟩ := hq9
    refine ⟨_, _, _, _, _, _, _, _, _, _, _, _, _, _, rfl, ?_⟩
    show J _ _ _ _ _ [] (wM s la r v c l tn p pa (r 6 0) (mlay q r (r 6 0)) b (one ((mlay q r (r 6 0)) 6 0)) h) _ _
    rw [(mlay_E q r 0 (r 6 0)).2.1]
    refine J.iconst (0) dX7_sits_40 (by decide) ?_
    refine J.istore dX7_sits_41 (by decide) rfl ?_
    try dsimp only [List.set]
    exact J.at (mX7_sits_l s la r v c l tn p pa m q b k N hk hN wh hS hr h0 N 0 (by omega) h) rfl rfl rfl
set_option maxRecDepth 100000 in
set_option maxHeartbeats 4000000 in
theorem mX7_sits_bad (s : Nat → Int32) (la : Nat → Int32) (r : rT) (v : vT) (c : Nat → Nat → Int32) (l : Nat → Int32) (tn : Int32) (p : Nat → Int32) (pa : Nat → Nat → Int32) (m : Nat) (q : rT) (b : Int32) (x : Nat → Nat) (h : Nat → Nat → Int64) (k n wh : Int32) (hb : ¬ (0 ≤ k ∧ k ≤ nI (r 6 1) - 1) ∨ ¬ (0 ≤ n ∧ n ≤ 5) ∨ ¬ (0 ≤ wh ∧ wh ≤ 1)) : J KX7_sits 21 (fun o B => o = some (.long (-1)) ∧ B = (wM s la r v c l tn p pa m q b x h)) 0 [some (.ref 0), some (.int k), some (.int n), some (.int wh), none, none, none] [] (wM s la r v c l tn p pa m q b x h) 0 0 := by
  refine J.aload_n dX7_sits_0 rfl rfl ?_
  refine J.iload_n dX7_sits_1 rfl rfl ?_
  refine J.cvM (as := [.int _]) s la r v c l tn p pa m q b x h okX7_isKing jcX7_203 (mX7_isKing s la r v c l tn p pa m q b x h k) dX7_sits_2 rfl rfl rfl rfl (fun r9 B9 hq9 => ?_)
  obtain ⟨rfl, rfl⟩ := hq9
  refine ⟨_, _, _, _, _, _, _, _, _, _, _, _, _, _, rfl, ?_⟩
  show J _ _ _ _ _ (.int _ :: _) (wM s la r v c l tn p pa m q b x h) _ _
  refine J.if_eq (tgt := 25) dX7_sits_5 (by decide) (fun c5 => ?_) (fun c5 => ?_)
  · refine J.ldc2 (v := -1) dX7_sits_25 (jt 1049 rfl rfl) ?_
    exact J.lret dX7_sits_28 rfl (Nat.le_refl _) (Nat.le_refl _) ⟨rfl, rfl⟩
  · refine J.iload_n dX7_sits_8 rfl rfl ?_
    refine J.cs (as := [.int _]) (is := []) okX7_isLong jcX7_236 (mX7_isLong n) dX7_sits_9 rfl rfl rfl rfl rfl rfl (fun r9 B9 hq => ?_)
    obtain ⟨rfl, rfl⟩ := hq
    refine ⟨rfl, ?_⟩
    show J _ _ _ _ _ (.int _ :: _) (wM s la r v c l tn p pa m q b x h) _ _
    refine J.if_eq (tgt := 25) dX7_sits_12 (by decide) (fun c12 => ?_) (fun c12 => ?_)
    · refine J.ldc2 (v := -1) dX7_sits_25 (jt 1049 rfl rfl) ?_
      exact J.lret dX7_sits_28 rfl (Nat.le_refl _) (Nat.le_refl _) ⟨rfl, rfl⟩
    · refine J.iload_n dX7_sits_15 rfl rfl ?_
      refine J.i2l dX7_sits_16 ?_
      refine J.lconst 0 dX7_sits_17 (by decide) ?_
      refine J.lconst 1 dX7_sits_18 (by decide) ?_
      refine J.cs (as := [.long _, .long _, .long _]) (is := []) okX7_in jcX7_74 (mX7_inI wh 0 1 (by decide) (by decide)) dX7_sits_19 rfl rfl rfl rfl rfl rfl (fun r9 B9 hq => ?_)
      obtain ⟨rfl, rfl⟩ := hq
      refine ⟨rfl, ?_⟩
      show J _ _ _ _ _ (.int _ :: _) (wM s la r v c l tn p pa m q b x h) _ _
      refine J.if_ne (tgt := 29) dX7_sits_22 (by decide) (fun c22 => absurd c22 (fun h => h ((jB_0 _).mpr (fun hC => (fun h => h.elim (fun h => h (Decidable.not_not.mp (fun h9 => c5 ((jB_0 _).mpr h9)))) (fun h => h.elim (fun h => h (Decidable.not_not.mp (fun h9 => c12 ((jB_0 _).mpr h9)))) (fun h => h hC))) hb)))) (fun c22 => ?_)
      refine J.ldc2 (v := -1) dX7_sits_25 (jt 1049 rfl rfl) ?_
      exact J.lret dX7_sits_28 rfl (Nat.le_refl _) (Nat.le_refl _) ⟨rfl, rfl⟩
