/-! ===== sums of whole numbers; the gains ===== -/
def sZ (f : Nat → Int) : Nat → Int
  | 0 => 0
  | n + 1 => sZ f n + f n
theorem sZ_congr {f g : Nat → Int} : ∀ {n : Nat}, (∀ i, i < n → f i = g i) → sZ f n = sZ g n
  | 0, _ => rfl
  | n + 1, h => by rw [sZ, sZ, sZ_congr (fun i hi => h i (Nat.lt_succ_of_lt hi)), h n (Nat.lt_succ_self n)]
theorem sZ_mul (c : Int) (f : Nat → Int) : ∀ n, sZ (fun i => c * f i) n = c * sZ f n
  | 0 => by simp [sZ]
  | n + 1 => by rw [sZ, sZ, sZ_mul c f n, Int.mul_add]
theorem sZ_add (f g : Nat → Int) : ∀ n, sZ (fun i => f i + g i) n = sZ f n + sZ g n
  | 0 => rfl
  | n + 1 => by
    rw [sZ, sZ, sZ, sZ_add f g n]
    omega
theorem sZ_zero : ∀ n, sZ (fun _ => 0) n = 0
  | 0 => rfl
  | n + 1 => by rw [sZ, sZ_zero n]; rfl
theorem sZ_cut (f : Nat → Int) (n : Nat) : ∀ N, n ≤ N → (∀ j, n ≤ j → j < N → f j = 0) → sZ f N = sZ f n
  | 0, h, _ => by rw [show n = 0 by omega]
  | N + 1, h, hz => by
    by_cases e : n = N + 1
    · rw [e]
    · rw [sZ, sZ_cut f n N (by omega) (fun j h1 h2 => hz j h1 (by omega)), hz N (by omega) (by omega), Int.add_zero]
theorem sZ_comm (f : Nat → Nat → Int) (n : Nat) : ∀ m, sZ (fun s => sZ (fun r => f s r) n) m = sZ (fun r => sZ (fun s => f s r) m) n
  | 0 => by simp only [sZ]; exact (sZ_zero n).symm
  | m + 1 => by
    rw [sZ, sZ_comm f n m, ← sZ_add]
    rfl
theorem sZ_nat (f : Nat → Nat) : ∀ n, ((sm f n : Nat) : Int) = sZ (fun i => (f i : Int)) n
  | 0 => rfl
  | n + 1 => by rw [sm, sZ, Int.natCast_add, sZ_nat f n]
theorem svZ_sum (T : Nat → Nat) (wo li : Int) (g : Nat → Int) (s : Nat) : ∀ n, svZ T wo li g s (n + 1) = sZ (fun r => (wtn T s r : Int) * (if r = 0 then li else wo + g r)) (n + 1)
  | 0 => by simp [svZ, sZ]
  | n + 1 => by
    rw [svZ, if_neg (by omega), svZ_sum T wo li g s n, sZ.eq_2 _ (n + 1), if_neg (by omega)]
theorem svZ_congr (T : Nat → Nat) (wo li : Int) {g g' : Nat → Int} (s : Nat) : ∀ n, (∀ r, 1 ≤ r → r < n → g r = g' r) → svZ T wo li g s n = svZ T wo li g' s n
  | 0, _ => rfl
  | r + 1, h => by
    rw [svZ, svZ]
    by_cases e : r = 0
    · rw [if_pos e, if_pos e]
    · rw [if_neg e, if_neg e, svZ_congr T wo li s r (fun i h1 h2 => h i h1 (by omega)), h r (by omega) (by omega)]
theorem ggZ_w (q : rT) (wo li : Int) (sees : Prop) [Decidable sees] (w w' N : Nat) : ∀ k s, s ≤ w → s ≤ w' → ggZ q wo li sees w N k s = ggZ q wo li sees w' N k s
  | 0, _, _, _ => rfl
  | k + 1, s, h1, h2 => by
    rw [ggZ, ggZ]
    by_cases e : 1 ≤ s
    · rw [if_pos ⟨e, h1⟩, if_pos ⟨e, h2⟩, svZ_congr _ _ _ s (s + 1) (fun r _ hr => ggZ_w q wo li sees w w' N k r (by omega) (by omega))]
    · rw [if_neg (fun h => e h.1), if_neg (fun h => e h.1), ggZ_w q wo li sees w w' N k s h1 h2]
theorem ggZ_0 (q : rT) (wo li : Int) (sees : Prop) [Decidable sees] (w N : Nat) : ∀ k, ggZ q wo li sees w N k 0 = 0
  | 0 => rfl
  | k + 1 => by rw [ggZ, if_neg (fun h => absurd h.1 (by decide)), ggZ_0 q wo li sees w N k]
theorem ggZ_hi (q : rT) (wo li : Int) (sees : Prop) [Decidable sees] (w N : Nat) {s : Nat} (h : w < s) : ∀ k, ggZ q wo li sees w N k s = 0
  | 0 => rfl
  | k + 1 => by rw [ggZ, if_neg (fun h9 => absurd h9.2 (by omega)), ggZ_hi q wo li sees w N h k]
theorem wy_hi (T : Nat → Nat) {m s u : Nat} (hm : m ≤ 3) (hs : s < 2 ^ m) (hu : u < 8) (h : s < u) : wy T m s u = 0 := by
  have := p2_8 hm
  unfold wy
  rw [if_neg (fun h9 => absurd (sub_le s (by omega) u hu h9) (by omega))]
theorem wtn_hi (T : Nat → Nat) {s u : Nat} (hs : s < 8) (hu : u < 8) (h : s < u) : wtn T s u = 0 := by
  unfold wtn
  rw [if_neg (fun h9 => absurd (sub_le s hs u hu h9) (by omega))]
/-- what the reference adds up for a KING who sees -/
def mbF (T : Nat → Nat) (m : Nat) (sc wo li : Int) (g : Nat → Int) (s u : Nat) : Int := (wy T m s u : Int) * (if u = 0 then -sc * li else sc * wo + g u)
def mbS (qc : rT) (m : Nat) (wo li : Int) (n : Nat) (g : Nat → Int) (k s : Nat) : Int := if s = 0 then 0 else sZ (mbF (ten qc s (n - 1 - k)) m (10 ^ (m * k) : Nat) wo li g s) (2 ^ m)
def mbz (qc : rT) (m : Nat) (wo li : Int) (n : Nat) : Nat → Nat → Int
  | 0, _ => 0
  | k + 1, s => if 0 < mbS qc m wo li n (mbz qc m wo li n k) k s then mbS qc m wo li n (mbz qc m wo li n k) k s else 0
theorem p10_cZ {m : Nat} (hm : m ≤ 3) (k : Nat) : ((1000 ^ k : Nat) : Int) = (((10 ^ (3 - m)) ^ k : Nat) : Int) * ((10 ^ (m * k) : Nat) : Int) := by
  rw [← Int.natCast_mul, p10_c hm k]
theorem sv_mb (T : Nat → Nat) {m : Nat} (hm : m ≤ 3) (wo li : Int) (k : Nat) {G g : Nat → Int} (hG : ∀ r, 1 ≤ r → r < 2 ^ m → G r = (((10 ^ (3 - m)) ^ k : Nat) : Int) * g r) {s : Nat} (hs : s < 2 ^ m) : svZ T (wo * (1000 ^ k : Nat)) (-li * (1000 ^ k : Nat)) G s (s + 1) = (((10 ^ (3 - m)) ^ (k + 1) : Nat) : Int) * sZ (mbF T m (10 ^ (m * k) : Nat) wo li g s) (2 ^ m) := by
  have h8 := p2_8 hm
  rw [svZ_sum, ← sZ_mul, sZ_cut (fun i => (((10 ^ (3 - m)) ^ (k + 1) : Nat) : Int) * mbF T m (10 ^ (m * k) : Nat) wo li g s i) (s + 1) (2 ^ m) hs (fun j h1 h2 => by (try dsimp only); rw [mbF, wy_hi T hm hs (by omega) (by omega)]; simp)]
  refine sZ_congr (fun r hr => ?_)
  rw [mbF, wtn_wy T hm hs (by omega), if_pos (by omega), Nat.pow_succ, Int.natCast_mul, Int.natCast_mul, p10_cZ hm k]
  by_cases e : r = 0
  · rw [if_pos e, if_pos e]
    simp only [Int.neg_mul, Int.mul_neg, Int.mul_assoc, Int.mul_comm, Int.mul_left_comm]
  · rw [if_neg e, if_neg e, hG r (by omega) (by omega), Int.mul_add, Int.mul_add, Int.mul_add]
    simp only [Int.mul_assoc, Int.mul_comm, Int.mul_left_comm]
theorem cZ_pos (m k : Nat) : 0 < (((10 ^ (3 - m)) ^ k : Nat) : Int) := by have := c_pos m k; omega
theorem cZ_lt {m k : Nat} {z : Int} : 0 < (((10 ^ (3 - m)) ^ k : Nat) : Int) * z ↔ 0 < z := by
  refine ⟨fun h => ?_, fun h => Int.mul_pos (cZ_pos m k) h⟩
  rcases Int.lt_or_le 0 z with h1 | h1
  · exact h1
  · have h2 := Int.mul_le_mul_of_nonneg_left h1 (Int.le_of_lt (cZ_pos m k))
    rw [Int.mul_zero] at h2
    omega
theorem gg_mb (qc : rT) {m : Nat} (hm : m ≤ 3) (wo li : Int) (N : Nat) : ∀ k s, 1 ≤ s → s < 2 ^ m → ggZ qc wo (-li) True (2 ^ m - 1) N k s = (((10 ^ (3 - m)) ^ k : Nat) : Int) * mbz qc m wo li N k s
  | 0, s, _, _ => by simp [ggZ, mbz]
  | k + 1, s, h1, h2 => by
    have e : svZ (ten qc s (N - 1 - k)) (wo * (1000 ^ k : Nat)) (-li * (1000 ^ k : Nat)) (ggZ qc wo (-li) True (2 ^ m - 1) N k) s (s + 1) = (((10 ^ (3 - m)) ^ (k + 1) : Nat) : Int) * mbS qc m wo li N (mbz qc m wo li N k) k s := by
      rw [sv_mb _ hm wo li k (fun r a b => gg_mb qc hm wo li N k r a b) h2, mbS, if_neg (by omega)]
    rw [ggZ, if_pos ⟨h1, by omega⟩, e, mbz, gsZ]
    by_cases hp : 0 < mbS qc m wo li N (mbz qc m wo li N k) k s
    · rw [if_pos hp, if_neg (fun h => h.2 (cZ_lt.mpr hp))]
    · rw [if_neg hp, if_pos ⟨trivial, fun h => hp (cZ_lt.mp h)⟩, Int.mul_zero]
theorem mbS_le (qc : rT) {m : Nat} (hm : m ≤ 3) {wo li : Nat} (h1 : wo ≤ 99) (h2 : li ≤ 99) (N : Nat) {k : Nat} (hk : k < 5) {s : Nat} (hs : s < 2 ^ m) : (mbS qc m wo li N (mbz qc m wo li N k) k s).natAbs ≤ 1000000000000000000 := by
  have h8 := p2_8 hm
  by_cases e : s = 0
  · rw [mbS, if_pos e]; decide
  · have hb := bG_s k (by omega)
    have hb2 := bG_s (k + 1) (by omega)
    have ihz := ggZ_le qc wo (-(li : Int)) True (2 ^ m - 1) N (by omega) (by omega) (by omega) k (by omega)
    have e1 := uK (n := wo) (k := k) h1
    have e2 : (-(li : Int) * (1000 ^ k : Nat)).natAbs ≤ 99 * 1000 ^ k := by
      rw [Int.neg_mul, Int.natAbs_neg]
      exact uK h2
    have h9 := svZ_le (T := ten qc s (N - 1 - k)) (G := bG k) (C := 99 * 1000 ^ k + bG k) ihz (li := -(li : Int) * (1000 ^ k : Nat)) (wo := (wo : Int) * (1000 ^ k : Nat)) (by omega) (by omega) s (s + 1)
    have h10 := Nat.le_trans h9 (Nat.mul_le_mul_right _ (sm_wtn_le (ten_le qc s (N - 1 - k)) (by omega)))
    rw [sv_mb _ hm wo li k (fun r a b => gg_mb qc hm wo li N k r a b) hs] at h10
    have h11 : sZ (mbF (ten qc s (N - 1 - k)) m (10 ^ (m * k) : Nat) wo li (mbz qc m wo li N k) s) (2 ^ m) = mbS qc m wo li N (mbz qc m wo li N k) k s := by rw [mbS, if_neg e]
    rw [h11, Int.natAbs_mul, Int.natAbs_natCast] at h10
    have := Nat.le_mul_of_pos_left (mbS qc m wo li N (mbz qc m wo li N k) k s).natAbs (c_pos m (k + 1))
    omega
theorem mbz_le (qc : rT) {m : Nat} (hm : m ≤ 3) {wo li : Nat} (h1 : wo ≤ 99) (h2 : li ≤ 99) (N : Nat) {k : Nat} (hk : k ≤ 5) {s : Nat} (hs : s < 2 ^ m) : (mbz qc m wo li N k s).natAbs ≤ 1000000000000000000 := by
  cases k with
  | zero => simp [mbz]
  | succ k =>
    rw [mbz]
    split
    · exact mbS_le qc hm h1 h2 N (by omega) hs
    · decide
theorem gnZ_mb {r : rT} (h : rOK r) (k N : Nat) : gnZ r k N True = (((10 ^ (3 - r 6 0)) ^ N : Nat) : Int) * mbz (oqR r) (r 6 0) (r 2 k : Nat) (r 3 k : Nat) N N (r 6 3) := by
  unfold gnZ
  by_cases e : r 6 3 = 0
  · rw [e, ggZ_0]
    cases N with
    | zero => simp [mbz]
    | succ N => simp [mbz, mbS]
  · rw [ggZ_w (oqR r) _ _ True (r 6 3) (2 ^ r 6 0 - 1) N N (r 6 3) (Nat.le_refl _) (by have := h.2.2.2.1; omega)]
    exact gg_mb (oqR r) h.1 (r 2 k : Nat) (r 3 k : Nat) N N (r 6 3) (by omega) h.2.2.2.1
theorem bestE {r : rT} (h : rOK r) (k N : Nat) (wh : Int32) : lowT (mbz (oqR r) (r 6 0) (r 2 k : Nat) (r 3 k : Nat) N N (r 6 3)) (10 ^ (r 6 0 * N)) wh = lowT (gnZ r k N True) (1000 ^ N) wh := by
  rw [gnZ_mb h, ← p10_c h.1 N, lowT_s (c_pos (r 6 0) N)]
theorem best2E {r : rT} (h : rOK r) (k N : Nat) : 0 < gnZ r k N True ↔ 0 < mbz (oqR r) (r 6 0) (r 2 k : Nat) (r 3 k : Nat) N N (r 6 3) := by
  rw [gnZ_mb h]
  exact cZ_lt
theorem lNZ (n : Nat) : lN n = lI (n : Int) := (lI_nat n).symm
theorem mbA (a b c : Int) : lI a + lI b * lI c = lI (a + b * c) := by rw [lI_mul, lI_add]
theorem jB_p {p : Prop} (hd : Decidable p) : jB p = if p then 1 else 0 := rfl
theorem dX7_bestOf_0 : decode cX7_bestOf 0 = .ok (.iconst 0, 1) := by decide +kernel
theorem dX7_bestOf_1 : decode cX7_bestOf 1 = .ok (.istore_n 3, 1) := by decide +kernel
theorem dX7_bestOf_2 : decode cX7_bestOf 2 = .ok (.iload_n 3, 1) := by decide +kernel
theorem dX7_bestOf_3 : decode cX7_bestOf 3 = .ok (.bipush 8, 2) := by decide +kernel
theorem dX7_bestOf_5 : decode cX7_bestOf 5 = .ok (.if_icmp .ge 16, 3) := by decide +kernel
theorem dX7_bestOf_8 : decode cX7_bestOf 8 = .ok (.aload_n 0, 1) := by decide +kernel
theorem dX7_bestOf_9 : decode cX7_bestOf 9 = .ok (.getfield 44, 3) := by decide +kernel
theorem dX7_bestOf_12 : decode cX7_bestOf 12 = .ok (.iload_n 3, 1) := by decide +kernel
theorem dX7_bestOf_13 : decode cX7_bestOf 13 = .ok (.lconst 0, 1) := by decide +kernel
theorem dX7_bestOf_14 : decode cX7_bestOf 14 = .ok (.lastore, 1) := by decide +kernel
theorem dX7_bestOf_15 : decode cX7_bestOf 15 = .ok (.iinc 3 1, 3) := by decide +kernel
theorem dX7_bestOf_18 : decode cX7_bestOf 18 = .ok (.goto (-16), 3) := by decide +kernel
theorem dX7_bestOf_21 : decode cX7_bestOf 21 = .ok (.aload_n 0, 1) := by decide +kernel
theorem dX7_bestOf_22 : decode cX7_bestOf 22 = .ok (.iconst 0, 1) := by decide +kernel
theorem dX7_bestOf_23 : decode cX7_bestOf 23 = .ok (.putfield 248, 3) := by decide +kernel
theorem dX7_bestOf_26 : decode cX7_bestOf 26 = .ok (.iload_n 2, 1) := by decide +kernel
theorem dX7_bestOf_27 : decode cX7_bestOf 27 = .ok (.iconst 1, 1) := by decide +kernel
theorem dX7_bestOf_28 : decode cX7_bestOf 28 = .ok (.isub, 1) := by decide +kernel
theorem dX7_bestOf_29 : decode cX7_bestOf 29 = .ok (.istore_n 3, 1) := by decide +kernel
theorem dX7_bestOf_30 : decode cX7_bestOf 30 = .ok (.iload_n 3, 1) := by decide +kernel
theorem dX7_bestOf_31 : decode cX7_bestOf 31 = .ok (.ifCond .lt 226, 3) := by decide +kernel
theorem dX7_bestOf_34 : decode cX7_bestOf 34 = .ok (.aload_n 0, 1) := by decide +kernel
theorem dX7_bestOf_35 : decode cX7_bestOf 35 = .ok (.getfield 180, 3) := by decide +kernel
theorem dX7_bestOf_38 : decode cX7_bestOf 38 = .ok (.iload_n 2, 1) := by decide +kernel
theorem dX7_bestOf_39 : decode cX7_bestOf 39 = .ok (.iload_n 3, 1) := by decide +kernel
theorem dX7_bestOf_40 : decode cX7_bestOf 40 = .ok (.isub, 1) := by decide +kernel
theorem dX7_bestOf_41 : decode cX7_bestOf 41 = .ok (.iconst 1, 1) := by decide +kernel
theorem dX7_bestOf_42 : decode cX7_bestOf 42 = .ok (.isub, 1) := by decide +kernel
theorem dX7_bestOf_43 : decode cX7_bestOf 43 = .ok (.imul, 1) := by decide +kernel
theorem dX7_bestOf_44 : decode cX7_bestOf 44 = .ok (.invokestatic 232, 3) := by decide +kernel
theorem dX7_bestOf_47 : decode cX7_bestOf 47 = .ok (.lstore 4, 2) := by decide +kernel
theorem dX7_bestOf_49 : decode cX7_bestOf 49 = .ok (.iconst 0, 1) := by decide +kernel
theorem dX7_bestOf_50 : decode cX7_bestOf 50 = .ok (.istore 6, 2) := by decide +kernel
theorem dX7_bestOf_52 : decode cX7_bestOf 52 = .ok (.iload 6, 2) := by decide +kernel
theorem dX7_bestOf_54 : decode cX7_bestOf 54 = .ok (.iconst 1, 1) := by decide +kernel
theorem dX7_bestOf_55 : decode cX7_bestOf 55 = .ok (.aload_n 0, 1) := by decide +kernel
theorem dX7_bestOf_56 : decode cX7_bestOf 56 = .ok (.getfield 180, 3) := by decide +kernel
theorem dX7_bestOf_59 : decode cX7_bestOf 59 = .ok (.ishl, 1) := by decide +kernel
theorem dX7_bestOf_60 : decode cX7_bestOf 60 = .ok (.if_icmp .ge 157, 3) := by decide +kernel
theorem dX7_bestOf_63 : decode cX7_bestOf 63 = .ok (.lconst 0, 1) := by decide +kernel
theorem dX7_bestOf_64 : decode cX7_bestOf 64 = .ok (.lstore 7, 2) := by decide +kernel
theorem dX7_bestOf_66 : decode cX7_bestOf 66 = .ok (.iconst 0, 1) := by decide +kernel
theorem dX7_bestOf_67 : decode cX7_bestOf 67 = .ok (.istore 9, 2) := by decide +kernel
theorem dX7_bestOf_69 : decode cX7_bestOf 69 = .ok (.iload 9, 2) := by decide +kernel
theorem dX7_bestOf_71 : decode cX7_bestOf 71 = .ok (.iconst 1, 1) := by decide +kernel
theorem dX7_bestOf_72 : decode cX7_bestOf 72 = .ok (.aload_n 0, 1) := by decide +kernel
theorem dX7_bestOf_73 : decode cX7_bestOf 73 = .ok (.getfield 180, 3) := by decide +kernel
theorem dX7_bestOf_76 : decode cX7_bestOf 76 = .ok (.ishl, 1) := by decide +kernel
theorem dX7_bestOf_77 : decode cX7_bestOf 77 = .ok (.if_icmp .ge 82, 3) := by decide +kernel
theorem dX7_bestOf_80 : decode cX7_bestOf 80 = .ok (.iload 6, 2) := by decide +kernel
theorem dX7_bestOf_82 : decode cX7_bestOf 82 = .ok (.ifCond .eq 77, 3) := by decide +kernel
theorem dX7_bestOf_85 : decode cX7_bestOf 85 = .ok (.iload 9, 2) := by decide +kernel
theorem dX7_bestOf_87 : decode cX7_bestOf 87 = .ok (.ifCond .ne 24, 3) := by decide +kernel
theorem dX7_bestOf_90 : decode cX7_bestOf 90 = .ok (.lload 4, 2) := by decide +kernel
theorem dX7_bestOf_92 : decode cX7_bestOf 92 = .ok (.lneg, 1) := by decide +kernel
theorem dX7_bestOf_93 : decode cX7_bestOf 93 = .ok (.aload_n 0, 1) := by decide +kernel
theorem dX7_bestOf_94 : decode cX7_bestOf 94 = .ok (.getfield 7, 3) := by decide +kernel
theorem dX7_bestOf_97 : decode cX7_bestOf 97 = .ok (.bipush 10, 2) := by decide +kernel
theorem dX7_bestOf_99 : decode cX7_bestOf 99 = .ok (.iconst 2, 1) := by decide +kernel
theorem dX7_bestOf_100 : decode cX7_bestOf 100 = .ok (.iload_n 1, 1) := by decide +kernel
theorem dX7_bestOf_101 : decode cX7_bestOf 101 = .ok (.imul, 1) := by decide +kernel
theorem dX7_bestOf_102 : decode cX7_bestOf 102 = .ok (.iadd, 1) := by decide +kernel
theorem dX7_bestOf_103 : decode cX7_bestOf 103 = .ok (.iconst 1, 1) := by decide +kernel
theorem dX7_bestOf_104 : decode cX7_bestOf 104 = .ok (.iadd, 1) := by decide +kernel
theorem dX7_bestOf_105 : decode cX7_bestOf 105 = .ok (.iaload, 1) := by decide +kernel
theorem dX7_bestOf_106 : decode cX7_bestOf 106 = .ok (.i2l, 1) := by decide +kernel
theorem dX7_bestOf_107 : decode cX7_bestOf 107 = .ok (.lmul, 1) := by decide +kernel
theorem dX7_bestOf_108 : decode cX7_bestOf 108 = .ok (.goto 26, 3) := by decide +kernel
theorem dX7_bestOf_111 : decode cX7_bestOf 111 = .ok (.lload 4, 2) := by decide +kernel
theorem dX7_bestOf_113 : decode cX7_bestOf 113 = .ok (.aload_n 0, 1) := by decide +kernel
theorem dX7_bestOf_114 : decode cX7_bestOf 114 = .ok (.getfield 7, 3) := by decide +kernel
theorem dX7_bestOf_117 : decode cX7_bestOf 117 = .ok (.bipush 10, 2) := by decide +kernel
theorem dX7_bestOf_119 : decode cX7_bestOf 119 = .ok (.iconst 2, 1) := by decide +kernel
theorem dX7_bestOf_120 : decode cX7_bestOf 120 = .ok (.iload_n 1, 1) := by decide +kernel
theorem dX7_bestOf_121 : decode cX7_bestOf 121 = .ok (.imul, 1) := by decide +kernel
theorem dX7_bestOf_122 : decode cX7_bestOf 122 = .ok (.iadd, 1) := by decide +kernel
theorem dX7_bestOf_123 : decode cX7_bestOf 123 = .ok (.iaload, 1) := by decide +kernel
theorem dX7_bestOf_124 : decode cX7_bestOf 124 = .ok (.i2l, 1) := by decide +kernel
theorem dX7_bestOf_125 : decode cX7_bestOf 125 = .ok (.lmul, 1) := by decide +kernel
theorem dX7_bestOf_126 : decode cX7_bestOf 126 = .ok (.aload_n 0, 1) := by decide +kernel
theorem dX7_bestOf_127 : decode cX7_bestOf 127 = .ok (.getfield 44, 3) := by decide +kernel
theorem dX7_bestOf_130 : decode cX7_bestOf 130 = .ok (.iload 9, 2) := by decide +kernel
theorem dX7_bestOf_132 : decode cX7_bestOf 132 = .ok (.laload, 1) := by decide +kernel
theorem dX7_bestOf_133 : decode cX7_bestOf 133 = .ok (.ladd, 1) := by decide +kernel
theorem dX7_bestOf_134 : decode cX7_bestOf 134 = .ok (.lstore 10, 2) := by decide +kernel
theorem dX7_bestOf_136 : decode cX7_bestOf 136 = .ok (.lload 7, 2) := by decide +kernel
theorem dX7_bestOf_138 : decode cX7_bestOf 138 = .ok (.aload_n 0, 1) := by decide +kernel
theorem dX7_bestOf_139 : decode cX7_bestOf 139 = .ok (.iload 6, 2) := by decide +kernel
theorem dX7_bestOf_141 : decode cX7_bestOf 141 = .ok (.iload 9, 2) := by decide +kernel
theorem dX7_bestOf_143 : decode cX7_bestOf 143 = .ok (.iload_n 3, 1) := by decide +kernel
theorem dX7_bestOf_144 : decode cX7_bestOf 144 = .ok (.invokevirtual 219, 3) := by decide +kernel
theorem dX7_bestOf_147 : decode cX7_bestOf 147 = .ok (.lload 10, 2) := by decide +kernel
theorem dX7_bestOf_149 : decode cX7_bestOf 149 = .ok (.lmul, 1) := by decide +kernel
theorem dX7_bestOf_150 : decode cX7_bestOf 150 = .ok (.ladd, 1) := by decide +kernel
theorem dX7_bestOf_151 : decode cX7_bestOf 151 = .ok (.lstore 7, 2) := by decide +kernel
theorem dX7_bestOf_153 : decode cX7_bestOf 153 = .ok (.iinc 9 1, 3) := by decide +kernel
theorem dX7_bestOf_156 : decode cX7_bestOf 156 = .ok (.goto (-87), 3) := by decide +kernel
theorem dX7_bestOf_159 : decode cX7_bestOf 159 = .ok (.aload_n 0, 1) := by decide +kernel
theorem dX7_bestOf_160 : decode cX7_bestOf 160 = .ok (.iload 6, 2) := by decide +kernel
theorem dX7_bestOf_162 : decode cX7_bestOf 162 = .ok (.aload_n 0, 1) := by decide +kernel
theorem dX7_bestOf_163 : decode cX7_bestOf 163 = .ok (.getfield 183, 3) := by decide +kernel
theorem dX7_bestOf_166 : decode cX7_bestOf 166 = .ok (.if_icmp .ne 18, 3) := by decide +kernel
theorem dX7_bestOf_169 : decode cX7_bestOf 169 = .ok (.lload 7, 2) := by decide +kernel
theorem dX7_bestOf_171 : decode cX7_bestOf 171 = .ok (.lconst 0, 1) := by decide +kernel
theorem dX7_bestOf_172 : decode cX7_bestOf 172 = .ok (.lcmp, 1) := by decide +kernel
theorem dX7_bestOf_173 : decode cX7_bestOf 173 = .ok (.ifCond .le 7, 3) := by decide +kernel
theorem dX7_bestOf_176 : decode cX7_bestOf 176 = .ok (.iconst 1, 1) := by decide +kernel
theorem dX7_bestOf_177 : decode cX7_bestOf 177 = .ok (.goto 11, 3) := by decide +kernel
theorem dX7_bestOf_180 : decode cX7_bestOf 180 = .ok (.iconst 0, 1) := by decide +kernel
theorem dX7_bestOf_181 : decode cX7_bestOf 181 = .ok (.goto 7, 3) := by decide +kernel
theorem dX7_bestOf_184 : decode cX7_bestOf 184 = .ok (.aload_n 0, 1) := by decide +kernel
theorem dX7_bestOf_185 : decode cX7_bestOf 185 = .ok (.getfield 248, 3) := by decide +kernel
theorem dX7_bestOf_188 : decode cX7_bestOf 188 = .ok (.putfield 248, 3) := by decide +kernel
theorem dX7_bestOf_191 : decode cX7_bestOf 191 = .ok (.aload_n 0, 1) := by decide +kernel
theorem dX7_bestOf_192 : decode cX7_bestOf 192 = .ok (.getfield 47, 3) := by decide +kernel
theorem dX7_bestOf_195 : decode cX7_bestOf 195 = .ok (.iload 6, 2) := by decide +kernel
theorem dX7_bestOf_197 : decode cX7_bestOf 197 = .ok (.lload 7, 2) := by decide +kernel
theorem dX7_bestOf_199 : decode cX7_bestOf 199 = .ok (.lconst 0, 1) := by decide +kernel
theorem dX7_bestOf_200 : decode cX7_bestOf 200 = .ok (.lcmp, 1) := by decide +kernel
theorem dX7_bestOf_201 : decode cX7_bestOf 201 = .ok (.ifCond .le 8, 3) := by decide +kernel
theorem dX7_bestOf_204 : decode cX7_bestOf 204 = .ok (.lload 7, 2) := by decide +kernel
theorem dX7_bestOf_206 : decode cX7_bestOf 206 = .ok (.goto 4, 3) := by decide +kernel
theorem dX7_bestOf_209 : decode cX7_bestOf 209 = .ok (.lconst 0, 1) := by decide +kernel
theorem dX7_bestOf_210 : decode cX7_bestOf 210 = .ok (.lastore, 1) := by decide +kernel
theorem dX7_bestOf_211 : decode cX7_bestOf 211 = .ok (.iinc 6 1, 3) := by decide +kernel
theorem dX7_bestOf_214 : decode cX7_bestOf 214 = .ok (.goto (-162), 3) := by decide +kernel
theorem dX7_bestOf_217 : decode cX7_bestOf 217 = .ok (.iconst 0, 1) := by decide +kernel
theorem dX7_bestOf_218 : decode cX7_bestOf 218 = .ok (.istore 6, 2) := by decide +kernel
theorem dX7_bestOf_220 : decode cX7_bestOf 220 = .ok (.iload 6, 2) := by decide +kernel
theorem dX7_bestOf_222 : decode cX7_bestOf 222 = .ok (.iconst 1, 1) := by decide +kernel
theorem dX7_bestOf_223 : decode cX7_bestOf 223 = .ok (.aload_n 0, 1) := by decide +kernel
theorem dX7_bestOf_224 : decode cX7_bestOf 224 = .ok (.getfield 180, 3) := by decide +kernel
theorem dX7_bestOf_227 : decode cX7_bestOf 227 = .ok (.ishl, 1) := by decide +kernel
theorem dX7_bestOf_228 : decode cX7_bestOf 228 = .ok (.if_icmp .ge 23, 3) := by decide +kernel
theorem dX7_bestOf_231 : decode cX7_bestOf 231 = .ok (.aload_n 0, 1) := by decide +kernel
theorem dX7_bestOf_232 : decode cX7_bestOf 232 = .ok (.getfield 44, 3) := by decide +kernel
theorem dX7_bestOf_235 : decode cX7_bestOf 235 = .ok (.iload 6, 2) := by decide +kernel
theorem dX7_bestOf_237 : decode cX7_bestOf 237 = .ok (.aload_n 0, 1) := by decide +kernel
theorem dX7_bestOf_238 : decode cX7_bestOf 238 = .ok (.getfield 47, 3) := by decide +kernel
theorem dX7_bestOf_241 : decode cX7_bestOf 241 = .ok (.iload 6, 2) := by decide +kernel
theorem dX7_bestOf_243 : decode cX7_bestOf 243 = .ok (.laload, 1) := by decide +kernel
theorem dX7_bestOf_244 : decode cX7_bestOf 244 = .ok (.lastore, 1) := by decide +kernel
theorem dX7_bestOf_245 : decode cX7_bestOf 245 = .ok (.iinc 6 1, 3) := by decide +kernel
theorem dX7_bestOf_248 : decode cX7_bestOf 248 = .ok (.goto (-28), 3) := by decide +kernel
theorem dX7_bestOf_251 : decode cX7_bestOf 251 = .ok (.iinc 3 (-1), 3) := by decide +kernel
theorem dX7_bestOf_254 : decode cX7_bestOf 254 = .ok (.goto (-224), 3) := by decide +kernel
theorem dX7_bestOf_257 : decode cX7_bestOf 257 = .ok (.aload_n 0, 1) := by decide +kernel
theorem dX7_bestOf_258 : decode cX7_bestOf 258 = .ok (.getfield 44, 3) := by decide +kernel
theorem dX7_bestOf_261 : decode cX7_bestOf 261 = .ok (.aload_n 0, 1) := by decide +kernel
theorem dX7_bestOf_262 : decode cX7_bestOf 262 = .ok (.getfield 183, 3) := by decide +kernel
theorem dX7_bestOf_265 : decode cX7_bestOf 265 = .ok (.laload, 1) := by decide +kernel
theorem dX7_bestOf_266 : decode cX7_bestOf 266 = .ok (.lreturn, 1) := by decide +kernel
theorem dX7_best_0 : decode cX7_best 0 = .ok (.aload_n 0, 1) := by decide +kernel
theorem dX7_best_1 : decode cX7_best 1 = .ok (.iload_n 1, 1) := by decide +kernel
theorem dX7_best_2 : decode cX7_best 2 = .ok (.invokevirtual 203, 3) := by decide +kernel
theorem dX7_best_5 : decode cX7_best 5 = .ok (.ifCond .eq 22, 3) := by decide +kernel
theorem dX7_best_8 : decode cX7_best 8 = .ok (.iload_n 2, 1) := by decide +kernel
theorem dX7_best_9 : decode cX7_best 9 = .ok (.invokestatic 236, 3) := by decide +kernel
theorem dX7_best_12 : decode cX7_best 12 = .ok (.ifCond .eq 15, 3) := by decide +kernel
theorem dX7_best_15 : decode cX7_best 15 = .ok (.iload_n 3, 1) := by decide +kernel
theorem dX7_best_16 : decode cX7_best 16 = .ok (.i2l, 1) := by decide +kernel
theorem dX7_best_17 : decode cX7_best 17 = .ok (.lconst 0, 1) := by decide +kernel
theorem dX7_best_18 : decode cX7_best 18 = .ok (.ldc2_w 136, 3) := by decide +kernel
theorem dX7_best_21 : decode cX7_best 21 = .ok (.invokestatic 74, 3) := by decide +kernel
theorem dX7_best_24 : decode cX7_best 24 = .ok (.ifCond .ne 7, 3) := by decide +kernel
theorem dX7_best_27 : decode cX7_best 27 = .ok (.ldc2_w 239, 3) := by decide +kernel
theorem dX7_best_30 : decode cX7_best 30 = .ok (.lreturn, 1) := by decide +kernel
theorem dX7_best_31 : decode cX7_best 31 = .ok (.aload_n 0, 1) := by decide +kernel
theorem dX7_best_32 : decode cX7_best 32 = .ok (.invokevirtual 196, 3) := by decide +kernel
theorem dX7_best_35 : decode cX7_best 35 = .ok (.aload_n 0, 1) := by decide +kernel
theorem dX7_best_36 : decode cX7_best 36 = .ok (.iload_n 1, 1) := by decide +kernel
theorem dX7_best_37 : decode cX7_best 37 = .ok (.iload_n 2, 1) := by decide +kernel
theorem dX7_best_38 : decode cX7_best 38 = .ok (.invokevirtual 252, 3) := by decide +kernel
theorem dX7_best_41 : decode cX7_best 41 = .ok (.lstore 4, 2) := by decide +kernel
theorem dX7_best_43 : decode cX7_best 43 = .ok (.iload_n 3, 1) := by decide +kernel
theorem dX7_best_44 : decode cX7_best 44 = .ok (.iconst 2, 1) := by decide +kernel
theorem dX7_best_45 : decode cX7_best 45 = .ok (.if_icmp .ne 18, 3) := by decide +kernel
theorem dX7_best_48 : decode cX7_best 48 = .ok (.aload_n 0, 1) := by decide +kernel
theorem dX7_best_49 : decode cX7_best 49 = .ok (.getfield 248, 3) := by decide +kernel
theorem dX7_best_52 : decode cX7_best 52 = .ok (.ifCond .eq 7, 3) := by decide +kernel
theorem dX7_best_55 : decode cX7_best 55 = .ok (.lconst 1, 1) := by decide +kernel
theorem dX7_best_56 : decode cX7_best 56 = .ok (.goto 22, 3) := by decide +kernel
theorem dX7_best_59 : decode cX7_best 59 = .ok (.lconst 0, 1) := by decide +kernel
theorem dX7_best_60 : decode cX7_best 60 = .ok (.goto 18, 3) := by decide +kernel
theorem dX7_best_63 : decode cX7_best 63 = .ok (.lload 4, 2) := by decide +kernel
theorem dX7_best_65 : decode cX7_best 65 = .ok (.aload_n 0, 1) := by decide +kernel
theorem dX7_best_66 : decode cX7_best 66 = .ok (.getfield 180, 3) := by decide +kernel
theorem dX7_best_69 : decode cX7_best 69 = .ok (.iload_n 2, 1) := by decide +kernel
theorem dX7_best_70 : decode cX7_best 70 = .ok (.imul, 1) := by decide +kernel
theorem dX7_best_71 : decode cX7_best 71 = .ok (.invokestatic 232, 3) := by decide +kernel
theorem dX7_best_74 : decode cX7_best 74 = .ok (.iload_n 3, 1) := by decide +kernel
theorem dX7_best_75 : decode cX7_best 75 = .ok (.invokestatic 244, 3) := by decide +kernel
theorem dX7_best_78 : decode cX7_best 78 = .ok (.lreturn, 1) := by decide +kernel
theorem dX7_crown_0 : decode cX7_crown 0 = .ok (.iload_n 1, 1) := by decide +kernel
theorem dX7_crown_1 : decode cX7_crown 1 = .ok (.invokestatic 236, 3) := by decide +kernel
theorem dX7_crown_4 : decode cX7_crown 4 = .ok (.ifCond .eq 15, 3) := by decide +kernel
theorem dX7_crown_7 : decode cX7_crown 7 = .ok (.iload_n 2, 1) := by decide +kernel
theorem dX7_crown_8 : decode cX7_crown 8 = .ok (.i2l, 1) := by decide +kernel
theorem dX7_crown_9 : decode cX7_crown 9 = .ok (.lconst 0, 1) := by decide +kernel
theorem dX7_crown_10 : decode cX7_crown 10 = .ok (.ldc2_w 136, 3) := by decide +kernel
theorem dX7_crown_13 : decode cX7_crown 13 = .ok (.invokestatic 74, 3) := by decide +kernel
theorem dX7_crown_16 : decode cX7_crown 16 = .ok (.ifCond .ne 7, 3) := by decide +kernel
theorem dX7_crown_19 : decode cX7_crown 19 = .ok (.ldc2_w 239, 3) := by decide +kernel
theorem dX7_crown_22 : decode cX7_crown 22 = .ok (.lreturn, 1) := by decide +kernel
theorem dX7_crown_23 : decode cX7_crown 23 = .ok (.aload_n 0, 1) := by decide +kernel
theorem dX7_crown_24 : decode cX7_crown 24 = .ok (.getfield 162, 3) := by decide +kernel
theorem dX7_crown_27 : decode cX7_crown 27 = .ok (.ifCond .ne 7, 3) := by decide +kernel
theorem dX7_crown_30 : decode cX7_crown 30 = .ok (.ldc2_w 268, 3) := by decide +kernel
theorem dX7_crown_33 : decode cX7_crown 33 = .ok (.lreturn, 1) := by decide +kernel
theorem dX7_crown_34 : decode cX7_crown 34 = .ok (.aload_n 0, 1) := by decide +kernel
theorem dX7_crown_35 : decode cX7_crown 35 = .ok (.invokevirtual 196, 3) := by decide +kernel
theorem dX7_crown_38 : decode cX7_crown 38 = .ok (.ldc2_w 239, 3) := by decide +kernel
theorem dX7_crown_41 : decode cX7_crown 41 = .ok (.lstore_n 3, 1) := by decide +kernel
theorem dX7_crown_42 : decode cX7_crown 42 = .ok (.iconst 0, 1) := by decide +kernel
theorem dX7_crown_43 : decode cX7_crown 43 = .ok (.istore 5, 2) := by decide +kernel
theorem dX7_crown_45 : decode cX7_crown 45 = .ok (.iconst 0, 1) := by decide +kernel
theorem dX7_crown_46 : decode cX7_crown 46 = .ok (.istore 6, 2) := by decide +kernel
theorem dX7_crown_48 : decode cX7_crown 48 = .ok (.iload 6, 2) := by decide +kernel
theorem dX7_crown_50 : decode cX7_crown 50 = .ok (.aload_n 0, 1) := by decide +kernel
theorem dX7_crown_51 : decode cX7_crown 51 = .ok (.getfield 162, 3) := by decide +kernel
theorem dX7_crown_54 : decode cX7_crown 54 = .ok (.if_icmp .ge 48, 3) := by decide +kernel
theorem dX7_crown_57 : decode cX7_crown 57 = .ok (.aload_n 0, 1) := by decide +kernel
theorem dX7_crown_58 : decode cX7_crown 58 = .ok (.iload 6, 2) := by decide +kernel
theorem dX7_crown_60 : decode cX7_crown 60 = .ok (.iload_n 1, 1) := by decide +kernel
theorem dX7_crown_61 : decode cX7_crown 61 = .ok (.invokevirtual 252, 3) := by decide +kernel
theorem dX7_crown_64 : decode cX7_crown 64 = .ok (.lstore 7, 2) := by decide +kernel
theorem dX7_crown_66 : decode cX7_crown 66 = .ok (.lload 7, 2) := by decide +kernel
theorem dX7_crown_68 : decode cX7_crown 68 = .ok (.lload_n 3, 1) := by decide +kernel
theorem dX7_crown_69 : decode cX7_crown 69 = .ok (.lcmp, 1) := by decide +kernel
theorem dX7_crown_70 : decode cX7_crown 70 = .ok (.ifCond .le 8, 3) := by decide +kernel
theorem dX7_crown_73 : decode cX7_crown 73 = .ok (.iload 6, 2) := by decide +kernel
theorem dX7_crown_75 : decode cX7_crown 75 = .ok (.goto 5, 3) := by decide +kernel
theorem dX7_crown_78 : decode cX7_crown 78 = .ok (.iload 5, 2) := by decide +kernel
theorem dX7_crown_80 : decode cX7_crown 80 = .ok (.istore 5, 2) := by decide +kernel
theorem dX7_crown_82 : decode cX7_crown 82 = .ok (.lload 7, 2) := by decide +kernel
theorem dX7_crown_84 : decode cX7_crown 84 = .ok (.lload_n 3, 1) := by decide +kernel
theorem dX7_crown_85 : decode cX7_crown 85 = .ok (.lcmp, 1) := by decide +kernel
theorem dX7_crown_86 : decode cX7_crown 86 = .ok (.ifCond .le 8, 3) := by decide +kernel
theorem dX7_crown_89 : decode cX7_crown 89 = .ok (.lload 7, 2) := by decide +kernel
theorem dX7_crown_91 : decode cX7_crown 91 = .ok (.goto 4, 3) := by decide +kernel
theorem dX7_crown_94 : decode cX7_crown 94 = .ok (.lload_n 3, 1) := by decide +kernel
theorem dX7_crown_95 : decode cX7_crown 95 = .ok (.lstore_n 3, 1) := by decide +kernel
theorem dX7_crown_96 : decode cX7_crown 96 = .ok (.iinc 6 1, 3) := by decide +kernel
theorem dX7_crown_99 : decode cX7_crown 99 = .ok (.goto (-51), 3) := by decide +kernel
theorem dX7_crown_102 : decode cX7_crown 102 = .ok (.iload_n 2, 1) := by decide +kernel
theorem dX7_crown_103 : decode cX7_crown 103 = .ok (.ifCond .ne 9, 3) := by decide +kernel
theorem dX7_crown_106 : decode cX7_crown 106 = .ok (.iload 5, 2) := by decide +kernel
theorem dX7_crown_108 : decode cX7_crown 108 = .ok (.i2l, 1) := by decide +kernel
theorem dX7_crown_109 : decode cX7_crown 109 = .ok (.goto 19, 3) := by decide +kernel
theorem dX7_crown_112 : decode cX7_crown 112 = .ok (.lload_n 3, 1) := by decide +kernel
theorem dX7_crown_113 : decode cX7_crown 113 = .ok (.aload_n 0, 1) := by decide +kernel
theorem dX7_crown_114 : decode cX7_crown 114 = .ok (.getfield 180, 3) := by decide +kernel
theorem dX7_crown_117 : decode cX7_crown 117 = .ok (.iload_n 1, 1) := by decide +kernel
theorem dX7_crown_118 : decode cX7_crown 118 = .ok (.imul, 1) := by decide +kernel
theorem dX7_crown_119 : decode cX7_crown 119 = .ok (.invokestatic 232, 3) := by decide +kernel
theorem dX7_crown_122 : decode cX7_crown 122 = .ok (.iload_n 2, 1) := by decide +kernel
theorem dX7_crown_123 : decode cX7_crown 123 = .ok (.iconst 1, 1) := by decide +kernel
theorem dX7_crown_124 : decode cX7_crown 124 = .ok (.isub, 1) := by decide +kernel
theorem dX7_crown_125 : decode cX7_crown 125 = .ok (.invokestatic 244, 3) := by decide +kernel
theorem dX7_crown_128 : decode cX7_crown 128 = .ok (.lreturn, 1) := by decide +kernel
set_option maxRecDepth 100000 in
set_option maxHeartbeats 4000000 in
theorem mX7_bestOf_i (s : Nat → Int32) (la : Nat → Int32) (r : rT) (v : vT) (c : Nat → Nat → Int32) (l : Nat → Int32) (tn : Int32) (p : Nat → Int32) (pa : Nat → Nat → Int32) (m : Nat) (q : rT) (b : Int32) (x : Nat → Nat) (h : Nat → Nat → Int64) (qc : rT) (hE : qE q qc m) (hM : mOK qc m) (k n : Nat) (hk : k < r 6 1) (hn : n ≤ 5) (hS : mS s r) (hr : rOK r) (K t u : Nat) (hK : K < n) (ht : t = n - 1 - K) (hu : u < 2 ^ m) (hu0 : ¬ u = 0) (hh : (∀ j, j < 2 ^ m → h 1 j = lI (mbz qc m (r 2 k : Nat) (r 3 k : Nat) n K j))) (hk9 : ∀ z10 : Option Value, J KX7_bestOf 21 (fun o B => o = some (.long (lI (mbz qc m (r 2 k : Nat) (r 3 k : Nat) n n (qc 6 0)))) ∧ ∃ h9, B = (wM s la r v c l tn p pa m q (jB (0 < mbz qc m (r 2 k : Nat) (r 3 k : Nat) n n (qc 6 0))) x h9)) 159 [some (.ref 0), some (.int (nI k)), some (.int (nI n)), some (.int (nI t)), some (.long (lN (10 ^ (m * K)))), none, some (.int (nI u)), some (.long (lI (sZ (mbF (ten qc u t) m (10 ^ (m * K) : Nat) (r 2 k : Nat) (r 3 k : Nat) (mbz qc m (r 2 k : Nat) (r 3 k : Nat) n K) u) (2 ^ m)))), none, some (.int (nI (2 ^ m))), z10, none] [] (wM s la r v c l tn p pa m q b x h) 0 0) : ∀ (k9 i : Nat), i + k9 = 2 ^ m → ∀ (z10 : Option Value), J KX7_bestOf 21 (fun o B => o = some (.long (lI (mbz qc m (r 2 k : Nat) (r 3 k : Nat) n n (qc 6 0)))) ∧ ∃ h9, B = (wM s la r v c l tn p pa m q (jB (0 < mbz qc m (r 2 k : Nat) (r 3 k : Nat) n n (qc 6 0))) x h9)) 69 [some (.ref 0), some (.int (nI k)), some (.int (nI n)), some (.int (nI t)), some (.long (lN (10 ^ (m * K)))), none, some (.int (nI u)), some (.long (lI (sZ (mbF (ten qc u t) m (10 ^ (m * K) : Nat) (r 2 k : Nat) (r 3 k : Nat) (mbz qc m (r 2 k : Nat) (r 3 k : Nat) n K) u) i))), none, some (.int (nI i)), z10, none] [] (wM s la r v c l tn p pa m q b x h) 0 0 := by
  intro k9
  induction k9 with
  | zero =>
    intro i hi
    obtain hiN : i = 2 ^ m := by omega
    intro z10
    subst hiN
    refine J.iload dX7_bestOf_69 rfl ?_
    refine J.iconst (1) dX7_bestOf_71 (by decide) ?_
    refine J.aload_n dX7_bestOf_72 rfl rfl ?_
    refine J.mg25 dX7_bestOf_73 rfl ?_
    refine J.ishl dX7_bestOf_76 ?_
    rw [shl_eval m (by have := hM.2.2; omega)]
    refine J.icmp_ge (tgt := 159) dX7_bestOf_77 (by decide) (fun c77 => ?_) (fun c77 => absurd c77 (fun h => h (Int32.le_refl _)))
    exact hk9 _
  | succ k9 ih =>
    intro i hi
    have hiN : i < 2 ^ m := by omega
    intro z10
    by_cases h0 : i = 0
    · skip
      refine J.iload dX7_bestOf_69 rfl ?_
      refine J.iconst (1) dX7_bestOf_71 (by decide) ?_
      refine J.aload_n dX7_bestOf_72 rfl rfl ?_
      refine J.mg25 dX7_bestOf_73 rfl ?_
      refine J.ishl dX7_bestOf_76 ?_
      rw [shl_eval m (by have := hM.2.2; omega)]
      refine J.icmp_ge (tgt := 159) dX7_bestOf_77 (by decide) (fun c77 => absurd c77 (nI_ge (by omega) (by have := p2_8 hM.2.2; omega))) (fun c77 => ?_)
      refine J.iload dX7_bestOf_80 rfl ?_
      refine J.if_eq (tgt := 159) dX7_bestOf_82 (by decide) (fun c82 => absurd c82 (fun h9 => absurd ((nI_eqi (b := 0) (by have := p2_8 hM.2.2; omega) (by decide)).mp h9) (by omega))) (fun c82 => ?_)
      refine J.iload dX7_bestOf_85 rfl ?_
      refine J.if_ne (tgt := 111) dX7_bestOf_87 (by decide) (fun c87 => absurd c87 (fun h9 => h9 (by rw [h0] <;> rfl))) (fun c87 => ?_)
      refine J.lload dX7_bestOf_90 rfl ?_
      refine J.lneg dX7_bestOf_92 ?_
      refine J.aload_n dX7_bestOf_93 rfl rfl ?_
      refine J.mg0 dX7_bestOf_94 rfl ?_
      refine J.bipush (10) dX7_bestOf_97 (by decide) ?_
      refine J.iconst (2) dX7_bestOf_99 (by decide) ?_
      refine J.iload_n dX7_bestOf_100 rfl rfl ?_
      refine J.imul dX7_bestOf_101 ?_
      refine J.iadd dX7_bestOf_102 ?_
      refine J.iconst (1) dX7_bestOf_103 (by decide) ?_
      refine J.iadd dX7_bestOf_104 ?_
      refine J.ml1 (10 + 2 * k + 1) dX7_bestOf_105 (ixk1 10 2 k 1) (by have := hr.2.1; omega) ?_
      rw [(hS.2.2.1 k hk).2]
      refine J.i2l dX7_bestOf_106 ?_
      refine J.lmul dX7_bestOf_107 ?_
      refine J.goto (tgt := 134) dX7_bestOf_108 (by decide) ?_
      refine J.lstore dX7_bestOf_134 (by decide) rfl ?_
      try dsimp only [List.set]
      refine J.lload dX7_bestOf_136 rfl ?_
      refine J.aload_n dX7_bestOf_138 rfl rfl ?_
      refine J.iload dX7_bestOf_139 rfl ?_
      refine J.iload dX7_bestOf_141 rfl ?_
      refine J.iload_n dX7_bestOf_143 rfl rfl ?_
      refine J.cvM (as := [.int _, .int _, .int _]) s la r v c l tn p pa m q b x h okX7_wayOf jcX7_219 (mX7_wayOf s la r v c l tn p pa m q b x h qc hE hM u i t (by have := p2_8 hM.2.2; omega) (by have := p2_8 hM.2.2; omega) (by omega)) dX7_bestOf_144 rfl rfl rfl rfl (fun r9 B9 hq9 => ?_)
      obtain ⟨rfl, rfl⟩ := hq9
      refine ⟨_, _, _, _, _, _, _, _, _, _, _, _, _, _, rfl, ?_⟩
      show J _ _ _ _ _ (.long _ :: _) (wM s la r v c l tn p pa m q b x h) _ _
      refine J.lload dX7_bestOf_147 rfl ?_
      refine J.lmul dX7_bestOf_149 ?_
      refine J.ladd dX7_bestOf_150 ?_
      have e9 : lI (sZ (mbF (ten qc u t) m (10 ^ (m * K) : Nat) (r 2 k : Nat) (r 3 k : Nat) (mbz qc m (r 2 k : Nat) (r 3 k : Nat) n K) u) i) + lN (wy (ten qc u t) m u i) * (-lN (10 ^ (m * K)) * (nI (r 3 k)).toInt64) = lI (sZ (mbF (ten qc u t) m (10 ^ (m * K) : Nat) (r 2 k : Nat) (r 3 k : Nat) (mbz qc m (r 2 k : Nat) (r 3 k : Nat) n K) u) (i + 1)) := by
        rw [show sZ (mbF (ten qc u t) m (10 ^ (m * K) : Nat) (r 2 k : Nat) (r 3 k : Nat) (mbz qc m (r 2 k : Nat) (r 3 k : Nat) n K) u) (i + 1) = sZ (mbF (ten qc u t) m (10 ^ (m * K) : Nat) (r 2 k : Nat) (r 3 k : Nat) (mbz qc m (r 2 k : Nat) (r 3 k : Nat) n K) u) i + (mbF (ten qc u t) m (10 ^ (m * K) : Nat) (r 2 k : Nat) (r 3 k : Nat) (mbz qc m (r 2 k : Nat) (r 3 k : Nat) n K) u) i from rfl, show (mbF (ten qc u t) m (10 ^ (m * K) : Nat) (r 2 k : Nat) (r 3 k : Nat) (mbz qc m (r 2 k : Nat) (r 3 k : Nat) n K) u) i = (wy (ten qc u t) m u i : Int) * _ from congrArg (fun z => (wy (ten qc u t) m u i : Int) * z) (if_pos h0), nI_l (by have := hr.2.2.2.2.2.2.2.2.2.2.2.1 k; omega)]
        simp only [lNZ, lI_neg, lI_mul, lI_add]
      rw [e9]
      refine J.lstore dX7_bestOf_151 (by decide) rfl ?_
      try dsimp only [List.set]
      refine J.iinc (1) dX7_bestOf_153 (by decide) rfl (by decide) rfl ?_
      try dsimp only [List.set]
      refine J.goto (tgt := 69) dX7_bestOf_156 (by decide) ?_
      exact J.at (ih (i + 1) (by omega) _) (by rw [← nI_1 i] <;> rfl) rfl rfl
    · skip
      refine J.iload dX7_bestOf_69 rfl ?_
      refine J.iconst (1) dX7_bestOf_71 (by decide) ?_
      refine J.aload_n dX7_bestOf_72 rfl rfl ?_
      refine J.mg25 dX7_bestOf_73 rfl ?_
      refine J.ishl dX7_bestOf_76 ?_
      rw [shl_eval m (by have := hM.2.2; omega)]
      refine J.icmp_ge (tgt := 159) dX7_bestOf_77 (by decide) (fun c77 => absurd c77 (nI_ge (by omega) (by have := p2_8 hM.2.2; omega))) (fun c77 => ?_)
      refine J.iload dX7_bestOf_80 rfl ?_
      refine J.if_eq (tgt := 159) dX7_bestOf_82 (by decide) (fun c82 => absurd c82 (fun h9 => absurd ((nI_eqi (b := 0) (by have := p2_8 hM.2.2; omega) (by decide)).mp h9) (by omega))) (fun c82 => ?_)
      refine J.iload dX7_bestOf_85 rfl ?_
      refine J.if_ne (tgt := 111) dX7_bestOf_87 (by decide) (fun c87 => ?_) (fun c87 => absurd c87 (fun h9 => h0 ((nI_eqi (b := 0) (by have := p2_8 hM.2.2; omega) (by decide)).mp h9)))
      refine J.lload dX7_bestOf_111 rfl ?_
      refine J.aload_n dX7_bestOf_113 rfl rfl ?_
      refine J.mg0 dX7_bestOf_114 rfl ?_
      refine J.bipush (10) dX7_bestOf_117 (by decide) ?_
      refine J.iconst (2) dX7_bestOf_119 (by decide) ?_
      refine J.iload_n dX7_bestOf_120 rfl rfl ?_
      refine J.imul dX7_bestOf_121 ?_
      refine J.iadd dX7_bestOf_122 ?_
      refine J.ml1 (10 + 2 * k) dX7_bestOf_123 (ixk 10 2 k) (by have := hr.2.1; omega) ?_
      rw [(hS.2.2.1 k hk).1]
      refine J.i2l dX7_bestOf_124 ?_
      refine J.lmul dX7_bestOf_125 ?_
      refine J.aload_n dX7_bestOf_126 rfl rfl ?_
      refine J.mg30 dX7_bestOf_127 rfl ?_
      refine J.iload dX7_bestOf_130 rfl ?_
      refine J.ml12 (i) dX7_bestOf_132 rfl (by have := p2_8 hM.2.2; omega) ?_
      rw [hh i hiN]
      refine J.ladd dX7_bestOf_133 ?_
      refine J.lstore dX7_bestOf_134 (by decide) rfl ?_
      try dsimp only [List.set]
      refine J.lload dX7_bestOf_136 rfl ?_
      refine J.aload_n dX7_bestOf_138 rfl rfl ?_
      refine J.iload dX7_bestOf_139 rfl ?_
      refine J.iload dX7_bestOf_141 rfl ?_
      refine J.iload_n dX7_bestOf_143 rfl rfl ?_
      refine J.cvM (as := [.int _, .int _, .int _]) s la r v c l tn p pa m q b x h okX7_wayOf jcX7_219 (mX7_wayOf s la r v c l tn p pa m q b x h qc hE hM u i t (by have := p2_8 hM.2.2; omega) (by have := p2_8 hM.2.2; omega) (by omega)) dX7_bestOf_144 rfl rfl rfl rfl (fun r9 B9 hq9 => ?_)
      obtain ⟨rfl, rfl⟩ := hq9
      refine ⟨_, _, _, _, _, _, _, _, _, _, _, _, _, _, rfl, ?_⟩
      show J _ _ _ _ _ (.long _ :: _) (wM s la r v c l tn p pa m q b x h) _ _
      refine J.lload dX7_bestOf_147 rfl ?_
      refine J.lmul dX7_bestOf_149 ?_
      refine J.ladd dX7_bestOf_150 ?_
      have e9 : lI (sZ (mbF (ten qc u t) m (10 ^ (m * K) : Nat) (r 2 k : Nat) (r 3 k : Nat) (mbz qc m (r 2 k : Nat) (r 3 k : Nat) n K) u) i) + lN (wy (ten qc u t) m u i) * (lN (10 ^ (m * K)) * (nI (r 2 k)).toInt64 + lI (mbz qc m (r 2 k : Nat) (r 3 k : Nat) n K i)) = lI (sZ (mbF (ten qc u t) m (10 ^ (m * K) : Nat) (r 2 k : Nat) (r 3 k : Nat) (mbz qc m (r 2 k : Nat) (r 3 k : Nat) n K) u) (i + 1)) := by
        rw [show sZ (mbF (ten qc u t) m (10 ^ (m * K) : Nat) (r 2 k : Nat) (r 3 k : Nat) (mbz qc m (r 2 k : Nat) (r 3 k : Nat) n K) u) (i + 1) = sZ (mbF (ten qc u t) m (10 ^ (m * K) : Nat) (r 2 k : Nat) (r 3 k : Nat) (mbz qc m (r 2 k : Nat) (r 3 k : Nat) n K) u) i + (mbF (ten qc u t) m (10 ^ (m * K) : Nat) (r 2 k : Nat) (r 3 k : Nat) (mbz qc m (r 2 k : Nat) (r 3 k : Nat) n K) u) i from rfl, show (mbF (ten qc u t) m (10 ^ (m * K) : Nat) (r 2 k : Nat) (r 3 k : Nat) (mbz qc m (r 2 k : Nat) (r 3 k : Nat) n K) u) i = (wy (ten qc u t) m u i : Int) * _ from congrArg (fun z => (wy (ten qc u t) m u i : Int) * z) (if_neg h0), nI_l (by have := hr.2.2.2.2.2.2.2.2.2.2.1 k; omega)]
        simp only [lNZ, lI_neg, lI_mul, lI_add]
      rw [e9]
      refine J.lstore dX7_bestOf_151 (by decide) rfl ?_
      try dsimp only [List.set]
      refine J.iinc (1) dX7_bestOf_153 (by decide) rfl (by decide) rfl ?_
      try dsimp only [List.set]
      refine J.goto (tgt := 69) dX7_bestOf_156 (by decide) ?_
      exact J.at (ih (i + 1) (by omega) _) (by rw [← nI_1 i] <;> rfl) rfl rfl
set_option maxRecDepth 100000 in
set_option maxHeartbeats 4000000 in
theorem mX7_bestOf_c (s : Nat → Int32) (la : Nat → Int32) (r : rT) (v : vT) (c : Nat → Nat → Int32) (l : Nat → Int32) (tn : Int32) (p : Nat → Int32) (pa : Nat → Nat → Int32) (m : Nat) (q : rT) (b : Int32) (x : Nat → Nat) (qc : rT) (hE : qE q qc m) (hM : mOK qc m) (k n : Nat) (hk : k < r 6 1) (hn : n ≤ 5) (hS : mS s r) (hr : rOK r) (K t : Nat) (z7 z9 z10 : Option Value) (hk9 : ∀ h : Nat → Nat → Int64, (∀ j, j < 2 ^ m → h 1 j = lI (mbz qc m (r 2 k : Nat) (r 3 k : Nat) n (K + 1) j)) → ∀ z6 z7 z9 z10 : Option Value, J KX7_bestOf 21 (fun o B => o = some (.long (lI (mbz qc m (r 2 k : Nat) (r 3 k : Nat) n n (qc 6 0)))) ∧ ∃ h9, B = (wM s la r v c l tn p pa m q (jB (0 < mbz qc m (r 2 k : Nat) (r 3 k : Nat) n n (qc 6 0))) x h9)) 251 [some (.ref 0), some (.int (nI k)), some (.int (nI n)), some (.int (nI t)), some (.long (lN (10 ^ (m * K)))), none, z6, z7, none, z9, z10, none] [] (wM s la r v c l tn p pa m q b x h) 0 0) : ∀ (k9 i : Nat), i + k9 = 2 ^ m → ∀ (h : Nat → Nat → Int64), ((∀ j, j < i → h 1 j = lI (mbz qc m (r 2 k : Nat) (r 3 k : Nat) n (K + 1) j)) ∧ ∀ j, j < 2 ^ m → h 2 j = lI (mbz qc m (r 2 k : Nat) (r 3 k : Nat) n (K + 1) j)) → J KX7_bestOf 21 (fun o B => o = some (.long (lI (mbz qc m (r 2 k : Nat) (r 3 k : Nat) n n (qc 6 0)))) ∧ ∃ h9, B = (wM s la r v c l tn p pa m q (jB (0 < mbz qc m (r 2 k : Nat) (r 3 k : Nat) n n (qc 6 0))) x h9)) 220 [some (.ref 0), some (.int (nI k)), some (.int (nI n)), some (.int (nI t)), some (.long (lN (10 ^ (m * K)))), none, some (.int (nI i)), z7, none, z9, z10, none] [] (wM s la r v c l tn p pa m q b x h) 0 0 := by
  intro k9
  induction k9 with
  | zero =>
    intro i hi
    obtain hiN : i = 2 ^ m := by omega
    intro h hh
    subst hiN
    refine J.iload dX7_bestOf_220 rfl ?_
    refine J.iconst (1) dX7_bestOf_222 (by decide) ?_
    refine J.aload_n dX7_bestOf_223 rfl rfl ?_
    refine J.mg25 dX7_bestOf_224 rfl ?_
    refine J.ishl dX7_bestOf_227 ?_
    rw [shl_eval m (by have := hM.2.2; omega)]
    refine J.icmp_ge (tgt := 251) dX7_bestOf_228 (by decide) (fun c228 => ?_) (fun c228 => absurd c228 (fun h => h (Int32.le_refl _)))
    exact hk9 _ hh.1 _ _ _ _
  | succ k9 ih =>
    intro i hi
    have hiN : i < 2 ^ m := by omega
    intro h hh
    refine J.iload dX7_bestOf_220 rfl ?_
    refine J.iconst (1) dX7_bestOf_222 (by decide) ?_
    refine J.aload_n dX7_bestOf_223 rfl rfl ?_
    refine J.mg25 dX7_bestOf_224 rfl ?_
    refine J.ishl dX7_bestOf_227 ?_
    rw [shl_eval m (by have := hM.2.2; omega)]
    refine J.icmp_ge (tgt := 251) dX7_bestOf_228 (by decide) (fun c228 => absurd c228 (nI_ge (by omega) (by have := p2_8 hM.2.2; omega))) (fun c228 => ?_)
    refine J.aload_n dX7_bestOf_231 rfl rfl ?_
    refine J.mg30 dX7_bestOf_232 rfl ?_
    refine J.iload dX7_bestOf_235 rfl ?_
    refine J.aload_n dX7_bestOf_237 rfl rfl ?_
    refine J.mg31 dX7_bestOf_238 rfl ?_
    refine J.iload dX7_bestOf_241 rfl ?_
    refine J.ml13 (i) dX7_bestOf_243 rfl (by have := p2_8 hM.2.2; omega) ?_
    rw [hh.2 i hiN]
    refine J.ms12 (i) dX7_bestOf_244 rfl (by have := p2_8 hM.2.2; omega) ?_
    try dsimp only [List.set]
    refine J.iinc (1) dX7_bestOf_245 (by decide) rfl (by decide) rfl ?_
    try dsimp only [List.set]
    refine J.goto (tgt := 220) dX7_bestOf_248 (by decide) ?_
    refine J.at (ih (i + 1) (by omega) (hset h 1 i (lI (mbz qc m (r 2 k : Nat) (r 3 k : Nat) n (K + 1) i))) ⟨fun j hj => ?_, fun j hj => hh.2 j hj⟩) (by rw [← nI_1 i] <;> rfl) rfl rfl
    by_cases e : j = i
    · subst e; exact pk_uLs
    · exact (pk_uLn e).trans (hh.1 j (by omega))
set_option maxRecDepth 100000 in
set_option maxHeartbeats 4000000 in
theorem mX7_bestOf_w (s : Nat → Int32) (la : Nat → Int32) (r : rT) (v : vT) (c : Nat → Nat → Int32) (l : Nat → Int32) (tn : Int32) (p : Nat → Int32) (pa : Nat → Nat → Int32) (m : Nat) (q : rT) (b : Int32) (x : Nat → Nat) (h : Nat → Nat → Int64) (qc : rT) (hE : qE q qc m) (hM : mOK qc m) (k n : Nat) (hk : k < r 6 1) (hn : n ≤ 5) (hS : mS s r) (hr : rOK r) (K t i : Nat) (hi : i < 2 ^ m) (z : Int) (hz : (mbS qc m (r 2 k : Nat) (r 3 k : Nat) n (mbz qc m (r 2 k : Nat) (r 3 k : Nat) n K) K i) = z) (hz9 : z.natAbs ≤ 1000000000000000000) (hh : ((∀ j, j < 2 ^ m → h 1 j = lI (mbz qc m (r 2 k : Nat) (r 3 k : Nat) n K j)) ∧ (∀ j, j < i → h 2 j = lI (mbz qc m (r 2 k : Nat) (r 3 k : Nat) n (K + 1) j)) ∧ (qc 6 0 < i → b = jB (0 < mbz qc m (r 2 k : Nat) (r 3 k : Nat) n (K + 1) (qc 6 0))))) (hbz : narrow .boolean (.int b) = .int b ∧ fits .boolean (.int b) = true) (ih9 : ∀ (b : Int32) (h : Nat → Nat → Int64), ((∀ j, j < 2 ^ m → h 1 j = lI (mbz qc m (r 2 k : Nat) (r 3 k : Nat) n K j)) ∧ (∀ j, j < i + 1 → h 2 j = lI (mbz qc m (r 2 k : Nat) (r 3 k : Nat) n (K + 1) j)) ∧ (qc 6 0 < i + 1 → b = jB (0 < mbz qc m (r 2 k : Nat) (r 3 k : Nat) n (K + 1) (qc 6 0)))) → (narrow .boolean (.int b) = .int b ∧ fits .boolean (.int b) = true) → ∀ z7 z9 z10 : Option Value, J KX7_bestOf 21 (fun o B => o = some (.long (lI (mbz qc m (r 2 k : Nat) (r 3 k : Nat) n n (qc 6 0)))) ∧ ∃ h9, B = (wM s la r v c l tn p pa m q (jB (0 < mbz qc m (r 2 k : Nat) (r 3 k : Nat) n n (qc 6 0))) x h9)) 52 [some (.ref 0), some (.int (nI k)), some (.int (nI n)), some (.int (nI t)), some (.long (lN (10 ^ (m * K)))), none, some (.int (nI (i + 1))), z7, none, z9, z10, none] [] (wM s la r v c l tn p pa m q b x h) 0 0) (z9 z10 : Option Value) : J KX7_bestOf 21 (fun o B => o = some (.long (lI (mbz qc m (r 2 k : Nat) (r 3 k : Nat) n n (qc 6 0)))) ∧ ∃ h9, B = (wM s la r v c l tn p pa m q (jB (0 < mbz qc m (r 2 k : Nat) (r 3 k : Nat) n n (qc 6 0))) x h9)) 159 [some (.ref 0), some (.int (nI k)), some (.int (nI n)), some (.int (nI t)), some (.long (lN (10 ^ (m * K)))), none, some (.int (nI i)), some (.long (lI z)), none, z9, z10, none] [] (wM s la r v c l tn p pa m q b x h) 0 0 := by
  by_cases hw9 : i = qc 6 0
  · by_cases hp9 : 0 < z
    · skip
      refine J.aload_n dX7_bestOf_159 rfl rfl ?_
      refine J.iload dX7_bestOf_160 rfl ?_
      refine J.aload_n dX7_bestOf_162 rfl rfl ?_
      refine J.mg26 dX7_bestOf_163 rfl ?_
      rw [hE.2.1]
      refine J.icmp_ne (tgt := 184) dX7_bestOf_166 (by decide) (fun c166 => absurd c166 (fun h9 => h9 (by rw [hw9] <;> rfl))) (fun c166 => ?_)
      refine J.lload dX7_bestOf_169 rfl ?_
      refine J.lconst 0 dX7_bestOf_171 (by decide) ?_
      refine J.lcmp dX7_bestOf_172 ?_
      refine J.if_le (tgt := 180) dX7_bestOf_173 (by decide) (fun c173 => absurd c173 (fun h9 => cmpN h9 (show (0 : Int64) < lI z from (lI_pos hz9).mpr hp9))) (fun c173 => ?_)
      refine J.iconst (1) dX7_bestOf_176 (by decide) ?_
      refine J.goto (tgt := 188) dX7_bestOf_177 (by decide) ?_
      refine J.mp32 dX7_bestOf_188 rfl (by decide) (by decide) ?_
      try dsimp only [List.set]
      refine J.aload_n dX7_bestOf_191 rfl rfl ?_
      refine J.mg31 dX7_bestOf_192 rfl ?_
      refine J.iload dX7_bestOf_195 rfl ?_
      refine J.lload dX7_bestOf_197 rfl ?_
      refine J.lconst 0 dX7_bestOf_199 (by decide) ?_
      refine J.lcmp dX7_bestOf_200 ?_
      refine J.if_le (tgt := 209) dX7_bestOf_201 (by decide) (fun c201 => absurd c201 (fun h9 => cmpN h9 (show (0 : Int64) < lI z from (lI_pos hz9).mpr hp9))) (fun c201 => ?_)
      refine J.lload dX7_bestOf_204 rfl ?_
      refine J.goto (tgt := 210) dX7_bestOf_206 (by decide) ?_
      refine J.ms13 (i) dX7_bestOf_210 rfl (by have := p2_8 hM.2.2; omega) ?_
      try dsimp only [List.set]
      refine J.iinc (1) dX7_bestOf_211 (by decide) rfl (by decide) rfl ?_
      try dsimp only [List.set]
      refine J.goto (tgt := 52) dX7_bestOf_214 (by decide) ?_
      have e9 : mbz qc m (r 2 k : Nat) (r 3 k : Nat) n (K + 1) i = z := by rw [mbz, hz]; exact if_pos hp9
      refine J.at (ih9 1 (hset h 2 i (lI z)) ⟨hh.1, fun j hj => ?_, fun hj => ?_⟩ (by decide) _ _ _) (by rw [← nI_1 i] <;> rfl) rfl rfl
      · by_cases e : j = i
        · subst e
          rw [e9]
          exact pk_uLs
        · exact (pk_uLn e).trans (hh.2.1 j (by omega))
      · rw [show qc 6 0 = i from hw9.symm, e9]
        exact (jB_t _ hp9).symm
    · skip
      refine J.aload_n dX7_bestOf_159 rfl rfl ?_
      refine J.iload dX7_bestOf_160 rfl ?_
      refine J.aload_n dX7_bestOf_162 rfl rfl ?_
      refine J.mg26 dX7_bestOf_163 rfl ?_
      rw [hE.2.1]
      refine J.icmp_ne (tgt := 184) dX7_bestOf_166 (by decide) (fun c166 => absurd c166 (fun h9 => h9 (by rw [hw9] <;> rfl))) (fun c166 => ?_)
      refine J.lload dX7_bestOf_169 rfl ?_
      refine J.lconst 0 dX7_bestOf_171 (by decide) ?_
      refine J.lcmp dX7_bestOf_172 ?_
      refine J.if_le (tgt := 180) dX7_bestOf_173 (by decide) (fun c173 => ?_) (fun c173 => absurd c173 (fun h9 => hp9 ((lI_pos hz9).mp (cmpP h9))))
      refine J.iconst (0) dX7_bestOf_180 (by decide) ?_
      refine J.goto (tgt := 188) dX7_bestOf_181 (by decide) ?_
      refine J.mp32 dX7_bestOf_188 rfl (by decide) (by decide) ?_
      try dsimp only [List.set]
      refine J.aload_n dX7_bestOf_191 rfl rfl ?_
      refine J.mg31 dX7_bestOf_192 rfl ?_
      refine J.iload dX7_bestOf_195 rfl ?_
      refine J.lload dX7_bestOf_197 rfl ?_
      refine J.lconst 0 dX7_bestOf_199 (by decide) ?_
      refine J.lcmp dX7_bestOf_200 ?_
      refine J.if_le (tgt := 209) dX7_bestOf_201 (by decide) (fun c201 => ?_) (fun c201 => absurd c201 (fun h9 => hp9 ((lI_pos hz9).mp (cmpP h9))))
      refine J.lconst 0 dX7_bestOf_209 (by decide) ?_
      refine J.ms13 (i) dX7_bestOf_210 rfl (by have := p2_8 hM.2.2; omega) ?_
      try dsimp only [List.set]
      refine J.iinc (1) dX7_bestOf_211 (by decide) rfl (by decide) rfl ?_
      try dsimp only [List.set]
      refine J.goto (tgt := 52) dX7_bestOf_214 (by decide) ?_
      have e9 : mbz qc m (r 2 k : Nat) (r 3 k : Nat) n (K + 1) i = 0 := by rw [mbz, hz]; exact if_neg hp9
      refine J.at (ih9 0 (hset h 2 i 0) ⟨hh.1, fun j hj => ?_, fun hj => ?_⟩ (by decide) _ _ _) (by rw [← nI_1 i] <;> rfl) rfl rfl
      · by_cases e : j = i
        · subst e
          rw [e9]
          exact pk_uLs
        · exact (pk_uLn e).trans (hh.2.1 j (by omega))
      · rw [show qc 6 0 = i from hw9.symm, e9]
        exact (jB_f _ (by decide)).symm
  · by_cases hp9 : 0 < z
    · skip
      refine J.aload_n dX7_bestOf_159 rfl rfl ?_
      refine J.iload dX7_bestOf_160 rfl ?_
      refine J.aload_n dX7_bestOf_162 rfl rfl ?_
      refine J.mg26 dX7_bestOf_163 rfl ?_
      rw [hE.2.1]
      refine J.icmp_ne (tgt := 184) dX7_bestOf_166 (by decide) (fun c166 => ?_) (fun c166 => absurd c166 (fun h9 => hw9 ((nI_eqi (by have := p2_8 hM.2.2; omega) (by have := hM.1.2.2.2; omega)).mp h9)))
      refine J.aload_n dX7_bestOf_184 rfl rfl ?_
      refine J.mg32 dX7_bestOf_185 rfl ?_
      refine J.mp32 dX7_bestOf_188 rfl hbz.1 hbz.2 ?_
      try dsimp only [List.set]
      refine J.aload_n dX7_bestOf_191 rfl rfl ?_
      refine J.mg31 dX7_bestOf_192 rfl ?_
      refine J.iload dX7_bestOf_195 rfl ?_
      refine J.lload dX7_bestOf_197 rfl ?_
      refine J.lconst 0 dX7_bestOf_199 (by decide) ?_
      refine J.lcmp dX7_bestOf_200 ?_
      refine J.if_le (tgt := 209) dX7_bestOf_201 (by decide) (fun c201 => absurd c201 (fun h9 => cmpN h9 (show (0 : Int64) < lI z from (lI_pos hz9).mpr hp9))) (fun c201 => ?_)
      refine J.lload dX7_bestOf_204 rfl ?_
      refine J.goto (tgt := 210) dX7_bestOf_206 (by decide) ?_
      refine J.ms13 (i) dX7_bestOf_210 rfl (by have := p2_8 hM.2.2; omega) ?_
      try dsimp only [List.set]
      refine J.iinc (1) dX7_bestOf_211 (by decide) rfl (by decide) rfl ?_
      try dsimp only [List.set]
      refine J.goto (tgt := 52) dX7_bestOf_214 (by decide) ?_
      have e9 : mbz qc m (r 2 k : Nat) (r 3 k : Nat) n (K + 1) i = z := by rw [mbz, hz]; exact if_pos hp9
      refine J.at (ih9 b (hset h 2 i (lI z)) ⟨hh.1, fun j hj => ?_, fun hj => ?_⟩ hbz _ _ _) (by rw [← nI_1 i] <;> rfl) rfl rfl
      · by_cases e : j = i
        · subst e
          rw [e9]
          exact pk_uLs
        · exact (pk_uLn e).trans (hh.2.1 j (by omega))
      · exact hh.2.2 (by omega)
    · skip
      refine J.aload_n dX7_bestOf_159 rfl rfl ?_
      refine J.iload dX7_bestOf_160 rfl ?_
      refine J.aload_n dX7_bestOf_162 rfl rfl ?_
      refine J.mg26 dX7_bestOf_163 rfl ?_
      rw [hE.2.1]
      refine J.icmp_ne (tgt := 184) dX7_bestOf_166 (by decide) (fun c166 => ?_) (fun c166 => absurd c166 (fun h9 => hw9 ((nI_eqi (by have := p2_8 hM.2.2; omega) (by have := hM.1.2.2.2; omega)).mp h9)))
      refine J.aload_n dX7_bestOf_184 rfl rfl ?_
      refine J.mg32 dX7_bestOf_185 rfl ?_
      refine J.mp32 dX7_bestOf_188 rfl hbz.1 hbz.2 ?_
      try dsimp only [List.set]
      refine J.aload_n dX7_bestOf_191 rfl rfl ?_
      refine J.mg31 dX7_bestOf_192 rfl ?_
      refine J.iload dX7_bestOf_195 rfl ?_
      refine J.lload dX7_bestOf_197 rfl ?_
      refine J.lconst 0 dX7_bestOf_199 (by decide) ?_
      refine J.lcmp dX7_bestOf_200 ?_
      refine J.if_le (tgt := 209) dX7_bestOf_201 (by decide) (fun c201 => ?_) (fun c201 => absurd c201 (fun h9 => hp9 ((lI_pos hz9).mp (cmpP h9))))
      refine J.lconst 0 dX7_bestOf_209 (by decide) ?_
      refine J.ms13 (i) dX7_bestOf_210 rfl (by have := p2_8 hM.2.2; omega) ?_
      try dsimp only [List.set]
      refine J.iinc (1) dX7_bestOf_211 (by decide) rfl (by decide) rfl ?_
      try dsimp only [List.set]
      refine J.goto (tgt := 52) dX7_bestOf_214 (by decide) ?_
      have e9 : mbz qc m (r 2 k : Nat) (r 3 k : Nat) n (K + 1) i = 0 := by rw [mbz, hz]; exact if_neg hp9
      refine J.at (ih9 b (hset h 2 i 0) ⟨hh.1, fun j hj => ?_, fun hj => ?_⟩ hbz _ _ _) (by rw [← nI_1 i] <;> rfl) rfl rfl
      · by_cases e : j = i
        · subst e
          rw [e9]
          exact pk_uLs
        · exact (pk_uLn e).trans (hh.2.1 j (by omega))
      · exact hh.2.2 (by omega)
set_option maxRecDepth 100000 in
set_option maxHeartbeats 4000000 in
theorem mX7_bestOf_s (s : Nat → Int32) (la : Nat → Int32) (r : rT) (v : vT) (c : Nat → Nat → Int32) (l : Nat → Int32) (tn : Int32) (p : Nat → Int32) (pa : Nat → Nat → Int32) (m : Nat) (q : rT) (x : Nat → Nat) (qc : rT) (hE : qE q qc m) (hM : mOK qc m) (k n : Nat) (hk : k < r 6 1) (hn : n ≤ 5) (hS : mS s r) (hr : rOK r) (K t : Nat) (hK : K < n) (ht : t = n - 1 - K) (hk9 : ∀ b : Int32, b = jB (0 < mbz qc m (r 2 k : Nat) (r 3 k : Nat) n (K + 1) (qc 6 0)) → ∀ h : Nat → Nat → Int64, (∀ j, j < 2 ^ m → h 1 j = lI (mbz qc m (r 2 k : Nat) (r 3 k : Nat) n (K + 1) j)) → ∀ z6 z7 z9 z10 : Option Value, J KX7_bestOf 21 (fun o B => o = some (.long (lI (mbz qc m (r 2 k : Nat) (r 3 k : Nat) n n (qc 6 0)))) ∧ ∃ h9, B = (wM s la r v c l tn p pa m q (jB (0 < mbz qc m (r 2 k : Nat) (r 3 k : Nat) n n (qc 6 0))) x h9)) 251 [some (.ref 0), some (.int (nI k)), some (.int (nI n)), some (.int (nI t)), some (.long (lN (10 ^ (m * K)))), none, z6, z7, none, z9, z10, none] [] (wM s la r v c l tn p pa m q b x h) 0 0) : ∀ (k9 i : Nat), i + k9 = 2 ^ m → ∀ (b : Int32) (h : Nat → Nat → Int64), ((∀ j, j < 2 ^ m → h 1 j = lI (mbz qc m (r 2 k : Nat) (r 3 k : Nat) n K j)) ∧ (∀ j, j < i → h 2 j = lI (mbz qc m (r 2 k : Nat) (r 3 k : Nat) n (K + 1) j)) ∧ (qc 6 0 < i → b = jB (0 < mbz qc m (r 2 k : Nat) (r 3 k : Nat) n (K + 1) (qc 6 0)))) → (narrow .boolean (.int b) = .int b ∧ fits .boolean (.int b) = true) → ∀ (z7 z9 z10 : Option Value), True → J KX7_bestOf 21 (fun o B => o = some (.long (lI (mbz qc m (r 2 k : Nat) (r 3 k : Nat) n n (qc 6 0)))) ∧ ∃ h9, B = (wM s la r v c l tn p pa m q (jB (0 < mbz qc m (r 2 k : Nat) (r 3 k : Nat) n n (qc 6 0))) x h9)) 52 [some (.ref 0), some (.int (nI k)), some (.int (nI n)), some (.int (nI t)), some (.long (lN (10 ^ (m * K)))), none, some (.int (nI i)), z7, none, z9, z10, none] [] (wM s la r v c l tn p pa m q b x h) 0 0 := by
  intro k9
  induction k9 with
  | zero =>
    intro i hi
    obtain hiN : i = 2 ^ m := by omega
    intro b h hh hbz z7 z9 z10 _
    subst hiN
    refine J.iload dX7_bestOf_52 rfl ?_
    refine J.iconst (1) dX7_bestOf_54 (by decide) ?_
    refine J.aload_n dX7_bestOf_55 rfl rfl ?_
    refine J.mg25 dX7_bestOf_56 rfl ?_
    refine J.ishl dX7_bestOf_59 ?_
    rw [shl_eval m (by have := hM.2.2; omega)]
    refine J.icmp_ge (tgt := 217) dX7_bestOf_60 (by decide) (fun c60 => ?_) (fun c60 => absurd c60 (fun h => h (Int32.le_refl _)))
    refine J.iconst (0) dX7_bestOf_217 (by decide) ?_
    refine J.istore dX7_bestOf_218 (by decide) rfl ?_
    try dsimp only [List.set]
    exact J.at (mX7_bestOf_c s la r v c l tn p pa m q b x qc hE hM k n hk hn hS hr K t z7 z9 z10 (hk9 b (hh.2.2 hM.2.1)) (2 ^ m) 0 (by omega) h ⟨fun j hj => absurd hj (Nat.not_lt_zero j), hh.2.1⟩) rfl rfl rfl
  | succ k9 ih =>
    intro i hi
    have hiN : i < 2 ^ m := by omega
    intro b h hh hbz z7 z9 z10 _
    by_cases h0 : i = 0
    · skip
      refine J.iload dX7_bestOf_52 rfl ?_
      refine J.iconst (1) dX7_bestOf_54 (by decide) ?_
      refine J.aload_n dX7_bestOf_55 rfl rfl ?_
      refine J.mg25 dX7_bestOf_56 rfl ?_
      refine J.ishl dX7_bestOf_59 ?_
      rw [shl_eval m (by have := hM.2.2; omega)]
      refine J.icmp_ge (tgt := 217) dX7_bestOf_60 (by decide) (fun c60 => absurd c60 (nI_ge (by omega) (by have := p2_8 hM.2.2; omega))) (fun c60 => ?_)
      refine J.lconst 0 dX7_bestOf_63 (by decide) ?_
      refine J.lstore dX7_bestOf_64 (by decide) rfl ?_
      try dsimp only [List.set]
      refine J.iconst (0) dX7_bestOf_66 (by decide) ?_
      refine J.istore dX7_bestOf_67 (by decide) rfl ?_
      try dsimp only [List.set]
      refine J.iload dX7_bestOf_69 rfl ?_
      refine J.iconst (1) dX7_bestOf_71 (by decide) ?_
      refine J.aload_n dX7_bestOf_72 rfl rfl ?_
      refine J.mg25 dX7_bestOf_73 rfl ?_
      refine J.ishl dX7_bestOf_76 ?_
      rw [shl_eval m (by have := hM.2.2; omega)]
      refine J.icmp_ge (tgt := 159) dX7_bestOf_77 (by decide) (fun c77 => absurd c77 (nI_ge (Nat.two_pow_pos m) (by have := p2_8 hM.2.2; omega))) (fun c77 => ?_)
      refine J.iload dX7_bestOf_80 rfl ?_
      refine J.if_eq (tgt := 159) dX7_bestOf_82 (by decide) (fun c82 => ?_) (fun c82 => absurd c82 (fun h9 => h9 (by rw [h0] <;> rfl)))
      exact J.at (mX7_bestOf_w s la r v c l tn p pa m q b x h qc hE hM k n hk hn hS hr K t i hiN 0 (if_pos h0) (by decide) hh hbz (fun b9 h9 hh9 hb9 z7 z9 z10 => ih (i + 1) (by omega) b9 h9 hh9 hb9 z7 z9 z10 trivial) _ z10) (by rw [show lI 0 = 0 from rfl] <;> rfl) rfl rfl
    · skip
      refine J.iload dX7_bestOf_52 rfl ?_
      refine J.iconst (1) dX7_bestOf_54 (by decide) ?_
      refine J.aload_n dX7_bestOf_55 rfl rfl ?_
      refine J.mg25 dX7_bestOf_56 rfl ?_
      refine J.ishl dX7_bestOf_59 ?_
      rw [shl_eval m (by have := hM.2.2; omega)]
      refine J.icmp_ge (tgt := 217) dX7_bestOf_60 (by decide) (fun c60 => absurd c60 (nI_ge (by omega) (by have := p2_8 hM.2.2; omega))) (fun c60 => ?_)
      refine J.lconst 0 dX7_bestOf_63 (by decide) ?_
      refine J.lstore dX7_bestOf_64 (by decide) rfl ?_
      try dsimp only [List.set]
      refine J.iconst (0) dX7_bestOf_66 (by decide) ?_
      refine J.istore dX7_bestOf_67 (by decide) rfl ?_
      try dsimp only [List.set]
      refine J.at (mX7_bestOf_i s la r v c l tn p pa m q b x h qc hE hM k n hk hn hS hr K t i hK ht hiN h0 hh.1 (fun z10 => ?_) (2 ^ m) 0 (by omega) z10) rfl rfl rfl
      exact mX7_bestOf_w s la r v c l tn p pa m q b x h qc hE hM k n hk hn hS hr K t i hiN _ (by rw [mbS, if_neg h0, ht]) (by have h9 := mbS_le qc hM.2.2 (wo := r 2 k) (li := r 3 k) (by have := hr.2.2.2.2.2.2.2.2.2.2.1 k; omega) (hr.2.2.2.2.2.2.2.2.2.2.2.1 k) n (by omega : K < 5) hiN; rw [mbS, if_neg h0, ← ht] at h9; exact h9) hh hbz (fun b9 h9 hh9 hb9 z7 z9 z10 => ih (i + 1) (by omega) b9 h9 hh9 hb9 z7 z9 z10 trivial) _ z10
set_option maxRecDepth 100000 in
set_option maxHeartbeats 4000000 in
theorem mX7_bestOf_t (s : Nat → Int32) (la : Nat → Int32) (r : rT) (v : vT) (c : Nat → Nat → Int32) (l : Nat → Int32) (tn : Int32) (p : Nat → Int32) (pa : Nat → Nat → Int32) (m : Nat) (q : rT) (x : Nat → Nat) (qc : rT) (hE : qE q qc m) (hM : mOK qc m) (k n : Nat) (hk : k < r 6 1) (hn : n ≤ 5) (hS : mS s r) (hr : rOK r) : ∀ T, T ≤ n → ∀ (b : Int32) (h : Nat → Nat → Int64), ((∀ j, j < 2 ^ m → h 1 j = lI (mbz qc m (r 2 k : Nat) (r 3 k : Nat) n (n - T) j)) ∧ b = jB (0 < mbz qc m (r 2 k : Nat) (r 3 k : Nat) n (n - T) (qc 6 0))) → ∀ z4 z6 z7 z9 z10 : Option Value, J KX7_bestOf 21 (fun o B => o = some (.long (lI (mbz qc m (r 2 k : Nat) (r 3 k : Nat) n n (qc 6 0)))) ∧ ∃ h9, B = (wM s la r v c l tn p pa m q (jB (0 < mbz qc m (r 2 k : Nat) (r 3 k : Nat) n n (qc 6 0))) x h9)) 30 [some (.ref 0), some (.int (nI k)), some (.int (nI n)), some (.int (nI T - 1)), z4, none, z6, z7, none, z9, z10, none] [] (wM s la r v c l tn p pa m q b x h) 0 0 := by
  intro T
  induction T with
  | zero =>
    intro hT b h hh z4 z6 z7 z9 z10
    refine J.iload_n dX7_bestOf_30 rfl rfl ?_
    refine J.if_lt (tgt := 257) dX7_bestOf_31 (by decide) (fun c31 => ?_) (fun c31 => absurd c31 (fun h => h (by decide)))
    refine J.aload_n dX7_bestOf_257 rfl rfl ?_
    refine J.mg30 dX7_bestOf_258 rfl ?_
    refine J.aload_n dX7_bestOf_261 rfl rfl ?_
    refine J.mg26 dX7_bestOf_262 rfl ?_
    rw [hE.2.1]
    refine J.ml12 (qc 6 0) dX7_bestOf_265 rfl (by have := hM.1.2.2.2; omega) ?_
    rw [hh.1 _ hM.2.1]
    exact J.lret dX7_bestOf_266 rfl (Nat.le_refl _) (Nat.le_refl _) ⟨rfl, h, by rw [hh.2] <;> rfl⟩
  | succ T ih =>
    intro hT b h hh z4 z6 z7 z9 z10
    rw [nI_pred T]
    skip
    refine J.iload_n dX7_bestOf_30 rfl rfl ?_
    skip
    refine J.if_lt (tgt := 257) dX7_bestOf_31 (by decide) (fun c31 => absurd c31 (nI_pos (by omega))) (fun c31 => ?_)
    refine J.aload_n dX7_bestOf_34 rfl rfl ?_
    refine J.mg25 dX7_bestOf_35 rfl ?_
    refine J.iload_n dX7_bestOf_38 rfl rfl ?_
    refine J.iload_n dX7_bestOf_39 rfl rfl ?_
    refine J.isub dX7_bestOf_40 ?_
    refine J.iconst (1) dX7_bestOf_41 (by decide) ?_
    refine J.isub dX7_bestOf_42 ?_
    refine J.imul dX7_bestOf_43 ?_
    rw [pk_sub (show T ≤ n by omega), show (1 : Int32) = nI 1 from rfl, pk_sub (show 1 ≤ n - T by omega), ix0 m (n - T - 1)]
    refine J.cs (as := [.int _]) (is := []) okX7_tens jcX7_232 (mX7_tens (m * (n - T - 1)) (by have := Nat.mul_le_mul hM.2.2 (show n - T - 1 ≤ 5 by omega); omega)) dX7_bestOf_44 rfl rfl rfl rfl rfl rfl (fun r9 B9 hq => ?_)
    obtain ⟨rfl, rfl⟩ := hq
    refine ⟨rfl, ?_⟩
    show J _ _ _ _ _ (.long _ :: _) (wM s la r v c l tn p pa m q b x h) _ _
    refine J.lstore dX7_bestOf_47 (by decide) rfl ?_
    try dsimp only [List.set]
    refine J.iconst (0) dX7_bestOf_49 (by decide) ?_
    refine J.istore dX7_bestOf_50 (by decide) rfl ?_
    try dsimp only [List.set]
    refine J.at (mX7_bestOf_s s la r v c l tn p pa m q x qc hE hM k n hk hn hS hr (n - T - 1) T (by omega) (by omega) (fun b9 hb9 h9 hh9 y6 y7 y9 y10 => ?_) (2 ^ m) 0 (by omega) b h ⟨fun j hj => by have := hh.1 j hj; rw [show n - (T + 1) = n - T - 1 by omega] at this; exact this, fun j hj => absurd hj (Nat.not_lt_zero j), fun hj => absurd hj (Nat.not_lt_zero _)⟩ (by rw [hh.2]; exact ⟨jB_z _, jB_fit _⟩) z7 z9 z10 trivial) rfl rfl rfl
    refine J.iinc (-1) dX7_bestOf_251 (by decide) rfl (by decide) rfl ?_
    try dsimp only [List.set]
    refine J.goto (tgt := 30) dX7_bestOf_254 (by decide) ?_
    exact J.at (ih (by omega) b9 h9 ⟨fun j hj => by rw [hh9 j hj, show n - T - 1 + 1 = n - T by omega], by rw [hb9, show n - T - 1 + 1 = n - T by omega]⟩ _ _ _ _ _) (by rw [← sub1] <;> rfl) rfl rfl
set_option maxRecDepth 100000 in
set_option maxHeartbeats 4000000 in
theorem mX7_bestOf_0 (s : Nat → Int32) (la : Nat → Int32) (r : rT) (v : vT) (c : Nat → Nat → Int32) (l : Nat → Int32) (tn : Int32) (p : Nat → Int32) (pa : Nat → Nat → Int32) (m : Nat) (q : rT) (b : Int32) (x : Nat → Nat) (qc : rT) (hE : qE q qc m) (hM : mOK qc m) (k n : Nat) (hk : k < r 6 1) (hn : n ≤ 5) (hS : mS s r) (hr : rOK r) : ∀ (k9 i : Nat), i + k9 = 8 → ∀ (h : Nat → Nat → Int64), (∀ j, j < i → h 1 j = 0) → J KX7_bestOf 21 (fun o B => o = some (.long (lI (mbz qc m (r 2 k : Nat) (r 3 k : Nat) n n (qc 6 0)))) ∧ ∃ h9, B = (wM s la r v c l tn p pa m q (jB (0 < mbz qc m (r 2 k : Nat) (r 3 k : Nat) n n (qc 6 0))) x h9)) 2 [some (.ref 0), some (.int (nI k)), some (.int (nI n)), some (.int (nI i)), none, none, none, none, none, none, none, none] [] (wM s la r v c l tn p pa m q b x h) 0 0 := by
  intro k9
  induction k9 with
  | zero =>
    intro i hi
    obtain hiN : i = 8 := by omega
    intro h hh
    subst hiN
    refine J.iload_n dX7_bestOf_2 rfl rfl ?_
    refine J.bipush (8) dX7_bestOf_3 (by decide) ?_
    refine J.icmp_ge (tgt := 21) dX7_bestOf_5 (by decide) (fun c5 => ?_) (fun c5 => absurd c5 (fun h => h (by decide)))
    refine J.aload_n dX7_bestOf_21 rfl rfl ?_
    refine J.iconst (0) dX7_bestOf_22 (by decide) ?_
    refine J.mp32 dX7_bestOf_23 rfl (by decide) (by decide) ?_
    try dsimp only [List.set]
    refine J.iload_n dX7_bestOf_26 rfl rfl ?_
    refine J.iconst (1) dX7_bestOf_27 (by decide) ?_
    refine J.isub dX7_bestOf_28 ?_
    refine J.istore_n dX7_bestOf_29 rfl (by decide) rfl ?_
    try dsimp only [List.set]
    exact J.at (mX7_bestOf_t s la r v c l tn p pa m q x qc hE hM k n hk hn hS hr n (Nat.le_refl _) 0 h ⟨fun j hj => by rw [hh j (by have := p2_8 hM.2.2; omega), Nat.sub_self] <;> rfl, by rw [Nat.sub_self]; exact (jB_f _ (fun h9 => absurd h9 (Int.lt_irrefl 0))).symm⟩ none none none none none) rfl rfl rfl
  | succ k9 ih =>
    intro i hi
    have hiN : i < 8 := by omega
    intro h hh
    refine J.iload_n dX7_bestOf_2 rfl rfl ?_
    refine J.bipush (8) dX7_bestOf_3 (by decide) ?_
    refine J.icmp_ge (tgt := 21) dX7_bestOf_5 (by decide) (fun c5 => absurd c5 (nI_ge (b := 8) (by omega) (by omega))) (fun c5 => ?_)
    refine J.aload_n dX7_bestOf_8 rfl rfl ?_
    refine J.mg30 dX7_bestOf_9 rfl ?_
    refine J.iload_n dX7_bestOf_12 rfl rfl ?_
    refine J.lconst 0 dX7_bestOf_13 (by decide) ?_
    refine J.ms12 (i) dX7_bestOf_14 rfl (by omega) ?_
    try dsimp only [List.set]
    refine J.iinc (1) dX7_bestOf_15 (by decide) rfl (by decide) rfl ?_
    try dsimp only [List.set]
    refine J.goto (tgt := 2) dX7_bestOf_18 (by decide) ?_
    refine J.at (ih (i + 1) (by omega) _ (fun j hj => ?_)) (by rw [← nI_1 i] <;> rfl) rfl rfl
    by_cases e : j = i
    · subst e; exact pk_uLs
    · exact (pk_uLn e).trans (hh j (by omega))
set_option maxRecDepth 100000 in
set_option maxHeartbeats 4000000 in
theorem mX7_bestOf (s : Nat → Int32) (la : Nat → Int32) (r : rT) (v : vT) (c : Nat → Nat → Int32) (l : Nat → Int32) (tn : Int32) (p : Nat → Int32) (pa : Nat → Nat → Int32) (m : Nat) (q : rT) (b : Int32) (x : Nat → Nat) (h : Nat → Nat → Int64) (qc : rT) (hE : qE q qc m) (hM : mOK qc m) (k n : Nat) (hk : k < r 6 1) (hn : n ≤ 5) (hS : mS s r) (hr : rOK r) : J KX7_bestOf 21 (fun o B => o = some (.long (lI (mbz qc m (r 2 k : Nat) (r 3 k : Nat) n n (qc 6 0)))) ∧ ∃ h9, B = (wM s la r v c l tn p pa m q (jB (0 < mbz qc m (r 2 k : Nat) (r 3 k : Nat) n n (qc 6 0))) x h9)) 0 [some (.ref 0), some (.int (nI k)), some (.int (nI n)), none, none, none, none, none, none, none, none, none] [] (wM s la r v c l tn p pa m q b x h) 0 0 := by
  refine J.iconst (0) dX7_bestOf_0 (by decide) ?_
  refine J.istore_n dX7_bestOf_1 rfl (by decide) rfl ?_
  try dsimp only [List.set]
  exact J.at (mX7_bestOf_0 s la r v c l tn p pa m q b x qc hE hM k n hk hn hS hr 8 0 (by omega) h (fun j hj => absurd hj (Nat.not_lt_zero j))) rfl rfl rfl
set_option maxRecDepth 100000 in
set_option maxHeartbeats 4000000 in
theorem mX7_best (s : Nat → Int32) (la : Nat → Int32) (r : rT) (v : vT) (c : Nat → Nat → Int32) (l : Nat → Int32) (tn : Int32) (p : Nat → Int32) (pa : Nat → Nat → Int32) (m : Nat) (q : rT) (b : Int32) (x : Nat → Nat) (h : Nat → Nat → Int64) (k N : Nat) (hk : k < r 6 1) (hN : N ≤ 5) (wh : Int32) (hw : 0 ≤ wh ∧ wh ≤ 1) (hS : mS s r) (hr : rOK r) : J KX7_best 21 (fun o B => o = some (.long (lowT (gnZ r k N True) (1000 ^ N) wh)) ∧ ∃ m9 q9 b9 x9 h9, B = (wM s la r v c l tn p pa m9 q9 b9 x9 h9)) 0 [some (.ref 0), some (.int (nI k)), some (.int (nI N)), some (.int wh), none, none] [] (wM s la r v c l tn p pa m q b x h) 0 0 := by
  refine J.aload_n dX7_best_0 rfl rfl ?_
  refine J.iload_n dX7_best_1 rfl rfl ?_
  refine J.cvM (as := [.int _]) s la r v c l tn p pa m q b x h okX7_isKing jcX7_203 (mX7_isKing s la r v c l tn p pa m q b x h (nI k)) dX7_best_2 rfl rfl rfl rfl (fun r9 B9 hq9 => ?_)
  obtain ⟨rfl, rfl⟩ := hq9
  refine ⟨_, _, _, _, _, _, _, _, _, _, _, _, _, _, rfl, ?_⟩
  show J _ _ _ _ _ (.int _ :: _) (wM s la r v c l tn p pa m q b x h) _ _
  refine J.if_eq (tgt := 27) dX7_best_5 (by decide) (fun c5 => absurd c5 (fun h => (jB_0 _).mp h (jin_ge (by have := hr.2.1; omega) hk))) (fun c5 => ?_)
  refine J.iload_n dX7_best_8 rfl rfl ?_
  refine J.cs (as := [.int _]) (is := []) okX7_isLong jcX7_236 (mX7_isLong (nI N)) dX7_best_9 rfl rfl rfl rfl rfl rfl (fun r9 B9 hq => ?_)
  obtain ⟨rfl, rfl⟩ := hq
  refine ⟨rfl, ?_⟩
  show J _ _ _ _ _ (.int _ :: _) (wM s la r v c l tn p pa m q b x h) _ _
  refine J.if_eq (tgt := 27) dX7_best_12 (by decide) (fun c12 => absurd c12 (fun h => (jB_0 _).mp h (jw (a := 0) (c := 5) (by decide) (Nat.zero_le _) hN))) (fun c12 => ?_)
  refine J.iload_n dX7_best_15 rfl rfl ?_
  refine J.i2l dX7_best_16 ?_
  refine J.lconst 0 dX7_best_17 (by decide) ?_
  refine J.ldc2 (v := 2) dX7_best_18 (jt 956 rfl rfl) ?_
  refine J.cs (as := [.long _, .long _, .long _]) (is := []) okX7_in jcX7_74 (mX7_inI wh 0 2 (by decide) (by decide)) dX7_best_21 rfl rfl rfl rfl rfl rfl (fun r9 B9 hq => ?_)
  obtain ⟨rfl, rfl⟩ := hq
  refine ⟨rfl, ?_⟩
  show J _ _ _ _ _ (.int _ :: _) (wM s la r v c l tn p pa m q b x h) _ _
  refine J.if_ne (tgt := 31) dX7_best_24 (by decide) (fun c24 => ?_) (fun c24 => absurd c24 (fun h => (jB_0 _).mp h ⟨hw.1, Int32.le_trans hw.2 (by decide)⟩))
  refine J.aload_n dX7_best_31 rfl rfl ?_
  refine J.cvM (as := []) s la r v c l tn p pa m q b x h okX7_lays jcX7_196 (mX7_lays s la r v c l tn p pa m q b x h hS hr) dX7_best_32 rfl rfl rfl rfl (fun r9 B9 hq9 => ?_)
  obtain ⟨rfl, rfl⟩ := hq9
  refine ⟨_, _, _, _, _, _, _, _, _, _, _, _, _, _, rfl, ?_⟩
  show J _ _ _ _ _ [] (wM s la r v c l tn p pa (r 6 0) (mlay q r (r 6 0)) b x h) _ _
  refine J.aload_n dX7_best_35 rfl rfl ?_
  refine J.iload_n dX7_best_36 rfl rfl ?_
  refine J.iload_n dX7_best_37 rfl rfl ?_
  refine J.cvM (as := [.int _, .int _]) s la r v c l tn p pa (r 6 0) (mlay q r (r 6 0)) b x h okX7_bestOf jcX7_252 (mX7_bestOf s la r v c l tn p pa (r 6 0) (mlay q r (r 6 0)) b x h (oqR r) (mlay_q q) (mlay_ok hr) k N hk hN hS hr) dX7_best_38 rfl rfl rfl rfl (fun r9 B9 hq9 => ?_)
  obtain ⟨rfl, h9, rfl⟩ := hq9
  refine ⟨_, _, _, _, _, _, _, _, _, _, _, _, _, _, rfl, ?_⟩
  show J _ _ _ _ _ (.long _ :: _) (wM s la r v c l tn p pa (r 6 0) (mlay q r (r 6 0)) (jB (0 < (mbz (oqR r) (r 6 0) (r 2 k : Nat) (r 3 k : Nat) N N (r 6 3)))) x h9) _ _
  refine J.lstore dX7_best_41 (by decide) rfl ?_
  try dsimp only [List.set]
  refine J.iload_n dX7_best_43 rfl rfl ?_
  refine J.iconst (2) dX7_best_44 (by decide) ?_
  refine J.icmp_ne (tgt := 63) dX7_best_45 (by decide) (fun c45 => ?_) (fun c45 => absurd c45 (fun h9 => absurd hw.2 (by rw [h9]; decide)))
  refine J.lload dX7_best_63 rfl ?_
  refine J.aload_n dX7_best_65 rfl rfl ?_
  refine J.mg25 dX7_best_66 rfl ?_
  refine J.iload_n dX7_best_69 rfl rfl ?_
  refine J.imul dX7_best_70 ?_
  rw [ix0 (r 6 0) N]
  refine J.cs (as := [.int _]) (is := []) okX7_tens jcX7_232 (mX7_tens ((r 6 0) * N) (by have := Nat.mul_le_mul hr.1 hN; omega)) dX7_best_71 rfl rfl rfl rfl rfl rfl (fun r9 B9 hq => ?_)
  obtain ⟨rfl, rfl⟩ := hq
  refine ⟨rfl, ?_⟩
  show J _ _ _ _ _ (.long _ :: _) (wM s la r v c l tn p pa (r 6 0) (mlay q r (r 6 0)) (jB (0 < (mbz (oqR r) (r 6 0) (r 2 k : Nat) (r 3 k : Nat) N N (r 6 3)))) x h9) _ _
  refine J.iload_n dX7_best_74 rfl rfl ?_
  refine J.cs (as := [.long _, .long _, .int _]) (is := []) okX7_lowest jcX7_244 (mX7_lowest (mbz (oqR r) (r 6 0) (r 2 k : Nat) (r 3 k : Nat) N N (r 6 3)) (10 ^ ((r 6 0) * N)) (wh) (by have := mbz_le (oqR r) hr.1 (wo := r 2 k) (li := r 3 k) (by have := hr.2.2.2.2.2.2.2.2.2.2.1 k; omega) (hr.2.2.2.2.2.2.2.2.2.2.2.1 k) N hN (k := N) (s := r 6 3) hr.2.2.2.1; omega) (by have := mbz_le (oqR r) hr.1 (wo := r 2 k) (li := r 3 k) (by have := hr.2.2.2.2.2.2.2.2.2.2.1 k; omega) (hr.2.2.2.2.2.2.2.2.2.2.2.1 k) N hN (k := N) (s := r 6 3) hr.2.2.2.1; omega) (by have := ten_10 hr.1 hN; omega) (by have := ten_10 hr.1 hN; omega)) dX7_best_75 rfl rfl rfl rfl rfl rfl (fun r9 B9 hq => ?_)
  obtain ⟨rfl, rfl⟩ := hq
  refine ⟨rfl, ?_⟩
  show J _ _ _ _ _ (.long _ :: _) (wM s la r v c l tn p pa (r 6 0) (mlay q r (r 6 0)) (jB (0 < (mbz (oqR r) (r 6 0) (r 2 k : Nat) (r 3 k : Nat) N N (r 6 3)))) x h9) _ _
  exact J.lret dX7_best_78 rfl (Nat.le_refl _) (Nat.le_refl _) ⟨congrArg (fun z => some (Value.long z)) (bestE hr k N wh), _, _, _, _, _, rfl⟩
set_option maxRecDepth 100000 in
set_option maxHeartbeats 4000000 in
theorem mX7_best2 (s : Nat → Int32) (la : Nat → Int32) (r : rT) (v : vT) (c : Nat → Nat → Int32) (l : Nat → Int32) (tn : Int32) (p : Nat → Int32) (pa : Nat → Nat → Int32) (m : Nat) (q : rT) (b : Int32) (x : Nat → Nat) (h : Nat → Nat → Int64) (k N : Nat) (hk : k < r 6 1) (hN : N ≤ 5) (hS : mS s r) (hr : rOK r) : J KX7_best 21 (fun o B => o = some (.long (if 0 < gnZ r k N True then 1 else 0)) ∧ ∃ m9 q9 b9 x9 h9, B = (wM s la r v c l tn p pa m9 q9 b9 x9 h9)) 0 [some (.ref 0), some (.int (nI k)), some (.int (nI N)), some (.int 2), none, none] [] (wM s la r v c l tn p pa m q b x h) 0 0 := by
  refine J.aload_n dX7_best_0 rfl rfl ?_
  refine J.iload_n dX7_best_1 rfl rfl ?_
  refine J.cvM (as := [.int _]) s la r v c l tn p pa m q b x h okX7_isKing jcX7_203 (mX7_isKing s la r v c l tn p pa m q b x h (nI k)) dX7_best_2 rfl rfl rfl rfl (fun r9 B9 hq9 => ?_)
  obtain ⟨rfl, rfl⟩ := hq9
  refine ⟨_, _, _, _, _, _, _, _, _, _, _, _, _, _, rfl, ?_⟩
  show J _ _ _ _ _ (.int _ :: _) (wM s la r v c l tn p pa m q b x h) _ _
  refine J.if_eq (tgt := 27) dX7_best_5 (by decide) (fun c5 => absurd c5 (fun h => (jB_0 _).mp h (jin_ge (by have := hr.2.1; omega) hk))) (fun c5 => ?_)
  refine J.iload_n dX7_best_8 rfl rfl ?_
  refine J.cs (as := [.int _]) (is := []) okX7_isLong jcX7_236 (mX7_isLong (nI N)) dX7_best_9 rfl rfl rfl rfl rfl rfl (fun r9 B9 hq => ?_)
  obtain ⟨rfl, rfl⟩ := hq
  refine ⟨rfl, ?_⟩
  show J _ _ _ _ _ (.int _ :: _) (wM s la r v c l tn p pa m q b x h) _ _
  refine J.if_eq (tgt := 27) dX7_best_12 (by decide) (fun c12 => absurd c12 (fun h => (jB_0 _).mp h (jw (a := 0) (c := 5) (by decide) (Nat.zero_le _) hN))) (fun c12 => ?_)
  refine J.iload_n dX7_best_15 rfl rfl ?_
  refine J.i2l dX7_best_16 ?_
  refine J.lconst 0 dX7_best_17 (by decide) ?_
  refine J.ldc2 (v := 2) dX7_best_18 (jt 956 rfl rfl) ?_
  refine J.cs (as := [.long _, .long _, .long _]) (is := []) okX7_in jcX7_74 (mX7_inI 2 0 2 (by decide) (by decide)) dX7_best_21 rfl rfl rfl rfl rfl rfl (fun r9 B9 hq => ?_)
  obtain ⟨rfl, rfl⟩ := hq
  refine ⟨rfl, ?_⟩
  show J _ _ _ _ _ (.int _ :: _) (wM s la r v c l tn p pa m q b x h) _ _
  refine J.if_ne (tgt := 31) dX7_best_24 (by decide) (fun c24 => ?_) (fun c24 => absurd c24 (fun h => (jB_0 _).mp h (by decide)))
  refine J.aload_n dX7_best_31 rfl rfl ?_
  refine J.cvM (as := []) s la r v c l tn p pa m q b x h okX7_lays jcX7_196 (mX7_lays s la r v c l tn p pa m q b x h hS hr) dX7_best_32 rfl rfl rfl rfl (fun r9 B9 hq9 => ?_)
  obtain ⟨rfl, rfl⟩ := hq9
  refine ⟨_, _, _, _, _, _, _, _, _, _, _, _, _, _, rfl, ?_⟩
  show J _ _ _ _ _ [] (wM s la r v c l tn p pa (r 6 0) (mlay q r (r 6 0)) b x h) _ _
  refine J.aload_n dX7_best_35 rfl rfl ?_
  refine J.iload_n dX7_best_36 rfl rfl ?_
  refine J.iload_n dX7_best_37 rfl rfl ?_
  refine J.cvM (as := [.int _, .int _]) s la r v c l tn p pa (r 6 0) (mlay q r (r 6 0)) b x h okX7_bestOf jcX7_252 (mX7_bestOf s la r v c l tn p pa (r 6 0) (mlay q r (r 6 0)) b x h (oqR r) (mlay_q q) (mlay_ok hr) k N hk hN hS hr) dX7_best_38 rfl rfl rfl rfl (fun r9 B9 hq9 => ?_)
  obtain ⟨rfl, h9, rfl⟩ := hq9
  refine ⟨_, _, _, _, _, _, _, _, _, _, _, _, _, _, rfl, ?_⟩
  show J _ _ _ _ _ (.long _ :: _) (wM s la r v c l tn p pa (r 6 0) (mlay q r (r 6 0)) (jB (0 < (mbz (oqR r) (r 6 0) (r 2 k : Nat) (r 3 k : Nat) N N (r 6 3)))) x h9) _ _
  refine J.lstore dX7_best_41 (by decide) rfl ?_
  try dsimp only [List.set]
  refine J.iload_n dX7_best_43 rfl rfl ?_
  refine J.iconst (2) dX7_best_44 (by decide) ?_
  refine J.icmp_ne (tgt := 63) dX7_best_45 (by decide) (fun c45 => absurd c45 (fun h9 => h9 rfl)) (fun c45 => ?_)
  refine J.aload_n dX7_best_48 rfl rfl ?_
  refine J.mg32 dX7_best_49 rfl ?_
  refine J.if_eq (tgt := 59) dX7_best_52 (by decide) (fun c52 => ?_) (fun c52 => ?_)
  · refine J.lconst 0 dX7_best_59 (by decide) ?_
    refine J.goto (tgt := 78) dX7_best_60 (by decide) ?_
    first | exact J.lret dX7_best_78 rfl (Nat.le_refl _) (Nat.le_refl _) ⟨congrArg (fun z => some (Value.long z)) (if_neg (fun h9 => (jB_0 _).mp c52 ((best2E hr k N).mp h9))).symm, _, _, _, _, _, rfl⟩ | exact J.lret dX7_best_78 rfl (Nat.le_refl _) (Nat.le_refl _) ⟨congrArg (fun z => some (Value.long z)) (if_pos ((best2E hr k N).mpr (Decidable.not_not.mp (fun h9 => c52 ((jB_0 _).mpr h9))))).symm, _, _, _, _, _, rfl⟩
  · refine J.lconst 1 dX7_best_55 (by decide) ?_
    refine J.goto (tgt := 78) dX7_best_56 (by decide) ?_
    first | exact J.lret dX7_best_78 rfl (Nat.le_refl _) (Nat.le_refl _) ⟨congrArg (fun z => some (Value.long z)) (if_neg (fun h9 => (jB_0 _).mp c52 ((best2E hr k N).mp h9))).symm, _, _, _, _, _, rfl⟩ | exact J.lret dX7_best_78 rfl (Nat.le_refl _) (Nat.le_refl _) ⟨congrArg (fun z => some (Value.long z)) (if_pos ((best2E hr k N).mpr (Decidable.not_not.mp (fun h9 => c52 ((jB_0 _).mpr h9))))).symm, _, _, _, _, _, rfl⟩
set_option maxRecDepth 100000 in
set_option maxHeartbeats 4000000 in
theorem mX7_best_bad (s : Nat → Int32) (la : Nat → Int32) (r : rT) (v : vT) (c : Nat → Nat → Int32) (l : Nat → Int32) (tn : Int32) (p : Nat → Int32) (pa : Nat → Nat → Int32) (m : Nat) (q : rT) (b : Int32) (x : Nat → Nat) (h : Nat → Nat → Int64) (k n wh : Int32) (hb : ¬ (0 ≤ k ∧ k ≤ nI (r 6 1) - 1) ∨ ¬ (0 ≤ n ∧ n ≤ 5) ∨ ¬ (0 ≤ wh ∧ wh ≤ 2)) : J KX7_best 21 (fun o B => o = some (.long (-1)) ∧ B = (wM s la r v c l tn p pa m q b x h)) 0 [some (.ref 0), some (.int k), some (.int n), some (.int wh), none, none] [] (wM s la r v c l tn p pa m q b x h) 0 0 := by
  refine J.aload_n dX7_best_0 rfl rfl ?_
  refine J.iload_n dX7_best_1 rfl rfl ?_
  refine J.cvM (as := [.int _]) s la r v c l tn p pa m q b x h okX7_isKing jcX7_203 (mX7_isKing s la r v c l tn p pa m q b x h k) dX7_best_2 rfl rfl rfl rfl (fun r9 B9 hq9 => ?_)
  obtain ⟨rfl, rfl⟩ := hq9
  refine ⟨_, _, _, _, _, _, _, _, _, _, _, _, _, _, rfl, ?_⟩
  show J _ _ _ _ _ (.int _ :: _) (wM s la r v c l tn p pa m q b x h) _ _
  refine J.if_eq (tgt := 27) dX7_best_5 (by decide) (fun c5 => ?_) (fun c5 => ?_)
  · refine J.ldc2 (v := -1) dX7_best_27 (jt 1049 rfl rfl) ?_
    exact J.lret dX7_best_30 rfl (Nat.le_refl _) (Nat.le_refl _) ⟨rfl, rfl⟩
  · refine J.iload_n dX7_best_8 rfl rfl ?_
    refine J.cs (as := [.int _]) (is := []) okX7_isLong jcX7_236 (mX7_isLong n) dX7_best_9 rfl rfl rfl rfl rfl rfl (fun r9 B9 hq => ?_)
    obtain ⟨rfl, rfl⟩ := hq
    refine ⟨rfl, ?_⟩
    show J _ _ _ _ _ (.int _ :: _) (wM s la r v c l tn p pa m q b x h) _ _
    refine J.if_eq (tgt := 27) dX7_best_12 (by decide) (fun c12 => ?_) (fun c12 => ?_)
    · refine J.ldc2 (v := -1) dX7_best_27 (jt 1049 rfl rfl) ?_
      exact J.lret dX7_best_30 rfl (Nat.le_refl _) (Nat.le_refl _) ⟨rfl, rfl⟩
    · refine J.iload_n dX7_best_15 rfl rfl ?_
      refine J.i2l dX7_best_16 ?_
      refine J.lconst 0 dX7_best_17 (by decide) ?_
      refine J.ldc2 (v := 2) dX7_best_18 (jt 956 rfl rfl) ?_
      refine J.cs (as := [.long _, .long _, .long _]) (is := []) okX7_in jcX7_74 (mX7_inI wh 0 2 (by decide) (by decide)) dX7_best_21 rfl rfl rfl rfl rfl rfl (fun r9 B9 hq => ?_)
      obtain ⟨rfl, rfl⟩ := hq
      refine ⟨rfl, ?_⟩
      show J _ _ _ _ _ (.int _ :: _) (wM s la r v c l tn p pa m q b x h) _ _
      refine J.if_ne (tgt := 31) dX7_best_24 (by decide) (fun c24 => absurd c24 (fun h => h ((jB_0 _).mpr (fun hC => (fun h => h.elim (fun h => h (Decidable.not_not.mp (fun h9 => c5 ((jB_0 _).mpr h9)))) (fun h => h.elim (fun h => h (Decidable.not_not.mp (fun h9 => c12 ((jB_0 _).mpr h9)))) (fun h => h hC))) hb)))) (fun c24 => ?_)
      refine J.ldc2 (v := -1) dX7_best_27 (jt 1049 rfl rfl) ?_
      exact J.lret dX7_best_30 rfl (Nat.le_refl _) (Nat.le_refl _) ⟨rfl, rfl⟩
def mcr (r : rT) (N : Nat) : Nat → Int × Nat
  | 0 => (-1, 0)
  | k + 1 => if (mcr r N k).1 < mbz (oqR r) (r 6 0) (r 2 k : Nat) (r 3 k : Nat) N N (r 6 3) then (mbz (oqR r) (r 6 0) (r 2 k : Nat) (r 3 k : Nat) N N (r 6 3), k) else mcr r N k
theorem mbz_0 (qc : rT) (m : Nat) (wo li : Int) (n : Nat) : ∀ k s, 0 ≤ mbz qc m wo li n k s
  | 0, _ => Int.le_refl _
  | k + 1, s => by
    rw [mbz]
    split
    · omega
    · exact Int.le_refl _
theorem cr_m {r : rT} (h : rOK r) (N : Nat) : ∀ k, cr r N k = ((((10 ^ (3 - r 6 0)) ^ N : Nat) : Int) * (mcr r N (k + 1)).1, (mcr r N (k + 1)).2)
  | 0 => by
    have h0 := mbz_0 (oqR r) (r 6 0) (r 2 0 : Nat) (r 3 0 : Nat) N N (r 6 3)
    rw [cr, gnZ_mb h, mcr, mcr, if_pos (by omega)]
  | k + 1 => by
    rw [cr, cr_m h N k, gnZ_mb h, mcr.eq_2 r N (k + 1)]
    dsimp only
    by_cases hc : (mcr r N (k + 1)).1 < mbz (oqR r) (r 6 0) (r 2 (k + 1) : Nat) (r 3 (k + 1) : Nat) N N (r 6 3)
    · rw [if_pos hc, if_pos ((Int.mul_lt_mul_left (cZ_pos _ _)).mpr hc)]
    · rw [if_neg hc, if_neg (fun h9 => hc ((Int.mul_lt_mul_left (cZ_pos _ _)).mp h9))]
theorem mcr_le {r : rT} (h : rOK r) {N : Nat} (hN : N ≤ 5) : ∀ k, (mcr r N k).1.natAbs ≤ 1000000000000000000
  | 0 => by show (-1 : Int).natAbs ≤ _; decide
  | k + 1 => by
    rw [mcr]
    split
    · exact mbz_le (oqR r) h.1 (by have := h.2.2.2.2.2.2.2.2.2.2.1 k; omega) (h.2.2.2.2.2.2.2.2.2.2.2.1 k) N hN h.2.2.2.1
    · exact mcr_le h hN k
theorem crownE {r : rT} (h : rOK r) (hK : 1 ≤ r 6 1) (N : Nat) (wh : Int32) : crownA r N wh = if wh = 0 then (nI (mcr r N (r 6 1)).2).toInt64 else lowT (mcr r N (r 6 1)).1 (10 ^ (r 6 0 * N)) (wh - 1) := by
  rw [crownA, cr_m h N, show r 6 1 - 1 + 1 = r 6 1 by omega]
  dsimp only
  rw [← p10_c h.1 N, lowT_s (c_pos (r 6 0) N)]
set_option maxRecDepth 100000 in
set_option maxHeartbeats 4000000 in
theorem mX7_crown_l (s : Nat → Int32) (la : Nat → Int32) (r : rT) (v : vT) (c : Nat → Nat → Int32) (l : Nat → Int32) (tn : Int32) (p : Nat → Int32) (pa : Nat → Nat → Int32) (m : Nat) (q : rT) (x : Nat → Nat) (N : Nat) (hN : N ≤ 5) (wh : Int32) (hw : 0 ≤ wh ∧ wh ≤ 2) (hS : mS s r) (hr : rOK r) (hK : 1 ≤ r 6 1) : ∀ (k9 i : Nat), i + k9 = r 6 1 → ∀ (z7 z8 : Option Value) (b : Int32) (h : Nat → Nat → Int64), J KX7_crown 21 (fun o B => o = some (.long (crownA r N wh)) ∧ ∃ m9 q9 b9 x9 h9, B = (wM s la r v c l tn p pa m9 q9 b9 x9 h9)) 48 [some (.ref 0), some (.int (nI N)), some (.int wh), some (.long (lI (mcr r N i).1)), none, some (.int (nI (mcr r N i).2)), some (.int (nI i)), z7, z8] [] (wM s la r v c l tn p pa (r 6 0) (mlay q r (r 6 0)) b x h) 0 0 := by
  intro k9
  induction k9 with
  | zero =>
    intro i hi
    obtain hiN : i = r 6 1 := by omega
    intro z7 z8 b h
    subst hiN
    refine J.iload dX7_crown_48 rfl ?_
    refine J.aload_n dX7_crown_50 rfl rfl ?_
    refine J.mg2 dX7_crown_51 rfl ?_
    refine J.icmp_ge (tgt := 102) dX7_crown_54 (by decide) (fun c54 => ?_) (fun c54 => absurd c54 (fun h => h (Int32.le_refl _)))
    refine J.iload_n dX7_crown_102 rfl rfl ?_
    refine J.if_ne (tgt := 112) dX7_crown_103 (by decide) (fun c103 => ?_) (fun c103 => ?_)
    · refine J.lload_n dX7_crown_112 rfl rfl ?_
      refine J.aload_n dX7_crown_113 rfl rfl ?_
      refine J.mg25 dX7_crown_114 rfl ?_
      refine J.iload_n dX7_crown_117 rfl rfl ?_
      refine J.imul dX7_crown_118 ?_
      rw [ix0 (r 6 0) N]
      refine J.cs (as := [.int _]) (is := []) okX7_tens jcX7_232 (mX7_tens ((r 6 0) * N) (by have := Nat.mul_le_mul hr.1 hN; omega)) dX7_crown_119 rfl rfl rfl rfl rfl rfl (fun r9 B9 hq => ?_)
      obtain ⟨rfl, rfl⟩ := hq
      refine ⟨rfl, ?_⟩
      show J _ _ _ _ _ (.long _ :: _) (wM s la r v c l tn p pa (r 6 0) (mlay q r (r 6 0)) b x h) _ _
      refine J.iload_n dX7_crown_122 rfl rfl ?_
      refine J.iconst (1) dX7_crown_123 (by decide) ?_
      refine J.isub dX7_crown_124 ?_
      refine J.cs (as := [.long _, .long _, .int _]) (is := []) okX7_lowest jcX7_244 (mX7_lowest (mcr r N (r 6 1)).1 (10 ^ ((r 6 0) * N)) (wh - 1) (by have := mcr_le hr hN (r 6 1); omega) (by have := mcr_le hr hN (r 6 1); omega) (by have := ten_10 hr.1 hN; omega) (by have := ten_10 hr.1 hN; omega)) dX7_crown_125 rfl rfl rfl rfl rfl rfl (fun r9 B9 hq => ?_)
      obtain ⟨rfl, rfl⟩ := hq
      refine ⟨rfl, ?_⟩
      show J _ _ _ _ _ (.long _ :: _) (wM s la r v c l tn p pa (r 6 0) (mlay q r (r 6 0)) b x h) _ _
      first | exact J.lret dX7_crown_128 rfl (Nat.le_refl _) (Nat.le_refl _) ⟨congrArg (fun z => some (Value.long z)) (by rw [crownE hr hK N wh, if_pos c103]), _, _, _, _, _, rfl⟩ | exact J.lret dX7_crown_128 rfl (Nat.le_refl _) (Nat.le_refl _) ⟨congrArg (fun z => some (Value.long z)) (by rw [crownE hr hK N wh, if_neg c103]), _, _, _, _, _, rfl⟩
    · refine J.iload dX7_crown_106 rfl ?_
      refine J.i2l dX7_crown_108 ?_
      refine J.goto (tgt := 128) dX7_crown_109 (by decide) ?_
      first | exact J.lret dX7_crown_128 rfl (Nat.le_refl _) (Nat.le_refl _) ⟨congrArg (fun z => some (Value.long z)) (by rw [crownE hr hK N wh, if_pos c103]), _, _, _, _, _, rfl⟩ | exact J.lret dX7_crown_128 rfl (Nat.le_refl _) (Nat.le_refl _) ⟨congrArg (fun z => some (Value.long z)) (by rw [crownE hr hK N wh, if_neg c103]), _, _, _, _, _, rfl⟩
  | succ k9 ih =>
    intro i hi
    have hiN : i < r 6 1 := by omega
    intro z7 z8 b h
    by_cases hc : (mcr r N i).1 < (mbz (oqR r) (r 6 0) (r 2 i : Nat) (r 3 i : Nat) N N (r 6 3))
    · skip
      refine J.iload dX7_crown_48 rfl ?_
      refine J.aload_n dX7_crown_50 rfl rfl ?_
      refine J.mg2 dX7_crown_51 rfl ?_
      refine J.icmp_ge (tgt := 102) dX7_crown_54 (by decide) (fun c54 => absurd c54 (nI_ge (by omega) (by have := hr.2.1; omega))) (fun c54 => ?_)
      refine J.aload_n dX7_crown_57 rfl rfl ?_
      refine J.iload dX7_crown_58 rfl ?_
      refine J.iload_n dX7_crown_60 rfl rfl ?_
      refine J.cvM (as := [.int _, .int _]) s la r v c l tn p pa (r 6 0) (mlay q r (r 6 0)) b x h okX7_bestOf jcX7_252 (mX7_bestOf s la r v c l tn p pa (r 6 0) (mlay q r (r 6 0)) b x h (oqR r) (mlay_q q) (mlay_ok hr) i N hiN hN hS hr) dX7_crown_61 rfl rfl rfl rfl (fun r9 B9 hq9 => ?_)
      obtain ⟨rfl, h9, rfl⟩ := hq9
      refine ⟨_, _, _, _, _, _, _, _, _, _, _, _, _, _, rfl, ?_⟩
      show J _ _ _ _ _ (.long _ :: _) (wM s la r v c l tn p pa (r 6 0) (mlay q r (r 6 0)) (jB (0 < (mbz (oqR r) (r 6 0) (r 2 i : Nat) (r 3 i : Nat) N N (r 6 3)))) x h9) _ _
      refine J.lstore dX7_crown_64 (by decide) rfl ?_
      try dsimp only [List.set]
      refine J.lload dX7_crown_66 rfl ?_
      refine J.lload_n dX7_crown_68 rfl rfl ?_
      refine J.lcmp dX7_crown_69 ?_
      refine J.if_le (tgt := 78) dX7_crown_70 (by decide) (fun c70 => absurd c70 (fun h9 => cmpN h9 ((lI_lt (mcr_le hr hN i) (mbz_le (oqR r) hr.1 (wo := r 2 i) (li := r 3 i) (by have := hr.2.2.2.2.2.2.2.2.2.2.1 i; omega) (hr.2.2.2.2.2.2.2.2.2.2.2.1 i) N hN hr.2.2.2.1)).mpr hc))) (fun c70 => ?_)
      refine J.iload dX7_crown_73 rfl ?_
      refine J.goto (tgt := 80) dX7_crown_75 (by decide) ?_
      refine J.istore dX7_crown_80 (by decide) rfl ?_
      try dsimp only [List.set]
      refine J.lload dX7_crown_82 rfl ?_
      refine J.lload_n dX7_crown_84 rfl rfl ?_
      refine J.lcmp dX7_crown_85 ?_
      refine J.if_le (tgt := 94) dX7_crown_86 (by decide) (fun c86 => absurd c86 (fun h9 => cmpN h9 ((lI_lt (mcr_le hr hN i) (mbz_le (oqR r) hr.1 (wo := r 2 i) (li := r 3 i) (by have := hr.2.2.2.2.2.2.2.2.2.2.1 i; omega) (hr.2.2.2.2.2.2.2.2.2.2.2.1 i) N hN hr.2.2.2.1)).mpr hc))) (fun c86 => ?_)
      refine J.lload dX7_crown_89 rfl ?_
      refine J.goto (tgt := 95) dX7_crown_91 (by decide) ?_
      refine J.lstore_n dX7_crown_95 rfl (by decide) rfl ?_
      try dsimp only [List.set]
      refine J.iinc (1) dX7_crown_96 (by decide) rfl (by decide) rfl ?_
      try dsimp only [List.set]
      refine J.goto (tgt := 48) dX7_crown_99 (by decide) ?_
      exact J.at (ih (i + 1) (by omega) _ _ _ _) (by rw [(show mcr r N (i + 1) = ((mbz (oqR r) (r 6 0) (r 2 i : Nat) (r 3 i : Nat) N N (r 6 3)), i) from if_pos hc), ← nI_1 i] <;> rfl) rfl rfl
    · skip
      refine J.iload dX7_crown_48 rfl ?_
      refine J.aload_n dX7_crown_50 rfl rfl ?_
      refine J.mg2 dX7_crown_51 rfl ?_
      refine J.icmp_ge (tgt := 102) dX7_crown_54 (by decide) (fun c54 => absurd c54 (nI_ge (by omega) (by have := hr.2.1; omega))) (fun c54 => ?_)
      refine J.aload_n dX7_crown_57 rfl rfl ?_
      refine J.iload dX7_crown_58 rfl ?_
      refine J.iload_n dX7_crown_60 rfl rfl ?_
      refine J.cvM (as := [.int _, .int _]) s la r v c l tn p pa (r 6 0) (mlay q r (r 6 0)) b x h okX7_bestOf jcX7_252 (mX7_bestOf s la r v c l tn p pa (r 6 0) (mlay q r (r 6 0)) b x h (oqR r) (mlay_q q) (mlay_ok hr) i N hiN hN hS hr) dX7_crown_61 rfl rfl rfl rfl (fun r9 B9 hq9 => ?_)
      obtain ⟨rfl, h9, rfl⟩ := hq9
      refine ⟨_, _, _, _, _, _, _, _, _, _, _, _, _, _, rfl, ?_⟩
      show J _ _ _ _ _ (.long _ :: _) (wM s la r v c l tn p pa (r 6 0) (mlay q r (r 6 0)) (jB (0 < (mbz (oqR r) (r 6 0) (r 2 i : Nat) (r 3 i : Nat) N N (r 6 3)))) x h9) _ _
      refine J.lstore dX7_crown_64 (by decide) rfl ?_
      try dsimp only [List.set]
      refine J.lload dX7_crown_66 rfl ?_
      refine J.lload_n dX7_crown_68 rfl rfl ?_
      refine J.lcmp dX7_crown_69 ?_
      refine J.if_le (tgt := 78) dX7_crown_70 (by decide) (fun c70 => ?_) (fun c70 => absurd c70 (fun h9 => hc ((lI_lt (mcr_le hr hN i) (mbz_le (oqR r) hr.1 (wo := r 2 i) (li := r 3 i) (by have := hr.2.2.2.2.2.2.2.2.2.2.1 i; omega) (hr.2.2.2.2.2.2.2.2.2.2.2.1 i) N hN hr.2.2.2.1)).mp (cmpP h9))))
      refine J.iload dX7_crown_78 rfl ?_
      refine J.istore dX7_crown_80 (by decide) rfl ?_
      try dsimp only [List.set]
      refine J.lload dX7_crown_82 rfl ?_
      refine J.lload_n dX7_crown_84 rfl rfl ?_
      refine J.lcmp dX7_crown_85 ?_
      refine J.if_le (tgt := 94) dX7_crown_86 (by decide) (fun c86 => ?_) (fun c86 => absurd c86 (fun h9 => hc ((lI_lt (mcr_le hr hN i) (mbz_le (oqR r) hr.1 (wo := r 2 i) (li := r 3 i) (by have := hr.2.2.2.2.2.2.2.2.2.2.1 i; omega) (hr.2.2.2.2.2.2.2.2.2.2.2.1 i) N hN hr.2.2.2.1)).mp (cmpP h9))))
      refine J.lload_n dX7_crown_94 rfl rfl ?_
      refine J.lstore_n dX7_crown_95 rfl (by decide) rfl ?_
      try dsimp only [List.set]
      refine J.iinc (1) dX7_crown_96 (by decide) rfl (by decide) rfl ?_
      try dsimp only [List.set]
      refine J.goto (tgt := 48) dX7_crown_99 (by decide) ?_
      exact J.at (ih (i + 1) (by omega) _ _ _ _) (by rw [(show mcr r N (i + 1) = mcr r N i from if_neg hc), ← nI_1 i] <;> rfl) rfl rfl
set_option maxRecDepth 100000 in
set_option maxHeartbeats 4000000 in
theorem mX7_crown (s : Nat → Int32) (la : Nat → Int32) (r : rT) (v : vT) (c : Nat → Nat → Int32) (l : Nat → Int32) (tn : Int32) (p : Nat → Int32) (pa : Nat → Nat → Int32) (m : Nat) (q : rT) (b : Int32) (x : Nat → Nat) (h : Nat → Nat → Int64) (N : Nat) (hN : N ≤ 5) (wh : Int32) (hw : 0 ≤ wh ∧ wh ≤ 2) (hS : mS s r) (hr : rOK r) (hK : 1 ≤ r 6 1) : J KX7_crown 21 (fun o B => o = some (.long (crownA r N wh)) ∧ ∃ m9 q9 b9 x9 h9, B = (wM s la r v c l tn p pa m9 q9 b9 x9 h9)) 0 [some (.ref 0), some (.int (nI N)), some (.int wh), none, none, none, none, none, none] [] (wM s la r v c l tn p pa m q b x h) 0 0 := by
  refine J.iload_n dX7_crown_0 rfl rfl ?_
  refine J.cs (as := [.int _]) (is := []) okX7_isLong jcX7_236 (mX7_isLong (nI N)) dX7_crown_1 rfl rfl rfl rfl rfl rfl (fun r9 B9 hq => ?_)
  obtain ⟨rfl, rfl⟩ := hq
  refine ⟨rfl, ?_⟩
  show J _ _ _ _ _ (.int _ :: _) (wM s la r v c l tn p pa m q b x h) _ _
  refine J.if_eq (tgt := 19) dX7_crown_4 (by decide) (fun c4 => absurd c4 (fun h => (jB_0 _).mp h (jw (a := 0) (c := 5) (by decide) (Nat.zero_le _) hN))) (fun c4 => ?_)
  refine J.iload_n dX7_crown_7 rfl rfl ?_
  refine J.i2l dX7_crown_8 ?_
  refine J.lconst 0 dX7_crown_9 (by decide) ?_
  refine J.ldc2 (v := 2) dX7_crown_10 (jt 956 rfl rfl) ?_
  refine J.cs (as := [.long _, .long _, .long _]) (is := []) okX7_in jcX7_74 (mX7_inI wh 0 2 (by decide) (by decide)) dX7_crown_13 rfl rfl rfl rfl rfl rfl (fun r9 B9 hq => ?_)
  obtain ⟨rfl, rfl⟩ := hq
  refine ⟨rfl, ?_⟩
  show J _ _ _ _ _ (.int _ :: _) (wM s la r v c l tn p pa m q b x h) _ _
  refine J.if_ne (tgt := 23) dX7_crown_16 (by decide) (fun c16 => ?_) (fun c16 => absurd c16 (fun h => (jB_0 _).mp h hw))
  refine J.aload_n dX7_crown_23 rfl rfl ?_
  refine J.mg2 dX7_crown_24 rfl ?_
  refine J.if_ne (tgt := 34) dX7_crown_27 (by decide) (fun c27 => ?_) (fun c27 => absurd c27 (nI_ne0 (by omega) (by have := hr.2.1; omega)))
  refine J.aload_n dX7_crown_34 rfl rfl ?_
  refine J.cvM (as := []) s la r v c l tn p pa m q b x h okX7_lays jcX7_196 (mX7_lays s la r v c l tn p pa m q b x h hS hr) dX7_crown_35 rfl rfl rfl rfl (fun r9 B9 hq9 => ?_)
  obtain ⟨rfl, rfl⟩ := hq9
  refine ⟨_, _, _, _, _, _, _, _, _, _, _, _, _, _, rfl, ?_⟩
  show J _ _ _ _ _ [] (wM s la r v c l tn p pa (r 6 0) (mlay q r (r 6 0)) b x h) _ _
  refine J.ldc2 (v := -1) dX7_crown_38 (jt 1049 rfl rfl) ?_
  refine J.lstore_n dX7_crown_41 rfl (by decide) rfl ?_
  try dsimp only [List.set]
  refine J.iconst (0) dX7_crown_42 (by decide) ?_
  refine J.istore dX7_crown_43 (by decide) rfl ?_
  try dsimp only [List.set]
  refine J.iconst (0) dX7_crown_45 (by decide) ?_
  refine J.istore dX7_crown_46 (by decide) rfl ?_
  try dsimp only [List.set]
  exact J.at (mX7_crown_l s la r v c l tn p pa m q x N hN wh hw hS hr hK (r 6 1) 0 (by omega) none none b h) rfl rfl rfl
set_option maxRecDepth 100000 in
set_option maxHeartbeats 4000000 in
theorem mX7_crown_none (s : Nat → Int32) (la : Nat → Int32) (r : rT) (v : vT) (c : Nat → Nat → Int32) (l : Nat → Int32) (tn : Int32) (p : Nat → Int32) (pa : Nat → Nat → Int32) (m : Nat) (q : rT) (b : Int32) (x : Nat → Nat) (h : Nat → Nat → Int64) (N : Nat) (hN : N ≤ 5) (wh : Int32) (hw : 0 ≤ wh ∧ wh ≤ 2) (hK : r 6 1 = 0) : J KX7_crown 21 (fun o B => o = some (.long (-2)) ∧ B = (wM s la r v c l tn p pa m q b x h)) 0 [some (.ref 0), some (.int (nI N)), some (.int wh), none, none, none, none, none, none] [] (wM s la r v c l tn p pa m q b x h) 0 0 := by
  refine J.iload_n dX7_crown_0 rfl rfl ?_
  refine J.cs (as := [.int _]) (is := []) okX7_isLong jcX7_236 (mX7_isLong (nI N)) dX7_crown_1 rfl rfl rfl rfl rfl rfl (fun r9 B9 hq => ?_)
  obtain ⟨rfl, rfl⟩ := hq
  refine ⟨rfl, ?_⟩
  show J _ _ _ _ _ (.int _ :: _) (wM s la r v c l tn p pa m q b x h) _ _
  refine J.if_eq (tgt := 19) dX7_crown_4 (by decide) (fun c4 => absurd c4 (fun h => (jB_0 _).mp h (jw (a := 0) (c := 5) (by decide) (Nat.zero_le _) hN))) (fun c4 => ?_)
  refine J.iload_n dX7_crown_7 rfl rfl ?_
  refine J.i2l dX7_crown_8 ?_
  refine J.lconst 0 dX7_crown_9 (by decide) ?_
  refine J.ldc2 (v := 2) dX7_crown_10 (jt 956 rfl rfl) ?_
  refine J.cs (as := [.long _, .long _, .long _]) (is := []) okX7_in jcX7_74 (mX7_inI wh 0 2 (by decide) (by decide)) dX7_crown_13 rfl rfl rfl rfl rfl rfl (fun r9 B9 hq => ?_)
  obtain ⟨rfl, rfl⟩ := hq
  refine ⟨rfl, ?_⟩
  show J _ _ _ _ _ (.int _ :: _) (wM s la r v c l tn p pa m q b x h) _ _
  refine J.if_ne (tgt := 23) dX7_crown_16 (by decide) (fun c16 => ?_) (fun c16 => absurd c16 (fun h => (jB_0 _).mp h hw))
  refine J.aload_n dX7_crown_23 rfl rfl ?_
  refine J.mg2 dX7_crown_24 rfl ?_
  refine J.if_ne (tgt := 34) dX7_crown_27 (by decide) (fun c27 => absurd c27 (fun h => h (by rw [hK] <;> rfl))) (fun c27 => ?_)
  refine J.ldc2 (v := -2) dX7_crown_30 (jt 1133 rfl rfl) ?_
  exact J.lret dX7_crown_33 rfl (Nat.le_refl _) (Nat.le_refl _) ⟨rfl, rfl⟩
set_option maxRecDepth 100000 in
set_option maxHeartbeats 4000000 in
theorem mX7_crown_bad (s : Nat → Int32) (la : Nat → Int32) (r : rT) (v : vT) (c : Nat → Nat → Int32) (l : Nat → Int32) (tn : Int32) (p : Nat → Int32) (pa : Nat → Nat → Int32) (m : Nat) (q : rT) (b : Int32) (x : Nat → Nat) (h : Nat → Nat → Int64) (n wh : Int32) (hb : ¬ (0 ≤ n ∧ n ≤ 5) ∨ ¬ (0 ≤ wh ∧ wh ≤ 2)) : J KX7_crown 21 (fun o B => o = some (.long (-1)) ∧ B = (wM s la r v c l tn p pa m q b x h)) 0 [some (.ref 0), some (.int n), some (.int wh), none, none, none, none, none, none] [] (wM s la r v c l tn p pa m q b x h) 0 0 := by
  refine J.iload_n dX7_crown_0 rfl rfl ?_
  refine J.cs (as := [.int _]) (is := []) okX7_isLong jcX7_236 (mX7_isLong n) dX7_crown_1 rfl rfl rfl rfl rfl rfl (fun r9 B9 hq => ?_)
  obtain ⟨rfl, rfl⟩ := hq
  refine ⟨rfl, ?_⟩
  show J _ _ _ _ _ (.int _ :: _) (wM s la r v c l tn p pa m q b x h) _ _
  refine J.if_eq (tgt := 19) dX7_crown_4 (by decide) (fun c4 => ?_) (fun c4 => ?_)
  · refine J.ldc2 (v := -1) dX7_crown_19 (jt 1049 rfl rfl) ?_
    exact J.lret dX7_crown_22 rfl (Nat.le_refl _) (Nat.le_refl _) ⟨rfl, rfl⟩
  · refine J.iload_n dX7_crown_7 rfl rfl ?_
    refine J.i2l dX7_crown_8 ?_
    refine J.lconst 0 dX7_crown_9 (by decide) ?_
    refine J.ldc2 (v := 2) dX7_crown_10 (jt 956 rfl rfl) ?_
    refine J.cs (as := [.long _, .long _, .long _]) (is := []) okX7_in jcX7_74 (mX7_inI wh 0 2 (by decide) (by decide)) dX7_crown_13 rfl rfl rfl rfl rfl rfl (fun r9 B9 hq => ?_)
    obtain ⟨rfl, rfl⟩ := hq
    refine ⟨rfl, ?_⟩
    show J _ _ _ _ _ (.int _ :: _) (wM s la r v c l tn p pa m q b x h) _ _
    refine J.if_ne (tgt := 23) dX7_crown_16 (by decide) (fun c16 => absurd c16 (fun h => h ((jB_0 _).mpr (fun hC => (fun h => h.elim (fun h => h (Decidable.not_not.mp (fun h9 => c4 ((jB_0 _).mpr h9)))) (fun h => h hC)) hb)))) (fun c16 => ?_)
    refine J.ldc2 (v := -1) dX7_crown_19 (jt 1049 rfl rfl) ?_
    exact J.lret dX7_crown_22 rfl (Nat.le_refl _) (Nat.le_refl _) ⟨rfl, rfl⟩
