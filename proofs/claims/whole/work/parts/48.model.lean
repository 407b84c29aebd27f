/-! ===== the DUEL ===== -/
def mdF (T : Nat → Nat) (m : Nat) (sc pr : Int) (g : Nat → Int) (s u : Nat) : Int := (wy T m s u : Int) * (if u = 0 then sc * pr else g u)
def mdS (qc : rT) (m : Nat) (pr : Int) (n : Nat) (g : Nat → Int) (k s : Nat) : Int := if s = 0 then 0 else sZ (mdF (ten qc s (n - 1 - k)) m (10 ^ (m * k) : Nat) pr g s) (2 ^ m)
/-- k HOURS from the end: what the first (0), the second one (1) has -/
def mdz (qc : rT) (m : Nat) (r : rT) (a b n : Nat) : Nat → Nat → Nat → Int
  | 0, _, _ => 0
  | k + 1, c, s =>
    if c = (n - 1 - k) % 2 then (if 0 < mbS qc m (r 2 (if (n - 1 - k) % 2 = 0 then a else b) : Nat) (r 3 (if (n - 1 - k) % 2 = 0 then a else b) : Nat) n (mdz qc m r a b n k ((n - 1 - k) % 2)) k s then mbS qc m (r 2 (if (n - 1 - k) % 2 = 0 then a else b) : Nat) (r 3 (if (n - 1 - k) % 2 = 0 then a else b) : Nat) n (mdz qc m r a b n k ((n - 1 - k) % 2)) k s else 0)
    else if 0 < mbS qc m (r 2 (if (n - 1 - k) % 2 = 0 then a else b) : Nat) (r 3 (if (n - 1 - k) % 2 = 0 then a else b) : Nat) n (mdz qc m r a b n k ((n - 1 - k) % 2)) k s then mdS qc m (r 6 5 : Nat) n (mdz qc m r a b n k (1 - (n - 1 - k) % 2)) k s else (10 ^ (m * k) : Nat) * (10 ^ m : Nat) * ((r 6 5 : Nat) : Int)
theorem evZ_sum (T : Nat → Nat) (pr : Int) (g : Nat → Int) (s : Nat) : ∀ n, evZ T pr g s (n + 1) = sZ (fun r => (wtn T s r : Int) * (if r = 0 then pr else g r)) (n + 1)
  | 0 => by simp [evZ, sZ, Int.mul_comm]
  | n + 1 => by
    rw [evZ, if_neg (by omega), evZ_sum T pr g s n, sZ.eq_2 _ (n + 1), if_neg (by omega)]
theorem evZ_congr (T : Nat → Nat) (pr : Int) {g g' : Nat → Int} (s : Nat) : ∀ n, (∀ r, 1 ≤ r → r < n → g r = g' r) → evZ T pr g s n = evZ T pr g' s n
  | 0, _ => rfl
  | r + 1, h => by
    rw [evZ, evZ]
    by_cases e : r = 0
    · rw [if_pos e, if_pos e]
    · rw [if_neg e, if_neg e, evZ_congr T pr s r (fun i h1 h2 => h i h1 (by omega)), h r (by omega) (by omega)]
theorem ev_md (T : Nat → Nat) {m : Nat} (hm : m ≤ 3) (pr : Int) (k : Nat) {G g : Nat → Int} (hG : ∀ r, 1 ≤ r → r < 2 ^ m → G r = (((10 ^ (3 - m)) ^ k : Nat) : Int) * g r) {s : Nat} (hs : s < 2 ^ m) : evZ T (pr * (1000 ^ k : Nat)) G s (s + 1) = (((10 ^ (3 - m)) ^ (k + 1) : Nat) : Int) * sZ (mdF T m (10 ^ (m * k) : Nat) pr g s) (2 ^ m) := by
  have h8 := p2_8 hm
  rw [evZ_sum, ← sZ_mul, sZ_cut (fun i => (((10 ^ (3 - m)) ^ (k + 1) : Nat) : Int) * mdF T m (10 ^ (m * k) : Nat) pr g s i) (s + 1) (2 ^ m) hs (fun j h1 h2 => by (try dsimp only); rw [mdF, wy_hi T hm hs (by omega) (by omega)]; simp)]
  refine sZ_congr (fun r hr => ?_)
  rw [mdF, wtn_wy T hm hs (by omega), if_pos (by omega), Nat.pow_succ, Int.natCast_mul, Int.natCast_mul, p10_cZ hm k]
  by_cases e : r = 0
  · rw [if_pos e, if_pos e]
    simp only [Int.mul_assoc, Int.mul_comm, Int.mul_left_comm]
  · rw [if_neg e, if_neg e, hG r (by omega) (by omega)]
    simp only [Int.mul_assoc, Int.mul_comm, Int.mul_left_comm]
theorem dgZ_w {q q' : rT} (ht : ten q = ten q') (r : rT) (a b N : Nat) : ∀ k c s, s ≤ q 6 0 → s ≤ q' 6 0 → dgZ q r a b N k c s = dgZ q' r a b N k c s
  | 0, _, _, _, _ => rfl
  | k + 1, c, s, h1, h2 => by
    have ih := fun c s => dgZ_w ht r a b N k c s
    rw [dgZ, dgZ, ht]
    by_cases e : 1 ≤ s
    · rw [if_pos (show 1 ≤ s ∧ s ≤ q 6 0 from ⟨e, h1⟩), if_pos (show 1 ≤ s ∧ s ≤ q' 6 0 from ⟨e, h2⟩), svZ_congr (g := dgZ q r a b N k ((N - 1 - k) % 2)) (g' := dgZ q' r a b N k ((N - 1 - k) % 2)) (ten q' s (N - 1 - k)) _ _ s (s + 1) (fun j _ hj => ih _ j (by omega) (by omega)), evZ_congr (g := dgZ q r a b N k (1 - (N - 1 - k) % 2)) (g' := dgZ q' r a b N k (1 - (N - 1 - k) % 2)) (ten q' s (N - 1 - k)) _ s (s + 1) (fun j _ hj => ih _ j (by omega) (by omega))]
    · rw [if_neg (show ¬ (1 ≤ s ∧ s ≤ q 6 0) from fun h => e h.1), if_neg (show ¬ (1 ≤ s ∧ s ≤ q' 6 0) from fun h => e h.1), ih c s h1 h2]
theorem dgZ_0 (q r : rT) (a b N : Nat) : ∀ k c, dgZ q r a b N k c 0 = 0
  | 0, _ => rfl
  | k + 1, c => by rw [dgZ, if_neg (fun h => absurd h.1 (by decide)), dgZ_0 q r a b N k c]
theorem p1000_1 {m : Nat} (hm : m ≤ 3) (k : Nat) (pr : Int) : (((10 ^ (3 - m)) ^ (k + 1) : Nat) : Int) * (((10 ^ (m * k) : Nat) : Int) * ((10 ^ m : Nat) : Int) * pr) = 1000 * (pr * (1000 ^ k : Nat)) := by
  have h1 : (10 ^ (3 - m)) ^ (k + 1) * (10 ^ (m * k) * 10 ^ m) = 1000 * 1000 ^ k := by
    rw [← Nat.pow_add, ← Nat.mul_succ, p10_c hm (k + 1), Nat.pow_succ, Nat.mul_comm]
  rw [← Int.natCast_mul, ← Int.mul_assoc, ← Int.natCast_mul, h1, Int.natCast_mul, Int.mul_assoc, Int.mul_comm pr]
  rfl
theorem hvZ_c {m k : Nat} (z : Int) : hvZ ((((10 ^ (3 - m)) ^ k : Nat) : Int) * z) = (((10 ^ (3 - m)) ^ k : Nat) : Int) * (if 0 < z then z else 0) := by
  unfold hvZ
  by_cases h : 0 < z
  · have := (cZ_lt (m := m) (k := k)).mpr h
    rw [if_pos h, if_neg (by omega)]
  · rw [if_neg h, Int.mul_zero]
    by_cases h2 : z = 0
    · rw [h2, Int.mul_zero]; rfl
    · rw [if_pos (Int.mul_neg_of_pos_of_neg (cZ_pos m k) (by omega))]
theorem dg_md {q : rT} (r : rT) {m : Nat} (hm : m ≤ 3) (hq : q 6 0 = 2 ^ m - 1) (a b N : Nat) : ∀ k c s, 1 ≤ s → s < 2 ^ m → dgZ q r a b N k c s = (((10 ^ (3 - m)) ^ k : Nat) : Int) * mdz q m r a b N k c s
  | 0, c, s, _, _ => by simp [dgZ, mdz]
  | k + 1, c, s, h1, h2 => by
    have ih := dg_md r hm hq a b N k
    have e1 : svZ (ten q s (N - 1 - k)) (((r 2 (if (N - 1 - k) % 2 = 0 then a else b) : Nat) : Int) * (1000 ^ k : Nat)) (-(((r 3 (if (N - 1 - k) % 2 = 0 then a else b) : Nat) : Int) * (1000 ^ k : Nat))) (dgZ q r a b N k ((N - 1 - k) % 2)) s (s + 1) = (((10 ^ (3 - m)) ^ (k + 1) : Nat) : Int) * mbS q m (r 2 (if (N - 1 - k) % 2 = 0 then a else b) : Nat) (r 3 (if (N - 1 - k) % 2 = 0 then a else b) : Nat) N (mdz q m r a b N k ((N - 1 - k) % 2)) k s := by
      rw [← Int.neg_mul, sv_mb (g := mdz q m r a b N k ((N - 1 - k) % 2)) _ hm _ _ k (fun j x y => ih _ j x y) h2, mbS, if_neg (show ¬ s = 0 by omega)]
    have e2 : evZ (ten q s (N - 1 - k)) (((r 6 5 : Nat) : Int) * (1000 ^ k : Nat)) (dgZ q r a b N k (1 - (N - 1 - k) % 2)) s (s + 1) = (((10 ^ (3 - m)) ^ (k + 1) : Nat) : Int) * mdS q m (r 6 5 : Nat) N (mdz q m r a b N k (1 - (N - 1 - k) % 2)) k s := by
      rw [ev_md (g := mdz q m r a b N k (1 - (N - 1 - k) % 2)) _ hm _ k (fun j x y => ih _ j x y) h2, mdS, if_neg (show ¬ s = 0 by omega)]
    rw [dgZ, if_pos (show 1 ≤ s ∧ s ≤ q 6 0 from ⟨h1, by omega⟩), e1, e2, mdz, hvZ_c]
    by_cases hc : c = (N - 1 - k) % 2
    · rw [if_pos hc, if_pos hc]
    · rw [if_neg hc, if_neg hc]
      by_cases hp : 0 < mbS q m (r 2 (if (N - 1 - k) % 2 = 0 then a else b) : Nat) (r 3 (if (N - 1 - k) % 2 = 0 then a else b) : Nat) N (mdz q m r a b N k ((N - 1 - k) % 2)) k s
      · rw [if_pos hp, if_pos (cZ_lt.mpr hp)]
      · rw [if_neg hp, if_neg (fun h => hp (cZ_lt.mp h)), p1000_1 hm k]
/-- the same with another WHOLE -/
theorem mbS_q {q q' : rT} (h : ten q = ten q') (m : Nat) (wo li : Int) (n : Nat) (g : Nat → Int) (k s : Nat) : mbS q m wo li n g k s = mbS q' m wo li n g k s := by rw [mbS, mbS, h]
theorem mdz_q {q q' : rT} (h : ten q = ten q') (m : Nat) (r : rT) (a b n : Nat) : ∀ k c s, mdz q m r a b n k c s = mdz q' m r a b n k c s
  | 0, _, _ => rfl
  | k + 1, c, s => by
    have e : ∀ c, mdz q m r a b n k c = mdz q' m r a b n k c := fun c => funext (mdz_q h m r a b n k c)
    rw [mdz, mdz, e, e, mbS_q h, mdS, mdS, h]
def qW (q : rT) (m : Nat) : rT := rset q 6 0 (2 ^ m - 1)
theorem qW_t (q : rT) (m : Nat) : ten q = ten (qW q m) := rfl
theorem mdb_le {qc r : rT} {m : Nat} (hm : m ≤ 3) (hr : rOK r) (a b N : Nat) {k : Nat} (hk : k < 5) {s : Nat} (hs : s < 2 ^ m) (c i : Nat) : (mbS qc m (r 2 i : Nat) (r 3 i : Nat) N (mdz qc m r a b N k c) k s).natAbs ≤ 1000000000000000000 := by
  have h8 := p2_8 hm
  by_cases e : s = 0
  · rw [mbS, if_pos e]; decide
  · have hb := bG_s (k + 1) (by omega)
    have hq8 : qW qc m 6 0 < 8 := by show 2 ^ m - 1 < 8; omega
    have h1 := dsv_le (qW qc m) r a b N hq8 hr hk (s := s) (c := c) (i := i) (by show s ≤ 2 ^ m - 1; omega) (dgZ_le (qW qc m) r a b N hq8 hr k (by omega))
    rw [← Int.neg_mul, sv_mb _ hm _ _ k (fun j x y => dg_md r hm rfl a b N k c j x y) hs, Int.natAbs_mul, Int.natAbs_natCast] at h1
    have h2 : sZ (mbF (ten (qW qc m) s (N - 1 - k)) m (10 ^ (m * k) : Nat) (r 2 i : Nat) (r 3 i : Nat) (mdz (qW qc m) m r a b N k c) s) (2 ^ m) = mbS qc m (r 2 i : Nat) (r 3 i : Nat) N (mdz qc m r a b N k c) k s := by
      rw [mbS, if_neg e, ← qW_t qc m, funext (mdz_q (qW_t qc m) m r a b N k c)]
    rw [h2] at h1
    have := Nat.le_mul_of_pos_left (mbS qc m (r 2 i : Nat) (r 3 i : Nat) N (mdz qc m r a b N k c) k s).natAbs (c_pos m (k + 1))
    omega
theorem dl0_m {r : rT} (h : rOK r) (a b N : Nat) : dl0 r a b N = (((10 ^ (3 - r 6 0)) ^ N : Nat) : Int) * mdz (oqR r) (r 6 0) r a b N N 0 (r 6 3) := by
  unfold dl0
  by_cases e : r 6 3 = 0
  · rw [e, dgZ_0]
    cases N with
    | zero => simp [mdz]
    | succ N =>
      have : (N + 1 - 1 - N) % 2 = 0 := by rw [show N + 1 - 1 - N = 0 by omega]
      rw [mdz, this, if_pos rfl, mbS, if_pos rfl]
      simp
  · have hw := h.2.2.2.1
    rw [dgZ_w (qW_t (oqR r) (r 6 0)) r a b N N 0 (r 6 3) (Nat.le_refl _) (by show r 6 3 ≤ 2 ^ r 6 0 - 1; omega), dg_md r h.1 rfl a b N N 0 (r 6 3) (by omega) hw, mdz_q (qW_t (oqR r) (r 6 0)).symm]
theorem dl1_m {r : rT} (h : rOK r) (a b N : Nat) : dl1 r a b N = (((10 ^ (3 - r 6 0)) ^ N : Nat) : Int) * mdz (oqR r) (r 6 0) r a b N N 1 (r 6 3) := by
  unfold dl1
  by_cases e : r 6 3 = 0
  · cases N with
    | zero => rw [if_neg (by omega), e, dgZ_0]; simp [mdz]
    | succ N =>
      have : (N + 1 - 1 - N) % 2 = 0 := by rw [show N + 1 - 1 - N = 0 by omega]
      rw [if_pos ⟨e, by omega⟩, mdz, this, if_neg (by decide), mbS, if_pos e, if_neg (by decide), p1000_1 h.1, Nat.pow_succ, Int.natCast_mul, Int.mul_comm (1000 : Int), Int.mul_assoc]
      rfl
  · have hw := h.2.2.2.1
    rw [if_neg (fun h9 => e h9.1), dgZ_w (qW_t (oqR r) (r 6 0)) r a b N N 1 (r 6 3) (Nat.le_refl _) (by show r 6 3 ≤ 2 ^ r 6 0 - 1; omega), dg_md r h.1 rfl a b N N 1 (r 6 3) (by omega) hw, mdz_q (qW_t (oqR r) (r 6 0)).symm]
theorem mdz_le {r : rT} (h : rOK r) (a b : Nat) {N : Nat} (hN : N ≤ 5) : (mdz (oqR r) (r 6 0) r a b N N 0 (r 6 3)).natAbs ≤ 1000000000000000000 ∧ (mdz (oqR r) (r 6 0) r a b N N 1 (r 6 3)).natAbs ≤ 1000000000000000000 := by
  have h1 := dl0_le h a b hN
  have h2 := dl1_le h a b hN
  rw [dl0_m h, Int.natAbs_mul, Int.natAbs_natCast] at h1
  rw [dl1_m h, Int.natAbs_mul, Int.natAbs_natCast] at h2
  exact ⟨Nat.le_trans (Nat.le_mul_of_pos_left _ (c_pos (r 6 0) N)) h1, Nat.le_trans (Nat.le_mul_of_pos_left _ (c_pos (r 6 0) N)) h2⟩
theorem duel0E {r : rT} (h : rOK r) (a b N : Nat) (wh : Int32) : lowT (mdz (oqR r) (r 6 0) r a b N N 0 (r 6 3)) (10 ^ (r 6 0 * N)) wh = lowT (dl0 r a b N) (1000 ^ N) wh := by
  rw [dl0_m h, ← p10_c h.1 N, lowT_s (c_pos (r 6 0) N)]
theorem duel1E {r : rT} (h : rOK r) (a b N : Nat) (wh : Int32) : lowT (mdz (oqR r) (r 6 0) r a b N N 1 (r 6 3)) (10 ^ (r 6 0 * N)) wh = lowT (dl1 r a b N) (1000 ^ N) wh := by
  rw [dl1_m h, ← p10_c h.1 N, lowT_s (c_pos (r 6 0) N)]
theorem duel4E {r : rT} (h : rOK r) (a b N : Nat) : 0 < dl0 r a b N ↔ 0 < mdz (oqR r) (r 6 0) r a b N N 0 (r 6 3) := by
  rw [dl0_m h]
  exact cZ_lt
theorem rem2 {T : Nat} (h : T < 1000) : nI T - nI T / 2 * 2 = nI (T % 2) := pk_rem (d := 2) (by omega) (by decide) (by decide)
