/-! ===== gains as whole numbers ===== -/
def svZ (T : Nat → Nat) (wo li : Int) (g : Nat → Int) (s : Nat) : Nat → Int
  | 0 => 0
  | r + 1 => if r = 0 then (wtn T s 0 : Nat) * li else svZ T wo li g s r + (wtn T s r : Nat) * (wo + g r)
def gsZ (sees : Prop) [Decidable sees] (z : Int) : Int := if sees ∧ ¬ 0 < z then 0 else z
def ggZ (q : rT) (wo li : Int) (sees : Prop) [Decidable sees] (w N : Nat) : Nat → Nat → Int
  | 0, _ => 0
  | k + 1, s => if 1 ≤ s ∧ s ≤ w then gsZ sees (svZ (ten q s (N - 1 - k)) (wo * (1000 ^ k : Nat)) (li * (1000 ^ k : Nat)) (ggZ q wo li sees w N k) s (s + 1)) else ggZ q wo li sees w N k s
theorem svZ_le {T : Nat → Nat} {wo li : Int} {g : Nat → Int} {G C : Nat} (hg : ∀ r, (g r).natAbs ≤ G) (h1 : li.natAbs ≤ C) (h2 : wo.natAbs + G ≤ C) (s : Nat) : ∀ n, (svZ T wo li g s n).natAbs ≤ sm (fun r => wtn T s r) n * C
  | 0 => by simp [svZ]
  | r + 1 => by
    rw [svZ, sm]
    by_cases h : r = 0
    · rw [if_pos h, h, sm, Int.natAbs_mul, Int.natAbs_natCast, Nat.zero_add]
      exact Nat.mul_le_mul_left _ h1
    · rw [if_neg h, Nat.add_mul]
      refine Nat.le_trans (Int.natAbs_add_le _ _) (Nat.add_le_add (svZ_le hg h1 h2 s r) ?_)
      rw [Int.natAbs_mul, Int.natAbs_natCast]
      refine Nat.mul_le_mul_left _ (Nat.le_trans (Int.natAbs_add_le _ _) ?_)
      have := hg r
      omega
def bG (k : Nat) : Nat := 99 * (k + 1) * 1000 ^ k
theorem bG_s : ∀ k, k < 6 → 1000 * (99 * 1000 ^ k + bG k) ≤ bG (k + 1) ∧ bG k ≤ 1000000000000000000 ∧ 99 * 1000 ^ k ≤ bG k := by decide +kernel
theorem sm_wtn_le {T : Nat → Nat} (hT : ∀ i, T i ≤ 10) {s : Nat} (hs : s < 8) : sm (fun r => wtn T s r) (s + 1) ≤ 1000 := by
  rw [← wtn_sum hs hT]
  have : ∀ n m, n ≤ m → sm (fun r => wtn T s r) n ≤ sm (fun r => wtn T s r) m := by
    intro n m h
    induction h with
    | refl => exact Nat.le_refl _
    | step h ih => exact Nat.le_trans ih (Nat.le_add_right _ _)
  exact this _ _ (by omega)
theorem ggZ_le (q : rT) (wo li : Int) (sees : Prop) [Decidable sees] (w N : Nat) (hw : w < 8) (h1 : wo.natAbs ≤ 99) (h2 : li.natAbs ≤ 99) : ∀ k, k ≤ 5 → ∀ s, (ggZ q wo li sees w N k s).natAbs ≤ bG k
  | 0, _, _ => by simp [ggZ]
  | k + 1, h, s => by
    have hb := bG_s k (by omega)
    have ih := ggZ_le q wo li sees w N hw h1 h2 k (by omega)
    rw [ggZ]
    by_cases hs : 1 ≤ s ∧ s ≤ w
    · rw [if_pos hs, gsZ]
      split
      · simp
      · have e1 : (wo * (1000 ^ k : Nat)).natAbs ≤ 99 * 1000 ^ k := by
          rw [Int.natAbs_mul, Int.natAbs_natCast]
          exact Nat.mul_le_mul_right _ h1
        have e2 : (li * (1000 ^ k : Nat)).natAbs ≤ 99 * 1000 ^ k := by
          rw [Int.natAbs_mul, Int.natAbs_natCast]
          exact Nat.mul_le_mul_right _ h2
        refine Nat.le_trans (svZ_le (G := bG k) (C := 99 * 1000 ^ k + bG k) ih (by omega) (by omega) s (s + 1)) ?_
        exact Nat.le_trans (Nat.mul_le_mul_right _ (sm_wtn_le (ten_le q s (N - 1 - k)) (by omega))) hb.1
    · rw [if_neg hs]
      exact Nat.le_trans (ih s) (by omega)
theorem lI_pos {z : Int} (h : z.natAbs ≤ 1000000000000000000) : 0 < lI z ↔ 0 < z := by
  rw [Int64.lt_iff_toInt_lt, lI_toInt (by omega) (by omega)]
  exact Iff.rfl
theorem lI_neg' {z : Int} (h : z.natAbs ≤ 1000000000000000000) : lI z < 0 ↔ z < 0 := by
  rw [Int64.lt_iff_toInt_lt, lI_toInt (by omega) (by omega)]
  exact Iff.rfl
theorem lI_lt {z y : Int} (h : z.natAbs ≤ 1000000000000000000) (h' : y.natAbs ≤ 1000000000000000000) : lI z < lI y ↔ z < y := by
  rw [Int64.lt_iff_toInt_lt, lI_toInt (by omega) (by omega), lI_toInt (by omega) (by omega)]
theorem wo_l {n : Nat} (h : n ≤ 99) : (nI n).toInt64 = lI (n : Int) := by rw [nI_l (by omega), lI_nat]
theorem li_l : ∀ n, n < 100 → (-nI n).toInt64 = lI (-(n : Int)) := by decide +kernel
theorem sv_Z (q : rT) (wo li un : Int) (g : Nat → Int64) (gz : Nat → Int) (hg : ∀ r, g r = lI (gz r)) (t s : Nat) : ∀ n, sv q (lI wo) (lI li) (lI un) g t s n = lI (svZ (ten q s t) (wo * un) (li * un) gz s n)
  | 0 => rfl
  | r + 1 => by
    rw [sv, svZ, sv_Z q wo li un g gz hg t s r]
    by_cases h : r = 0
    · rw [if_pos h, if_pos h, ← lI_nat, lI_mul, lI_mul, Int.mul_assoc]
    · rw [if_neg h, if_neg h, hg, ← lI_nat, lI_mul, lI_add, lI_mul, lI_add]
theorem gg_Z (q : rT) (wo li : Nat) (h1 : wo ≤ 99) (h2 : li ≤ 99) (sees : Prop) [Decidable sees] (w N : Nat) (hw : w < 8) : ∀ k, k ≤ 5 → ∀ s, gg q (nI wo).toInt64 (-nI li).toInt64 sees w N k s = lI (ggZ q wo (-(li : Int)) sees w N k s)
  | 0, _, _ => rfl
  | k + 1, h, s => by
    have ih := gg_Z q wo li h1 h2 sees w N hw k (by omega)
    have hb := ggZ_le q wo (-(li : Int)) sees w N hw (by omega) (by omega) (k + 1) h s
    have hb2 := bG_s (k + 1) (by omega)
    rw [gg, ggZ]
    rw [ggZ] at hb
    by_cases hs : 1 ≤ s ∧ s ≤ w
    · rw [if_pos hs, if_pos hs, wo_l h1, li_l li (by omega), ← lI_nat, sv_Z q wo (-(li : Int)) (1000 ^ k : Nat) _ (ggZ q wo (-(li : Int)) sees w N k) (fun r => by rw [← ih r, wo_l h1, li_l li (by omega)]) (N - 1 - k) s (s + 1)]
      have hsv : (svZ (ten q s (N - 1 - k)) ((wo : Int) * (1000 ^ k : Nat)) (-(li : Int) * (1000 ^ k : Nat)) (ggZ q wo (-(li : Int)) sees w N k) s (s + 1)).natAbs ≤ 1000000000000000000 := by
        have hbk := bG_s k (by omega)
        have ihz := ggZ_le q wo (-(li : Int)) sees w N hw (by omega) (by omega) k (by omega)
        have e1 : ((wo : Int) * (1000 ^ k : Nat)).natAbs ≤ 99 * 1000 ^ k := by
          rw [Int.natAbs_mul, Int.natAbs_natCast]
          exact Nat.mul_le_mul_right _ (by omega)
        have e2 : (-(li : Int) * (1000 ^ k : Nat)).natAbs ≤ 99 * 1000 ^ k := by
          rw [Int.natAbs_mul, Int.natAbs_natCast]
          exact Nat.mul_le_mul_right _ (by omega)
        refine Nat.le_trans (svZ_le (G := bG k) (C := 99 * 1000 ^ k + bG k) ihz (by omega) (by omega) s (s + 1)) ?_
        exact Nat.le_trans (Nat.mul_le_mul_right _ (sm_wtn_le (ten_le q s (N - 1 - k)) (by omega))) (by omega)
      rw [gs, gsZ]
      by_cases hp : sees ∧ ¬ 0 < svZ (ten q s (N - 1 - k)) ((wo : Int) * (1000 ^ k : Nat)) (-(li : Int) * (1000 ^ k : Nat)) (ggZ q wo (-(li : Int)) sees w N k) s (s + 1)
      · rw [if_pos hp, if_pos ⟨hp.1, fun h9 => hp.2 ((lI_pos hsv).mp h9)⟩]
        rfl
      · rw [if_neg hp, if_neg (fun h9 => hp ⟨h9.1, fun h8 => h9.2 ((lI_pos hsv).mpr h8)⟩)]
    · rw [if_neg hs, if_neg hs]
      exact ih s
/-! ===== the DUEL ===== -/
def evZ (T : Nat → Nat) (pr : Int) (g : Nat → Int) (s : Nat) : Nat → Int
  | 0 => 0
  | r + 1 => if r = 0 then pr * (wtn T s 0 : Nat) else evZ T pr g s r + (wtn T s r : Nat) * g r
def hvZ (z : Int) : Int := if z < 0 then 0 else z
def dgZ (q r : rT) (a b N : Nat) : Nat → Nat → Nat → Int
  | 0, _, _ => 0
  | k + 1, c, s => if 1 ≤ s ∧ s ≤ q 6 0 then
      (if c = (N - 1 - k) % 2 then hvZ (svZ (ten q s (N - 1 - k)) ((r 2 (if (N - 1 - k) % 2 = 0 then a else b) : Nat) * (1000 ^ k : Nat)) (-((r 3 (if (N - 1 - k) % 2 = 0 then a else b) : Nat) * (1000 ^ k : Nat))) (dgZ q r a b N k ((N - 1 - k) % 2)) s (s + 1))
       else if 0 < svZ (ten q s (N - 1 - k)) ((r 2 (if (N - 1 - k) % 2 = 0 then a else b) : Nat) * (1000 ^ k : Nat)) (-((r 3 (if (N - 1 - k) % 2 = 0 then a else b) : Nat) * (1000 ^ k : Nat))) (dgZ q r a b N k ((N - 1 - k) % 2)) s (s + 1) then evZ (ten q s (N - 1 - k)) ((r 6 5 : Nat) * (1000 ^ k : Nat)) (dgZ q r a b N k (1 - (N - 1 - k) % 2)) s (s + 1) else 1000 * ((r 6 5 : Nat) * (1000 ^ k : Nat)))
      else dgZ q r a b N k c s
theorem evZ_le {T : Nat → Nat} {pr : Int} {g : Nat → Int} {C : Nat} (hg : ∀ r, (g r).natAbs ≤ C) (h1 : pr.natAbs ≤ C) (s : Nat) : ∀ n, (evZ T pr g s n).natAbs ≤ sm (fun r => wtn T s r) n * C
  | 0 => by simp [evZ]
  | r + 1 => by
    rw [evZ, sm]
    by_cases h : r = 0
    · rw [if_pos h, h, sm, Int.natAbs_mul, Int.natAbs_natCast, Nat.zero_add, Nat.mul_comm]
      exact Nat.mul_le_mul_left _ h1
    · rw [if_neg h, Nat.add_mul]
      refine Nat.le_trans (Int.natAbs_add_le _ _) (Nat.add_le_add (evZ_le hg h1 s r) ?_)
      rw [Int.natAbs_mul, Int.natAbs_natCast]
      exact Nat.mul_le_mul_left _ (hg r)
theorem uK {n k : Nat} (h : n ≤ 99) : ((n : Int) * (1000 ^ k : Nat)).natAbs ≤ 99 * 1000 ^ k := by
  rw [Int.natAbs_mul, Int.natAbs_natCast, Int.natAbs_natCast]
  exact Nat.mul_le_mul_right _ h
theorem dsv_le (q r : rT) (a b N : Nat) (hq : q 6 0 < 8) (hr : rOK r) {k : Nat} (h : k < 5) {s c i : Nat} (hs : s ≤ q 6 0) (ih : ∀ c s, (dgZ q r a b N k c s).natAbs ≤ bG k) : (svZ (ten q s (N - 1 - k)) ((r 2 i : Nat) * (1000 ^ k : Nat)) (-((r 3 i : Nat) * (1000 ^ k : Nat))) (dgZ q r a b N k c) s (s + 1)).natAbs ≤ bG (k + 1) := by
  have hb := bG_s k (by omega)
  have e1 := uK (n := r 2 i) (k := k) (by have := hr.2.2.2.2.2.2.2.2.2.2.1 i; omega)
  have e2 := uK (n := r 3 i) (k := k) (hr.2.2.2.2.2.2.2.2.2.2.2.1 i)
  refine Nat.le_trans (svZ_le (G := bG k) (C := 99 * 1000 ^ k + bG k) (ih _) (by rw [Int.natAbs_neg]; omega) (by omega) s (s + 1)) ?_
  exact Nat.le_trans (Nat.mul_le_mul_right _ (sm_wtn_le (ten_le q s (N - 1 - k)) (by omega))) hb.1
theorem dev_le (q r : rT) (a b N : Nat) (hq : q 6 0 < 8) (hr : rOK r) {k : Nat} (h : k < 5) {s c : Nat} (hs : s ≤ q 6 0) (ih : ∀ c s, (dgZ q r a b N k c s).natAbs ≤ bG k) : (evZ (ten q s (N - 1 - k)) ((r 6 5 : Nat) * (1000 ^ k : Nat)) (dgZ q r a b N k c) s (s + 1)).natAbs ≤ bG (k + 1) := by
  have hb := bG_s k (by omega)
  have e1 := uK (n := r 6 5) (k := k) hr.2.2.2.2.2.2.1
  refine Nat.le_trans (evZ_le (C := 99 * 1000 ^ k + bG k) (fun i => Nat.le_trans (ih _ i) (by omega)) (by omega) s (s + 1)) ?_
  exact Nat.le_trans (Nat.mul_le_mul_right _ (sm_wtn_le (ten_le q s (N - 1 - k)) (by omega))) hb.1
theorem ab_ite {p : Prop} [Decidable p] {x y : Int} {B : Nat} (hx : x.natAbs ≤ B) (hy : y.natAbs ≤ B) : (if p then x else y).natAbs ≤ B := by
  split
  · exact hx
  · exact hy
theorem dgZ_le (q r : rT) (a b N : Nat) (hq : q 6 0 < 8) (hr : rOK r) : ∀ k, k ≤ 5 → ∀ c s, (dgZ q r a b N k c s).natAbs ≤ bG k
  | 0, _, _, _ => by simp [dgZ]
  | k + 1, h, c, s => by
    have hb := bG_s k (by omega)
    have ih := dgZ_le q r a b N hq hr k (by omega)
    rw [dgZ]
    by_cases hs : 1 ≤ s ∧ s ≤ q 6 0
    · rw [if_pos hs]
      refine ab_ite ?_ (ab_ite ?_ ?_)
      · rw [hvZ]
        exact ab_ite (by simp) (dsv_le q r a b N hq hr (by omega) hs.2 ih)
      · exact dev_le q r a b N hq hr (by omega) hs.2 ih
      · have e1 := uK (n := r 6 5) (k := k) hr.2.2.2.2.2.2.1
        rw [Int.natAbs_mul]
        exact Nat.le_trans (Nat.mul_le_mul_left 1000 e1) (by omega)
    · rw [if_neg hs]
      exact Nat.le_trans (ih c s) (by omega)
theorem dv_Z (T : Nat → Nat) (wo li : Int) (g : Nat → Int64) (gz : Nat → Int) (hg : ∀ r, g r = lI (gz r)) (s : Nat) : ∀ n, dv T (lI wo) (lI li) g s n = lI (svZ T wo (-li) gz s n)
  | 0 => rfl
  | r + 1 => by
    rw [dv, svZ, dv_Z T wo li g gz hg s r]
    by_cases h : r = 0
    · rw [if_pos h, if_pos h, ← lI_nat, lI_neg, lI_mul, Int.mul_comm]
    · rw [if_neg h, if_neg h, hg, ← lI_nat, lI_add, lI_mul, lI_add]
theorem ev_Z (T : Nat → Nat) (pr : Int) (g : Nat → Int64) (gz : Nat → Int) (hg : ∀ r, g r = lI (gz r)) (s : Nat) : ∀ n, ev T (lI pr) g s n = lI (evZ T pr gz s n)
  | 0 => rfl
  | r + 1 => by
    rw [ev, evZ, ev_Z T pr g gz hg s r]
    by_cases h : r = 0
    · rw [if_pos h, if_pos h, ← lI_nat, lI_mul]
    · rw [if_neg h, if_neg h, hg, ← lI_nat, lI_mul, lI_add]
theorem dg_Z (q r : rT) (a b N : Nat) (hq : q 6 0 < 8) (hr : rOK r) : ∀ k, k ≤ 5 → ∀ c s, dg q r a b N k c s = lI (dgZ q r a b N k c s)
  | 0, _, _, _ => rfl
  | k + 1, h, c, s => by
    have ih := dg_Z q r a b N hq hr k (by omega)
    have ihz := dgZ_le q r a b N hq hr k (by omega)
    have hb2 := bG_s (k + 1) (by omega)
    have e5 : (nI (r 6 5)).toInt64 * lN (1000 ^ k) = lI ((r 6 5 : Nat) * (1000 ^ k : Nat)) := by rw [wo_l hr.2.2.2.2.2.2.1, ← lI_nat, lI_mul]
    have e2 : ∀ i, (nI (r 2 i)).toInt64 * lN (1000 ^ k) = lI ((r 2 i : Nat) * (1000 ^ k : Nat)) := fun i => by rw [wo_l (by have := hr.2.2.2.2.2.2.2.2.2.2.1 i; omega), ← lI_nat, lI_mul]
    have e3 : ∀ i, (nI (r 3 i)).toInt64 * lN (1000 ^ k) = lI ((r 3 i : Nat) * (1000 ^ k : Nat)) := fun i => by rw [wo_l (hr.2.2.2.2.2.2.2.2.2.2.2.1 i), ← lI_nat, lI_mul]
    rw [dg, dgZ, e5, e2, e3]
    by_cases hs : 1 ≤ s ∧ s ≤ q 6 0
    · rw [if_pos hs, if_pos hs]
      have hl := dsv_le q r a b N hq hr (k := k) (by omega) (s := s) (c := (N - 1 - k) % 2) (i := if (N - 1 - k) % 2 = 0 then a else b) hs.2 ihz
      by_cases hc : c = (N - 1 - k) % 2
      · rw [if_pos hc, if_pos hc, hvv, hvZ, dv_Z _ _ _ _ _ (ih _)]
        by_cases hn : svZ (ten q s (N - 1 - k)) ((r 2 (if (N - 1 - k) % 2 = 0 then a else b) : Nat) * (1000 ^ k : Nat)) (-((r 3 (if (N - 1 - k) % 2 = 0 then a else b) : Nat) * (1000 ^ k : Nat))) (dgZ q r a b N k ((N - 1 - k) % 2)) s (s + 1) < 0
        · rw [if_pos hn, if_pos ((lI_neg' (by omega)).mpr hn)]
          rfl
        · rw [if_neg hn, if_neg (fun h9 => hn ((lI_neg' (by omega)).mp h9))]
      · rw [if_neg hc, if_neg hc, ovv, dv_Z _ _ _ _ _ (ih _), ev_Z _ _ _ _ (ih _)]
        by_cases hn : 0 < svZ (ten q s (N - 1 - k)) ((r 2 (if (N - 1 - k) % 2 = 0 then a else b) : Nat) * (1000 ^ k : Nat)) (-((r 3 (if (N - 1 - k) % 2 = 0 then a else b) : Nat) * (1000 ^ k : Nat))) (dgZ q r a b N k ((N - 1 - k) % 2)) s (s + 1)
        · rw [if_pos hn, if_pos ((lI_pos (by omega)).mpr hn)]
        · rw [if_neg hn, if_neg (fun h9 => hn ((lI_pos (by omega)).mp h9)), show (1000 : Int64) = lI 1000 from rfl, lI_mul]
    · rw [if_neg hs, if_neg hs]
      exact ih c s
