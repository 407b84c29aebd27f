/-! ===== sums of shares ===== -/
theorem sm_congr {f g : Nat → Nat} : ∀ {n : Nat}, (∀ i, i < n → f i = g i) → sm f n = sm g n
  | 0, _ => rfl
  | n + 1, h => by
    rw [sm, sm, sm_congr (fun i hi => h i (Nat.lt_succ_of_lt hi)), h n (Nat.lt_succ_self n)]
theorem sm_add (f g : Nat → Nat) : ∀ n, sm (fun i => f i + g i) n = sm f n + sm g n
  | 0 => rfl
  | n + 1 => by
    simp only [sm]
    rw [sm_add f g n]
    omega
theorem sm_mul (c : Nat) (f : Nat → Nat) : ∀ n, sm (fun i => c * f i) n = c * sm f n
  | 0 => rfl
  | n + 1 => by
    simp only [sm]
    rw [sm_mul c f n, Nat.mul_add]
theorem sm_mulr (c : Nat) (f : Nat → Nat) : ∀ n, sm (fun i => f i * c) n = sm f n * c
  | 0 => by simp [sm]
  | n + 1 => by
    simp only [sm]
    rw [sm_mulr c f n, Nat.add_mul]
theorem sm_zero : ∀ n, sm (fun _ => 0) n = 0
  | 0 => rfl
  | n + 1 => by rw [sm, sm_zero n]
theorem sm_le {f g : Nat → Nat} : ∀ {n : Nat}, (∀ i, i < n → f i ≤ g i) → sm f n ≤ sm g n
  | 0, _ => Nat.le_refl _
  | n + 1, h => by
    rw [sm, sm]
    exact Nat.add_le_add (sm_le (fun i hi => h i (Nat.lt_succ_of_lt hi))) (h n (Nat.lt_succ_self n))
theorem sm_get {f : Nat → Nat} : ∀ {n i : Nat}, i < n → f i ≤ sm f n
  | 0, i, h => absurd h (Nat.not_lt_zero i)
  | n + 1, i, h => by
    rw [sm]
    by_cases e : i = n
    · subst e; omega
    · have := sm_get (f := f) (show i < n by omega)
      omega
def tri (a b c : Nat) : Nat → Nat := fun i => if i = 0 then a else if i = 1 then b else c
theorem wtn_tri (T : Nat → Nat) (s r : Nat) : wtn T s r = wtn (tri (T 0) (T 1) (T 2)) s r := rfl
theorem wtn_brute : ∀ s, s < 8 → ∀ a, a < 11 → ∀ b, b < 11 → ∀ c, c < 11 → sm (fun r => wtn (tri a b c) s r) 8 = 1000 := by decide +kernel
theorem wtn_sum {T : Nat → Nat} {s : Nat} (hs : s < 8) (hT : ∀ i, T i ≤ 10) : sm (fun r => wtn T s r) 8 = 1000 := by
  have h := wtn_brute s hs (T 0) (Nat.lt_succ_of_le (hT 0)) (T 1) (Nat.lt_succ_of_le (hT 1)) (T 2) (Nat.lt_succ_of_le (hT 2))
  exact h
theorem acc_sum (q : rT) (x : Nat → Nat) (t : Nat) : ∀ S, S ≤ 8 → sm (acc q x t S) 8 = 1000 * sm x S
  | 0, _ => sm_zero 8
  | S + 1, h => by
    have e : sm (acc q x t (S + 1)) 8 = sm (fun r => acc q x t S r + x S * wtn (ten q S t) S r) 8 := rfl
    rw [e, sm_add, acc_sum q x t S (by omega), sm_mul, wtn_sum (by omega) (ten_le q S t), sm]
    omega
theorem sh_sum (q : rT) (x : Nat → Nat) : ∀ t, sm (sh q x t) 8 = 1000 ^ t * sm x 8
  | 0 => by simp [sh]
  | t + 1 => by
    rw [sh, acc_sum q _ t 8 (Nat.le_refl _), sh_sum q x t, Nat.pow_succ, ← Nat.mul_assoc, Nat.mul_comm 1000]
theorem one_sum : ∀ w, w < 8 → sm (one w) 8 = 1 := by decide +kernel
theorem sh1_sum (q : rT) {w : Nat} (hw : w < 8) (t : Nat) : sm (sh q (one w) t) 8 = 1000 ^ t := by rw [sh_sum, one_sum w hw, Nat.mul_one]
theorem not0_sum (x : Nat → Nat) : sm (not0 x) 8 + x 0 = sm x 8 := by
  simp only [sm, not0]
  simp
  omega
theorem only_le (k : Nat) (x : Nat → Nat) : sm (only k x) 8 ≤ sm x 8 := sm_le (fun i _ => by unfold only; split <;> omega)
theorem p1000 : ∀ t, t ≤ 5 → 1 ≤ 1000 ^ t ∧ 1000 ^ t ≤ 1000000000000000 := by decide +kernel
/-! ===== only kind, age, load count ===== -/
theorem acc_c {q q' : rT} (h : ten q = ten q') (x : Nat → Nat) (t : Nat) : ∀ s r, acc q x t s r = acc q' x t s r
  | 0, _ => rfl
  | s + 1, r => by rw [acc, acc, acc_c h x t s r, h]
theorem sh_c {q q' : rT} (h : ten q = ten q') (x : Nat → Nat) : ∀ t, sh q x t = sh q' x t
  | 0 => rfl
  | t + 1 => by
    rw [sh, sh, sh_c h x t]
    exact funext (acc_c h _ t 8)
theorem sv_c {q q' : rT} (h : ten q = ten q') (wo li un : Int64) (g : Nat → Int64) (t s : Nat) : ∀ r, sv q wo li un g t s r = sv q' wo li un g t s r
  | 0 => rfl
  | r + 1 => by rw [sv, sv, sv_c h wo li un g t s r, h]
theorem gg_c {q q' : rT} (h : ten q = ten q') (wo li : Int64) (sees : Prop) [Decidable sees] (w N : Nat) : ∀ k s, gg q wo li sees w N k s = gg q' wo li sees w N k s
  | 0, _ => rfl
  | k + 1, s => by
    rw [gg, gg, show gg q wo li sees w N k = gg q' wo li sees w N k from funext (gg_c h wo li sees w N k), sv_c h]
theorem dg_c {q q' : rT} (h : ten q = ten q') (h0 : q 6 0 = q' 6 0) (r : rT) (a b N : Nat) : ∀ k c s, dg q r a b N k c s = dg q' r a b N k c s
  | 0, _, _ => rfl
  | k + 1, c, s => by
    have e : ∀ c, dg q r a b N k c = dg q' r a b N k c := fun c => funext (dg_c h h0 r a b N k c)
    rw [dg, dg, h0, h]
    simp only [e]
/-- the reckoner's state: KINDS, AGES, LOAD, WHOLE -/
def oq (k a : Nat → Nat) (l w : Nat) : rT := fun y => if y = 0 then k else if y = 1 then a else if y = 6 then (fun j => if j = 0 then w else l) else fun _ => 0
def oqR (r : rT) : rT := oq (r 0) (r 1) (r 6 4) (r 6 3)
theorem ten_take (q r : rT) : ten (otake q r) = ten (oqR r) := rfl
theorem ten_row (q : rT) (g : Nat → Nat) : ten (rrow q 2 g) = ten q := rfl
theorem ten_new (q : rT) (k m l : Nat) : ten (onew q k m l) = ten (oq (fun _ => k) (fun _ => 0) l (2 ^ m - 1)) := rfl
theorem rOK.o {r : rT} (h : rOK r) (q : rT) : oOK (otake q r) := ⟨h.2.2.2.2.2.2.2.2.1, h.2.2.2.2.2.2.2.2.2.1, h.2.2.2.2.2.1, h.w⟩
theorem hbe_c {q q' : rT} (h : ten q = ten q') (x : Nat → Nat) (t : Nat) : hbe q x t = hbe q' x t := by rw [hbe, hbe, sh_c h]
