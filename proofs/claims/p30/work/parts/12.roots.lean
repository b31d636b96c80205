/-! roots of whole numbers, bit by bit: the numbers that class and reference share -/
def pw (k x : Nat) : Nat := if k = 3 then x * x * x else x * x
theorem pw_mono {k x y : Nat} (h : x ≤ y) : pw k x ≤ pw k y := by
  unfold pw
  split
  · exact Nat.mul_le_mul (Nat.mul_le_mul h h) h
  · exact Nat.mul_le_mul h h
theorem pw_lt {k x y : Nat} (h : x < y) : pw k x < pw k y := by
  have h2 : x * x < y * y := Nat.mul_lt_mul_of_lt_of_le h (Nat.le_of_lt h) (by omega)
  unfold pw
  split
  · exact Nat.mul_lt_mul_of_lt_of_le h2 (Nat.le_of_lt h) (by omega)
  · exact h2
theorem pw_dbl (k x : Nat) : pw k (2 * x) ≤ 8 * pw k x := by
  have e : 2 * x * (2 * x) = 4 * (x * x) := by rw [Nat.mul_mul_mul_comm]
  unfold pw
  split
  · rw [e, show 4 * (x * x) * (2 * x) = 4 * 2 * (x * x * x) from Nat.mul_mul_mul_comm 4 (x * x) 2 x]
    exact Nat.le_refl _
  · rw [e]; omega
theorem pw_one (k : Nat) : pw k 1 = 1 := by unfold pw; split <;> rfl
theorem pw_self {k x : Nat} : x ≤ pw k x := by
  unfold pw
  have h1 : x ≤ x * x := by
    rcases Nat.eq_zero_or_pos x with h | h
    · rw [h]; exact Nat.le_refl _
    · exact Nat.le_mul_of_pos_left x h
  split
  · rcases Nat.eq_zero_or_pos x with h | h
    · rw [h]; exact Nat.le_refl _
    · exact Nat.le_trans h1 (Nat.le_mul_of_pos_right _ h)
  · exact h1
def fe (k N : Nat) : Nat → Nat → Nat
  | 0, j => j
  | f + 1, j => if pw k (2 * 2 ^ j) ≤ N then fe k N f (j + 1) else j
def nb (k N : Nat) : Nat := if N = 0 then 0 else fe k N 30 0 + 1
def bv : Nat → Nat
  | 0 => 0
  | j + 1 => 2 ^ j
def rt (k N : Nat) : Nat → Nat → Nat
  | 0, r => r
  | j + 1, r => rt k N j (if pw k (r + 2 ^ j) ≤ N then r + 2 ^ j else r)
def sq (k N : Nat) : Nat := rt k N (nb k N) 0
theorem bv_half (j : Nat) : bv (j + 1) / 2 = bv j := by
  cases j with
  | zero => rfl
  | succ j => show 2 ^ (j + 1) / 2 = 2 ^ j; rw [Nat.pow_succ]; omega
theorem bv_pos {j : Nat} : 0 < bv (j + 1) := Nat.pow_pos (by decide)
theorem two_pow_succ (j : Nat) : 2 * 2 ^ j = 2 ^ (j + 1) := by rw [Nat.pow_succ]; omega
/-- where the first bit ends -/
theorem fe_spec {k N : Nat} (hN : 0 < N) : ∀ (f j : Nat), pw k (2 ^ j) ≤ N → pw k (2 ^ fe k N f j) ≤ N ∧ j ≤ fe k N f j ∧ fe k N f j ≤ j + f ∧ (fe k N f j < j + f → N < pw k (2 * 2 ^ fe k N f j))
  | 0, j, h => ⟨h, Nat.le_refl _, Nat.le_refl _, fun z => absurd z (Nat.lt_irrefl _)⟩
  | f + 1, j, h => by
    unfold fe
    split
    · next hc =>
      rw [two_pow_succ] at hc
      obtain ⟨a, b, c, d⟩ := fe_spec hN f (j + 1) hc
      exact ⟨a, by omega, by omega, fun z => d (by omega)⟩
    · next hc => exact ⟨h, Nat.le_refl _, by omega, fun _ => Nat.not_le.mp hc⟩
theorem fe_top {k N : Nat} (h0 : 0 < N) (hN : N < 2 ^ 60) : pw k (2 ^ fe k N 30 0) ≤ N ∧ fe k N 30 0 < 30 ∧ N < pw k (2 * 2 ^ fe k N 30 0) := by
  obtain ⟨a, b, c, d⟩ := fe_spec (k := k) h0 30 0 (by rw [Nat.pow_zero, pw_one]; exact h0)
  have h1 : fe k N 30 0 < 30 := by
    rcases Nat.lt_or_ge (fe k N 30 0) 30 with h | h
    · exact h
    · exfalso
      have h2 : pw k (2 ^ 30) ≤ N := Nat.le_trans (pw_mono (Nat.pow_le_pow_right (by decide) h)) a
      have h3 : 2 ^ 60 ≤ pw k (2 ^ 30) := by unfold pw; split <;> decide
      omega
  exact ⟨a, h1, d (by omega)⟩
/-- the root so far and what is left of the bits stay under the double first bit -/
theorem rt_le {k N : Nat} : ∀ (j r : Nat), rt k N j r ≤ r + (2 ^ j - 1)
  | 0, r => Nat.le_add_right _ _
  | j + 1, r => by
    unfold rt
    have h := rt_le (k := k) (N := N) j (if pw k (r + 2 ^ j) ≤ N then r + 2 ^ j else r)
    have hp : 0 < 2 ^ j := Nat.pow_pos (by decide)
    rw [Nat.pow_succ]
    split at h <;> rename_i hc <;> simp only [hc, if_true, if_false] at * <;> omega
theorem rt_spec {k N : Nat} : ∀ (j r : Nat), pw k r ≤ N → N < pw k (r + 2 ^ j) → pw k (rt k N j r) ≤ N ∧ N < pw k (rt k N j r + 1)
  | 0, r, h1, h2 => ⟨h1, h2⟩
  | j + 1, r, h1, h2 => by
    unfold rt
    split
    · next hc =>
      refine rt_spec j _ hc ?_
      rw [Nat.pow_succ] at h2
      rw [show r + 2 ^ j + 2 ^ j = r + 2 ^ j * 2 by omega]; exact h2
    · next hc => exact rt_spec j r h1 (Nat.not_le.mp hc)
theorem sq_spec {k N : Nat} (hN : N < 2 ^ 60) : pw k (sq k N) ≤ N ∧ N < pw k (sq k N + 1) := by
  unfold sq nb
  split
  · next h =>
    subst h
    have : pw k 1 = 1 := pw_one k
    refine ⟨?_, ?_⟩
    · show pw k 0 ≤ 0; unfold pw; split <;> exact Nat.le_refl _
    · show 0 < pw k (0 + 1); rw [Nat.zero_add, this]; decide
  · next h =>
    obtain ⟨a, b, c⟩ := fe_top (k := k) (by omega : 0 < N) hN
    refine rt_spec _ 0 ?_ ?_
    · have : pw k 0 = 0 := by unfold pw; split <;> rfl
      rw [this]; exact Nat.zero_le _
    · rw [Nat.zero_add, ← two_pow_succ]; exact c
theorem sq_uniq {k N r : Nat} (hN : N < 2 ^ 60) (h1 : pw k r ≤ N) (h2 : N < pw k (r + 1)) : sq k N = r := by
  obtain ⟨a, b⟩ := sq_spec (k := k) hN
  rcases Nat.lt_trichotomy (sq k N) r with h | h | h
  · exfalso
    have := pw_mono (k := k) (show sq k N + 1 ≤ r by omega)
    omega
  · exact h
  · exfalso
    have := pw_mono (k := k) (show r + 1 ≤ sq k N by omega)
    omega
theorem sq_lt {k N : Nat} (hN : N < 2 ^ 60) : sq k N < 2 ^ 30 := by
  rcases Nat.lt_or_ge (sq k N) (2 ^ 30) with h | h
  · exact h
  · exfalso
    have h1 := pw_mono (k := k) h
    have h2 : 2 ^ 60 ≤ pw k (2 ^ 30) := by unfold pw; split <;> decide
    have h3 := (sq_spec (k := k) hN).1
    omega
/-- whether the root is nearer to the next one -/
def near (k N : Nat) : Bool := if k = 3 then decide (pw 3 (2 * sq 3 N + 1) < 8 * N) else decide (sq k N < N - pw k (sq k N))
/-- what a kind's root is by ROUND -/
def rr (k N ρ : Nat) : Nat :=
  if ρ = 2 then (if pw k (sq k N) < N then sq k N + 1 else sq k N)
  else if ρ = 1 then (if near k N = true then sq k N + 1 else sq k N)
  else sq k N
theorem rr_le {k N ρ : Nat} : rr k N ρ ≤ sq k N + 1 := by
  unfold rr
  repeat' split
  all_goals omega
theorem rr_2t {k N ρ : Nat} (h : ρ = 2) (h2 : pw k (sq k N) < N) : rr k N ρ = sq k N + 1 := by rw [rr, if_pos h, if_pos h2]
theorem rr_2f {k N ρ : Nat} (h : ρ = 2) (h2 : ¬ pw k (sq k N) < N) : rr k N ρ = sq k N := by rw [rr, if_pos h, if_neg h2]
theorem rr_1t {k N ρ : Nat} (h : ρ = 1) (h2 : near k N = true) : rr k N ρ = sq k N + 1 := by rw [rr, if_neg (by omega), if_pos h, if_pos h2]
theorem rr_1f {k N ρ : Nat} (h : ρ = 1) (h2 : near k N = false) : rr k N ρ = sq k N := by rw [rr, if_neg (by omega), if_pos h, if_neg (by rw [h2]; decide)]
theorem rr_0 {k N ρ : Nat} (h : ¬ ρ = 1) (h2 : ¬ ρ = 2) : rr k N ρ = sq k N := by rw [rr, if_neg h2, if_neg h]
theorem near_3t {k N : Nat} (h : k = 3) (h2 : pw 3 (2 * sq k N + 1) < 8 * N) : near k N = true := by subst h; rw [near, if_pos rfl]; exact decide_eq_true h2
theorem near_3f {k N : Nat} (h : k = 3) (h2 : ¬ pw 3 (2 * sq k N + 1) < 8 * N) : near k N = false := by subst h; rw [near, if_pos rfl]; exact decide_eq_false h2
theorem near_2t {k N : Nat} (h : ¬ k = 3) (h2 : sq k N < N - pw k (sq k N)) : near k N = true := by rw [near, if_neg h]; exact decide_eq_true h2
theorem near_2f {k N : Nat} (h : ¬ k = 3) (h2 : ¬ sq k N < N - pw k (sq k N)) : near k N = false := by rw [near, if_neg h]; exact decide_eq_false h2
/-! longs as numbers -/
theorem lN_le' {a b : Nat} (ha : a < 2 ^ 63) (hb : b < 2 ^ 63) : lN a ≤ lN b ↔ a ≤ b := pk_lLE ha hb
theorem lN_lt' {a b : Nat} (ha : a < 2 ^ 63) (hb : b < 2 ^ 63) : lN a < lN b ↔ a < b := pk_lLT ha hb
theorem lN_eq' {a b : Nat} (ha : a < 2 ^ 63) (hb : b < 2 ^ 63) : lN a = lN b ↔ a = b := pk_lEQ ha hb
theorem lN_div2 {a : Nat} (ha : a < 2 ^ 63) : lN a / 2 = lN (a / 2) := pk_lDiv (b := 2) ha (by decide) (by decide)
theorem nb_bd {k N : Nat} (hN : N < 2 ^ 60) : pw k (2 ^ nb k N) < 2 ^ 63 := by
  unfold nb
  split
  · rw [Nat.pow_zero, pw_one]; decide
  · next h =>
    have h1 := (fe_top (k := k) (by omega : 0 < N) hN).1
    have h2 := pw_dbl k (2 ^ fe k N 30 0)
    rw [two_pow_succ] at h2
    omega
theorem nb_le {k N : Nat} (hN : N < 2 ^ 60) : nb k N ≤ 30 := by
  unfold nb
  split
  · omega
  · next h => have h1 := (fe_top (k := k) (by omega : 0 < N) hN).2.1; omega
theorem sq3_lt {N : Nat} (hN : N < 2 ^ 60) : sq 3 N < 2 ^ 20 := by
  rcases Nat.lt_or_ge (sq 3 N) (2 ^ 20) with h | h
  · exact h
  · exfalso
    have h1 := pw_mono (k := 3) h
    have h2 : pw 3 (2 ^ 20) = 2 ^ 60 := by decide
    have h3 := (sq_spec (k := 3) hN).1
    omega
theorem pw3_big {k N : Nat} (hk : k = 3) (hN : N < 2 ^ 60) : pw 3 (2 * sq k N + 1) < 2 ^ 63 := by
  subst hk
  have h1 := sq3_lt hN
  have h2 := pw_lt (k := 3) (show 2 * sq 3 N + 1 < 2 ^ 21 by omega)
  have h3 : pw 3 (2 ^ 21) = 2 ^ 63 := by decide
  omega
/-- what there is behind a bit: w 0 the bit, 1 whether it is taken, 2 the root so far, 3 what is left -/
def bsel (w b t r l : Nat) : Nat := if w = 0 then b else if w = 1 then t else if w = 2 then r else l
def bh (k N w : Nat) : Nat → Nat → Int → Option Nat
  | 0, _, _ => none
  | j + 1, r, s => if s = 0 then some (bsel w (2 ^ j) (if pw k (r + 2 ^ j) ≤ N then 1 else 0) (if pw k (r + 2 ^ j) ≤ N then r + 2 ^ j else r) (N - pw k (if pw k (r + 2 ^ j) ≤ N then r + 2 ^ j else r))) else bh k N w j (if pw k (r + 2 ^ j) ≤ N then r + 2 ^ j else r) (s - 1)
theorem lN_0 : lN 0 = 0 := rfl
theorem lN_le0 {a : Nat} (ha : a < 2 ^ 63) : lN a ≤ 0 ↔ a = 0 := by
  rw [← lN_0, lN_le' ha (by decide)]; omega
theorem lN_halfbv {j : Nat} (hj : j ≤ 60) : lN (bv (j + 1)) / 2 = lN (bv j) := by
  have h : 2 ^ j ≤ 2 ^ 60 := Nat.pow_le_pow_right (by decide) hj
  rw [lN_div2 (by show 2 ^ j < _; omega), bv_half]
