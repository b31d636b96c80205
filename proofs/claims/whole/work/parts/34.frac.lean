/-! the continued fraction of a root: (addend, divisor, term) -/
def cfS (n : Nat) : Nat → Nat × Nat × Nat
  | 0 => (0, 1, sq 2 n)
  | i + 1 => ((cfS n i).2.1 * (cfS n i).2.2 - (cfS n i).1, (n - ((cfS n i).2.1 * (cfS n i).2.2 - (cfS n i).1) * ((cfS n i).2.1 * (cfS n i).2.2 - (cfS n i).1)) / (cfS n i).2.1,
    (sq 2 n + ((cfS n i).2.1 * (cfS n i).2.2 - (cfS n i).1)) / ((n - ((cfS n i).2.1 * (cfS n i).2.2 - (cfS n i).1) * ((cfS n i).2.1 * (cfS n i).2.2 - (cfS n i).1)) / (cfS n i).2.1))
abbrev cm (n i : Nat) : Nat := (cfS n i).1
abbrev cd (n i : Nat) : Nat := (cfS n i).2.1
abbrev ct (n i : Nat) : Nat := (cfS n i).2.2
theorem cm_s (n i : Nat) : cm n (i + 1) = cd n i * ct n i - cm n i := rfl
theorem cd_s (n i : Nat) : cd n (i + 1) = (n - cm n (i + 1) * cm n (i + 1)) / cd n i := rfl
theorem ct_s (n i : Nat) : ct n (i + 1) = (sq 2 n + cm n (i + 1)) / cd n (i + 1) := rfl
theorem ct_0 (n : Nat) : ct n 0 = (sq 2 n + cm n 0) / cd n 0 := (Nat.div_one _).symm
/-- what holds at a term -/
def cfI (n w m d t : Nat) : Prop := 1 ≤ d ∧ m ≤ w ∧ d ≤ w + m ∧ (∃ c, n = m * m + d * c) ∧ t = (w + m) / d
theorem cf_step {n w m d t : Nat} (hw : w * w < n) (hn : n < (w + 1) * (w + 1)) (h : cfI n w m d t) :
    m ≤ d * t ∧ d * t ≤ w + m ∧ (∃ m' d', m' = d * t - m ∧ d' = (n - m' * m') / d ∧ cfI n w m' d' ((w + m') / d') ∧ w < m' + d' ∧ w < m' + d ∧ m' * m' + d * d' = n) := by
  obtain ⟨h1, h2, h3, ⟨c, h4⟩, h5⟩ := h
  have hdm := Nat.div_add_mod (w + m) d
  have hml := Nat.mod_lt (w + m) (show d > 0 by omega)
  have htp : 1 ≤ t := by rw [h5]; exact Nat.div_pos h3 (by omega)
  rw [← h5] at hdm
  have hX : d * 1 ≤ d * t := Nat.mul_le_mul_left d htp
  have hmX : m ≤ d * t := by omega
  refine ⟨hmX, by omega, d * t - m, (n - (d * t - m) * (d * t - m)) / d, rfl, rfl, ?_⟩
  have e1 : m + (d * t - m) = d * t := by omega
  have e2 : d * t - m ≤ w := by omega
  have e3 : w < d * t - m + d := by omega
  have e4 : d ≤ w + (d * t - m) := by omega
  generalize d * t - m = m' at *
  have hm2 := Nat.mul_le_mul e2 e2
  have hdvd : (d : Int) ∣ ((n : Int) - m' * m') := by
    refine ⟨(c : Int) + m * t - t * m', ?_⟩
    have q1 : (m : Int) + m' = d * t := by exact_mod_cast e1
    have q2 : (n : Int) = m * m + d * c := by exact_mod_cast h4
    have q3 : (d : Int) * (c + m * t - t * m') = d * c + m * (d * t) - (d * t) * m' := by
      rw [Int.mul_sub, Int.mul_add, ← Int.mul_assoc d m t, Int.mul_comm d m, Int.mul_assoc m d t, ← Int.mul_assoc d t m']
    rw [q3, ← q1, q2, Int.mul_add, Int.add_mul]
    omega
  obtain ⟨c', hc'⟩ : ∃ c', n = m' * m' + d * c' := by
    have q : ((n : Int) - m' * m') = ((n - m' * m' : Nat) : Int) := by
      rw [Int.ofNat_sub (by omega)]; simp
    rw [q, Int.natCast_dvd_natCast] at hdvd
    obtain ⟨c', h⟩ := hdvd
    exact ⟨c', by omega⟩
  have hd' : (n - m' * m') / d = c' := by
    rw [hc', Nat.add_sub_cancel_left, Nat.mul_div_cancel_left _ (by omega)]
  rw [hd']
  have hc1 : 1 ≤ c' := by
    rcases Nat.eq_zero_or_pos c' with q | q
    · rw [q, Nat.mul_zero] at hc'; omega
    · exact q
  obtain ⟨u, rfl⟩ : ∃ u, w = u + m' := ⟨w - m', by omega⟩
  have hW1 : (u + m') * (u + m') = u * u + 2 * (u * m') + m' * m' := by
    rw [Nat.add_mul, Nat.mul_add, Nat.mul_add, Nat.mul_comm m' u]; omega
  have hW2 : (u + m' + 1) * (u + m' + 1) = (u + m') * (u + m') + 2 * (u + m') + 1 := by
    rw [Nat.add_mul, Nat.mul_add, Nat.mul_one, Nat.one_mul]; omega
  have hc2 : c' ≤ u + m' + m' := by
    rcases Nat.lt_or_ge (u + m' + m') c' with q | q
    · exfalso
      have q1 := Nat.mul_le_mul (show u + 1 ≤ d by omega) (show u + m' + m' + 1 ≤ c' by omega)
      have q2 : (u + 1) * (u + m' + m' + 1) = u * u + 2 * (u * m') + 2 * u + 2 * m' + 1 := by
        rw [Nat.add_mul, Nat.mul_add, Nat.mul_add, Nat.mul_add, Nat.mul_one, Nat.one_mul]; omega
      omega
    · exact q
  have hc3 : u + m' < m' + c' := by
    rcases Nat.lt_or_ge u c' with q | q
    · omega
    · exfalso
      have q1 := Nat.mul_le_mul_left d q
      have q2 : u * (u + 2 * m') = u * u + 2 * (u * m') := by rw [Nat.mul_add, Nat.mul_left_comm]
      have q3 : d ≤ u + 2 * m' := by omega
      have q4 := Nat.mul_le_mul_right u q3
      rw [Nat.mul_comm (u + 2 * m') u, q2] at q4
      omega
  exact ⟨⟨hc1, by omega, hc2, ⟨d, by rw [Nat.mul_comm c' d]; exact hc'⟩, rfl⟩, hc3, e3, hc'.symm⟩
theorem cf_inv {n : Nat} (hw : sq 2 n * sq 2 n < n) (hn : n < (sq 2 n + 1) * (sq 2 n + 1)) (h1 : 1 ≤ sq 2 n) : ∀ i, cfI n (sq 2 n) (cm n i) (cd n i) (ct n i)
  | 0 => ⟨Nat.le_refl _, Nat.zero_le _, h1, ⟨n, by show n = 0 * 0 + 1 * n; omega⟩, ct_0 n⟩
  | i + 1 => by
    obtain ⟨-, -, m', d', e1, e2, h, -⟩ := cf_step hw hn (cf_inv hw hn h1 i)
    subst e1
    subst e2
    exact h
theorem cf_all {n : Nat} (hw : sq 2 n * sq 2 n < n) (hn : n < (sq 2 n + 1) * (sq 2 n + 1)) (h1 : 1 ≤ sq 2 n) (i : Nat) : cm n i ≤ cd n i * ct n i ∧ cd n i * ct n i ≤ sq 2 n + cm n i ∧ sq 2 n < cm n (i + 1) + cd n (i + 1) ∧ cm n (i + 1) * cm n (i + 1) + cd n i * cd n (i + 1) = n := by
  obtain ⟨a, b, m', d', e1, e2, h, g1, g2, g3⟩ := cf_step hw hn (cf_inv hw hn h1 i)
  subst e1
  subst e2
  exact ⟨a, b, g1, g3⟩
theorem cf_one {n : Nat} (hw : sq 2 n * sq 2 n < n) (hn : n < (sq 2 n + 1) * (sq 2 n + 1)) (h1 : 1 ≤ sq 2 n) (i : Nat) : ct n (i + 1) = 2 * sq 2 n ↔ cd n (i + 1) = 1 := by
  obtain ⟨a, b, c, -, e⟩ := cf_inv hw hn h1 (i + 1)
  obtain ⟨-, -, g, -⟩ := cf_all hw hn h1 i
  constructor
  · intro q
    rw [e] at q
    have k := Nat.div_mul_le_self (sq 2 n + cm n (i + 1)) (cd n (i + 1))
    rw [q] at k
    rcases Nat.lt_or_ge (cd n (i + 1)) 2 with z | z
    · omega
    · have := Nat.mul_le_mul_left (2 * sq 2 n) z
      omega
  · intro q
    rw [e, q, Nat.div_one]
    omega
theorem cf_inj {n : Nat} (hw : sq 2 n * sq 2 n < n) (hn : n < (sq 2 n + 1) * (sq 2 n + 1)) (h1 : 1 ≤ sq 2 n) (i j : Nat) (hm : cm n (i + 2) = cm n (j + 2)) (hd : cd n (i + 2) = cd n (j + 2)) : cm n (i + 1) = cm n (j + 1) ∧ cd n (i + 1) = cd n (j + 1) := by
  obtain ⟨a1, -, -, a2⟩ := cf_all hw hn h1 (i + 1)
  obtain ⟨b1, -, -, b2⟩ := cf_all hw hn h1 (j + 1)
  obtain ⟨-, -, c1, -⟩ := cf_all hw hn h1 i
  obtain ⟨-, -, d1, -⟩ := cf_all hw hn h1 j
  obtain ⟨-, p1, -⟩ := cf_inv hw hn h1 (i + 1)
  obtain ⟨-, p2, -⟩ := cf_inv hw hn h1 (j + 1)
  obtain ⟨q0, -⟩ := cf_inv hw hn h1 (j + 2)
  have e1 := cm_s n (i + 1)
  have e2 := cm_s n (j + 1)
  rw [hm, hd] at a2
  have hdd : cd n (i + 1) = cd n (j + 1) := Nat.eq_of_mul_eq_mul_right q0 (show cd n (i + 1) * cd n (j + 2) = cd n (j + 1) * cd n (j + 2) by have b2 : cm n (j + 2) * cm n (j + 2) + cd n (j + 1) * cd n (j + 2) = n := b2; have a2 : cm n (j + 2) * cm n (j + 2) + cd n (i + 1) * cd n (j + 2) = n := a2; omega)
  refine ⟨?_, hdd⟩
  have hm2 : cd n (i + 1) * ct n (i + 1) - cm n (i + 1) = cd n (j + 1) * ct n (j + 1) - cm n (j + 1) := by rw [← e1, ← e2]; exact hm
  rw [hdd] at hm2 a1 c1
  rcases Nat.lt_trichotomy (ct n (i + 1)) (ct n (j + 1)) with z | z | z
  · have := Nat.mul_le_mul_left (cd n (j + 1)) z
    rw [Nat.succ_eq_add_one, Nat.mul_add, Nat.mul_one] at this
    omega
  · rw [z] at hm2 a1; omega
  · have := Nat.mul_le_mul_left (cd n (j + 1)) z
    rw [Nat.succ_eq_add_one, Nat.mul_add, Nat.mul_one] at this
    omega
theorem cf_back {n : Nat} (hw : sq 2 n * sq 2 n < n) (hn : n < (sq 2 n + 1) * (sq 2 n + 1)) (h1 : 1 ≤ sq 2 n) : ∀ (i k : Nat), cm n (i + 1) = cm n (i + k + 1) → cd n (i + 1) = cd n (i + k + 1) → cm n 1 = cm n (k + 1) ∧ cd n 1 = cd n (k + 1)
  | 0, k, a, b => by rw [Nat.zero_add] at a b; rw [Nat.zero_add] at a b; exact ⟨a, b⟩
  | i + 1, k, a, b => by
    rw [show i + 1 + k + 1 = (i + k) + 2 by omega] at a b
    obtain ⟨c, d⟩ := cf_inj hw hn h1 i (i + k) a b
    exact cf_back hw hn h1 i k c d
theorem pigeon : ∀ (B : Nat) (f : Nat → Nat), (∀ i, i ≤ B → f i < B) → ∃ i j, i < j ∧ j ≤ B ∧ f i = f j
  | 0, f, h => absurd (h 0 (Nat.le_refl _)) (Nat.not_lt_zero _)
  | B + 1, f, h => by
    by_cases hv : ∃ i, i ≤ B ∧ f i = f (B + 1)
    · obtain ⟨i, hi, he⟩ := hv
      exact ⟨i, B + 1, by omega, Nat.le_refl _, he⟩
    · have hne : ∀ i, i ≤ B → f i ≠ f (B + 1) := fun i hi q => hv ⟨i, hi, q⟩
      have hB := h (B + 1) (Nat.le_refl _)
      obtain ⟨i, j, hij, hj, he⟩ := pigeon B (fun i => if f i = B then f (B + 1) else f i) (fun i hi => by
        show (if f i = B then f (B + 1) else f i) < B
        have h1 := h i (by omega)
        have h2 := hne i hi
        split
        · omega
        · omega)
      have h1 := hne i (by omega)
      have h2 := hne j hj
      have he : (if f i = B then f (B + 1) else f i) = (if f j = B then f (B + 1) else f j) := he
      split at he <;> split at he
      · exact ⟨i, j, hij, by omega, by omega⟩
      · exact absurd he.symm h2
      · exact absurd he h1
      · exact ⟨i, j, hij, by omega, he⟩
theorem cf_w {n : Nat} (h : n ≤ 100000) : sq 2 n ≤ 316 ∧ sq 2 n * sq 2 n ≤ n ∧ n < (sq 2 n + 1) * (sq 2 n + 1) := by
  obtain ⟨a, b⟩ := sq2_pw (N := n) (by omega)
  have := sq2_le (N := n) (R := 317) (by omega) (by omega)
  exact ⟨by omega, a, b⟩
theorem cf_w1 {n : Nat} (hn : n < (sq 2 n + 1) * (sq 2 n + 1)) (hw : sq 2 n * sq 2 n < n) : 1 ≤ sq 2 n := by
  rcases Nat.eq_zero_or_pos (sq 2 n) with q | q
  · rw [q] at hn hw; omega
  · exact q
/-- a period there is, and it is not too long -/
theorem cf_per {n : Nat} (h : n ≤ 100000) (hw : sq 2 n * sq 2 n < n) : ∃ p, 1 ≤ p ∧ p ≤ 200661 ∧ cd n p = 1 := by
  obtain ⟨w0, -, hn⟩ := cf_w h
  have h1 := cf_w1 hn hw
  have hbd : ∀ i, cm n i ≤ 316 ∧ cd n i ≤ 632 := fun i => by
    obtain ⟨a, b, c, -⟩ := cf_inv hw hn h1 i
    omega
  obtain ⟨i, j, hij, hj, he⟩ := pigeon 200661 (fun i => cm n (i + 1) * 633 + cd n (i + 1)) (fun i _ => by
    show cm n (i + 1) * 633 + cd n (i + 1) < 200661
    have := hbd (i + 1)
    omega)
  have he : cm n (i + 1) * 633 + cd n (i + 1) = cm n (j + 1) * 633 + cd n (j + 1) := he
  have b1 := hbd (i + 1)
  have b2 := hbd (j + 1)
  obtain ⟨k, rfl⟩ : ∃ k, j = i + k := ⟨j - i, by omega⟩
  obtain ⟨c1, c2⟩ := cf_back hw hn h1 i k (by omega) (by omega)
  refine ⟨k, by omega, by omega, ?_⟩
  obtain ⟨-, -, -, g1⟩ := cf_all hw hn h1 0
  obtain ⟨-, -, -, g2⟩ := cf_all hw hn h1 k
  obtain ⟨p, -⟩ := cf_inv hw hn h1 (k + 1)
  rw [Nat.zero_add, c1, c2, show cd n 0 = 1 from rfl] at g1
  exact Nat.eq_of_mul_eq_mul_right p (by omega)
theorem cf_least {n : Nat} (h : n ≤ 100000) (hw : sq 2 n * sq 2 n < n) : ∃ p, (1 ≤ p ∧ p ≤ 200661 ∧ cd n p = 1) ∧ ∀ q, 1 ≤ q → q < p → cd n q ≠ 1 := by
  have g : ∀ (k p : Nat), p ≤ k → 1 ≤ p → p ≤ 200661 → cd n p = 1 → ∃ p, (1 ≤ p ∧ p ≤ 200661 ∧ cd n p = 1) ∧ ∀ q, 1 ≤ q → q < p → cd n q ≠ 1 := by
    intro k
    induction k with
    | zero => intro p a b; omega
    | succ k ih =>
      intro p a b c d
      by_cases e : ∃ q, 1 ≤ q ∧ q < p ∧ cd n q = 1
      · obtain ⟨q, q1, q2, q3⟩ := e
        exact ih q (by omega) q1 (by omega) q3
      · exact ⟨p, ⟨b, c, d⟩, fun q q1 q2 q3 => e ⟨q, q1, q2, q3⟩⟩
  obtain ⟨p, a, b, c⟩ := cf_per h hw
  exact g p p (Nat.le_refl _) a b c

noncomputable def perN (n : Nat) : Nat := Classical.epsilon (fun p => (1 ≤ p ∧ p ≤ 200661 ∧ cd n p = 1) ∧ ∀ q, 1 ≤ q → q < p → cd n q ≠ 1)
theorem perN_is {n : Nat} (h : n ≤ 100000) (hw : sq 2 n * sq 2 n < n) : (1 ≤ perN n ∧ perN n ≤ 200661 ∧ cd n (perN n) = 1) ∧ ∀ q, 1 ≤ q → q < perN n → cd n q ≠ 1 := Classical.epsilon_spec (cf_least h hw)
