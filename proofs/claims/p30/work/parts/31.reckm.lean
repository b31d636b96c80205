/-! what a formula comes to: the values of its steps, and 0, 1 (above the largest) or 2 (below 0) -/
def rkv (τ : hS1) (s : Nat × Nat) (p : List Nat) : Int :=
  if s.1 = 0 then s.2 else if s.1 = 1 then τ.2.2.1 s.2 else if s.1 = 43 then (p.getD 1 0 : Int) + p.getD 0 0 else if s.1 = 45 then (p.getD 1 0 : Int) - p.getD 0 0
  else if s.1 = 42 then tmn (p.getD 1 0) (p.getD 0 0) else if s.1 = 115 then tmn (p.getD 0 0) (p.getD 0 0) else if s.1 = 113 then rr 2 (p.getD 0 0) τ.1 else rr 3 (p.getD 0 0) τ.1
def rkp (s : Nat × Nat) (p : List Nat) : List Nat := if s.1 < 2 then p else if s.1 = 43 ∨ s.1 = 45 ∨ s.1 = 42 then p.drop 2 else p.drop 1
def rk (τ : hS1) : List (Nat × Nat) → List Nat → List Nat → List Nat × Nat
  | [], _, vs => (vs, 0)
  | s :: r, p, vs => if rkv τ s p < 0 then (vs, 2) else if (LG : Int) < rkv τ s p then (vs, 1) else rk τ r ((rkv τ s p).toNat :: rkp s p) (vs ++ [(rkv τ s p).toNat])
def rkR (τ : hS1) (L : List (Nat × Nat)) : List Nat × Nat := rk τ L [] []
theorem tmn_le {a b : Nat} : tmn a b ≤ LG + 1 := by
  unfold tmn
  split
  · exact Nat.le_refl _
  · next h =>
    rcases Nat.eq_zero_or_pos a with q | q
    · rw [q, Nat.zero_mul]; exact Nat.zero_le _
    · have h2 : b ≤ LG / a := Nat.not_lt.mp fun z => h ⟨by omega, z⟩
      have h3 := Nat.mul_le_mul_left a h2
      have h4 := Nat.mul_div_le LG a
      omega
theorem getD_bd {p : List Nat} (h : ∀ x ∈ p, x ≤ LG) (i : Nat) : p.getD i 0 ≤ LG := by
  rcases Nat.lt_or_ge i p.length with q | q
  · exact h _ (getD_m q)
  · rw [getD_e q]; exact Nat.zero_le _
theorem rr_bd {k N ρ : Nat} (h : N ≤ LG) : rr k N ρ ≤ LG := by
  have h1 := rr_le (k := k) (N := N) (ρ := ρ)
  have h2 := sq_lt (k := k) (N := N) (by unfold LG at h; omega)
  unfold LG at h ⊢
  omega
theorem rkv_bd {τ : hS1} {s : Nat × Nat} {p : List Nat} (hc : ∀ i, i < 8 → τ.2.2.1 i ≤ LG) (hs : okP s) (hp : ∀ x ∈ p, x ≤ LG) : -(LG : Int) ≤ rkv τ s p ∧ rkv τ s p ≤ 2 * LG := by
  have h0 := getD_bd hp 0
  have h1 := getD_bd hp 1
  have t1 := tmn_le (a := p.getD 1 0) (b := p.getD 0 0)
  have t2 := tmn_le (a := p.getD 0 0) (b := p.getD 0 0)
  have r2 := rr_bd (k := 2) (ρ := τ.1) h0
  have r3 := rr_bd (k := 3) (ρ := τ.1) h0
  have hn := okP_n hs
  have e : LG = 1000000000000 := rfl
  unfold rkv
  split
  · omega
  · split
    · next q =>
      have : s.2 < 8 := by unfold okP at hs; omega
      have := hc s.2 this
      omega
    · (repeat' split) <;> omega
theorem hgt_k {s : Nat × Nat} {r : List (Nat × Nat)} {p : List Nat} (h : hgt (s :: r) p.length = some 1) : hgt r ((rkp s p).length + 1) = some 1 ∧ (¬ s.1 < 2 → 1 ≤ p.length) ∧ (s.1 = 43 ∨ s.1 = 45 ∨ s.1 = 42 → 2 ≤ p.length) := by
  rw [hgt] at h
  unfold rkp
  split at h
  · next q => rw [if_pos q]; exact ⟨h, fun z => absurd q z, fun z => by omega⟩
  · next q =>
    rw [if_neg q]
    split at h
    · next q2 =>
      rw [if_pos q2]
      split at h
      · next q3 => exact ⟨by rw [List.length_drop, show p.length - 2 + 1 = p.length - 1 by omega]; exact h, fun _ => by omega, fun _ => q3⟩
      · cases h
    · next q2 =>
      rw [if_neg q2]
      split at h
      · next q3 => exact ⟨by rw [List.length_drop, show p.length - 1 + 1 = p.length by omega]; exact h, fun _ => q3, fun z => absurd z q2⟩
      · cases h
def pilM (f : Nat → Int64) (p : List Nat) : Prop := ∀ i, i < p.length → f i = lN (p.getD (p.length - 1 - i) 0)
def valM (f : Nat → Int64) (vs : List Nat) : Prop := ∀ i, i < vs.length → f i = lN (vs.getD i 0)
theorem pilM_drop {f : Nat → Int64} {p : List Nat} (h : pilM f p) (n : Nat) : pilM f (p.drop n) := by
  intro i hi
  rw [List.length_drop] at hi ⊢
  rw [h i (by omega), List.getD_eq_getElem?_getD, List.getD_eq_getElem?_getD, List.getElem?_drop, show n + (p.length - n - 1 - i) = p.length - 1 - i by omega]
theorem pilM_rkp {f : Nat → Int64} {p : List Nat} (h : pilM f p) (s : Nat × Nat) : pilM f (rkp s p) := by
  unfold rkp
  repeat' split
  · exact h
  · exact pilM_drop h 2
  · exact pilM_drop h 1
theorem pilM_cons {f : Nat → Int64} {p : List Nat} (h : pilM f p) (v : Nat) : pilM (va_up f p.length (lN v)) (v :: p) := by
  intro i hi
  rw [List.length_cons] at hi ⊢
  by_cases e : i = p.length
  · subst e; rw [va_up_self, show p.length + 1 - 1 - p.length = 0 by omega]; rfl
  · rw [va_up_ne _ _ e, h i (by omega), show p.length + 1 - 1 - i = (p.length - 1 - i) + 1 by omega, List.getD_cons_succ]
theorem valM_app {f : Nat → Int64} {vs : List Nat} (h : valM f vs) (v : Nat) : valM (va_up f vs.length (lN v)) (vs ++ [v]) := by
  intro i hi
  rw [List.length_append] at hi
  simp only [List.length_cons, List.length_nil] at hi
  by_cases e : i = vs.length
  · subst e; rw [va_up_self, List.getD_eq_getElem?_getD, List.getElem?_append_right (Nat.le_refl _), Nat.sub_self]; rfl
  · rw [va_up_ne _ _ e, h i (by omega), List.getD_eq_getElem?_getD, List.getD_eq_getElem?_getD, List.getElem?_append_left (by omega)]
theorem rkp_bd {s : Nat × Nat} {p : List Nat} (h : ∀ x ∈ p, x ≤ LG) : (∀ x ∈ rkp s p, x ≤ LG) ∧ (rkp s p).length ≤ p.length := by
  unfold rkp
  repeat' split
  · exact ⟨h, Nat.le_refl _⟩
  · exact ⟨fun x hx => h x (List.mem_of_mem_drop hx), by rw [List.length_drop]; omega⟩
  · exact ⟨fun x hx => h x (List.mem_of_mem_drop hx), by rw [List.length_drop]; omega⟩
theorem dropn_s {L r : List (Nat × Nat)} {s : Nat × Nat} {k : Nat} (h : L.drop k = s :: r) : k < L.length ∧ L.getD k (0, 0) = s ∧ L.drop (k + 1) = r := by
  have hk : k < L.length := by
    rcases Nat.lt_or_ge k L.length with q | q
    · exact q
    · rw [List.drop_eq_nil_of_le q] at h; cases h
  rw [List.drop_eq_getElem_cons hk] at h
  obtain ⟨h1, h2⟩ := List.cons.inj h
  exact ⟨hk, by rw [List.getD_eq_getElem?_getD, List.getElem?_eq_getElem hk]; exact h1, h2⟩
theorem rk_s2 {τ : hS1} {s : Nat × Nat} {r : List (Nat × Nat)} {p vs : List Nat} (h : rkv τ s p < 0) : rk τ (s :: r) p vs = (vs, 2) := by rw [rk, if_pos h]
theorem rk_s1 {τ : hS1} {s : Nat × Nat} {r : List (Nat × Nat)} {p vs : List Nat} (h : ¬ rkv τ s p < 0) (h2 : (LG : Int) < rkv τ s p) : rk τ (s :: r) p vs = (vs, 1) := by rw [rk, if_neg h, if_pos h2]
theorem rk_s0 {τ : hS1} {s : Nat × Nat} {r : List (Nat × Nat)} {p vs : List Nat} (h : ¬ rkv τ s p < 0) (h2 : ¬ (LG : Int) < rkv τ s p) : rk τ (s :: r) p vs = rk τ r ((rkv τ s p).toNat :: rkp s p) (vs ++ [(rkv τ s p).toNat]) := by rw [rk, if_neg h, if_neg h2]
