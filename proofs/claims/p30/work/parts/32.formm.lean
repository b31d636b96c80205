def lastV (R : List Nat × Nat) : Nat := R.1.getD (R.1.length - 1) 0
def rF (τ : hS1) (a : Int32) : List Nat × Nat := rkR τ (gF τ a)
noncomputable def sp_value (σ : hSt) (a : Int32) : Int64 := spQ (isF σ.1 a) (if (rF σ.1 a).2 = 0 then lN (lastV (rF σ.1 a)) else -5) (-1)
noncomputable def sp_assign (σ : hSt) (c a : Int32) : Int64 × hSt := spQ ((0 ≤ c.toInt ∧ c.toInt ≤ 7) ∧ isF σ.1 a) (if (rF σ.1 a).2 = 0 then (lN (lastV (rF σ.1 a)), recd σ (σ.1.1, σ.1.2.1, va_up σ.1.2.2.1 c.toInt.toNat (lastV (rF σ.1 a)), σ.1.2.2.2)) else (-5, σ)) (-1, σ)
/-- a cell set again and again -/
def stl (c : Nat) (L : List (Nat × Nat)) : Nat → hS1 → Nat × hS1
  | 0, τ => (0, τ)
  | f + 1, τ => if ¬ (rkR τ L).2 = 0 then (0, τ) else if lastV (rkR τ L) = τ.2.2.1 c then (1, τ) else
    ((stl c L f (τ.1, τ.2.1, va_up τ.2.2.1 c (lastV (rkR τ L)), τ.2.2.2)).1 + 1, (stl c L f (τ.1, τ.2.1, va_up τ.2.2.1 c (lastV (rkR τ L)), τ.2.2.2)).2)
noncomputable def sp_settle (σ : hSt) (c a t : Int32) : Int32 × hSt := spQ ((0 ≤ c.toInt ∧ c.toInt ≤ 7) ∧ isF σ.1 a) (spQ (1 ≤ t.toInt ∧ t.toInt ≤ 100) (nI (stl c.toInt.toNat (gF σ.1 a) t.toInt.toNat σ.1).1, recd σ (stl c.toInt.toNat (gF σ.1 a) t.toInt.toNat σ.1).2) (-2, σ)) (-1, σ)
noncomputable def sp_ofFormula (σ : hSt) (a w : Int32) : Int32 := spQ (isF σ.1 a) (if w.toInt = 0 then nI (gF σ.1 a).length else if w.toInt = 1 then cOf (gF σ.1 a) (gF σ.1 a).length else if w.toInt = 2 then nI (rF σ.1 a).2 else if w.toInt = 3 then (if (rF σ.1 a).2 = 0 then -6 else nI (rF σ.1 a).1.length) else if w.toInt = 4 then nI (rOf (gF σ.1 a) (gF σ.1 a).length) else -2) (-1)
noncomputable def sp_stepValue (σ : hSt) (a s : Int32) : Int64 := spQ (isF σ.1 a ∧ 0 ≤ s.toInt ∧ s.toInt ≤ ((gF σ.1 a).length : Int) - 1) (if s.toInt.toNat < (rF σ.1 a).1.length then lN ((rF σ.1 a).1.getD s.toInt.toNat 0) else -5) (-1)
theorem rk_bd {τ : hS1} : ∀ (r : List (Nat × Nat)) (p vs : List Nat), (∀ x ∈ vs, x ≤ LG) → ∀ x ∈ (rk τ r p vs).1, x ≤ LG
  | [], p, vs, h => h
  | s :: r, p, vs, h => by
    by_cases h0 : rkv τ s p < 0
    · rw [rk_s2 h0]; exact h
    · by_cases h1 : (LG : Int) < rkv τ s p
      · rw [rk_s1 h0 h1]; exact h
      · rw [rk_s0 h0 h1]
        refine rk_bd r _ _ fun x hx => ?_
        rcases List.mem_append.mp hx with q | q
        · exact h x q
        · rw [List.mem_singleton.mp q]; omega
theorem rk_len {τ : hS1} : ∀ (r : List (Nat × Nat)) (p vs : List Nat), (rk τ r p vs).1.length ≤ vs.length + r.length ∧ ((rk τ r p vs).2 = 0 → (rk τ r p vs).1.length = vs.length + r.length) ∧ (rk τ r p vs).2 ≤ 2
  | [], p, vs => ⟨Nat.le_refl _, fun _ => rfl, Nat.zero_le _⟩
  | s :: r, p, vs => by
    by_cases h0 : rkv τ s p < 0
    · rw [rk_s2 h0]; exact ⟨by show vs.length ≤ _; omega, fun q => (by cases q), Nat.le_refl _⟩
    · by_cases h1 : (LG : Int) < rkv τ s p
      · rw [rk_s1 h0 h1]; exact ⟨by show vs.length ≤ _; omega, fun q => (by cases q), (by show 1 ≤ 2; decide)⟩
      · rw [rk_s0 h0 h1]
        obtain ⟨a, b, c⟩ := rk_len (τ := τ) r ((rkv τ s p).toNat :: rkp s p) (vs ++ [(rkv τ s p).toNat])
        rw [List.length_append] at a b
        simp only [List.length_cons, List.length_nil] at a b ⊢
        exact ⟨by omega, fun q => by rw [b q]; omega, c⟩
theorem lastV_bd {τ : hS1} {L : List (Nat × Nat)} : lastV (rkR τ L) ≤ LG := getD_bd (rk_bd L [] [] (fun x hx => absurd hx List.not_mem_nil)) _
theorem ok1_cell {τ : hS1} (h : ok1 τ) {c v : Nat} (hv : v ≤ LG) : ok1 (τ.1, τ.2.1, va_up τ.2.2.1 c v, τ.2.2.2) := by
  refine ⟨h.1, h.2.1, fun i hi => ?_, h.2.2.2⟩
  show va_up τ.2.2.1 c v i ≤ LG
  unfold va_up
  split
  · exact hv
  · exact h.2.2.1 i hi
theorem stl_ok {c : Nat} {L : List (Nat × Nat)} : ∀ (f : Nat) (τ : hS1), ok1 τ → ok1 (stl c L f τ).2 ∧ (stl c L f τ).1 ≤ f ∧ (stl c L f τ).2.2.2.2 = τ.2.2.2
  | 0, τ, h => ⟨h, Nat.le_refl _, rfl⟩
  | f + 1, τ, h => by
    by_cases h0 : (rkR τ L).2 = 0
    · by_cases h1 : lastV (rkR τ L) = τ.2.2.1 c
      · rw [stl, if_neg (not_not_intro h0), if_pos h1]; exact ⟨h, by show 1 ≤ _; omega, rfl⟩
      · rw [stl, if_neg (not_not_intro h0), if_neg h1]
        obtain ⟨a, b, d⟩ := stl_ok (c := c) (L := L) f _ (ok1_cell h (c := c) (lastV_bd (τ := τ) (L := L)))
        exact ⟨a, by show _ + 1 ≤ f + 1; omega, d⟩
    · rw [stl, if_pos h0]; exact ⟨h, Nat.zero_le _, rfl⟩
theorem stl_0 {c : Nat} {L : List (Nat × Nat)} {f : Nat} {τ : hS1} (h : ¬ (rkR τ L).2 = 0) : stl c L (f + 1) τ = (0, τ) := by rw [stl, if_pos h]
theorem stl_1 {c : Nat} {L : List (Nat × Nat)} {f : Nat} {τ : hS1} (h : (rkR τ L).2 = 0) (h1 : lastV (rkR τ L) = τ.2.2.1 c) : stl c L (f + 1) τ = (1, τ) := by rw [stl, if_neg (not_not_intro h), if_pos h1]
theorem stl_n {c : Nat} {L : List (Nat × Nat)} {f : Nat} {τ : hS1} (h : (rkR τ L).2 = 0) (h1 : ¬ lastV (rkR τ L) = τ.2.2.1 c) : stl c L (f + 1) τ = ((stl c L f (τ.1, τ.2.1, va_up τ.2.2.1 c (lastV (rkR τ L)), τ.2.2.2)).1 + 1, (stl c L f (τ.1, τ.2.1, va_up τ.2.2.1 c (lastV (rkR τ L)), τ.2.2.2)).2) := by rw [stl, if_neg (not_not_intro h), if_neg h1]
