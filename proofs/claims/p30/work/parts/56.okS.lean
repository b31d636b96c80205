/-! the state stays a good one -/
theorem okS_set {σ : hSt} (ho : okS σ) (a b : Int32) : okS (sp_set σ a b).2 := by
  unfold sp_set
  by_cases h : ((0 ≤ a.toInt ∧ a.toInt ≤ 1) ∧ 0 ≤ b.toInt ∧ b.toInt ≤ (if a.toInt = 0 then 2 else 6))
  · rw [spQ_t h]
    by_cases h0 : a.toInt = 0
    · rw [if_pos h0] at h ⊢
      exact okS_recd ho ⟨by show b.toInt.toNat ≤ 2; omega, ho.1.2⟩
    · rw [if_neg h0] at h ⊢
      exact okS_recd ho ⟨ho.1.1, by show b.toInt.toNat ≤ 6; omega, ho.1.2.2⟩
  · rw [spQ_f h]; exact ho
theorem okS_setCell {σ : hSt} (ho : okS σ) (c : Int32) (v : Int64) : okS (sp_setCell σ c v).2 := by
  unfold sp_setCell
  by_cases h : 0 ≤ c.toInt ∧ c.toInt ≤ 7
  · rw [spQ_t h]
    by_cases h2 : 0 ≤ v.toInt ∧ v.toInt ≤ 1000000000000
    · rw [spQ_t h2]
      exact okS_recd ho (ok1_cell ho.1 (by show v.toInt.toNat ≤ LG; unfold LG; omega))
    · rw [spQ_f h2]; exact ho
  · rw [spQ_f h]; exact ho
theorem okS_wipe {σ : hSt} (ho : okS σ) : okS (sp_wipe σ).2 := ⟨ho.1, ho.2.1, ho.2.2.1, ho.2.2.2.1, Nat.zero_le _, fun c hc => absurd hc List.not_mem_nil⟩
theorem okS_put {σ : hSt} (ho : okS σ) (a : Int64) : okS (sp_put σ a).2 := by
  unfold sp_put
  cases hq : chars a with
  | none => exact ho
  | some l =>
    obtain ⟨h1, h2, h3⟩ := chars_ok hq
    show okS (spQ (60 < σ.2.2.2.length + l.length) (-4, σ) (nI (σ.2.2.2.length + l.length), (σ.1, σ.2.1, σ.2.2.1, σ.2.2.2 ++ l)) : Int32 × hSt).2
    by_cases h : 60 < σ.2.2.2.length + l.length
    · rw [spQ_t h]; exact ho
    · rw [spQ_f h]
      refine ⟨ho.1, ho.2.1, ho.2.2.1, ho.2.2.2.1, by show (σ.2.2.2 ++ l).length ≤ 60; rw [List.length_append]; omega, fun c hc => ?_⟩
      rcases List.mem_append.mp hc with q | q
      · exact ho.2.2.2.2.2 c q
      · exact h3 c q
theorem okS_load {σ : hSt} (ho : okS σ) (a : Int32) : okS (sp_load σ a).2 := by
  unfold sp_load
  by_cases h : 0 ≤ a.toInt ∧ a.toInt ≤ 5
  · rw [spQ_t h]
    cases hf : fltN σ.2.2.2 with
    | some i => exact ho
    | none =>
      refine ⟨⟨ho.1.1, ho.1.2.1, ho.1.2.2.1, fun i hi => ?_⟩, psh_le ho.2.1, psh_all ho.2.1 ho.2.2.1 ho.1, ho.2.2.2.1, Nat.zero_le _, fun c hc => absurd hc List.not_mem_nil⟩
      show va_up σ.1.2.2.2 a.toInt.toNat (stpN σ.2.2.2) i = [] ∨ wfF (va_up σ.1.2.2.2 a.toInt.toNat (stpN σ.2.2.2) i)
      unfold va_up
      split
      · exact Or.inr (stp_wf ho.2.2.2.2.1 hf)
      · exact ho.1.2.2.2 i hi
  · rw [spQ_f h]; exact ho
theorem okS_assign {σ : hSt} (ho : okS σ) (c a : Int32) : okS (sp_assign σ c a).2 := by
  unfold sp_assign
  by_cases h : (0 ≤ c.toInt ∧ c.toInt ≤ 7) ∧ isF σ.1 a
  · rw [spQ_t h]
    split
    · exact okS_recd ho (ok1_cell ho.1 lastV_bd)
    · exact ho
  · rw [spQ_f h]; exact ho
theorem okS_settle {σ : hSt} (ho : okS σ) (c a t : Int32) : okS (sp_settle σ c a t).2 := by
  unfold sp_settle
  by_cases h : (0 ≤ c.toInt ∧ c.toInt ≤ 7) ∧ isF σ.1 a
  · rw [spQ_t h]
    by_cases h2 : 1 ≤ t.toInt ∧ t.toInt ≤ 100
    · rw [spQ_t h2]; exact okS_recd ho (stl_ok _ _ ho.1).1
    · rw [spQ_f h2]; exact ho
  · rw [spQ_f h]; exact ho
theorem okS_save {σ : hSt} (ho : okS σ) (a : Int32) : okS (sp_save σ a).2 := by
  unfold sp_save
  by_cases h : 0 ≤ a.toInt ∧ a.toInt ≤ 1
  · rw [spQ_t h]
    refine ⟨ho.1, ho.2.1, ho.2.2.1, fun s τ hs hτ => ?_, ho.2.2.2.2⟩
    have hτ : va_up σ.2.2.1 a.toInt.toNat (some σ.1) s = some τ := hτ
    unfold va_up at hτ
    split at hτ
    · cases hτ; exact ho.1
    · exact ho.2.2.2.1 s τ hs hτ
  · rw [spQ_f h]; exact ho
theorem okS_restore {σ : hSt} (ho : okS σ) (a : Int32) : okS (sp_restore σ a).2 := by
  unfold sp_restore
  by_cases h : 0 ≤ a.toInt ∧ a.toInt ≤ 1
  · rw [spQ_t h]
    cases hq : σ.2.2.1 a.toInt.toNat with
    | none => exact ho
    | some τ => exact okS_recd ho (ho.2.2.2.1 _ τ (by omega) hq)
  · rw [spQ_f h]; exact ho
theorem cX.obj {K : hKv} {A : Nat → Nat} {σ : hSt} {M : hM} (X : cX K A σ M) : ∃ z, M (A 36) = some (37, xO A z) := by
  obtain ⟨z, pd, sl, h, W, -⟩ := X
  exact ⟨z, W.obj⟩
