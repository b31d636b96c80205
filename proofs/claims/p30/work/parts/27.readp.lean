theorem flt_is {pad : List Nat} : fltN pad = fin1 (prs ps0 pad 0) pad.length := rfl
theorem PI_sm {p : hPs} {i : Nat} (h : PI p i) (hi : i ≤ 60) : p.2.2.1 ≤ 60 := by
  have h1 := h.2.1
  have h2 := nB_len p.2.1
  have h3 := h.1
  omega
theorem fltN_le {pad : List Nat} {i : Nat} (h : fltN pad = some i) : i ≤ pad.length := by
  have g : ∀ (cs : List Nat) (p : hPs) (i j : Nat), (prs p cs i).2 = some j → j ≤ i + cs.length := by
    intro cs
    induction cs with
    | nil => intro p i j h; cases h
    | cons c r ih =>
      intro p i j h
      rw [List.length_cons]
      cases ht : tk p c with
      | none => rw [prs_n ht] at h; cases h; omega
      | some p' => rw [prs_s ht] at h; have := ih p' (i + 1) j h; omega
  unfold fltN fin1 at h
  cases hr : (prs ps0 pad 0).2 with
  | some j => rw [hr] at h; cases h; have := g pad ps0 0 i hr; omega
  | none =>
    rw [hr] at h
    by_cases q : (prs ps0 pad 0).1.2.2.2 = 0 ∨ (prs ps0 pad 0).1.2.2.2 = 1 ∨ 0 < (prs ps0 pad 0).1.2.2.1
    · simp only [if_pos q] at h; cases h; exact Nat.le_refl _
    · simp only [if_neg q] at h; cases h
