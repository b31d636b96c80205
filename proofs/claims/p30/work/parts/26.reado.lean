theorem nB_len : ∀ (w : List Nat), nB w ≤ w.length
  | [] => Nat.le_refl _
  | c :: w => by have := nB_len w; rw [nB, List.length_cons]; split <;> omega
theorem fin_e {p : hPs} {n : Nat} : fin1 (p, none) n = if p.2.2.2 = 0 ∨ p.2.2.2 = 1 ∨ 0 < p.2.2.1 then some n else none := rfl
theorem prs_e {p : hPs} {i : Nat} : prs p [] i = (p, none) := rfl
