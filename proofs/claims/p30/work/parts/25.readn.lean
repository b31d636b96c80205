theorem drop_c {l : List Nat} {i : Nat} (h : i < l.length) : l.drop i = l.getD i 0 :: l.drop (i + 1) := by
  rw [List.drop_eq_getElem_cons h, List.getD_eq_getElem?_getD, List.getElem?_eq_getElem h]; rfl
theorem drop_e {l : List Nat} {i : Nat} (h : l.length ≤ i) : l.drop i = [] := List.drop_eq_nil_of_le h
theorem getD_e {l : List Nat} {i : Nat} (h : l.length ≤ i) : l.getD i 0 = 0 := by rw [List.getD_eq_getElem?_getD, List.getElem?_eq_none h]; rfl
theorem getD_m {l : List Nat} {i : Nat} (h : i < l.length) : l.getD i 0 ∈ l := by rw [List.getD_eq_getElem?_getD, List.getElem?_eq_getElem h]; exact List.getElem_mem h
theorem getD_lt {l : List Nat} (hc : ∀ c ∈ l, 33 ≤ c ∧ c ≤ 126) (i : Nat) : l.getD i 0 ≤ 126 := by
  rcases Nat.lt_or_ge i l.length with h | h
  · exact (hc _ (getD_m h)).2
  · rw [getD_e h]; omega
theorem prs_s {p p' : hPs} {c i : Nat} {r : List Nat} (h : tk p c = some p') : prs p (c :: r) i = prs p' r (i + 1) := by rw [prs, h]
theorem prs_n {p : hPs} {c i : Nat} {r : List Nat} (h : tk p c = none) : prs p (c :: r) i = (p, some i) := by rw [prs, h]
theorem tk_0 {st : List (Nat × Nat)} {wt : List Nat} {op c : Nat} : tk (st, wt, op, 0) c = fct (st, wt, op, 0) c := rfl
theorem tk_1 {st : List (Nat × Nat)} {wt : List Nat} {op c : Nat} : tk (st, wt, op, 1) c = if c = 40 then some (st, wt, op, 0) else none := rfl
theorem tk_2d {st : List (Nat × Nat)} {wt : List Nat} {op c : Nat} (h : 48 ≤ c ∧ c ≤ 57) : tk (st, wt, op, 2) c = dgt (st, wt, op, 2) c := by
  rw [tk, if_neg (by simp), if_neg (by simp), if_pos rfl, if_pos h]
theorem tk_2n {st : List (Nat × Nat)} {wt : List Nat} {op c : Nat} (h : ¬ (48 ≤ c ∧ c ≤ 57)) : tk (st, wt, op, 2) c = bhd (st, wt, op, 2) c := by
  rw [tk, if_neg (by simp), if_neg (by simp), if_pos rfl, if_neg h]
theorem tk_3 {st : List (Nat × Nat)} {wt : List Nat} {op c : Nat} : tk (st, wt, op, 3) c = bhd (st, wt, op, 3) c := rfl
theorem rel_256 {p : hPs} {i s : Nat} (h : PI p i) (hs : 1 ≤ s) (hn : 2 ≤ p.2.2.2) : (rel s p.2.1 p.1).2.length + (rel s p.2.1 p.1).1.length = p.1.length + p.2.1.length ∧ nB (rel s p.2.1 p.1).1 = p.2.2.1 ∧ (∀ x ∈ (rel s p.2.1 p.1).1, x < 256) := by
  obtain ⟨a, b, c1, d, e, f, g⟩ := h
  rw [if_neg (by omega)] at f
  obtain ⟨r1, r2, r3, -⟩ := rel_spec s hs p.2.1 p.1 0 c1 e f
  refine ⟨r1, r2.trans b, fun x hx => ?_⟩
  rcases r3 x hx with q | q
  · unfold isB at q; omega
  · unfold isO at q; omega
