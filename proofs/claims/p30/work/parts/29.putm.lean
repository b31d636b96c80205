theorem nI_n0 {j : Nat} (h : j < 2 ^ 31) : ¬ nI j < 0 := fun q => by
  have := Int32.lt_iff_toInt_lt.mp q
  rw [nI_toI h] at this
  have h0 : (0 : Int32).toInt = 0 := rfl
  omega
theorem nI_dn (j : Nat) : nI j + Int32.ofInt (-1) = iI ((j : Int) - 1) := by
  rw [nI_iI]
  show Int32.ofInt j + Int32.ofInt (-1) = Int32.ofInt ((j : Int) - 1)
  rw [← Int32.ofInt_add]; rfl
theorem iI_up0 (j : Nat) : iI (((j + 1 : Nat) : Int) - 1) = nI j := by rw [nI_iI]; congr 1; omega
theorem nI_s1 {j : Nat} (h : 1 ≤ j) : nI j - 1 = iI ((j : Int) - 1) := by
  obtain ⟨i, rfl⟩ : ∃ i, j = i + 1 := ⟨j - 1, by omega⟩
  rw [iI_up0]
  exact pk_sub (a := i + 1) (b := 1) h
theorem iI_up (j : Nat) : iI (((j + 1 : Nat) : Int) - 1) = nI j := by rw [nI_iI]; congr 1; omega
theorem pad_app {f g : Nat → Int32} {p l : List Nat} (h1 : ∀ k, k < p.length → g k = f k) (hf : padM f p) (h2 : ∀ k, k < l.length → g (p.length + k) = nI (l.getD k 0)) : padM g (p ++ l) := by
  intro k hk
  rw [List.length_append] at hk
  rcases Nat.lt_or_ge k p.length with q | q
  · rw [h1 k q, hf k q, List.getD_eq_getElem?_getD, List.getD_eq_getElem?_getD, List.getElem?_append_left q]
  · have := h2 (k - p.length) (by omega)
    rw [show p.length + (k - p.length) = k by omega] at this
    rw [this, List.getD_eq_getElem?_getD, List.getD_eq_getElem?_getD, List.getElem?_append_right q]
