theorem tl_0 : (0 : Int64).toInt = 0 := rfl
theorem tl_LG : (1000000000000 : Int64).toInt = 1000000000000 := rfl
theorem nI_ofInt {x : Int32} (h : 0 ≤ x.toInt) : x = nI x.toInt.toNat := by
  obtain ⟨j, hj, rfl⟩ := nI_of (x := x) (by rw [Int32.lt_iff_toInt_lt]; show ¬ x.toInt < 0; omega)
  rw [nI_toInt hj]; rfl
theorem in_nI {x : Int32} {b : Nat} (h : 0 ≤ x.toInt ∧ x.toInt ≤ (b : Int)) : ∃ j, j ≤ b ∧ x = nI j := ⟨x.toInt.toNat, by omega, nI_ofInt h.1⟩
theorem in_nI2 {x : Int32} {a b : Nat} (h : (a : Int) ≤ x.toInt ∧ x.toInt ≤ (b : Int)) : ∃ j, a ≤ j ∧ j ≤ b ∧ x = nI j := ⟨x.toInt.toNat, by omega, by omega, nI_ofInt (by omega)⟩
theorem in_lN {x : Int64} {b : Nat} (h : 0 ≤ x.toInt ∧ x.toInt ≤ (b : Int)) : ∃ j, j ≤ b ∧ x = lN j := by
  obtain ⟨j, hj, rfl⟩ := pk_lOf (x := x) (by rw [Int64.lt_iff_toInt_lt]; show ¬ x.toInt < 0; omega)
  rw [pk_lT hj] at h
  exact ⟨j, by omega, rfl⟩
theorem lN_toI {a : Nat} (h : a < 2 ^ 63) : (lN a).toInt = a := pk_lT h
theorem nI_toI {a : Nat} (h : a < 2 ^ 31) : (nI a).toInt = a := nI_toInt h
def tmn (a b : Nat) : Nat := if a ≠ 0 ∧ LG / a < b then LG + 1 else a * b
