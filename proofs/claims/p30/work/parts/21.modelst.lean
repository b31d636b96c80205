theorem va_id {α : Type} {f : Nat → α} {k : Nat} : va_up f k (f k) = f := by
  funext j
  unfold va_up
  split
  · next h => rw [h]
  · rfl
def fset (τ : hS1) : Int32 := fbv (fun i => !(τ.2.2.2 i).isEmpty) 6
noncomputable def sp_set (σ : hSt) (a b : Int32) : Int32 × hSt := spQ ((0 ≤ a.toInt ∧ a.toInt ≤ 1) ∧ 0 ≤ b.toInt ∧ b.toInt ≤ (if a.toInt = 0 then 2 else 6)) (if a.toInt = 0 then (nI σ.1.1, recd σ (b.toInt.toNat, σ.1.2.1, σ.1.2.2)) else (nI σ.1.2.1, recd σ (σ.1.1, b.toInt.toNat, σ.1.2.2))) (-2, σ)
noncomputable def sp_setCell (σ : hSt) (c : Int32) (v : Int64) : Int64 × hSt := spQ (0 ≤ c.toInt ∧ c.toInt ≤ 7) (spQ (0 ≤ v.toInt ∧ v.toInt ≤ 1000000000000) (lN (σ.1.2.2.1 c.toInt.toNat), recd σ (σ.1.1, σ.1.2.1, va_up σ.1.2.2.1 c.toInt.toNat v.toInt.toNat, σ.1.2.2.2)) (-2, σ)) (-1, σ)
noncomputable def sp_cell (σ : hSt) (c : Int32) : Int64 := spQ (0 ≤ c.toInt ∧ c.toInt ≤ 7) (lN (σ.1.2.2.1 c.toInt.toNat)) (-1)
def sp_wipe (σ : hSt) : Int32 × hSt := (nI σ.2.2.2.length, (σ.1, σ.2.1, σ.2.2.1, []))
noncomputable def sp_save (σ : hSt) (s : Int32) : Int32 × hSt := spQ (0 ≤ s.toInt ∧ s.toInt ≤ 1) (fset σ.1, (σ.1, σ.2.1, va_up σ.2.2.1 s.toInt.toNat (some σ.1), σ.2.2.2)) (-2, σ)
noncomputable def sp_restore (σ : hSt) (s : Int32) : Int32 × hSt := spQ (0 ≤ s.toInt ∧ s.toInt ≤ 1) (match σ.2.2.1 s.toInt.toNat with | none => (-5, σ) | some τ => (fset τ, recd σ τ)) (-2, σ)
noncomputable def sp_count (σ : hSt) (w : Int32) : Int32 := if w.toInt = 0 then fset σ.1 else if w.toInt = 1 then nI σ.2.2.2.length else if w.toInt = 2 then nI σ.2.1.1 else if w.toInt = 3 then nI σ.1.1 else if w.toInt = 4 then nI σ.1.2.1 else if w.toInt = 5 then nI (cnz (fun i => !(σ.1.2.2.1 i == 0)) 8) else -2
