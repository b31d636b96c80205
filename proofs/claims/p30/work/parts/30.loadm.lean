/-- the formula is there -/
def isF (τ : hS1) (a : Int32) : Prop := (0 ≤ a.toInt ∧ a.toInt ≤ 5) ∧ τ.2.2.2 a.toInt.toNat ≠ []
def gF (τ : hS1) (a : Int32) : List (Nat × Nat) := τ.2.2.2 a.toInt.toNat
noncomputable def sp_load (σ : hSt) (a : Int32) : Int32 × hSt := spQ (0 ≤ a.toInt ∧ a.toInt ≤ 5) (match fltN σ.2.2.2 with
  | some _ => (-3, σ)
  | none => (nI (stpN σ.2.2.2).length, ((σ.1.1, σ.1.2.1, σ.1.2.2.1, va_up σ.1.2.2.2 a.toInt.toNat (stpN σ.2.2.2)), psh σ.2.1 σ.1, σ.2.2.1, []))) (-1, σ)
/-- which cells a formula names -/
def cOf (l : List (Nat × Nat)) : Nat → Int32
  | 0 => 0
  | n + 1 => cOf l n ||| (if (l.getD n (0, 0)).1 = 1 then 1 <<< (nI (l.getD n (0, 0)).2 &&& 31) else 0)
def rOf (l : List (Nat × Nat)) : Nat → Nat
  | 0 => 0
  | n + 1 => rOf l n + (if (l.getD n (0, 0)).1 = 113 ∨ (l.getD n (0, 0)).1 = 107 then 1 else 0)
theorem cOf_t {l : List (Nat × Nat)} {n : Nat} (h : (l.getD n (0, 0)).1 = 1) : cOf l (n + 1) = cOf l n ||| 1 <<< (nI (l.getD n (0, 0)).2 &&& 31) := by rw [cOf, if_pos h]
theorem cOf_f {l : List (Nat × Nat)} {n : Nat} (h : ¬ (l.getD n (0, 0)).1 = 1) : cOf l (n + 1) = cOf l n ||| 0 := by rw [cOf, if_neg h]
theorem rOf_t {l : List (Nat × Nat)} {n : Nat} (h : (l.getD n (0, 0)).1 = 113 ∨ (l.getD n (0, 0)).1 = 107) : nI (rOf l n) + 1 = nI (rOf l (n + 1)) := by rw [nI_1, rOf, if_pos h]
theorem rOf_f {l : List (Nat × Nat)} {n : Nat} (h : ¬ ((l.getD n (0, 0)).1 = 113 ∨ (l.getD n (0, 0)).1 = 107)) : nI (rOf l n) + 0 = nI (rOf l (n + 1)) := by rw [rOf, if_neg h]; exact Int32.add_zero _
theorem okP_n {s : Nat × Nat} (h : okP s) : s.1 < 128 ∧ s.2 ≤ 9999 := by
  rcases h with ⟨a, b⟩ | ⟨a, b⟩ | ⟨a, b⟩ <;> constructor <;> omega
theorem wf_at {l : List (Nat × Nat)} (h : wfF l) {k : Nat} (hk : k < l.length) : okP (l.getD k (0, 0)) := by
  apply h.1
  rw [List.getD_eq_getElem?_getD, List.getElem?_eq_getElem hk]
  exact List.getElem_mem hk
