/-! what a state is: ROUND, DIGITS, cells, formulas (a row of steps, none: []) -/
abbrev hS1 : Type := Nat × Nat × (Nat → Nat) × (Nat → List (Nat × Nat))
abbrev hSt : Type := hS1 × (Nat × (Nat → hS1)) × (Nat → Option hS1) × List Nat
def LG : Nat := 1000000000000
/-- the height of the pile behind the steps; none where it would fall short -/
def hgt : List (Nat × Nat) → Nat → Option Nat
  | [], h => some h
  | s :: r, h => if s.1 < 2 then hgt r (h + 1) else if s.1 = 43 ∨ s.1 = 45 ∨ s.1 = 42 then (if 2 ≤ h then hgt r (h - 1) else none) else (if 1 ≤ h then hgt r h else none)
def okP (s : Nat × Nat) : Prop := (s.1 = 0 ∧ s.2 ≤ 9999) ∨ (s.1 = 1 ∧ s.2 < 8) ∨ ((s.1 = 43 ∨ s.1 = 45 ∨ s.1 = 42 ∨ s.1 = 113 ∨ s.1 = 107 ∨ s.1 = 115) ∧ s.2 = 0)
def wfF (F : List (Nat × Nat)) : Prop := (∀ s ∈ F, okP s) ∧ hgt F 0 = some 1 ∧ F.length ≤ 60
def ok1 (σ : hS1) : Prop := σ.1 ≤ 2 ∧ σ.2.1 ≤ 6 ∧ (∀ i, i < 8 → σ.2.2.1 i ≤ LG) ∧ ∀ i, i < 6 → σ.2.2.2 i = [] ∨ wfF (σ.2.2.2 i)
def okS (σ : hSt) : Prop := ok1 σ.1 ∧ σ.2.1.1 ≤ 6 ∧ (∀ i, i < σ.2.1.1 → ok1 (σ.2.1.2 i)) ∧ (∀ s τ, s < 2 → σ.2.2.1 s = some τ → ok1 τ) ∧ σ.2.2.2.length ≤ 60 ∧ ∀ c ∈ σ.2.2.2, 33 ≤ c ∧ c ≤ 126
/-- what is kept: every cell whose tag is outside the span -/
def hFr (lo hi : Nat) (M M' : hM) : Prop := ∀ b t e, (t < lo ∨ hi ≤ t) → M b = some (t, e) → M' b = some (t, e)
theorem hFr.rf {lo hi : Nat} {M : hM} : hFr lo hi M M := fun _ _ _ _ h => h
theorem hFr.tr {lo hi : Nat} {M M1 M2 : hM} (h : hFr lo hi M M1) (g : hFr lo hi M1 M2) : hFr lo hi M M2 := fun b t e ht hb => g b t e ht (h b t e ht hb)
theorem hFr.mono {lo hi lo' hi' : Nat} {M M1 : hM} (h : hFr lo hi M M1) (h1 : lo' ≤ lo) (h2 : hi ≤ hi') : hFr lo' hi' M M1 := fun b t e ht hb => h b t e (by omega) hb
theorem hFr.put {lo hi : Nat} {M : hM} {a u : Nat} {x e : va_E} (ha : M a = some (u, x)) (hu : lo ≤ u ∧ u < hi) : hFr lo hi M (hU M a u e) := fun b t y ht hb => (hU_n (hT_ne hb ha (by omega))).trans hb
theorem hFr.new {lo hi : Nat} {M : hM} {a u : Nat} {e : va_E} (ha : M a = none) : hFr lo hi M (hU M a u e) := fun b t y ht hb => (hU_n (hT_new hb ha)).trans hb
def padM (f : Nat → Int32) (pad : List Nat) : Prop := ∀ k, k < pad.length → f k = nI (pad.getD k 0)
/-- one more state is kept, the oldest of six falls -/
def psh (h : Nat × (Nat → hS1)) (n : hS1) : Nat × (Nat → hS1) := if h.1 = 6 then (6, fun i => if i = 5 then n else h.2 (i + 1)) else (h.1 + 1, va_up h.2 h.1 n)
theorem psh_le {h : Nat × (Nat → hS1)} {n : hS1} (hh : h.1 ≤ 6) : (psh h n).1 ≤ 6 := by unfold psh; split; exact Nat.le_refl _; show h.1 + 1 ≤ 6; omega
theorem psh_all {P : hS1 → Prop} {h : Nat × (Nat → hS1)} {n : hS1} (hh : h.1 ≤ 6) (h0 : ∀ i, i < h.1 → P (h.2 i)) (hn : P n) : ∀ i, i < (psh h n).1 → P ((psh h n).2 i) := by
  unfold psh
  split
  · next h6 =>
    intro i hi
    show P (if i = 5 then n else h.2 (i + 1))
    have hi : i < 6 := hi
    split
    · exact hn
    · exact h0 _ (by omega)
  · intro i hi
    have hi : i < h.1 + 1 := hi
    show P (va_up h.2 h.1 n i)
    unfold va_up
    split
    · exact hn
    · exact h0 i (by omega)
/-- a change: the state before it is kept -/
def recd (σ : hSt) (n : hS1) : hSt := (n, psh σ.2.1 σ.1, σ.2.2.1, σ.2.2.2)
theorem okS_recd {σ : hSt} {n : hS1} (h : okS σ) (hn : ok1 n) : okS (recd σ n) := ⟨hn, psh_le h.2.1, psh_all h.2.1 h.2.2.1 h.1, h.2.2.2.1, h.2.2.2.2.1, h.2.2.2.2.2⟩
