/-! a text read as a formula, one character after the other: (steps, what waits (the last first), brackets not closed, what may stand next: 0 a factor, 1 a bracket, 2 more digits too, 3 what follows a factor) -/
abbrev hPs : Type := List (Nat × Nat) × List Nat × Nat × Nat
def strg (c : Nat) : Nat := if c = 42 then 2 else if c = 43 ∨ c = 45 then 1 else 0
def rel (s : Nat) : List Nat → List (Nat × Nat) → List Nat × List (Nat × Nat)
  | [], st => ([], st)
  | c :: w, st => if s ≤ strg c then rel s w (st ++ [(c, 0)]) else (c :: w, st)
def clo (r : List Nat × List (Nat × Nat)) (op : Nat) : hPs := match r.1 with
  | [] => (r.2, [], op - 1, 3)
  | b :: w => ((if b = 40 then r.2 else r.2 ++ [(b, 0)]), w, op - 1, 3)
def bhd (p : hPs) (c : Nat) : Option hPs :=
  if c = 41 ∧ 0 < p.2.2.1 then some (clo (rel 1 p.2.1 p.1) p.2.2.1)
  else if strg c = 0 then none
  else some ((rel (strg c) p.2.1 p.1).2, c :: (rel (strg c) p.2.1 p.1).1, p.2.2.1, 0)
def fct (p : hPs) (c : Nat) : Option hPs :=
  if 48 ≤ c ∧ c ≤ 57 then some (p.1 ++ [(0, c - 48)], p.2.1, p.2.2.1, 2)
  else if 65 ≤ c ∧ c ≤ 72 then some (p.1 ++ [(1, c - 65)], p.2.1, p.2.2.1, 3)
  else if c = 40 then some (p.1, 40 :: p.2.1, p.2.2.1 + 1, 0)
  else if c = 113 ∨ c = 107 ∨ c = 115 then some (p.1, c :: p.2.1, p.2.2.1 + 1, 1)
  else none
def lst (l : List (Nat × Nat)) : Nat := (l.getD (l.length - 1) (0, 0)).2
def dgt (p : hPs) (c : Nat) : Option hPs :=
  if lst p.1 = 0 ∨ 9999 < lst p.1 * 10 + (c - 48) then none
  else some (p.1.dropLast ++ [(0, lst p.1 * 10 + (c - 48))], p.2.1, p.2.2.1, 2)
def tk (p : hPs) (c : Nat) : Option hPs :=
  if p.2.2.2 = 0 then fct p c
  else if p.2.2.2 = 1 then (if c = 40 then some (p.1, p.2.1, p.2.2.1, 0) else none)
  else if p.2.2.2 = 2 then (if 48 ≤ c ∧ c ≤ 57 then dgt p c else bhd p c)
  else bhd p c
def prs (p : hPs) : List Nat → Nat → hPs × Option Nat
  | [], _ => (p, none)
  | c :: r, i => match tk p c with
    | none => (p, some i)
    | some p' => prs p' r (i + 1)
def ps0 : hPs := ([], [], 0, 0)
def fin1 (r : hPs × Option Nat) (n : Nat) : Option Nat := match r.2 with
  | some i => some i
  | none => if r.1.2.2.2 = 0 ∨ r.1.2.2.2 = 1 ∨ 0 < r.1.2.2.1 then some n else none
/-- the fault of a text; its steps, if there is none -/
def fltN (pad : List Nat) : Option Nat := fin1 (prs ps0 pad 0) pad.length
def stpN (pad : List Nat) : List (Nat × Nat) := (rel 1 (prs ps0 pad 0).1.2.1 (prs ps0 pad 0).1.1).2
/-! what holds while it is read -/
def isB (c : Nat) : Prop := c = 40 ∨ c = 113 ∨ c = 107 ∨ c = 115
def isO (c : Nat) : Prop := c = 43 ∨ c = 45 ∨ c = 42
def nB : List Nat → Nat
  | [] => 0
  | c :: w => (if strg c = 0 then 1 else 0) + nB w
def nO : List Nat → Nat
  | [] => 0
  | c :: w => (if strg c = 0 then 0 else 1) + nO w
theorem strg_B {c : Nat} (h : isB c) : strg c = 0 := by rcases h with rfl | rfl | rfl | rfl <;> rfl
theorem strg_O {c : Nat} (h : isO c) : 1 ≤ strg c := by rcases h with rfl | rfl | rfl <;> decide
theorem strg_is {c : Nat} (h : ¬ strg c = 0) : isO c := by
  unfold strg at h
  unfold isO
  split at h
  · omega
  · split at h
    · omega
    · exact absurd rfl h
theorem hgt_app : ∀ (a b : List (Nat × Nat)) (h : Nat), hgt (a ++ b) h = (hgt a h).bind (hgt b)
  | [], b, h => rfl
  | s :: a, b, h => by
    show hgt (s :: (a ++ b)) h = (hgt (s :: a) h).bind (hgt b)
    unfold hgt
    repeat' split
    all_goals first | exact hgt_app a b _ | rfl
theorem hgt_leaf {l : List (Nat × Nat)} {h k v : Nat} (hl : hgt l 0 = some h) (hk : k < 2) : hgt (l ++ [(k, v)]) 0 = some (h + 1) := by
  rw [hgt_app, hl]
  show hgt [(k, v)] h = _
  rw [hgt, if_pos hk]
  rfl
theorem hgt_op {l : List (Nat × Nat)} {h c : Nat} (hl : hgt l 0 = some h) (hc : isO c) (h2 : 2 ≤ h) : hgt (l ++ [(c, 0)]) 0 = some (h - 1) := by
  rw [hgt_app, hl]
  show hgt [(c, 0)] h = _
  have h3 : ¬ c < 2 := by unfold isO at hc; omega
  rw [hgt, if_neg h3, if_pos (show (c, 0).fst = 43 ∨ (c, 0).fst = 45 ∨ (c, 0).fst = 42 from hc), if_pos h2]
  rfl
theorem hgt_un {l : List (Nat × Nat)} {h c : Nat} (hl : hgt l 0 = some h) (hc : c = 113 ∨ c = 107 ∨ c = 115) (h2 : 1 ≤ h) : hgt (l ++ [(c, 0)]) 0 = some h := by
  rw [hgt_app, hl]
  show hgt [(c, 0)] h = _
  rw [hgt, if_neg (show ¬ c < 2 by omega), if_neg (show ¬ (c = 43 ∨ c = 45 ∨ c = 42) by omega), if_pos h2]
  rfl
/-- p holds behind i characters -/
def PI (p : hPs) (i : Nat) : Prop :=
  p.1.length + p.2.1.length ≤ i ∧ nB p.2.1 = p.2.2.1 ∧ (∀ c ∈ p.2.1, isB c ∨ isO c) ∧ (p.2.2.2 = 2 → ∃ l v, p.1 = l ++ [(0, v)] ∧ v ≤ 9999) ∧ (∀ s ∈ p.1, okP s) ∧
  hgt p.1 0 = some (nO p.2.1 + (if p.2.2.2 = 0 ∨ p.2.2.2 = 1 then 0 else 1)) ∧ p.2.2.2 ≤ 3
theorem PI_0 : PI ps0 0 := ⟨Nat.le_refl _, rfl, fun c h => absurd h List.not_mem_nil, fun h => absurd h (by decide), fun c h => absurd h List.not_mem_nil, rfl, by decide⟩
theorem okP_O {c : Nat} (h : isO c) : okP (c, 0) := Or.inr (Or.inr ⟨by unfold isO at h; show c = 43 ∨ _; omega, rfl⟩)
/-- what is left of what waits, and the steps, behind a release -/
theorem rel_spec (s : Nat) (hs : 1 ≤ s) : ∀ (w : List Nat) (st : List (Nat × Nat)) (h : Nat), (∀ c ∈ w, isB c ∨ isO c) → (∀ q ∈ st, okP q) → hgt st 0 = some (nO w + 1) →
    (rel s w st).2.length + (rel s w st).1.length = st.length + w.length ∧ nB (rel s w st).1 = nB w ∧ (∀ c ∈ (rel s w st).1, isB c ∨ isO c) ∧ (∀ q ∈ (rel s w st).2, okP q) ∧
    hgt (rel s w st).2 0 = some (nO (rel s w st).1 + 1) ∧ (∀ c r, (rel s w st).1 = c :: r → strg c < s)
  | [], st, _, h1, h2, h3 => ⟨rfl, rfl, h1, h2, h3, fun c r h => (by cases h)⟩
  | c :: w, st, h, h1, h2, h3 => by
    by_cases hc : s ≤ strg c
    · rw [rel, if_pos hc]
      have ho : isO c := strg_is (by omega)
      have e1 : nO (c :: w) = 1 + nO w := by rw [nO, if_neg (show ¬ strg c = 0 by omega)]
      have e2 : nB (c :: w) = nB w := by rw [nB, if_neg (show ¬ strg c = 0 by omega), Nat.zero_add]
      obtain ⟨a, b, c1, d, e, f⟩ := rel_spec s hs w (st ++ [(c, 0)]) h (fun x hx => h1 x (List.mem_cons_of_mem _ hx)) (fun q hq => by
        rcases List.mem_append.mp hq with hq | hq
        · exact h2 q hq
        · rw [List.mem_singleton.mp hq]; exact okP_O ho) (by rw [hgt_op h3 ho (by omega), e1]; congr 1; omega)
      refine ⟨by rw [a, List.length_append]; simp; omega, by rw [b, e2], c1, d, e, f⟩
    · rw [rel, if_neg hc]
      exact ⟨rfl, rfl, h1, h2, h3, fun x r hx => by cases hx; omega⟩
theorem PI_fct {p p' : hPs} {i c : Nat} (h : PI p i) (hn : p.2.2.2 = 0) (ht : fct p c = some p') : PI p' (i + 1) := by
  obtain ⟨a, b, c1, d, e, f, g⟩ := h
  rw [if_pos (Or.inl hn), Nat.add_zero] at f
  unfold fct at ht
  split at ht
  · cases ht
    refine ⟨by simp; omega, b, c1, fun _ => ⟨p.1, c - 48, rfl, by omega⟩, fun s hs => ?_, by rw [hgt_leaf f (by decide)]; rfl, by simp⟩
    rcases List.mem_append.mp hs with hs | hs
    · exact e s hs
    · rw [List.mem_singleton.mp hs]; exact Or.inl ⟨rfl, by show c - 48 ≤ 9999; omega⟩
  · split at ht
    · cases ht
      refine ⟨by simp; omega, b, c1, fun h => absurd h (by simp), fun s hs => ?_, by rw [hgt_leaf f (by decide)]; rfl, by simp⟩
      rcases List.mem_append.mp hs with hs | hs
      · exact e s hs
      · rw [List.mem_singleton.mp hs]; exact Or.inr (Or.inl ⟨rfl, by show c - 65 < 8; omega⟩)
    · split at ht
      · cases ht
        refine ⟨by simp; omega, by show (if strg 40 = 0 then 1 else 0) + nB p.2.1 = p.2.2.1 + 1; rw [b]; show 1 + p.2.2.1 = _; omega, fun x hx => ?_, fun h => absurd h (by simp), e, by show hgt p.1 0 = some ((if strg 40 = 0 then 0 else 1) + nO p.2.1 + 0); rw [f]; show _ = some (0 + nO p.2.1 + 0); congr 1; omega, by simp⟩
        rcases List.mem_cons.mp hx with rfl | hx
        · exact Or.inl (Or.inl rfl)
        · exact c1 x hx
      · split at ht
        · next hc =>
          cases ht
          have hB : isB c := Or.inr hc
          have h0 := strg_B hB
          refine ⟨by simp; omega, by show (if strg c = 0 then 1 else 0) + nB p.2.1 = p.2.2.1 + 1; rw [if_pos h0, b]; omega, fun x hx => ?_, fun h => absurd h (by simp), e, by show hgt p.1 0 = some ((if strg c = 0 then 0 else 1) + nO p.2.1 + 0); rw [f, if_pos h0]; congr 1; omega, by simp⟩
          rcases List.mem_cons.mp hx with rfl | hx
          · exact Or.inl hB
          · exact c1 x hx
        · cases ht
theorem PI_bhd {p p' : hPs} {i c : Nat} (h : PI p i) (hn : 2 ≤ p.2.2.2) (ht : bhd p c = some p') : PI p' (i + 1) := by
  obtain ⟨a, b, c1, d, e, f, g⟩ := h
  rw [if_neg (by omega)] at f
  unfold bhd at ht
  split at ht
  · next hc =>
    obtain ⟨r1, r2, r3, r4, r5, r6⟩ := rel_spec 1 (Nat.le_refl _) p.2.1 p.1 0 c1 e f
    cases ht
    unfold clo
    cases hr : (rel 1 p.2.1 p.1).1 with
    | nil =>
      exfalso
      rw [hr, b] at r2
      have : nB [] = 0 := rfl
      omega
    | cons x w =>
      have hx0 : strg x = 0 := by have := r6 x w hr; omega
      have hxB : isB x := by
        rcases r3 x (by rw [hr]; exact List.mem_cons_self) with q | q
        · exact q
        · have := strg_O q; omega
      rw [hr] at r1 r2 r5
      rw [nB, if_pos hx0, b] at r2
      rw [nO, if_pos hx0, Nat.zero_add] at r5
      have hw : ∀ y ∈ w, isB y ∨ isO y := fun y hy => r3 y (by rw [hr]; exact List.mem_cons_of_mem _ hy)
      simp only [List.length_cons] at r1
      by_cases h40 : x = 40
      · simp only [if_pos h40]
        exact ⟨by show (rel 1 p.2.1 p.1).2.length + w.length ≤ _; omega, by show nB w = _ - 1; omega, hw, fun h => absurd h (by simp), r4, r5, by show 3 ≤ 3; omega⟩
      · simp only [if_neg h40]
        have hx3 : x = 113 ∨ x = 107 ∨ x = 115 := hxB.resolve_left h40
        refine ⟨by show ((rel 1 p.2.1 p.1).2 ++ [(x, 0)]).length + w.length ≤ _; rw [List.length_append]; simp only [List.length_cons, List.length_nil]; omega, by show nB w = _ - 1; omega, hw, fun h => absurd h (by simp), fun s hs => ?_, by show hgt (_ ++ _) 0 = some (nO w + 1); exact hgt_un r5 hx3 (by omega), by show 3 ≤ 3; omega⟩
        rcases List.mem_append.mp hs with hs | hs
        · exact r4 s hs
        · rw [List.mem_singleton.mp hs]; exact Or.inr (Or.inr ⟨by show x = 43 ∨ _; omega, rfl⟩)
  · split at ht
    · cases ht
    · next hc =>
      have ho := strg_is hc
      obtain ⟨r1, r2, r3, r4, r5, r6⟩ := rel_spec (strg c) (by omega) p.2.1 p.1 0 c1 e f
      cases ht
      refine ⟨by show _ + (_ :: _).length ≤ _; simp only [List.length_cons]; omega, by show (if strg c = 0 then 1 else 0) + nB _ = _; rw [if_neg hc, Nat.zero_add, r2, b], fun x hx => ?_, fun h => absurd h (by simp), r4, by show _ = some ((if strg c = 0 then 0 else 1) + nO _ + 0); rw [if_neg hc, r5]; congr 1; omega, by show 0 ≤ 3; omega⟩
      rcases List.mem_cons.mp hx with rfl | hx
      · exact Or.inr ho
      · exact r3 x hx
theorem lst_app {l : List (Nat × Nat)} {v : Nat} : lst (l ++ [(0, v)]) = v := by
  unfold lst
  simp
theorem PI_dgt {p p' : hPs} {i c : Nat} (h : PI p i) (hn : p.2.2.2 = 2) (hc : 48 ≤ c ∧ c ≤ 57) (ht : dgt p c = some p') : PI p' (i + 1) := by
  obtain ⟨a, b, c1, d, e, f, g⟩ := h
  obtain ⟨l, v, hl, hv⟩ := d hn
  unfold dgt at ht
  split at ht
  · cases ht
  · next hv2 =>
    cases ht
    rw [hl, lst_app] at hv2 ⊢
    rw [hl] at a f e
    rw [List.dropLast_concat]
    rw [if_neg (by omega), hgt_app] at f
    refine ⟨?_, b, c1, fun _ => ⟨l, _, rfl, by omega⟩, fun s hs => ?_, ?_, by simp⟩
    · show (l ++ [(0, v * 10 + (c - 48))]).length + p.2.1.length ≤ _
      simp only [List.length_append, List.length_cons, List.length_nil] at a ⊢
      omega
    · rcases List.mem_append.mp hs with hs | hs
      · exact e s (List.mem_append_left _ hs)
      · rw [List.mem_singleton.mp hs]; exact Or.inl ⟨rfl, by show v * 10 + (c - 48) ≤ 9999; omega⟩
    · show hgt (l ++ _) 0 = some (nO p.2.1 + 1)
      rw [hgt_app, ← f]
      cases hgt l 0 with
      | none => rfl
      | some k => rfl
theorem PI_tk {p p' : hPs} {i c : Nat} (h : PI p i) (ht : tk p c = some p') : PI p' (i + 1) := by
  unfold tk at ht
  split at ht
  · next h0 => exact PI_fct h h0 ht
  · split at ht
    · next h1 =>
      split at ht
      · cases ht
        obtain ⟨a, b, c1, d, e, f, g⟩ := h
        rw [if_pos (Or.inr h1)] at f
        exact ⟨by show p.1.length + p.2.1.length ≤ _; omega, b, c1, fun h => absurd h (by simp), e, f, by show 0 ≤ 3; omega⟩
      · cases ht
    · split at ht
      · next h2 =>
        split at ht
        · next hc => exact PI_dgt h h2 hc ht
        · exact PI_bhd h (by omega) ht
      · exact PI_bhd h (by omega) ht
theorem PI_prs : ∀ (cs : List Nat) (p : hPs) (i : Nat), PI p i → (prs p cs i).2 = none → PI (prs p cs i).1 (i + cs.length)
  | [], p, i, h, _ => h
  | c :: r, p, i, h, hn => by
    unfold prs at hn ⊢
    cases ht : tk p c with
    | none => rw [ht] at hn; cases hn
    | some p' =>
      rw [ht] at hn
      have := PI_prs r p' (i + 1) (PI_tk h ht) hn
      rw [List.length_cons, show i + (r.length + 1) = i + 1 + r.length by omega]
      exact this
theorem nB_0 : ∀ (w : List Nat), (∀ c ∈ w, isB c ∨ isO c) → nB w = 0 → (∀ c r, w = c :: r → strg c < 1) → w = []
  | [], _, _, _ => rfl
  | c :: w, h, h0, h1 => by
    have := h1 c w rfl
    rw [nB, if_pos (by omega)] at h0
    omega
/-- a text without a fault has steps that can be reckoned -/
theorem stp_wf {pad : List Nat} (hl : pad.length ≤ 60) (hf : fltN pad = none) : wfF (stpN pad) := by
  unfold fltN fin1 at hf
  unfold stpN
  cases hr : (prs ps0 pad 0).2 with
  | some i => rw [hr] at hf; cases hf
  | none =>
    rw [hr] at hf
    obtain ⟨a, b, c1, d, e, f, g⟩ := PI_prs pad ps0 0 PI_0 hr
    generalize (prs ps0 pad 0).1 = p at hf a b c1 d e f g ⊢
    by_cases hn : p.2.2.2 = 0 ∨ p.2.2.2 = 1 ∨ 0 < p.2.2.1
    · simp only [if_pos hn] at hf; cases hf
    · rw [if_neg (by omega)] at f
      obtain ⟨r1, r2, r3, r4, r5, r6⟩ := rel_spec 1 (Nat.le_refl _) p.2.1 p.1 0 c1 e f
      have hw := nB_0 _ r3 (by omega) r6
      rw [hw] at r1 r5
      refine ⟨r4, r5, ?_⟩
      simp only [List.length_nil] at r1
      omega
theorem wfF_ne {F : List (Nat × Nat)} (h : wfF F) : F ≠ [] := by
  rintro rfl
  have := h.2.1
  cases this
