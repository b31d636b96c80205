/-! a text said sign by sign, as it is read -/
def rn : hPs → List Nat → Option hPs
  | p, [] => some p
  | p, c :: r => (tk p c).bind fun q => rn q r
theorem rn_app : ∀ (a b : List Nat) (p : hPs), rn p (a ++ b) = (rn p a).bind fun q => rn q b
  | [], b, p => rfl
  | c :: a, b, p => by
    show (tk p c).bind (fun q => rn q (a ++ b)) = ((tk p c).bind fun q => rn q a).bind fun q => rn q b
    cases tk p c with
    | none => rfl
    | some q => exact rn_app a b q
theorem rn_cat {a b : List Nat} {p q r : hPs} (h : rn p a = some q) (g : rn q b = some r) : rn p (a ++ b) = some r := by
  rw [rn_app, h]; exact g
theorem rn_1 {p q : hPs} {c : Nat} (h : tk p c = some q) : rn p [c] = some q := by
  show (tk p c).bind (fun q => rn q []) = _
  rw [h]; rfl
theorem rn_prs : ∀ (T : List Nat) (p q : hPs) (i : Nat), rn p T = some q → prs p T i = (q, none)
  | [], p, q, i, h => by cases h; rfl
  | c :: r, p, q, i, h => by
    have h : (tk p c).bind (fun q => rn q r) = some q := h
    show (match tk p c with | none => (p, some i) | some p' => prs p' r (i + 1)) = _
    cases ht : tk p c with
    | none => rw [ht] at h; cases h
    | some p' => rw [ht] at h; exact rn_prs r p' q (i + 1) h
def n23 (n : Nat) : Prop := n = 2 ∨ n = 3
/-- the text T is read as the steps X, wherever a factor may stand -/
def pz (X : List (Nat × Nat)) (T : List Nat) : Prop := ∀ (L : List (Nat × Nat)) (W : List Nat) (op : Nat), ∃ n, n23 n ∧ rn (L, W, op, 0) T = some (L ++ X, W, op, n)
theorem tk_f {L : List (Nat × Nat)} {W : List Nat} {op c : Nat} : tk (L, W, op, 0) c = fct (L, W, op, 0) c := by unfold tk; exact if_pos rfl
theorem tk_23 {L : List (Nat × Nat)} {W : List Nat} {op n c : Nat} (hn : n23 n) (hc : ¬ (48 ≤ c ∧ c ≤ 57)) : tk (L, W, op, n) c = bhd (L, W, op, n) c := by
  unfold tk
  rcases hn with rfl | rfl
  · rw [if_neg (show ¬ (2 = 0) by decide), if_neg (show ¬ (2 = 1) by decide), if_pos rfl, if_neg hc]
  · rw [if_neg (show ¬ (3 = 0) by decide), if_neg (show ¬ (3 = 1) by decide), if_neg (show ¬ (3 = 2) by decide)]
theorem pz_cell {c : Nat} (hc : c < 8) : pz [(1, c)] [65 + c] := fun L W op => ⟨3, Or.inr rfl, rn_1 (by
  rw [tk_f, fct, if_neg (by omega), if_pos (by omega), Nat.add_sub_cancel_left])⟩
/-- the digits of x, from the place j down -/
def dgs (x : Nat) : Nat → List Nat
  | 0 => [48 + x % 10]
  | j + 1 => (48 + x / 10 ^ (j + 1) % 10) :: dgs x j
theorem dgs_len (x : Nat) : ∀ j, (dgs x j).length = j + 1
  | 0 => rfl
  | j + 1 => by rw [dgs, List.length_cons, dgs_len x j]
theorem tk_dg {L : List (Nat × Nat)} {W : List Nat} {op y d : Nat} (hy : y ≠ 0) (hd : d < 10) (hx : y * 10 + d ≤ 9999) : tk (L ++ [(0, y)], W, op, 2) (48 + d) = some (L ++ [(0, y * 10 + d)], W, op, 2) := by
  unfold tk
  rw [if_neg (show ¬ (2 = 0) by decide), if_neg (show ¬ (2 = 1) by decide), if_pos rfl, if_pos (show 48 ≤ 48 + d ∧ 48 + d ≤ 57 by omega), dgt, lst_app, Nat.add_sub_cancel_left, if_neg (by omega), List.dropLast_concat]
theorem rn_dgs {L : List (Nat × Nat)} {W : List Nat} {op x : Nat} (hx : x ≤ 9999) : ∀ j, x / 10 ^ (j + 1) ≠ 0 → rn (L ++ [(0, x / 10 ^ (j + 1))], W, op, 2) (dgs x j) = some (L ++ [(0, x)], W, op, 2)
  | 0, h => by
    have e : x / 10 * 10 + x % 10 = x := by omega
    have h1 : x / 10 ≠ 0 := h
    have := tk_dg (L := L) (W := W) (op := op) (d := x % 10) h1 (by omega) (by omega)
    rw [e] at this
    exact rn_1 this
  | j + 1, h => by
    have e0 : x / 10 ^ (j + 2) = x / 10 ^ (j + 1) / 10 := by rw [Nat.pow_succ 10 (j + 1), ← Nat.div_div_eq_div_mul]
    have hle : x / 10 ^ (j + 1) ≤ x := Nat.div_le_self _ _
    have h : x / 10 ^ (j + 2) ≠ 0 := h
    show (tk (L ++ [(0, x / 10 ^ (j + 2))], W, op, 2) (48 + x / 10 ^ (j + 1) % 10)).bind (fun q => rn q (dgs x j)) = _
    rw [e0] at h ⊢
    generalize hy : x / 10 ^ (j + 1) = y at h ⊢ hle
    have e : y / 10 * 10 + y % 10 = y := by omega
    rw [tk_dg h (by omega) (by omega), e]
    have := rn_dgs (L := L) (W := W) (op := op) hx j (by rw [hy]; omega)
    rw [hy] at this
    exact this
theorem pz_num {x j : Nat} (hx : x ≤ 9999) (h1 : j = 0 ∨ 10 ^ j ≤ x) (h2 : x < 10 ^ (j + 1)) : pz [(0, x)] (dgs x j) := fun L W op => by
  refine ⟨2, Or.inl rfl, ?_⟩
  cases j with
  | zero =>
    have h2 : x < 10 := h2
    refine rn_1 ?_
    rw [tk_f, Nat.mod_eq_of_lt h2, fct, if_pos (by omega), Nat.add_sub_cancel_left]
  | succ j =>
    have h1 : 10 ^ (j + 1) ≤ x := h1.resolve_left (by omega)
    have hp : 0 < 10 ^ (j + 1) := Nat.pow_pos (by decide)
    have h3 : x / 10 ^ (j + 1) < 10 := Nat.div_lt_of_lt_mul (by rw [← Nat.pow_succ]; exact h2)
    have h4 : x / 10 ^ (j + 1) ≠ 0 := by
      have := Nat.div_pos h1 hp
      omega
    show (tk (L, W, op, 0) (48 + x / 10 ^ (j + 1) % 10)).bind (fun q => rn q (dgs x j)) = _
    rw [Nat.mod_eq_of_lt h3, tk_f, fct, if_pos ⟨Nat.le_add_right _ _, Nat.add_le_add_left (Nat.le_of_lt_succ h3) 48⟩, Nat.add_sub_cancel_left]
    exact rn_dgs hx j h4
def pfx (b : Nat) : List Nat := if b = 40 then [40] else [b, 40]
def sfx (b : Nat) : List (Nat × Nat) := if b = 40 then [] else [(b, 0)]
theorem rn_open {L : List (Nat × Nat)} {W : List Nat} {op b : Nat} (hb : isB b) : rn (L, W, op, 0) (pfx b) = some (L, b :: W, op + 1, 0) := by
  rcases hb with rfl | rfl | rfl | rfl <;> rfl
theorem rel_B {b s : Nat} {W : List Nat} {L : List (Nat × Nat)} (hb : isB b) (hs : 1 ≤ s) : rel s (b :: W) L = (b :: W, L) := by
  rw [rel, if_neg (by rw [strg_B hb]; omega)]
theorem clo_B {b op : Nat} {W : List Nat} {L : List (Nat × Nat)} : clo (b :: W, L) (op + 1) = (L ++ sfx b, W, op, 3) := by
  show ((if b = 40 then L else L ++ [(b, 0)]), W, op + 1 - 1, 3) = _
  unfold sfx
  split
  · rw [List.append_nil]; rfl
  · rfl
theorem rn_close1 {L : List (Nat × Nat)} {W : List Nat} {op b n : Nat} (hb : isB b) (hn : n23 n) : rn (L, b :: W, op + 1, n) [41] = some (L ++ sfx b, W, op, 3) := by
  refine rn_1 ?_
  rw [tk_23 hn (by omega), bhd, if_pos ⟨rfl, Nat.succ_pos op⟩]
  show some (clo (rel 1 (b :: W) L) (op + 1)) = _
  rw [rel_B hb (Nat.le_refl _), clo_B]
theorem rn_close2 {L : List (Nat × Nat)} {W : List Nat} {op b c n : Nat} (hb : isB b) (hc : isO c) (hn : n23 n) : rn (L, c :: b :: W, op + 1, n) [41] = some (L ++ [(c, 0)] ++ sfx b, W, op, 3) := by
  refine rn_1 ?_
  rw [tk_23 hn (by omega), bhd, if_pos ⟨rfl, Nat.succ_pos op⟩]
  show some (clo (rel 1 (c :: b :: W) L) (op + 1)) = _
  rw [rel, if_pos (strg_O hc), rel_B hb (Nat.le_refl _), clo_B]
theorem tk_op {L : List (Nat × Nat)} {W : List Nat} {op c n : Nat} (hc : isO c) (hn : n23 n) : tk (L, W, op, n) c = some ((rel (strg c) W L).2, c :: (rel (strg c) W L).1, op, 0) := by
  have h1 := strg_O hc
  rw [tk_23 hn (by unfold isO at hc; omega), bhd, if_neg (by unfold isO at hc; omega), if_neg (by omega)]
theorem rn_op {L : List (Nat × Nat)} {W : List Nat} {op b c n : Nat} (hb : isB b) (hc : isO c) (hn : n23 n) : rn (L, b :: W, op, n) [c] = some (L, c :: b :: W, op, 0) := by
  refine rn_1 ?_
  rw [tk_op hc hn, rel_B hb (strg_O hc)]
theorem pz_br1 {A : List (Nat × Nat)} {T : List Nat} {b : Nat} (h : pz A T) (hb : isB b) : pz (A ++ sfx b) (pfx b ++ T ++ [41]) := fun L W op => by
  obtain ⟨n, hn, h1⟩ := h L (b :: W) (op + 1)
  refine ⟨3, Or.inr rfl, ?_⟩
  rw [← List.append_assoc]
  exact rn_cat (rn_cat (rn_open hb) h1) (rn_close1 hb hn)
theorem pz_br2 {A B : List (Nat × Nat)} {T U : List Nat} {b c : Nat} (h : pz A T) (g : pz B U) (hb : isB b) (hc : isO c) : pz (A ++ B ++ [(c, 0)] ++ sfx b) (pfx b ++ T ++ [c] ++ U ++ [41]) := fun L W op => by
  obtain ⟨n, hn, h1⟩ := h L (b :: W) (op + 1)
  obtain ⟨n2, hn2, h2⟩ := g (L ++ A) (c :: b :: W) (op + 1)
  refine ⟨3, Or.inr rfl, ?_⟩
  rw [show L ++ (A ++ B ++ [(c, 0)] ++ sfx b) = L ++ A ++ B ++ [(c, 0)] ++ sfx b by simp only [List.append_assoc]]
  exact rn_cat (rn_cat (rn_cat (rn_cat (rn_open hb) h1) (rn_op hb hc hn)) h2) (rn_close2 hb hc hn2)
/-! the terms of a text -/
def isS (c : Nat) : Prop := c = 43 ∨ c = 45
/-- ahead of a term: L is said, the sign waits -/
def tB (T : List Nat) (L : List (Nat × Nat)) (sg : List Nat) : Prop := rn ps0 T = some (L, sg, 0, 0) ∧ (sg = [] ∨ ∃ c, isS c ∧ sg = [c])
/-- behind a term -/
def tI (T : List Nat) (L : List (Nat × Nat)) : Prop := ∃ P W n, n23 n ∧ rn ps0 T = some (P, W, 0, n) ∧ rel 1 W P = ([], L)
def sfs : List Nat → List (Nat × Nat)
  | [] => []
  | c :: _ => [(c, 0)]
theorem tB_0 : tB [] [] [] := ⟨rfl, Or.inl rfl⟩
theorem isS_O {c : Nat} (h : isS c) : isO c := by unfold isS at h; unfold isO; omega
theorem isS_1 {c : Nat} (h : isS c) : strg c = 1 := by rcases h with rfl | rfl <;> rfl
theorem tI_sign {T : List Nat} {L : List (Nat × Nat)} {c : Nat} (h : tI T L) (hc : isS c) : tB (T ++ [c]) L [c] := by
  obtain ⟨P, W, n, hn, h1, h2⟩ := h
  refine ⟨rn_cat h1 (rn_1 ?_), Or.inr ⟨c, hc, rfl⟩⟩
  rw [tk_op (isS_O hc) hn, isS_1 hc, h2]
theorem rel_sg {sg : List Nat} {P : List (Nat × Nat)} (h : sg = [] ∨ ∃ c, isS c ∧ sg = [c]) : rel 1 sg P = ([], P ++ sfs sg) ∧ rel 2 sg P = (sg, P) := by
  rcases h with rfl | ⟨c, hc, rfl⟩
  · exact ⟨by rw [rel, sfs, List.append_nil], rfl⟩
  · refine ⟨?_, ?_⟩
    · rw [rel, if_pos (by rw [isS_1 hc]; decide)]; rfl
    · rw [rel, if_neg (by rw [isS_1 hc]; decide)]
theorem tB_term {T U : List Nat} {L X : List (Nat × Nat)} {sg : List Nat} (h : tB T L sg) (g : pz X U) : tI (T ++ U) (L ++ X ++ sfs sg) := by
  obtain ⟨n, hn, h1⟩ := g L sg 0
  exact ⟨L ++ X, sg, n, hn, rn_cat h.1 h1, (rel_sg h.2).1⟩
theorem tB_term2 {T U V : List Nat} {L X Y : List (Nat × Nat)} {sg : List Nat} (h : tB T L sg) (g : pz X U) (g2 : pz Y V) : tI (T ++ U ++ [42] ++ V) (L ++ X ++ Y ++ [(42, 0)] ++ sfs sg) := by
  obtain ⟨n, hn, h1⟩ := g L sg 0
  obtain ⟨n2, hn2, h2⟩ := g2 (L ++ X) (42 :: sg) 0
  have hs : rn (L ++ X, sg, 0, n) [42] = some (L ++ X, 42 :: sg, 0, 0) := by
    refine rn_1 ?_
    rw [tk_op (Or.inr (Or.inr rfl)) hn]
    show some ((rel 2 sg (L ++ X)).2, 42 :: (rel 2 sg (L ++ X)).1, 0, 0) = _
    rw [(rel_sg h.2).2]
  refine ⟨L ++ X ++ Y, 42 :: sg, n2, hn2, rn_cat (rn_cat (rn_cat h.1 h1) hs) h2, ?_⟩
  rw [rel, if_pos (by decide)]
  exact (rel_sg h.2).1
theorem tI_is {T : List Nat} {L : List (Nat × Nat)} (h : tI T L) : fltN T = none ∧ stpN T = L := by
  obtain ⟨P, W, n, hn, h1, h2⟩ := h
  have e := rn_prs T ps0 _ 0 h1
  refine ⟨?_, ?_⟩
  · unfold fltN fin1
    rw [e]
    show (if n = 0 ∨ n = 1 ∨ 0 < 0 then some T.length else none) = none
    rw [if_neg (by unfold n23 at hn; omega)]
  · unfold stpN
    rw [e]
    show (rel 1 W P).2 = L
    rw [h2]
