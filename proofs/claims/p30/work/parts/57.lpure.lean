/-! reckoning with its pile; what the law's two rows hold -/
def ek (τ : hS1) : List (Nat × Nat) → List Nat → List Nat → (List Nat × List Nat) × Nat
  | [], p, vs => ((p, vs), 0)
  | s :: r, p, vs => if rkv τ s p < 0 then ((p, vs), 2) else if (LG : Int) < rkv τ s p then ((p, vs), 1) else ek τ r ((rkv τ s p).toNat :: rkp s p) (vs ++ [(rkv τ s p).toNat])
theorem ek_s2 {τ : hS1} {s : Nat × Nat} {r : List (Nat × Nat)} {p vs : List Nat} (h : rkv τ s p < 0) : ek τ (s :: r) p vs = ((p, vs), 2) := by rw [ek, if_pos h]
theorem ek_s1 {τ : hS1} {s : Nat × Nat} {r : List (Nat × Nat)} {p vs : List Nat} (h : ¬ rkv τ s p < 0) (h1 : (LG : Int) < rkv τ s p) : ek τ (s :: r) p vs = ((p, vs), 1) := by rw [ek, if_neg h, if_pos h1]
theorem ek_s0 {τ : hS1} {s : Nat × Nat} {r : List (Nat × Nat)} {p vs : List Nat} (h : ¬ rkv τ s p < 0) (h1 : ¬ (LG : Int) < rkv τ s p) : ek τ (s :: r) p vs = ek τ r ((rkv τ s p).toNat :: rkp s p) (vs ++ [(rkv τ s p).toNat]) := by rw [ek, if_neg h, if_neg h1]
theorem ek_rk {τ : hS1} : ∀ (r : List (Nat × Nat)) (p vs : List Nat), rk τ r p vs = ((ek τ r p vs).1.2, (ek τ r p vs).2)
  | [], _, _ => rfl
  | s :: r, p, vs => by
    by_cases h : rkv τ s p < 0
    · rw [rk, if_pos h, ek_s2 h]
    · by_cases h1 : (LG : Int) < rkv τ s p
      · rw [rk, if_neg h, if_pos h1, ek_s1 h h1]
      · rw [rk, if_neg h, if_neg h1, ek_s0 h h1]; exact ek_rk r _ _
theorem ek_app {τ : hS1} : ∀ (a b : List (Nat × Nat)) (p vs : List Nat), ek τ (a ++ b) p vs = if (ek τ a p vs).2 = 0 then ek τ b (ek τ a p vs).1.1 (ek τ a p vs).1.2 else ek τ a p vs
  | [], b, p, vs => by
    exact (if_pos (rfl : (ek τ [] p vs).2 = 0)).symm
  | s :: a, b, p, vs => by
    show ek τ (s :: (a ++ b)) p vs = _
    by_cases h : rkv τ s p < 0
    · rw [ek_s2 h, ek_s2 h, if_neg (show ¬ (2 = 0) by decide)]
    · by_cases h1 : (LG : Int) < rkv τ s p
      · rw [ek_s1 h h1, ek_s1 h h1, if_neg (show ¬ (1 = 0) by decide)]
      · rw [ek_s0 h h1, ek_s0 h h1]; exact ek_app a b _ _
theorem ek_pile {τ : hS1} : ∀ (r : List (Nat × Nat)) (p vs : List Nat), (∀ x ∈ p, x ≤ LG) → ∀ x ∈ (ek τ r p vs).1.1, x ≤ LG
  | [], p, vs, h => h
  | s :: r, p, vs, h => by
    by_cases h0 : rkv τ s p < 0
    · rw [ek_s2 h0]; exact h
    · by_cases h1 : (LG : Int) < rkv τ s p
      · rw [ek_s1 h0 h1]; exact h
      · rw [ek_s0 h0 h1]
        refine ek_pile r _ _ fun x hx => ?_
        rcases List.mem_cons.mp hx with q | q
        · rw [q]; omega
        · unfold rkp at q
          split at q
          · exact h x q
          · split at q
            · exact h x (List.mem_of_mem_drop q)
            · exact h x (List.mem_of_mem_drop q)
def qS (τ : hS1) (L : List (Nat × Nat)) : (List Nat × List Nat) × Nat := ek τ L [] []
def qP (τ : hS1) (L : List (Nat × Nat)) : List Nat := (qS τ L).1.1
def qV (τ : hS1) (L : List (Nat × Nat)) : List Nat := (qS τ L).1.2
def qR (τ : hS1) (L : List (Nat × Nat)) : Nat := (qS τ L).2
def rvN (τ : hS1) (L : List (Nat × Nat)) : Nat := if qR τ L = 0 then (qP τ L).getD 0 0 else 0
theorem qR_rk {τ : hS1} {L : List (Nat × Nat)} : rkR τ L = (qV τ L, qR τ L) := ek_rk L [] []
theorem qS_bad {τ : hS1} {L : List (Nat × Nat)} (h : ¬ qR τ L = 0) (X : List (Nat × Nat)) : qS τ (L ++ X) = qS τ L := (ek_app L X [] []).trans (if_neg h)
theorem qS_ok {τ : hS1} {L : List (Nat × Nat)} (h : qR τ L = 0) (X : List (Nat × Nat)) : qS τ (L ++ X) = ek τ X (qP τ L) (qV τ L) := (ek_app L X [] []).trans (if_pos h)
theorem qR_pre {τ : hS1} {L X : List (Nat × Nat)} (h : qR τ (L ++ X) = 0) : qR τ L = 0 := Classical.not_not.mp fun q => q (by unfold qR at h q ⊢; rw [qS_bad q] at h; exact h)
theorem qV_le {τ : hS1} {L : List (Nat × Nat)} : (qV τ L).length ≤ L.length ∧ (qR τ L = 0 → (qV τ L).length = L.length) ∧ qR τ L ≤ 2 := by
  obtain ⟨a, b, c⟩ := rk_len (τ := τ) L [] []
  have e : rk τ L [] [] = (qV τ L, qR τ L) := qR_rk
  rw [e] at a b c
  simp only [List.length_nil, Nat.zero_add] at a b
  exact ⟨a, b, c⟩
theorem rvN_le {τ : hS1} {L : List (Nat × Nat)} : rvN τ L ≤ LG := by
  unfold rvN
  split
  · exact getD_bd (ek_pile L [] [] (fun x hx => absurd hx List.not_mem_nil)) _
  · exact Nat.zero_le _
theorem rvN_bad {τ : hS1} {L : List (Nat × Nat)} (h : ¬ qR τ L = 0) : rvN τ L = 0 := by rw [rvN, if_neg h]
theorem qR_nil {τ : hS1} : qR τ [] = 0 := rfl
theorem qP_nil {τ : hS1} : qP τ [] = [] := rfl
/-- behind one more step -/
theorem e1_s2 {τ : hS1} {L : List (Nat × Nat)} {s : Nat × Nat} (h : qR τ L = 0) (h0 : rkv τ s (qP τ L) < 0) : qV τ (L ++ [s]) = qV τ L ∧ qR τ (L ++ [s]) = 2 := by
  unfold qV qR; rw [qS_ok h, ek_s2 h0]; exact ⟨rfl, rfl⟩
theorem e1_s1 {τ : hS1} {L : List (Nat × Nat)} {s : Nat × Nat} (h : qR τ L = 0) (h0 : ¬ rkv τ s (qP τ L) < 0) (h1 : (LG : Int) < rkv τ s (qP τ L)) : qV τ (L ++ [s]) = qV τ L ∧ qR τ (L ++ [s]) = 1 := by
  unfold qV qR; rw [qS_ok h, ek_s1 h0 h1]; exact ⟨rfl, rfl⟩
theorem e1_s0 {τ : hS1} {L : List (Nat × Nat)} {s : Nat × Nat} (h : qR τ L = 0) (h0 : ¬ rkv τ s (qP τ L) < 0) (h1 : ¬ (LG : Int) < rkv τ s (qP τ L)) : qV τ (L ++ [s]) = qV τ L ++ [(rkv τ s (qP τ L)).toNat] ∧ qR τ (L ++ [s]) = 0 ∧ qP τ (L ++ [s]) = (rkv τ s (qP τ L)).toNat :: rkp s (qP τ L) ∧ rvN τ (L ++ [s]) = (rkv τ s (qP τ L)).toNat := by
  have e : qS τ (L ++ [s]) = (((rkv τ s (qP τ L)).toNat :: rkp s (qP τ L), qV τ L ++ [(rkv τ s (qP τ L)).toNat]), 0) := by rw [qS_ok h, ek_s0 h0 h1]; rfl
  refine ⟨congrArg (fun z => z.1.2) e, congrArg (fun z => z.2) e, congrArg (fun z => z.1.1) e, ?_⟩
  unfold rvN qR qP
  rw [e, if_pos rfl]
  rfl
theorem e1_bad {τ : hS1} {L : List (Nat × Nat)} {s : Nat × Nat} (h : ¬ qR τ L = 0) : qV τ (L ++ [s]) = qV τ L ∧ qR τ (L ++ [s]) = qR τ L := by
  unfold qV qR; rw [qS_bad h]; exact ⟨rfl, rfl⟩
/-- a row of steps that leaves one value -/
def on (X : List (Nat × Nat)) : Prop := ∀ (τ : hS1) (p vs : List Nat), (ek τ X p vs).2 = 0 → ∃ w, (ek τ X p vs).1.1 = w :: p
theorem ek_1 {τ : hS1} {s : Nat × Nat} {p vs : List Nat} (h : (ek τ [s] p vs).2 = 0) : ∃ w, (ek τ [s] p vs).1.1 = w :: rkp s p := by
  by_cases h0 : rkv τ s p < 0
  · rw [ek_s2 h0] at h; cases h
  · by_cases h1 : (LG : Int) < rkv τ s p
    · rw [ek_s1 h0 h1] at h; cases h
    · rw [ek_s0 h0 h1]; exact ⟨_, rfl⟩
theorem on_leaf {k v : Nat} (hk : k < 2) : on [(k, v)] := fun τ p vs h => by
  obtain ⟨w, hw⟩ := ek_1 h
  rw [rkp, if_pos hk] at hw
  exact ⟨w, hw⟩
theorem ek_pre {τ : hS1} {a b : List (Nat × Nat)} {p vs : List Nat} (h : (ek τ (a ++ b) p vs).2 = 0) : (ek τ a p vs).2 = 0 ∧ ek τ (a ++ b) p vs = ek τ b (ek τ a p vs).1.1 (ek τ a p vs).1.2 := by
  rw [ek_app] at h ⊢
  split at h
  · next q => exact ⟨q, by rw [if_pos q]⟩
  · next q => exact absurd h q
theorem on_un {X : List (Nat × Nat)} {c : Nat} (h : on X) (hc : c = 113 ∨ c = 107 ∨ c = 115) : on (X ++ [(c, 0)]) := fun τ p vs h2 => by
  obtain ⟨h3, e⟩ := ek_pre h2
  obtain ⟨w, hw⟩ := h τ p vs h3
  rw [e] at h2 ⊢
  obtain ⟨u, hu⟩ := ek_1 h2
  rw [hw, rkp, if_neg (show ¬ c < 2 by omega), if_neg (show ¬ (c = 43 ∨ c = 45 ∨ c = 42) by omega)] at hu
  exact ⟨u, by rw [hw, hu]; rfl⟩
theorem on_bin {X Y : List (Nat × Nat)} {c : Nat} (h : on X) (g : on Y) (hc : isO c) : on (X ++ Y ++ [(c, 0)]) := fun τ p vs h2 => by
  obtain ⟨h3, e⟩ := ek_pre h2
  obtain ⟨h4, e2⟩ := ek_pre h3
  obtain ⟨w, hw⟩ := h τ p vs h4
  rw [e2] at h3
  obtain ⟨u, hu⟩ := g τ _ _ h3
  rw [← e2] at hu
  rw [e] at h2 ⊢
  obtain ⟨x, hx⟩ := ek_1 h2
  have hc2 : ¬ c < 2 := by unfold isO at hc; omega
  rw [hu, hw, rkp, if_neg hc2, if_pos (show c = 43 ∨ c = 45 ∨ c = 42 from hc)] at hx
  exact ⟨x, by rw [hu, hw, hx]; rfl⟩
theorem qP_on {τ : hS1} {L X : List (Nat × Nat)} (h : on X) (h0 : qR τ (L ++ X) = 0) : qP τ (L ++ X) = rvN τ (L ++ X) :: qP τ L := by
  have h1 := qR_pre h0
  have e := qS_ok h1 X
  obtain ⟨w, hw⟩ := h τ (qP τ L) (qV τ L) (by rw [← e]; exact h0)
  have e2 : qP τ (L ++ X) = w :: qP τ L := by unfold qP at hw ⊢; rw [e]; exact hw
  rw [rvN, if_pos h0, e2]
  rfl
/-- the law's rows: how many steps, the step that ends them, why, and the values -/
def lMa (τ : hS1) (L : List (Nat × Nat)) (fv : Nat → Int64) (fm : Nat → Int32) : Prop := fm 0 = nI L.length ∧ (qR τ L = 0 → fm 1 = -6 ∧ fm 2 = 0) ∧ (¬ qR τ L = 0 → fm 1 = nI (qV τ L).length ∧ fm 2 = nI (qR τ L)) ∧ ∀ k, k < (qV τ L).length → fv k = lN ((qV τ L).getD k 0)
def lMb (L : List (Nat × Nat)) (fm : Nat → Int32) : Prop := fm 3 = nI (rOf L L.length) ∧ fm 4 = cOf L L.length
theorem gD_app {l m : List (Nat × Nat)} {k : Nat} (h : k < l.length) : (l ++ m).getD k (0, 0) = l.getD k (0, 0) := by
  rw [List.getD_eq_getElem?_getD, List.getElem?_append_left h, ← List.getD_eq_getElem?_getD]
theorem gD_last {l : List (Nat × Nat)} {s : Nat × Nat} : (l ++ [s]).getD l.length (0, 0) = s := by simp
theorem rO_app {l m : List (Nat × Nat)} : ∀ n, n ≤ l.length → rOf (l ++ m) n = rOf l n
  | 0, _ => rfl
  | n + 1, h => by rw [rOf, rOf, rO_app n (by omega), gD_app (by omega)]
theorem cO_app {l m : List (Nat × Nat)} : ∀ n, n ≤ l.length → cOf (l ++ m) n = cOf l n
  | 0, _ => rfl
  | n + 1, h => by rw [cOf, cOf, cO_app n (by omega), gD_app (by omega)]
theorem rO_1 {l : List (Nat × Nat)} {s : Nat × Nat} : rOf (l ++ [s]) (l ++ [s]).length = rOf l l.length + (if s.1 = 113 ∨ s.1 = 107 then 1 else 0) := by
  rw [List.length_append, List.length_singleton, rOf, rO_app _ (Nat.le_refl _), gD_last]
theorem cO_1 {l : List (Nat × Nat)} {s : Nat × Nat} : cOf (l ++ [s]) (l ++ [s]).length = cOf l l.length ||| (if s.1 = 1 then 1 <<< (nI s.2 &&& 31) else 0) := by
  rw [List.length_append, List.length_singleton, cOf, cO_app _ (Nat.le_refl _), gD_last]
theorem i_or0 (x : Int32) : x ||| 0 = x := by
  rw [← Int32.toBitVec_inj]; simp
theorem lMb_o {L : List (Nat × Nat)} {fm fm2 : Nat → Int32} {k v : Nat} (h : lMb L fm) (hk : k ≠ 1 ∧ k ≠ 113 ∧ k ≠ 107) (h3 : fm2 3 = fm 3) (h4 : fm2 4 = fm 4) : lMb (L ++ [(k, v)]) fm2 := by
  refine ⟨?_, ?_⟩
  · rw [h3, h.1, rO_1, if_neg (by show ¬ (k = 113 ∨ k = 107); omega)]; rfl
  · rw [h4, h.2, cO_1, if_neg (by show ¬ k = 1; omega), i_or0]
/-- one more step said -/
theorem lM_s2 {τ : hS1} {L : List (Nat × Nat)} {s : Nat × Nat} {fv fv2 : Nat → Int64} {fm fm2 : Nat → Int32} (h : lMa τ L fv fm) (hR : qR τ L = 0) (h0 : rkv τ s (qP τ L) < 0) (e0 : fm2 0 = nI (L.length + 1)) (e1 : fm2 1 = nI L.length) (e2 : fm2 2 = 2) (ev : ∀ k, k ≠ L.length → fv2 k = fv k) : lMa τ (L ++ [s]) fv2 fm2 ∧ rvN τ (L ++ [s]) = 0 := by
  obtain ⟨a, b⟩ := e1_s2 hR h0
  have hl := qV_le.2.1 hR
  refine ⟨⟨by rw [e0, List.length_append]; rfl, fun q => (by rw [b] at q; cases q), fun _ => ⟨by rw [e1, a, hl], by rw [e2, b]; rfl⟩, fun k hk => ?_⟩, rvN_bad (by rw [b]; decide)⟩
  rw [a] at hk ⊢
  rw [ev k (by omega)]
  exact h.2.2.2 k hk
theorem lM_s1 {τ : hS1} {L : List (Nat × Nat)} {s : Nat × Nat} {fv fv2 : Nat → Int64} {fm fm2 : Nat → Int32} (h : lMa τ L fv fm) (hR : qR τ L = 0) (h0 : (LG : Int) < rkv τ s (qP τ L)) (e0 : fm2 0 = nI (L.length + 1)) (e1 : fm2 1 = nI L.length) (e2 : fm2 2 = 1) (ev : ∀ k, k ≠ L.length → fv2 k = fv k) : lMa τ (L ++ [s]) fv2 fm2 ∧ rvN τ (L ++ [s]) = 0 := by
  obtain ⟨a, b⟩ := e1_s1 hR (show ¬ rkv τ s (qP τ L) < 0 by omega) h0
  have hl := qV_le.2.1 hR
  refine ⟨⟨by rw [e0, List.length_append]; rfl, fun q => (by rw [b] at q; cases q), fun _ => ⟨by rw [e1, a, hl], by rw [e2, b]; rfl⟩, fun k hk => ?_⟩, rvN_bad (by rw [b]; decide)⟩
  rw [a] at hk ⊢
  rw [ev k (by omega)]
  exact h.2.2.2 k hk
theorem gDn_app {l m : List Nat} {k : Nat} (h : k < l.length) : (l ++ m).getD k 0 = l.getD k 0 := by
  rw [List.getD_eq_getElem?_getD, List.getElem?_append_left h, ← List.getD_eq_getElem?_getD]
theorem lM_s0 {τ : hS1} {L : List (Nat × Nat)} {s : Nat × Nat} {fv fv2 : Nat → Int64} {fm fm2 : Nat → Int32} (h : lMa τ L fv fm) (hR : qR τ L = 0) (h0 : 0 ≤ rkv τ s (qP τ L)) (h1 : rkv τ s (qP τ L) ≤ (LG : Int)) (e0 : fm2 0 = nI (L.length + 1)) (e1 : fm2 1 = fm 1) (e2 : fm2 2 = fm 2) (ev : ∀ k, k ≠ L.length → fv2 k = fv k) (ew : fv2 L.length = lN (rkv τ s (qP τ L)).toNat) : lMa τ (L ++ [s]) fv2 fm2 ∧ rvN τ (L ++ [s]) = (rkv τ s (qP τ L)).toNat := by
  obtain ⟨a, b, c, d⟩ := e1_s0 hR (show ¬ rkv τ s (qP τ L) < 0 by omega) (show ¬ (LG : Int) < rkv τ s (qP τ L) by omega)
  have hl := qV_le.2.1 hR
  refine ⟨⟨by rw [e0, List.length_append]; rfl, fun _ => ⟨by rw [e1, (h.2.1 hR).1], by rw [e2, (h.2.1 hR).2]⟩, fun q => absurd b q, fun k hk => ?_⟩, d⟩
  rw [a] at hk ⊢
  rw [List.length_append, List.length_singleton] at hk
  by_cases hk2 : k = L.length
  · rw [hk2, ew]; congr 1; rw [← hl]; simp
  · rw [ev k hk2, gDn_app (by omega)]
    exact h.2.2.2 k (by omega)
theorem lM_bad {τ : hS1} {L : List (Nat × Nat)} {s : Nat × Nat} {fv fv2 : Nat → Int64} {fm fm2 : Nat → Int32} (h : lMa τ L fv fm) (hR : ¬ qR τ L = 0) (e0 : fm2 0 = nI (L.length + 1)) (e1 : fm2 1 = fm 1) (e2 : fm2 2 = fm 2) (ev : ∀ k, k ≠ L.length → fv2 k = fv k) : lMa τ (L ++ [s]) fv2 fm2 ∧ rvN τ (L ++ [s]) = 0 := by
  obtain ⟨a, b⟩ := e1_bad (s := s) hR
  have hl := (qV_le (τ := τ) (L := L)).1
  refine ⟨⟨by rw [e0, List.length_append]; rfl, fun q => absurd (b.symm.trans q) hR, fun _ => ⟨by rw [e1, (h.2.2.1 hR).1, a], by rw [e2, (h.2.2.1 hR).2, b]⟩, fun k hk => ?_⟩, rvN_bad (by rw [b]; exact hR)⟩
  rw [a] at hk ⊢
  rw [ev k (by omega)]
  exact h.2.2.2 k hk
theorem lMa_0 {τ : hS1} {fv : Nat → Int64} {fm : Nat → Int32} (e0 : fm 0 = 0) (e1 : fm 1 = -6) (e2 : fm 2 = 0) : lMa τ [] fv fm := ⟨e0, fun _ => ⟨e1, e2⟩, fun q => absurd rfl q, fun k hk => absurd hk (Nat.not_lt_zero _)⟩
/-! the product that is compared ahead -/
def tmt (a b : Nat) : Nat := if 0 < b ∧ LG / b < a then LG + 1 else a * b
theorem tmt_tmn (a b : Nat) : tmt a b = tmn a b := by
  unfold tmt tmn
  rcases Nat.eq_zero_or_pos a with ha | ha
  · rw [ha, if_neg (fun q => Nat.not_lt_zero _ q.2), if_neg (fun q => q.1 rfl)]
  · rcases Nat.eq_zero_or_pos b with hb | hb
    · rw [hb, if_neg (fun q => Nat.lt_irrefl _ q.1), if_neg (fun q => Nat.not_lt_zero _ q.2)]
    · have e1 : LG / b < a ↔ LG < a * b := Nat.div_lt_iff_lt_mul hb
      have e2 : LG / a < b ↔ LG < b * a := Nat.div_lt_iff_lt_mul ha
      by_cases h : LG < a * b
      · rw [if_pos ⟨hb, e1.mpr h⟩, if_pos ⟨by omega, e2.mpr (by rw [Nat.mul_comm]; exact h)⟩]
      · rw [if_neg (fun q => h (e1.mp q.2)), if_neg (fun q => h (by rw [Nat.mul_comm]; exact e2.mp q.2))]
