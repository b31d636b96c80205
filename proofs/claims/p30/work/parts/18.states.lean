def fo (q : Nat → Option Nat) (i : Int32) : Option Nat := if 0 ≤ i.toInt ∧ i.toInt ≤ 5 then q i.toInt.toNat else none
theorem fo_nI {q : Nat → Option Nat} {i : Nat} (h : i < 6) : fo q (nI i) = q i := by rw [fo, nI_toI (by omega), if_pos (by omega)]; rfl
theorem fo_out {q : Nat → Option Nat} {i : Int32} (h : ¬ (0 ≤ i.toInt ∧ i.toInt ≤ 5)) : fo q i = none := if_neg h
/-- the first n places anew -/
def cpy {α : Type} (f g : Nat → α) (n : Nat) : Nat → α := fun j => if j < n then g j else f j
theorem cpy_0 {α : Type} {f g : Nat → α} : cpy f g 0 = f := by funext j; simp [cpy]
theorem cpy_s {α : Type} {f g : Nat → α} {n : Nat} : va_up (cpy f g n) n (g n) = cpy f g (n + 1) := by
  funext j
  by_cases h : j = n
  · subst h; simp [va_up, cpy]
  · by_cases h2 : j < n
    · simp [va_up, cpy, h, h2, Nat.lt_succ_of_lt h2]
    · simp [va_up, cpy, h, h2, show ¬ j < n + 1 by omega]
theorem cpy_in {α : Type} {f g : Nat → α} {n j : Nat} (h : j < n) : cpy f g n j = g j := if_pos h
/-- a set's bits -/
def fbv (p : Nat → Bool) : Nat → Int32
  | 0 => 0
  | n + 1 => if p n = true then fbv p n ||| (1 <<< (nI n &&& 31)) else fbv p n
theorem fbv_congr {p q : Nat → Bool} : ∀ n, (∀ i, i < n → p i = q i) → fbv p n = fbv q n
  | 0, _ => rfl
  | n + 1, h => by rw [fbv, fbv, fbv_congr n (fun i hi => h i (by omega)), h n (by omega)]
def cnz (c : Nat → Bool) : Nat → Nat
  | 0 => 0
  | n + 1 => if c n = true then cnz c n + 1 else cnz c n
theorem cnz_congr {p q : Nat → Bool} : ∀ n, (∀ i, i < n → p i = q i) → cnz p n = cnz q n
  | 0, _ => rfl
  | n + 1, h => by rw [cnz, cnz, cnz_congr n (fun i hi => h i (by omega)), h n (by omega)]
set_option maxHeartbeats 4000000 in
set_option maxRecDepth 100000 in
theorem c_X4_setting (K : hKv) (M : hM) {h a1 t0 t1 : Nat} {v1 v2 : Value} {f : Nat → Int32} (h0 : M h = some (t0, eO 4 [.ref a1, v1, v2])) (h1 : M a1 = some (t1, eI K 2 f)) (i : Nat) (hi : i < 2) : hC K Y_X4_setting rm_X4_setting [.ref h, .int (nI i)] M (hPi fun r M1 => r = f i ∧ M1 = M) := by
  refine hC.of [some (.ref h), some (.int (nI i))] (by decide) (Nat.le_of_ble_eq_true rfl) rfl rfl ?_
  intro E C Rt
  have C : hCx E K cX4_setting 2 RX4 "setting" rm_X4_setting := C
  refine x_iload_1 1 C dX4_setting_0 rfl ?_
  refine x_if_lt 4 22 C dX4_setting_1 rfl rfl (fun z => absurd z (nI_pos (by omega))) (fun _ => ?_)
  refine x_iload_1 5 C dX4_setting_4 rfl ?_
  refine x_aload_0 6 C dX4_setting_5 rfl ?_
  refine xg_X4_settings 9 C wf_X4_9 h0 dX4_setting_6 rfl ?_
  refine x_alenI 10 C h1 dX4_setting_9 rfl ?_
  refine x_icmp_ge 13 22 C dX4_setting_10 rfl rfl (fun z => absurd z (nI_ge hi (by decide))) (fun _ => ?_)
  refine x_aload_0 14 C dX4_setting_13 rfl ?_
  refine xg_X4_settings 17 C wf_X4_9 h0 dX4_setting_14 rfl ?_
  refine x_iload_1 18 C dX4_setting_17 rfl ?_
  refine x_iald 19 (i) C h1 (rfl) (hi) (by decide) dX4_setting_18 rfl ?_
  refine x_goto 23 C dX4_setting_19 rfl ?_
  refine x_ireturn C Rt dX4_setting_23 rfl ⟨Nat.le_of_ble_eq_true rfl, Nat.le_of_ble_eq_true rfl⟩ ?_
  exact ⟨_, rfl, rfl, rfl⟩
set_option maxHeartbeats 4000000 in
set_option maxRecDepth 100000 in
theorem c_X4_cellValue (K : hKv) (M : hM) {h a1 t0 t1 : Nat} {v1 v2 : Value} {f : Nat → Int64} (h0 : M h = some (t0, eO 4 [v1, .ref a1, v2])) (h1 : M a1 = some (t1, eJ K 8 f)) (i : Nat) (hi : i < 8) : hC K Y_X4_cellValue rm_X4_cellValue [.ref h, .int (nI i)] M (hPl fun r M1 => r = f i ∧ M1 = M) := by
  refine hC.of [some (.ref h), some (.int (nI i))] (by decide) (Nat.le_of_ble_eq_true rfl) rfl rfl ?_
  intro E C Rt
  have C : hCx E K cX4_cellValue 2 RX4 "cellValue" rm_X4_cellValue := C
  refine x_iload_1 1 C dX4_cellValue_0 rfl ?_
  refine x_if_lt 4 22 C dX4_cellValue_1 rfl rfl (fun z => absurd z (nI_pos (by omega))) (fun _ => ?_)
  refine x_iload_1 5 C dX4_cellValue_4 rfl ?_
  refine x_aload_0 6 C dX4_cellValue_5 rfl ?_
  refine xg_X4_cells 9 C wf_X4_15 h0 dX4_cellValue_6 rfl ?_
  refine x_alenJ 10 C h1 dX4_cellValue_9 rfl ?_
  refine x_icmp_ge 13 22 C dX4_cellValue_10 rfl rfl (fun z => absurd z (nI_ge hi (by decide))) (fun _ => ?_)
  refine x_aload_0 14 C dX4_cellValue_13 rfl ?_
  refine xg_X4_cells 17 C wf_X4_15 h0 dX4_cellValue_14 rfl ?_
  refine x_iload_1 18 C dX4_cellValue_17 rfl ?_
  refine x_lald 19 (i) C h1 (rfl) (hi) (by decide) dX4_cellValue_18 rfl ?_
  refine x_goto 23 C dX4_cellValue_19 rfl ?_
  refine x_lreturn C Rt dX4_cellValue_23 ⟨Nat.le_of_ble_eq_true rfl, Nat.le_of_ble_eq_true rfl⟩ ?_
  exact ⟨_, rfl, rfl, rfl⟩
set_option maxHeartbeats 4000000 in
set_option maxRecDepth 100000 in
theorem c_X4_changeSetting (K : hKv) (M : hM) {h a1 t0 t1 : Nat} {v1 v2 : Value} {f : Nat → Int32} (h0 : M h = some (t0, eO 4 [.ref a1, v1, v2])) (h1 : M a1 = some (t1, eI K 2 f)) (i : Nat) (hi : i < 2) (x : Int32) : hC K Y_X4_changeSetting rm_X4_changeSetting [.ref h, .int (nI i), .int x] M (hPv fun M1 => M1 = hU M a1 t1 (eI K 2 (va_up f i x))) := by
  refine hC.of [some (.ref h), some (.int (nI i)), some (.int x)] (by decide) (Nat.le_of_ble_eq_true rfl) rfl rfl ?_
  intro E C Rt
  have C : hCx E K cX4_changeSetting 3 RX4 "changeSetting" rm_X4_changeSetting := C
  refine x_iload_1 1 C dX4_changeSetting_0 rfl ?_
  refine x_if_lt 4 20 C dX4_changeSetting_1 rfl rfl (fun z => absurd z (nI_pos (by omega))) (fun _ => ?_)
  refine x_iload_1 5 C dX4_changeSetting_4 rfl ?_
  refine x_aload_0 6 C dX4_changeSetting_5 rfl ?_
  refine xg_X4_settings 9 C wf_X4_9 h0 dX4_changeSetting_6 rfl ?_
  refine x_alenI 10 C h1 dX4_changeSetting_9 rfl ?_
  refine x_icmp_ge 13 20 C dX4_changeSetting_10 rfl rfl (fun z => absurd z (nI_ge hi (by decide))) (fun _ => ?_)
  refine x_aload_0 14 C dX4_changeSetting_13 rfl ?_
  refine xg_X4_settings 17 C wf_X4_9 h0 dX4_changeSetting_14 rfl ?_
  refine x_iload_1 18 C dX4_changeSetting_17 rfl ?_
  refine x_iload_2 19 C dX4_changeSetting_18 rfl ?_
  refine x_iast 20 (i) C h1 (rfl) (hi) (by decide) dX4_changeSetting_19 rfl ?_
  refine x_up (fun M_1 g_1 o_1 e_1 => ?_)
  have h0 := (o_1 _ (h_ne_kd h0 h1 (by simp [hKd, eO, eI, eJ]))).trans h0
  have h1 := g_1
  refine x_vreturn C Rt dX4_changeSetting_20 ⟨Nat.le_of_ble_eq_true rfl, Nat.le_of_ble_eq_true rfl⟩ ?_
  exact ⟨rfl, e_1⟩
set_option maxHeartbeats 4000000 in
set_option maxRecDepth 100000 in
theorem c_X4_changeCell (K : hKv) (M : hM) {h a1 t0 t1 : Nat} {v1 v2 : Value} {f : Nat → Int64} (h0 : M h = some (t0, eO 4 [v1, .ref a1, v2])) (h1 : M a1 = some (t1, eJ K 8 f)) (i : Nat) (hi : i < 8) (x : Int64) : hC K Y_X4_changeCell rm_X4_changeCell [.ref h, .int (nI i), .long x] M (hPv fun M1 => M1 = hU M a1 t1 (eJ K 8 (va_up f i x))) := by
  refine hC.of [some (.ref h), some (.int (nI i)), some (.long x), none] (by decide) (Nat.le_of_ble_eq_true rfl) rfl rfl ?_
  intro E C Rt
  have C : hCx E K cX4_changeCell 4 RX4 "changeCell" rm_X4_changeCell := C
  refine x_iload_1 1 C dX4_changeCell_0 rfl ?_
  refine x_if_lt 4 20 C dX4_changeCell_1 rfl rfl (fun z => absurd z (nI_pos (by omega))) (fun _ => ?_)
  refine x_iload_1 5 C dX4_changeCell_4 rfl ?_
  refine x_aload_0 6 C dX4_changeCell_5 rfl ?_
  refine xg_X4_cells 9 C wf_X4_15 h0 dX4_changeCell_6 rfl ?_
  refine x_alenJ 10 C h1 dX4_changeCell_9 rfl ?_
  refine x_icmp_ge 13 20 C dX4_changeCell_10 rfl rfl (fun z => absurd z (nI_ge hi (by decide))) (fun _ => ?_)
  refine x_aload_0 14 C dX4_changeCell_13 rfl ?_
  refine xg_X4_cells 17 C wf_X4_15 h0 dX4_changeCell_14 rfl ?_
  refine x_iload_1 18 C dX4_changeCell_17 rfl ?_
  refine x_lload_2 19 C dX4_changeCell_18 rfl ?_
  refine x_last 20 (i) C h1 (rfl) (hi) (by decide) dX4_changeCell_19 rfl ?_
  refine x_up (fun M_1 g_1 o_1 e_1 => ?_)
  have h0 := (o_1 _ (h_ne_kd h0 h1 (by simp [hKd, eO, eI, eJ]))).trans h0
  have h1 := g_1
  refine x_vreturn C Rt dX4_changeCell_20 ⟨Nat.le_of_ble_eq_true rfl, Nat.le_of_ble_eq_true rfl⟩ ?_
  exact ⟨rfl, e_1⟩
set_option maxHeartbeats 4000000 in
set_option maxRecDepth 100000 in
theorem c_X4_formula (K : hKv) (M : hM) {h a1 t0 t1 : Nat} {v1 v2 : Value} {f : Nat → Option Nat} (h0 : M h = some (t0, eO 4 [v1, v2, .ref a1])) (h1 : M a1 = some (t1, eF K 6 f)) (i : Int32) : hC K Y_X4_formula rm_X4_formula [.ref h, .int i] M (hPq fun r M1 => r = fo f i ∧ M1 = M) := by
  refine hC.of [some (.ref h), some (.int i)] (by decide) (Nat.le_of_ble_eq_true rfl) rfl rfl ?_
  intro E C Rt
  have C : hCx E K cX4_formula 2 RX4 "formula" rm_X4_formula := C
  refine x_iload_1 1 C dX4_formula_0 rfl ?_
  refine x_if_lt 4 22 C dX4_formula_1 rfl rfl (fun c_1 => ?_) (fun c_1 => ?_)
  · refine x_null 23 C dX4_formula_22 rfl ?_
    exact x_qreturn (v := none) C Rt dX4_formula_23 ⟨Nat.le_of_ble_eq_true rfl, Nat.le_of_ble_eq_true rfl⟩ ⟨none, rfl, by rw [fo_out (by rw [Int32.lt_iff_toInt_lt, ti_0] at c_1; omega)], rfl⟩
  · have h2 : 0 ≤ i.toInt := by rw [Int32.lt_iff_toInt_lt, ti_0] at c_1; omega
    refine x_iload_1 5 C dX4_formula_4 rfl ?_
    refine x_aload_0 6 C dX4_formula_5 rfl ?_
    refine xg_X4_formulas 9 C wf_X4_21 h0 dX4_formula_6 rfl ?_
    refine x_alenF 10 C h1 dX4_formula_9 rfl ?_
    refine x_icmp_ge 13 22 C dX4_formula_10 rfl rfl (fun c_10 => ?_) (fun c_10 => ?_)
    · refine x_null 23 C dX4_formula_22 rfl ?_
      exact x_qreturn (v := none) C Rt dX4_formula_23 ⟨Nat.le_of_ble_eq_true rfl, Nat.le_of_ble_eq_true rfl⟩ ⟨none, rfl, by rw [fo_out (by rw [Int32.le_iff_toInt_le, nI_toI (by decide)] at c_10; omega)], rfl⟩
    · have h3 : i.toInt ≤ 5 := by rw [Int32.le_iff_toInt_le, nI_toI (by decide)] at c_10; omega
      have h4 := nI_ofInt h2
      refine x_aload_0 14 C dX4_formula_13 rfl ?_
      refine xg_X4_formulas 17 C wf_X4_21 h0 dX4_formula_14 rfl ?_
      refine x_iload_1 18 C dX4_formula_17 rfl ?_
      refine x_fald 19 (i.toInt.toNat) C h1 (h4) (by omega) (by decide) dX4_formula_18 rfl ?_
      refine x_goto 23 C dX4_formula_19 rfl ?_
      refine x_qreturn C Rt dX4_formula_23 ⟨Nat.le_of_ble_eq_true rfl, Nat.le_of_ble_eq_true rfl⟩ ?_
      exact ⟨_, rfl, by rw [fo, if_pos ⟨h2, h3⟩], rfl⟩
set_option maxHeartbeats 4000000 in
set_option maxRecDepth 100000 in
theorem c_X4_changeFormula (K : hKv) (M : hM) {h a1 t0 t1 : Nat} {v1 v2 : Value} {f : Nat → Option Nat} (h0 : M h = some (t0, eO 4 [v1, v2, .ref a1])) (h1 : M a1 = some (t1, eF K 6 f)) (i : Nat) (hi : i < 6) (x : Nat) {u : Nat} {vs : List Value} (hx : M x = some (u, eO 0 vs)) : hC K Y_X4_changeFormula rm_X4_changeFormula [.ref h, .int (nI i), .ref x] M (hPv fun M1 => M1 = hU M a1 t1 (eF K 6 (va_up f i (some x)))) := by
  refine hC.of [some (.ref h), some (.int (nI i)), some (.ref x)] (by decide) (Nat.le_of_ble_eq_true rfl) rfl rfl ?_
  intro E C Rt
  have C : hCx E K cX4_changeFormula 3 RX4 "changeFormula" rm_X4_changeFormula := C
  refine x_iload_1 1 C dX4_changeFormula_0 rfl ?_
  refine x_if_lt 4 20 C dX4_changeFormula_1 rfl rfl (fun z => absurd z (nI_pos (by omega))) (fun _ => ?_)
  refine x_iload_1 5 C dX4_changeFormula_4 rfl ?_
  refine x_aload_0 6 C dX4_changeFormula_5 rfl ?_
  refine xg_X4_formulas 9 C wf_X4_21 h0 dX4_changeFormula_6 rfl ?_
  refine x_alenF 10 C h1 dX4_changeFormula_9 rfl ?_
  refine x_icmp_ge 13 20 C dX4_changeFormula_10 rfl rfl (fun z => absurd z (nI_ge hi (by decide))) (fun _ => ?_)
  refine x_aload_0 14 C dX4_changeFormula_13 rfl ?_
  refine xg_X4_formulas 17 C wf_X4_21 h0 dX4_changeFormula_14 rfl ?_
  refine x_iload_1 18 C dX4_changeFormula_17 rfl ?_
  refine x_aload_2 19 C dX4_changeFormula_18 rfl ?_
  refine x_fast 20 (i) C h1 (hx) (rfl) (hi) (by decide) dX4_changeFormula_19 rfl ?_
  refine x_up (fun M_1 g_1 o_1 e_1 => ?_)
  have h0 := (o_1 _ (h_ne_kd h0 h1 (by simp [hKd, eO, eF]))).trans h0
  have h1 := g_1
  refine x_vreturn C Rt dX4_changeFormula_20 ⟨Nat.le_of_ble_eq_true rfl, Nat.le_of_ble_eq_true rfl⟩ ?_
  exact ⟨rfl, e_1⟩
set_option maxHeartbeats 4000000 in
set_option maxRecDepth 100000 in
theorem c_X4_formulasThere (K : hKv) (M : hM) {h a1 t0 t1 : Nat} {v1 v2 : Value} {f : Nat → Option Nat} (h0 : M h = some (t0, eO 4 [v1, v2, .ref a1])) (h1 : M a1 = some (t1, eF K 6 f)) : hC K Y_X4_formulasThere rm_X4_formulasThere [.ref h] M (hPi fun r M1 => r = fbv (fun k => (f k).isSome) 6 ∧ M1 = M) := by
  refine hC.of [some (.ref h), none, none] (by decide) (Nat.le_of_ble_eq_true rfl) rfl rfl ?_
  intro E C Rt
  have C : hCx E K cX4_formulasThere 3 RX4 "formulasThere" rm_X4_formulasThere := C
  have lp : ∀ (d n : Nat), n + d = 6 → ∀ x : Int32, x = fbv (fun k => (f k).isSome) n → hX E 0 0 4 [some (.ref h), some (.int x), some (.int (nI n))] [] M := by
    intro d
    induction d with
    | zero =>
      intro n hn x hx
      have hn : n = 6 := by omega
      subst hn
      subst hx
      refine x_iload_2 5 C dX4_formulasThere_4 rfl ?_
      refine x_aload_0 6 C dX4_formulasThere_5 rfl ?_
      refine xg_X4_formulas 9 C wf_X4_21 h0 dX4_formulasThere_6 rfl ?_
      refine x_alenF 10 C h1 dX4_formulasThere_9 rfl ?_
      refine x_icmp_ge 13 34 C dX4_formulasThere_10 rfl rfl (fun _ => ?_) (fun z => absurd (nI_le (Nat.le_refl _) (by decide)) z)
      refine x_iload_1 35 C dX4_formulasThere_34 rfl ?_
      refine x_ireturn C Rt dX4_formulasThere_35 rfl ⟨Nat.le_of_ble_eq_true rfl, Nat.le_of_ble_eq_true rfl⟩ ?_
      exact ⟨_, rfl, rfl, rfl⟩
    | succ d ih =>
      intro n hn x hx
      subst hx
      have hn8 : n < 6 := by omega
      refine x_iload_2 5 C dX4_formulasThere_4 rfl ?_
      refine x_aload_0 6 C dX4_formulasThere_5 rfl ?_
      refine xg_X4_formulas 9 C wf_X4_21 h0 dX4_formulasThere_6 rfl ?_
      refine x_alenF 10 C h1 dX4_formulasThere_9 rfl ?_
      refine x_icmp_ge 13 34 C dX4_formulasThere_10 rfl rfl (fun z => absurd z (nI_ge hn8 (by decide))) (fun _ => ?_)
      refine x_aload_0 14 C dX4_formulasThere_13 rfl ?_
      refine xg_X4_formulas 17 C wf_X4_21 h0 dX4_formulasThere_14 rfl ?_
      refine x_iload_2 18 C dX4_formulasThere_17 rfl ?_
      refine x_fald 19 (n) C h1 (rfl) (hn8) (by decide) dX4_formulasThere_18 rfl ?_
      refine x_ifnull 22 28 C dX4_formulasThere_19 rfl rfl (fun c_19 => ?_) (fun y_19 c_19 => ?_)
      · refine x_iinc_2 31 C dX4_formulasThere_28 rfl rfl (nI_inc _) ?_
        refine x_goto 4 C dX4_formulasThere_31 rfl ?_
        exact ih (n + 1) (by omega) _ (by rw [fbv, show (f n).isSome = false by rw [c_19]; rfl]; rfl)
      · refine x_iload_1 23 C dX4_formulasThere_22 rfl ?_
        refine x_iconst (v := 1) 24 C dX4_formulasThere_23 rfl rfl ?_
        refine x_iload_2 25 C dX4_formulasThere_24 rfl ?_
        refine x_ishl 26 C dX4_formulasThere_25 rfl ?_
        refine x_ior 27 C dX4_formulasThere_26 rfl ?_
        refine x_istore_1 28 C dX4_formulasThere_27 rfl rfl ?_
        refine x_iinc_2 31 C dX4_formulasThere_28 rfl rfl (nI_inc _) ?_
        refine x_goto 4 C dX4_formulasThere_31 rfl ?_
        exact ih (n + 1) (by omega) _ (by rw [fbv, show (f n).isSome = true by rw [c_19]; rfl]; rfl)
  refine x_iconst (v := 0) 1 C dX4_formulasThere_0 rfl rfl ?_
  refine x_istore_1 2 C dX4_formulasThere_1 rfl rfl ?_
  refine x_iconst (v := 0) 3 C dX4_formulasThere_2 rfl rfl ?_
  refine x_istore_2 4 C dX4_formulasThere_3 rfl rfl ?_
  exact lp 6 0 (by omega) _ rfl
set_option maxHeartbeats 4000000 in
set_option maxRecDepth 100000 in
theorem c_X4_cellsNotZero (K : hKv) (M : hM) {h a1 t0 t1 : Nat} {v1 v2 : Value} {f : Nat → Int64} (h0 : M h = some (t0, eO 4 [v1, .ref a1, v2])) (h1 : M a1 = some (t1, eJ K 8 f)) : hC K Y_X4_cellsNotZero rm_X4_cellsNotZero [.ref h] M (hPi fun r M1 => r = nI (cnz (fun k => !(f k == 0)) 8) ∧ M1 = M) := by
  refine hC.of [some (.ref h), none, none] (by decide) (Nat.le_of_ble_eq_true rfl) rfl rfl ?_
  intro E C Rt
  have C : hCx E K cX4_cellsNotZero 3 RX4 "cellsNotZero" rm_X4_cellsNotZero := C
  have lp : ∀ (d n : Nat), n + d = 8 → ∀ x : Int32, x = nI (cnz (fun k => !(f k == 0)) n) → hX E 0 0 4 [some (.ref h), some (.int x), some (.int (nI n))] [] M := by
    intro d
    induction d with
    | zero =>
      intro n hn x hx
      have hn : n = 8 := by omega
      subst hn
      subst hx
      refine x_iload_2 5 C dX4_cellsNotZero_4 rfl ?_
      refine x_aload_0 6 C dX4_cellsNotZero_5 rfl ?_
      refine xg_X4_cells 9 C wf_X4_15 h0 dX4_cellsNotZero_6 rfl ?_
      refine x_alenJ 10 C h1 dX4_cellsNotZero_9 rfl ?_
      refine x_icmp_ge 13 33 C dX4_cellsNotZero_10 rfl rfl (fun _ => ?_) (fun z => absurd (nI_le (Nat.le_refl _) (by decide)) z)
      refine x_iload_1 34 C dX4_cellsNotZero_33 rfl ?_
      refine x_ireturn C Rt dX4_cellsNotZero_34 rfl ⟨Nat.le_of_ble_eq_true rfl, Nat.le_of_ble_eq_true rfl⟩ ?_
      exact ⟨_, rfl, rfl, rfl⟩
    | succ d ih =>
      intro n hn x hx
      subst hx
      have hn8 : n < 8 := by omega
      refine x_iload_2 5 C dX4_cellsNotZero_4 rfl ?_
      refine x_aload_0 6 C dX4_cellsNotZero_5 rfl ?_
      refine xg_X4_cells 9 C wf_X4_15 h0 dX4_cellsNotZero_6 rfl ?_
      refine x_alenJ 10 C h1 dX4_cellsNotZero_9 rfl ?_
      refine x_icmp_ge 13 33 C dX4_cellsNotZero_10 rfl rfl (fun z => absurd z (nI_ge hn8 (by decide))) (fun _ => ?_)
      refine x_aload_0 14 C dX4_cellsNotZero_13 rfl ?_
      refine xg_X4_cells 17 C wf_X4_15 h0 dX4_cellsNotZero_14 rfl ?_
      refine x_iload_2 18 C dX4_cellsNotZero_17 rfl ?_
      refine x_lald 19 (n) C h1 (rfl) (hn8) (by decide) dX4_cellsNotZero_18 rfl ?_
      refine x_lconst (v := 0) 20 C dX4_cellsNotZero_19 rfl rfl ?_
      refine x_lc_eq 24 27 C dX4_cellsNotZero_20 dX4_cellsNotZero_21 rfl rfl (fun c_20 => ?_) (fun c_20 => ?_)
      · refine x_iinc_2 30 C dX4_cellsNotZero_27 rfl rfl (nI_inc _) ?_
        refine x_goto 4 C dX4_cellsNotZero_30 rfl ?_
        exact ih (n + 1) (by omega) _ (by rw [cnz, show (!(f n == 0)) = false by rw [c_20]; rfl]; rfl)
      · refine x_iinc_1 27 C dX4_cellsNotZero_24 rfl rfl (nI_inc _) ?_
        refine x_iinc_2 30 C dX4_cellsNotZero_27 rfl rfl (nI_inc _) ?_
        refine x_goto 4 C dX4_cellsNotZero_30 rfl ?_
        exact ih (n + 1) (by omega) _ (by rw [cnz, show (!(f n == 0)) = true by rw [beq_false_of_ne c_20]; rfl]; rfl)
  refine x_iconst (v := 0) 1 C dX4_cellsNotZero_0 rfl rfl ?_
  refine x_istore_1 2 C dX4_cellsNotZero_1 rfl rfl ?_
  refine x_iconst (v := 0) 3 C dX4_cellsNotZero_2 rfl rfl ?_
  refine x_istore_2 4 C dX4_cellsNotZero_3 rfl rfl ?_
  exact lp 8 0 (by omega) _ rfl
set_option maxHeartbeats 4000000 in
set_option maxRecDepth 100000 in
theorem c_X4_become (K : hKv) (M : hM) {h a1 a2 a3 o b1 b2 b3 t0 t1 t2 t3 u0 u1 u2 u3 : Nat} {f f2 : Nat → Int32} {g g2 : Nat → Int64} {q q2 : Nat → Option Nat} (h0 : M h = some (t0, eO 4 [.ref a1, .ref a2, .ref a3])) (h1 : M a1 = some (t1, eI K 2 f)) (h2 : M a2 = some (t2, eJ K 8 g)) (h3 : M a3 = some (t3, eF K 6 q)) (g0 : M o = some (u0, eO 4 [.ref b1, .ref b2, .ref b3])) (g1 : M b1 = some (u1, eI K 2 f2)) (gg2 : M b2 = some (u2, eJ K 8 g2)) (g3 : M b3 = some (u3, eF K 6 q2)) (n1 : b1 ≠ a1) (n2 : b2 ≠ a2) (n3 : b3 ≠ a3) (hq : ∀ i, i < 6 → ∀ y, q2 i = some y → ∃ u vs, M y = some (u, eO 0 vs)) : hC K Y_X4_become rm_X4_become [.ref h, .ref o] M (hPv fun M1 => M1 = hU (hU (hU M a1 t1 (eI K 2 (cpy f f2 2))) a2 t2 (eJ K 8 (cpy g g2 8))) a3 t3 (eF K 6 (cpy q q2 6))) := by
  refine hC.of [some (.ref h), some (.ref o), none] (by decide) (Nat.le_of_ble_eq_true rfl) rfl rfl ?_
  intro E C Rt
  have C : hCx E K cX4_become 3 RX4 "become" rm_X4_become := C
  have l3 : ∀ (d n : Nat), n + d = 6 → ∀ (M : hM), M h = some (t0, eO 4 [.ref a1, .ref a2, .ref a3]) → M o = some (u0, eO 4 [.ref b1, .ref b2, .ref b3]) → M a3 = some (t3, eF K 6 (cpy q q2 n)) → M b3 = some (u3, eF K 6 q2) → (∀ i, i < 6 → ∀ y, q2 i = some y → ∃ u vs, M y = some (u, eO 0 vs)) → (∀ M2 : hM, M2 = hU M a3 t3 (eF K 6 (cpy q q2 6)) → hX E 0 0 89 [some (.ref h), some (.ref o), none] [] M2) → hX E 0 0 63 [some (.ref h), some (.ref o), some (.int (nI n))] [] M := by
    intro d
    induction d with
    | zero =>
      intro n hn M z0 y0 z1 y1 hq hx
      have hn : n = 6 := by omega
      subst hn
      refine x_iload_2 64 C dX4_become_63 rfl ?_
      refine x_aload_0 65 C dX4_become_64 rfl ?_
      refine xg_X4_formulas 68 C wf_X4_21 z0 dX4_become_65 rfl ?_
      refine x_alenF 69 C z1 dX4_become_68 rfl ?_
      refine x_icmp_ge 72 89 C dX4_become_69 rfl rfl (fun _ => ?_) (fun z => absurd (nI_le (Nat.le_refl _) (by decide)) z)
      refine x_fg_2 ?_
      exact hx M (hU_id z1).symm
    | succ d ih =>
      intro n hn M z0 y0 z1 y1 hq hx
      have hn8 : n < 6 := by omega
      refine x_iload_2 64 C dX4_become_63 rfl ?_
      refine x_aload_0 65 C dX4_become_64 rfl ?_
      refine xg_X4_formulas 68 C wf_X4_21 z0 dX4_become_65 rfl ?_
      refine x_alenF 69 C z1 dX4_become_68 rfl ?_
      refine x_icmp_ge 72 89 C dX4_become_69 rfl rfl (fun z => absurd z (nI_ge hn8 (by decide))) (fun _ => ?_)
      refine x_aload_0 73 C dX4_become_72 rfl ?_
      refine xg_X4_formulas 76 C wf_X4_21 z0 dX4_become_73 rfl ?_
      refine x_iload_2 77 C dX4_become_76 rfl ?_
      refine x_aload_1 78 C dX4_become_77 rfl ?_
      refine x_iload_2 79 C dX4_become_78 rfl ?_
      refine x_callV 82 C (c_X4_formula K M y0 y1 (nI n)) y0 wcl_X4 hy_X4_formula wv_X4_formula we_X4_formula lk_X4_33 dX4_become_79 rfl ⟨Nat.le_of_ble_eq_true rfl, Nat.le_of_ble_eq_true rfl⟩ ⟨Nat.le_of_ble_eq_true rfl, Nat.le_of_ble_eq_true rfl⟩ (Nat.le_of_ble_eq_true rfl) rfl (k_0 rfl rfl (k_qp ?_))
      rw [fo_nI hn8]
      have z1o := z1
      refine x_fastQ 83 (n) C z1 (hq n hn8) (rfl) (hn8) (by decide) dX4_become_82 rfl ?_
      refine x_up (fun M_1 g_1 o_1 e_1 => ?_)
      have z0 := (o_1 _ (h_ne_kd z0 z1 (by simp [hKd, eO, eI, eJ, eF]))).trans z0
      have y0 := (o_1 _ (h_ne_kd y0 z1 (by simp [hKd, eO, eI, eJ, eF]))).trans y0
      have y1 := (o_1 _ n3).trans y1
      have z1 := g_1
      have hq : ∀ i, i < 6 → ∀ y, q2 i = some y → ∃ u vs, M_1 y = some (u, eO 0 vs) := by
        intro i hi y hy
        obtain ⟨u', vs, hv⟩ := hq i hi y hy
        exact ⟨u', vs, by rw [e_1]; exact (hU_n (h_ne_kd hv z1o (by simp [hKd, eO, eI, eJ, eF]))).trans hv⟩
      rw [cpy_s] at z1 e_1
      refine x_iinc_2 86 C dX4_become_83 rfl rfl (nI_inc _) ?_
      refine x_goto 63 C dX4_become_86 rfl ?_
      exact ih (n + 1) (by omega) M_1 z0 y0 z1 y1 hq (fun M2 h2 => hx M2 (by rw [h2, e_1, hU_uu]))
  have l2 : ∀ (d n : Nat), n + d = 8 → ∀ (M : hM), M h = some (t0, eO 4 [.ref a1, .ref a2, .ref a3]) → M o = some (u0, eO 4 [.ref b1, .ref b2, .ref b3]) → M a2 = some (t2, eJ K 8 (cpy g g2 n)) → M b2 = some (u2, eJ K 8 g2) → (∀ i, i < 6 → ∀ y, q2 i = some y → ∃ u vs, M y = some (u, eO 0 vs)) → (∀ M2 : hM, M2 = hU M a2 t2 (eJ K 8 (cpy g g2 8)) → hX E 0 0 61 [some (.ref h), some (.ref o), none] [] M2) → hX E 0 0 35 [some (.ref h), some (.ref o), some (.int (nI n))] [] M := by
    intro d
    induction d with
    | zero =>
      intro n hn M z0 y0 z1 y1 hq hx
      have hn : n = 8 := by omega
      subst hn
      refine x_iload_2 36 C dX4_become_35 rfl ?_
      refine x_aload_0 37 C dX4_become_36 rfl ?_
      refine xg_X4_cells 40 C wf_X4_15 z0 dX4_become_37 rfl ?_
      refine x_alenJ 41 C z1 dX4_become_40 rfl ?_
      refine x_icmp_ge 44 61 C dX4_become_41 rfl rfl (fun _ => ?_) (fun z => absurd (nI_le (Nat.le_refl _) (by decide)) z)
      refine x_fg_2 ?_
      exact hx M (hU_id z1).symm
    | succ d ih =>
      intro n hn M z0 y0 z1 y1 hq hx
      have hn8 : n < 8 := by omega
      refine x_iload_2 36 C dX4_become_35 rfl ?_
      refine x_aload_0 37 C dX4_become_36 rfl ?_
      refine xg_X4_cells 40 C wf_X4_15 z0 dX4_become_37 rfl ?_
      refine x_alenJ 41 C z1 dX4_become_40 rfl ?_
      refine x_icmp_ge 44 61 C dX4_become_41 rfl rfl (fun z => absurd z (nI_ge hn8 (by decide))) (fun _ => ?_)
      refine x_aload_0 45 C dX4_become_44 rfl ?_
      refine xg_X4_cells 48 C wf_X4_15 z0 dX4_become_45 rfl ?_
      refine x_iload_2 49 C dX4_become_48 rfl ?_
      refine x_aload_1 50 C dX4_become_49 rfl ?_
      refine x_iload_2 51 C dX4_become_50 rfl ?_
      refine x_callV 54 C (c_X4_cellValue K M y0 y1 n hn8) y0 wcl_X4 hy_X4_cellValue wv_X4_cellValue we_X4_cellValue lk_X4_29 dX4_become_51 rfl ⟨Nat.le_of_ble_eq_true rfl, Nat.le_of_ble_eq_true rfl⟩ ⟨Nat.le_of_ble_eq_true rfl, Nat.le_of_ble_eq_true rfl⟩ (Nat.le_of_ble_eq_true rfl) rfl (k_0 rfl rfl (k_lp ?_))
      have z1o := z1
      refine x_last 55 (n) C z1 (rfl) (hn8) (by decide) dX4_become_54 rfl ?_
      refine x_up (fun M_1 g_1 o_1 e_1 => ?_)
      have z0 := (o_1 _ (h_ne_kd z0 z1 (by simp [hKd, eO, eI, eJ, eF]))).trans z0
      have y0 := (o_1 _ (h_ne_kd y0 z1 (by simp [hKd, eO, eI, eJ, eF]))).trans y0
      have y1 := (o_1 _ n2).trans y1
      have z1 := g_1
      have hq : ∀ i, i < 6 → ∀ y, q2 i = some y → ∃ u vs, M_1 y = some (u, eO 0 vs) := by
        intro i hi y hy
        obtain ⟨u', vs, hv⟩ := hq i hi y hy
        exact ⟨u', vs, by rw [e_1]; exact (hU_n (h_ne_kd hv z1o (by simp [hKd, eO, eI, eJ, eF]))).trans hv⟩
      rw [cpy_s] at z1 e_1
      refine x_iinc_2 58 C dX4_become_55 rfl rfl (nI_inc _) ?_
      refine x_goto 35 C dX4_become_58 rfl ?_
      exact ih (n + 1) (by omega) M_1 z0 y0 z1 y1 hq (fun M2 h2 => hx M2 (by rw [h2, e_1, hU_uu]))
  have l1 : ∀ (d n : Nat), n + d = 2 → ∀ (M : hM), M h = some (t0, eO 4 [.ref a1, .ref a2, .ref a3]) → M o = some (u0, eO 4 [.ref b1, .ref b2, .ref b3]) → M a1 = some (t1, eI K 2 (cpy f f2 n)) → M b1 = some (u1, eI K 2 f2) → (∀ i, i < 6 → ∀ y, q2 i = some y → ∃ u vs, M y = some (u, eO 0 vs)) → (∀ M2 : hM, M2 = hU M a1 t1 (eI K 2 (cpy f f2 2)) → hX E 0 0 33 [some (.ref h), some (.ref o), none] [] M2) → hX E 0 0 7 [some (.ref h), some (.ref o), some (.int (nI n))] [] M := by
    intro d
    induction d with
    | zero =>
      intro n hn M z0 y0 z1 y1 hq hx
      have hn : n = 2 := by omega
      subst hn
      refine x_iload_2 8 C dX4_become_7 rfl ?_
      refine x_aload_0 9 C dX4_become_8 rfl ?_
      refine xg_X4_settings 12 C wf_X4_9 z0 dX4_become_9 rfl ?_
      refine x_alenI 13 C z1 dX4_become_12 rfl ?_
      refine x_icmp_ge 16 33 C dX4_become_13 rfl rfl (fun _ => ?_) (fun z => absurd (nI_le (Nat.le_refl _) (by decide)) z)
      refine x_fg_2 ?_
      exact hx M (hU_id z1).symm
    | succ d ih =>
      intro n hn M z0 y0 z1 y1 hq hx
      have hn8 : n < 2 := by omega
      refine x_iload_2 8 C dX4_become_7 rfl ?_
      refine x_aload_0 9 C dX4_become_8 rfl ?_
      refine xg_X4_settings 12 C wf_X4_9 z0 dX4_become_9 rfl ?_
      refine x_alenI 13 C z1 dX4_become_12 rfl ?_
      refine x_icmp_ge 16 33 C dX4_become_13 rfl rfl (fun z => absurd z (nI_ge hn8 (by decide))) (fun _ => ?_)
      refine x_aload_0 17 C dX4_become_16 rfl ?_
      refine xg_X4_settings 20 C wf_X4_9 z0 dX4_become_17 rfl ?_
      refine x_iload_2 21 C dX4_become_20 rfl ?_
      refine x_aload_1 22 C dX4_become_21 rfl ?_
      refine x_iload_2 23 C dX4_become_22 rfl ?_
      refine x_callV 26 C (c_X4_setting K M y0 y1 n hn8) y0 wcl_X4 hy_X4_setting wv_X4_setting we_X4_setting lk_X4_25 dX4_become_23 rfl ⟨Nat.le_of_ble_eq_true rfl, Nat.le_of_ble_eq_true rfl⟩ ⟨Nat.le_of_ble_eq_true rfl, Nat.le_of_ble_eq_true rfl⟩ (Nat.le_of_ble_eq_true rfl) rfl (k_0 rfl rfl (k_ip ?_))
      have z1o := z1
      refine x_iast 27 (n) C z1 (rfl) (hn8) (by decide) dX4_become_26 rfl ?_
      refine x_up (fun M_1 g_1 o_1 e_1 => ?_)
      have z0 := (o_1 _ (h_ne_kd z0 z1 (by simp [hKd, eO, eI, eJ, eF]))).trans z0
      have y0 := (o_1 _ (h_ne_kd y0 z1 (by simp [hKd, eO, eI, eJ, eF]))).trans y0
      have y1 := (o_1 _ n1).trans y1
      have z1 := g_1
      have hq : ∀ i, i < 6 → ∀ y, q2 i = some y → ∃ u vs, M_1 y = some (u, eO 0 vs) := by
        intro i hi y hy
        obtain ⟨u', vs, hv⟩ := hq i hi y hy
        exact ⟨u', vs, by rw [e_1]; exact (hU_n (h_ne_kd hv z1o (by simp [hKd, eO, eI, eJ, eF]))).trans hv⟩
      rw [cpy_s] at z1 e_1
      refine x_iinc_2 30 C dX4_become_27 rfl rfl (nI_inc _) ?_
      refine x_goto 7 C dX4_become_30 rfl ?_
      exact ih (n + 1) (by omega) M_1 z0 y0 z1 y1 hq (fun M2 h2 => hx M2 (by rw [h2, e_1, hU_uu]))
  refine x_aload_1 1 C dX4_become_0 rfl ?_
  refine x_ifnonnull (r := some o) 4 5 C dX4_become_1 rfl rfl (fun y_1 c_1 => ?_) (fun z => by cases z)
  refine x_iconst (v := 0) 6 C dX4_become_5 rfl rfl ?_
  refine x_istore_2 7 C dX4_become_6 rfl rfl ?_
  refine l1 2 0 rfl M h0 g0 (by rw [cpy_0]; exact h1) g1 hq (fun M1 e1 => ?_)
  have k0 := (congrFun e1 h).trans ((hU_n (h_ne_kd h0 h1 (by simp [hKd, eO, eI, eJ, eF]))).trans h0)
  have k1 := (congrFun e1 o).trans ((hU_n (h_ne_kd g0 h1 (by simp [hKd, eO, eI, eJ, eF]))).trans g0)
  have k2 := (congrFun e1 a2).trans ((hU_n (h_ne_kd h2 h1 (by simp [hKd, eO, eI, eJ, eF]))).trans h2)
  have k3 := (congrFun e1 a3).trans ((hU_n (h_ne_kd h3 h1 (by simp [hKd, eO, eI, eJ, eF]))).trans h3)
  have k4 := (congrFun e1 b2).trans ((hU_n (h_ne_kd gg2 h1 (by simp [hKd, eO, eI, eJ, eF]))).trans gg2)
  have k5 := (congrFun e1 b3).trans ((hU_n (h_ne_kd g3 h1 (by simp [hKd, eO, eI, eJ, eF]))).trans g3)
  have kq : ∀ i, i < 6 → ∀ y, q2 i = some y → ∃ u vs, M1 y = some (u, eO 0 vs) := by
    intro i hi y hy
    obtain ⟨u', vs, hv⟩ := hq i hi y hy
    exact ⟨u', vs, by rw [e1]; exact (hU_n (h_ne_kd hv h1 (by simp [hKd, eO, eI, eJ, eF]))).trans hv⟩
  refine x_iconst (v := 0) 34 C dX4_become_33 rfl rfl ?_
  refine x_istore_2 35 C dX4_become_34 rfl rfl ?_
  refine l2 8 0 rfl M1 k0 k1 (by rw [cpy_0]; exact k2) k4 kq (fun M2 e2 => ?_)
  have j0 := (congrFun e2 h).trans ((hU_n (h_ne_kd k0 k2 (by simp [hKd, eO, eI, eJ, eF]))).trans k0)
  have j1 := (congrFun e2 o).trans ((hU_n (h_ne_kd k1 k2 (by simp [hKd, eO, eI, eJ, eF]))).trans k1)
  have j3 := (congrFun e2 a3).trans ((hU_n (h_ne_kd k3 k2 (by simp [hKd, eO, eI, eJ, eF]))).trans k3)
  have j5 := (congrFun e2 b3).trans ((hU_n (h_ne_kd k5 k2 (by simp [hKd, eO, eI, eJ, eF]))).trans k5)
  have jq : ∀ i, i < 6 → ∀ y, q2 i = some y → ∃ u vs, M2 y = some (u, eO 0 vs) := by
    intro i hi y hy
    obtain ⟨u', vs, hv⟩ := kq i hi y hy
    exact ⟨u', vs, by rw [e2]; exact (hU_n (h_ne_kd hv k2 (by simp [hKd, eO, eI, eJ, eF]))).trans hv⟩
  refine x_iconst (v := 0) 62 C dX4_become_61 rfl rfl ?_
  refine x_istore_2 63 C dX4_become_62 rfl rfl ?_
  refine l3 6 0 rfl M2 j0 j1 (by rw [cpy_0]; exact j3) j5 jq (fun M3 e3 => ?_)
  refine x_vreturn C Rt dX4_become_89 ⟨Nat.le_of_ble_eq_true rfl, Nat.le_of_ble_eq_true rfl⟩ ?_
  exact ⟨rfl, by rw [e3, e2, e1]⟩
