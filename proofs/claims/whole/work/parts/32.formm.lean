def lastV (R : List Nat × Nat) : Nat := R.1.getD (R.1.length - 1) 0
def rF (τ : hS1) (a : Int32) : List Nat × Nat := rkR τ (gF τ a)
noncomputable def sp_value (σ : hSt) (a : Int32) : Int64 := spQ (isF σ.1 a) (if (rF σ.1 a).2 = 0 then lN (lastV (rF σ.1 a)) else -5) (-1)
noncomputable def sp_assign (σ : hSt) (c a : Int32) : Int64 × hSt := spQ ((0 ≤ c.toInt ∧ c.toInt ≤ 7) ∧ isF σ.1 a) (if (rF σ.1 a).2 = 0 then (lN (lastV (rF σ.1 a)), recd σ (σ.1.1, σ.1.2.1, va_up σ.1.2.2.1 c.toInt.toNat (lastV (rF σ.1 a)), σ.1.2.2.2)) else (-5, σ)) (-1, σ)
/-- a cell set again and again -/
def stl (c : Nat) (L : List (Nat × Nat)) : Nat → hS1 → Nat × hS1
  | 0, τ => (0, τ)
  | f + 1, τ => if ¬ (rkR τ L).2 = 0 then (0, τ) else if lastV (rkR τ L) = τ.2.2.1 c then (1, τ) else
    ((stl c L f (τ.1, τ.2.1, va_up τ.2.2.1 c (lastV (rkR τ L)), τ.2.2.2)).1 + 1, (stl c L f (τ.1, τ.2.1, va_up τ.2.2.1 c (lastV (rkR τ L)), τ.2.2.2)).2)
noncomputable def sp_settle (σ : hSt) (c a t : Int32) : Int32 × hSt := spQ ((0 ≤ c.toInt ∧ c.toInt ≤ 7) ∧ isF σ.1 a) (spQ (1 ≤ t.toInt ∧ t.toInt ≤ 100) (nI (stl c.toInt.toNat (gF σ.1 a) t.toInt.toNat σ.1).1, recd σ (stl c.toInt.toNat (gF σ.1 a) t.toInt.toNat σ.1).2) (-2, σ)) (-1, σ)
noncomputable def sp_ofFormula (σ : hSt) (a w : Int32) : Int32 := spQ (isF σ.1 a) (if w.toInt = 0 then nI (gF σ.1 a).length else if w.toInt = 1 then cOf (gF σ.1 a) (gF σ.1 a).length else if w.toInt = 2 then nI (rF σ.1 a).2 else if w.toInt = 3 then (if (rF σ.1 a).2 = 0 then -6 else nI (rF σ.1 a).1.length) else if w.toInt = 4 then nI (rOf (gF σ.1 a) (gF σ.1 a).length) else -2) (-1)
noncomputable def sp_stepValue (σ : hSt) (a s : Int32) : Int64 := spQ (isF σ.1 a ∧ 0 ≤ s.toInt ∧ s.toInt ≤ ((gF σ.1 a).length : Int) - 1) (if s.toInt.toNat < (rF σ.1 a).1.length then lN ((rF σ.1 a).1.getD s.toInt.toNat 0) else -5) (-1)
theorem rk_bd {τ : hS1} : ∀ (r : List (Nat × Nat)) (p vs : List Nat), (∀ x ∈ vs, x ≤ LG) → ∀ x ∈ (rk τ r p vs).1, x ≤ LG
  | [], p, vs, h => h
  | s :: r, p, vs, h => by
    by_cases h0 : rkv τ s p < 0
    · rw [rk_s2 h0]; exact h
    · by_cases h1 : (LG : Int) < rkv τ s p
      · rw [rk_s1 h0 h1]; exact h
      · rw [rk_s0 h0 h1]
        refine rk_bd r _ _ fun x hx => ?_
        rcases List.mem_append.mp hx with q | q
        · exact h x q
        · rw [List.mem_singleton.mp q]; omega
theorem rk_len {τ : hS1} : ∀ (r : List (Nat × Nat)) (p vs : List Nat), (rk τ r p vs).1.length ≤ vs.length + r.length ∧ ((rk τ r p vs).2 = 0 → (rk τ r p vs).1.length = vs.length + r.length) ∧ (rk τ r p vs).2 ≤ 2
  | [], p, vs => ⟨Nat.le_refl _, fun _ => rfl, Nat.zero_le _⟩
  | s :: r, p, vs => by
    by_cases h0 : rkv τ s p < 0
    · rw [rk_s2 h0]; exact ⟨by show vs.length ≤ _; omega, fun q => (by cases q), Nat.le_refl _⟩
    · by_cases h1 : (LG : Int) < rkv τ s p
      · rw [rk_s1 h0 h1]; exact ⟨by show vs.length ≤ _; omega, fun q => (by cases q), (by show 1 ≤ 2; decide)⟩
      · rw [rk_s0 h0 h1]
        obtain ⟨a, b, c⟩ := rk_len (τ := τ) r ((rkv τ s p).toNat :: rkp s p) (vs ++ [(rkv τ s p).toNat])
        rw [List.length_append] at a b
        simp only [List.length_cons, List.length_nil] at a b ⊢
        exact ⟨by omega, fun q => by rw [b q]; omega, c⟩
theorem lastV_bd {τ : hS1} {L : List (Nat × Nat)} : lastV (rkR τ L) ≤ LG := getD_bd (rk_bd L [] [] (fun x hx => absurd hx List.not_mem_nil)) _
theorem repM_rk {z z2 : Nat → Int32} {F : Nat → Nat → Int32} {G G2 : Nat → Nat → Int64} {σ : hSt} (h : repM z F G σ) (hz : ∀ i, i ≠ 6 → i ≠ 7 → z2 i = z i) (hG : ∀ i, i < 12 → G2 i = G i) : repM z2 F G2 σ := by
  obtain ⟨a, b, c, d, e, f, g⟩ := h
  refine ⟨(hz 0 (by decide) (by decide)).trans a, (hz 1 (by decide) (by decide)).trans b, c, ?_, ?_, ?_, g⟩
  · rw [hG 2 (by decide)]; exact d
  · rw [hG 4 (by decide)]; exact e
  · rw [hG 6 (by decide)]; exact f
theorem isF_j {τ : hS1} {a : Int32} (h : isF τ a) (ho : ok1 τ) : ∃ j, j < 6 ∧ a = nI j ∧ wfF (τ.2.2.2 j) ∧ gF τ a = τ.2.2.2 j := by
  obtain ⟨h1, h2⟩ := h
  obtain ⟨j, hj, rfl⟩ := in_nI (b := 5) h1
  unfold gF
  rw [nI_toN (by omega)] at h2 ⊢
  exact ⟨j, by omega, rfl, (ho.2.2.2 j (by omega)).resolve_left h2, rfl⟩
theorem ok1_cell {τ : hS1} (h : ok1 τ) {c v : Nat} (hv : v ≤ LG) : ok1 (τ.1, τ.2.1, va_up τ.2.2.1 c v, τ.2.2.2) := by
  refine ⟨h.1, h.2.1, fun i hi => ?_, h.2.2.2⟩
  show va_up τ.2.2.1 c v i ≤ LG
  unfold va_up
  split
  · exact hv
  · exact h.2.2.1 i hi
theorem stl_ok {c : Nat} {L : List (Nat × Nat)} : ∀ (f : Nat) (τ : hS1), ok1 τ → ok1 (stl c L f τ).2 ∧ (stl c L f τ).1 ≤ f ∧ (stl c L f τ).2.2.2.2 = τ.2.2.2
  | 0, τ, h => ⟨h, Nat.le_refl _, rfl⟩
  | f + 1, τ, h => by
    by_cases h0 : (rkR τ L).2 = 0
    · by_cases h1 : lastV (rkR τ L) = τ.2.2.1 c
      · rw [stl, if_neg (not_not_intro h0), if_pos h1]; exact ⟨h, by show 1 ≤ _; omega, rfl⟩
      · rw [stl, if_neg (not_not_intro h0), if_neg h1]
        obtain ⟨a, b, d⟩ := stl_ok (c := c) (L := L) f _ (ok1_cell h (c := c) (lastV_bd (τ := τ) (L := L)))
        exact ⟨a, by show _ + 1 ≤ f + 1; omega, d⟩
    · rw [stl, if_pos h0]; exact ⟨h, Nat.zero_le _, rfl⟩
theorem stl_0 {c : Nat} {L : List (Nat × Nat)} {f : Nat} {τ : hS1} (h : ¬ (rkR τ L).2 = 0) : stl c L (f + 1) τ = (0, τ) := by rw [stl, if_pos h]
theorem stl_1 {c : Nat} {L : List (Nat × Nat)} {f : Nat} {τ : hS1} (h : (rkR τ L).2 = 0) (h1 : lastV (rkR τ L) = τ.2.2.1 c) : stl c L (f + 1) τ = (1, τ) := by rw [stl, if_neg (not_not_intro h), if_pos h1]
theorem stl_n {c : Nat} {L : List (Nat × Nat)} {f : Nat} {τ : hS1} (h : (rkR τ L).2 = 0) (h1 : ¬ lastV (rkR τ L) = τ.2.2.1 c) : stl c L (f + 1) τ = ((stl c L f (τ.1, τ.2.1, va_up τ.2.2.1 c (lastV (rkR τ L)), τ.2.2.2)).1 + 1, (stl c L f (τ.1, τ.2.1, va_up τ.2.2.1 c (lastV (rkR τ L)), τ.2.2.2)).2) := by rw [stl, if_neg (not_not_intro h), if_neg h1]
set_option maxHeartbeats 4000000 in
set_option maxRecDepth 100000 in
theorem c_X6_value (K : hKv) (M : hM) {A : Nat → Nat} {z : Nat → Int32} {F : Nat → Nat → Int32} {G : Nat → Nat → Int64} (W : mW K A z F G M) {σ : hSt} (hr : repM z F G σ) (ho : okS σ) (a : Int32) : hC K Y_X6_value rm_X6_value [.ref (A 0), .int a] M (hPl fun r M' => r = sp_value σ a ∧ mP K A M σ M') := by
  refine hC.of [some (.ref (A 0)), some (.int a)] (by decide) (Nat.le_of_ble_eq_true rfl) rfl rfl ?_
  intro E C Rt
  have C : hCx E K cX6_value 2 RX6 "value" rm_X6_value := C
  refine x_aload_0 1 C dX6_value_0 rfl ?_
  refine x_iload_1 2 C dX6_value_1 rfl ?_
  refine x_callV 5 C (c_X6_isFormula K _ W (τ := σ.1) hr.2.2.1 ho.1 _) W.obj wcl_X6 hy_X6_isFormula wv_X6_isFormula we_X6_isFormula lk_X6_153 dX6_value_2 rfl ⟨Nat.le_of_ble_eq_true rfl, Nat.le_of_ble_eq_true rfl⟩ ⟨Nat.le_of_ble_eq_true rfl, Nat.le_of_ble_eq_true rfl⟩ (Nat.le_of_ble_eq_true rfl) rfl (k_0 rfl rfl (k_ip ?_))
  refine x_if_ne 8 12 C dX6_value_5 rfl rfl (fun c_5 => ?_) (fun c_5 => ?_)
  · have hf := spI_n0.mp c_5
    obtain ⟨j, hj, rfl, hw, hgf⟩ := isF_j hf ho.1
    obtain ⟨q1, q2⟩ := hr.2.2.1.2.2 j hj
    have hl60 := hw.2.2
    have hrf : rF σ.1 (nI j) = rkR σ.1 (σ.1.2.2.2 j) := by unfold rF; rw [hgf]
    refine x_aload_0 13 C dX6_value_12 rfl ?_
    refine x_iload_1 14 C dX6_value_13 rfl ?_
    refine x_callV 17 C (c_X6_reckon K _ W (τ := σ.1) hr.2.2.1 ho.1 hr.2.2.2.1 j hj hw) W.obj wcl_X6 hy_X6_reckon wv_X6_reckon we_X6_reckon lk_X6_156 dX6_value_14 rfl ⟨Nat.le_of_ble_eq_true rfl, Nat.le_of_ble_eq_true rfl⟩ ⟨Nat.le_of_ble_eq_true rfl, Nat.le_of_ble_eq_true rfl⟩ (Nat.le_of_ble_eq_true rfl) rfl (k_0 rfl rfl (k_i (fun r_p M_1 h_1 => ?_)))
    obtain ⟨z_2, G_2, W, e_z, e_G, fr_2, hv, hcase⟩ := h_1
    have hr2 := repM_rk hr e_z e_G
    refine x_if_eq 20 29 C dX6_value_17 rfl rfl (fun c_17 => ?_) (fun c_17 => ?_)
    · have hR : ¬ (rkR σ.1 (σ.1.2.2.2 j)).2 = 0 := by
        rcases hcase with q | q
        · exact absurd (q.2.1.symm.trans c_17) (by decide)
        · exact q.1
      refine x_ldc2 (v := (-5)) 32 C dX6_value_29 rfl wq_X6_159 ?_
      refine x_lreturn C Rt dX6_value_32 ⟨Nat.le_of_ble_eq_true rfl, Nat.le_of_ble_eq_true rfl⟩ ?_
      first | exact ⟨_, rfl, by rw [sp_value, spQ_t hf, hrf, if_neg hR], ⟨⟨_, _, _, W, hr2⟩, fr_2⟩⟩ | exact ⟨_, rfl, by rw [sp_value, spQ_t hf, hrf, if_pos hR]; rfl, ⟨⟨_, _, _, W, hr2⟩, fr_2⟩⟩
    · obtain ⟨hR, -, hends, hreas, hlast⟩ : (rkR σ.1 (σ.1.2.2.2 j)).2 = 0 ∧ r_p = 1 ∧ _ := by
        rcases hcase with q | q
        · exact q
        · exact absurd q.2.1 c_17
      refine x_aload_0 21 C dX6_value_20 rfl ?_
      refine mOg_pile 24 C wf_X6_48 W.obj dX6_value_21 rfl ?_
      refine x_iconst (v := 0) 25 C dX6_value_24 rfl rfl ?_
      refine x_lald 26 (0) C W.pile (rfl) (by decide) (by decide) dX6_value_25 rfl ?_
      refine x_topl hlast ?_
      refine x_goto 32 C dX6_value_26 rfl ?_
      refine x_lreturn C Rt dX6_value_32 ⟨Nat.le_of_ble_eq_true rfl, Nat.le_of_ble_eq_true rfl⟩ ?_
      first | exact ⟨_, rfl, by rw [sp_value, spQ_t hf, hrf, if_neg hR], ⟨⟨_, _, _, W, hr2⟩, fr_2⟩⟩ | exact ⟨_, rfl, by rw [sp_value, spQ_t hf, hrf, if_pos hR]; rfl, ⟨⟨_, _, _, W, hr2⟩, fr_2⟩⟩
  · refine x_ldc2 (v := (-1)) 11 C dX6_value_8 rfl wq_X6_64 ?_
    refine x_lreturn C Rt dX6_value_11 ⟨Nat.le_of_ble_eq_true rfl, Nat.le_of_ble_eq_true rfl⟩ ?_
    exact ⟨_, rfl, by rw [sp_value, spQ_f (spI_0.mp c_5)], ⟨⟨z, F, G, W, hr⟩, hFr.rf⟩⟩
set_option maxHeartbeats 4000000 in
set_option maxRecDepth 100000 in
theorem c_X6_assign (K : hKv) (M : hM) {A : Nat → Nat} {z : Nat → Int32} {F : Nat → Nat → Int32} {G : Nat → Nat → Int64} (W : mW K A z F G M) {σ : hSt} (hr : repM z F G σ) (ho : okS σ) (a b : Int32) : hC K Y_X6_assign rm_X6_assign [.ref (A 0), .int a, .int b] M (hPl fun r M' => r = (sp_assign σ a b).1 ∧ mP K A M (sp_assign σ a b).2 M') := by
  refine hC.of [some (.ref (A 0)), some (.int a), some (.int b)] (by decide) (Nat.le_of_ble_eq_true rfl) rfl rfl ?_
  intro E C Rt
  have C : hCx E K cX6_assign 3 RX6 "assign" rm_X6_assign := C
  refine x_iload_1 1 C dX6_assign_0 rfl ?_
  refine x_iconst (v := 0) 2 C dX6_assign_1 rfl rfl ?_
  refine x_bipush (v := 7) 4 C dX6_assign_2 rfl rfl ?_
  refine x_callS 7 C (c_X6_in K _ _ _ _) hy_X6_in ws_X6_in lk_X6_57 dX6_assign_4 rfl ⟨Nat.le_of_ble_eq_true rfl, Nat.le_of_ble_eq_true rfl⟩ ⟨Nat.le_of_ble_eq_true rfl, Nat.le_of_ble_eq_true rfl⟩ (Nat.le_of_ble_eq_true rfl) rfl (k_0 rfl rfl (k_ip ?_))
  refine x_if_eq 10 18 C dX6_assign_7 rfl rfl (fun c_7 => ?_) (fun c_7 => ?_)
  · refine x_ldc2 (v := (-1)) 21 C dX6_assign_18 rfl wq_X6_64 ?_
    refine x_lreturn C Rt dX6_assign_21 ⟨Nat.le_of_ble_eq_true rfl, Nat.le_of_ble_eq_true rfl⟩ ?_
    have hn : ¬ ((0 ≤ a.toInt ∧ a.toInt ≤ 7) ∧ isF σ.1 b) := fun q => hB_0p.mp c_7 q.1
    exact ⟨_, rfl, by rw [sp_assign, spQ_f hn], by rw [sp_assign, spQ_f hn]; exact ⟨⟨z, F, G, W, hr⟩, hFr.rf⟩⟩
  · refine x_aload_0 11 C dX6_assign_10 rfl ?_
    refine x_iload_2 12 C dX6_assign_11 rfl ?_
    refine x_callV 15 C (c_X6_isFormula K _ W (τ := σ.1) hr.2.2.1 ho.1 _) W.obj wcl_X6 hy_X6_isFormula wv_X6_isFormula we_X6_isFormula lk_X6_153 dX6_assign_12 rfl ⟨Nat.le_of_ble_eq_true rfl, Nat.le_of_ble_eq_true rfl⟩ ⟨Nat.le_of_ble_eq_true rfl, Nat.le_of_ble_eq_true rfl⟩ (Nat.le_of_ble_eq_true rfl) rfl (k_0 rfl rfl (k_ip ?_))
    refine x_if_ne 18 22 C dX6_assign_15 rfl rfl (fun c_15 => ?_) (fun c_15 => ?_)
    · have hin : 0 ≤ a.toInt ∧ a.toInt ≤ 7 := hB_n0p.mp c_7
      have hf := spI_n0.mp c_15
      obtain ⟨j, hj, rfl, hw, hgf⟩ := isF_j hf ho.1
      obtain ⟨q1, q2⟩ := hr.2.2.1.2.2 j hj
      have hl60 := hw.2.2
      have hrf : rF σ.1 (nI j) = rkR σ.1 (σ.1.2.2.2 j) := by unfold rF; rw [hgf]
      obtain ⟨i, hi, rfl⟩ := in_nI (b := 7) hin
      refine x_aload_0 23 C dX6_assign_22 rfl ?_
      refine x_iload_2 24 C dX6_assign_23 rfl ?_
      refine x_callV 27 C (c_X6_reckon K _ W (τ := σ.1) hr.2.2.1 ho.1 hr.2.2.2.1 j hj hw) W.obj wcl_X6 hy_X6_reckon wv_X6_reckon we_X6_reckon lk_X6_156 dX6_assign_24 rfl ⟨Nat.le_of_ble_eq_true rfl, Nat.le_of_ble_eq_true rfl⟩ ⟨Nat.le_of_ble_eq_true rfl, Nat.le_of_ble_eq_true rfl⟩ (Nat.le_of_ble_eq_true rfl) rfl (k_0 rfl rfl (k_i (fun r_p M_1 h_1 => ?_)))
      obtain ⟨z_2, G_2, W, e_z, e_G, fr_2, hv, hcase⟩ := h_1
      have hr2 := repM_rk hr e_z e_G
      refine x_if_ne 30 34 C dX6_assign_27 rfl rfl (fun c_27 => ?_) (fun c_27 => ?_)
      · obtain ⟨hR, -, hends, hreas, hlast⟩ : (rkR σ.1 (σ.1.2.2.2 j)).2 = 0 ∧ r_p = 1 ∧ _ := by
          rcases hcase with q | q
          · exact q
          · exact absurd q.2.1 c_27
        refine x_aload_0 35 C dX6_assign_34 rfl ?_
        refine x_callV 38 C (c_X6_record K _ W σ.2.1.1 ho.2.1 hr2.1) W.obj wcl_X6 hy_X6_record wv_X6_record we_X6_record lk_X6_61 dX6_assign_35 rfl ⟨Nat.le_of_ble_eq_true rfl, Nat.le_of_ble_eq_true rfl⟩ ⟨Nat.le_of_ble_eq_true rfl, Nat.le_of_ble_eq_true rfl⟩ (Nat.le_of_ble_eq_true rfl) rfl (k_0 rfl rfl (k_v (fun M_2 hp_2 => ?_)))
        obtain ⟨f_h, g_h, W, o_2, p1, p2, p3, p4⟩ := hp_2
        have hh := hist_psh ho.2.1 hr2.2.2.2.2.1 hr2.2.2.1 hr2.2.2.2.1 ho.1 ho.2.2.1 p1 p2 p3 p4
        rw [← psh_n (n := σ.1)] at W
        refine x_aload_0 39 C dX6_assign_38 rfl ?_
        refine mOg_cells 42 C wf_X6_13 W.obj dX6_assign_39 rfl ?_
        refine x_iload_1 43 C dX6_assign_42 rfl ?_
        refine x_aload_0 44 C dX6_assign_43 rfl ?_
        refine mOg_pile 47 C wf_X6_48 W.obj dX6_assign_44 rfl ?_
        refine x_iconst (v := 0) 48 C dX6_assign_47 rfl rfl ?_
        refine x_lald 49 (0) C W.pile (rfl) (by decide) (by decide) dX6_assign_48 rfl ?_
        refine x_topl hlast ?_
        refine x_last 50 (i) C W.cells (rfl) (by omega) (by decide) dX6_assign_49 rfl ?_
        refine x_m_cells W (fun M_3 W o_3 => ?_)
        refine x_aload_0 51 C dX6_assign_50 rfl ?_
        refine mOg_cells 54 C wf_X6_13 W.obj dX6_assign_51 rfl ?_
        refine x_iload_1 55 C dX6_assign_54 rfl ?_
        refine x_lald 56 (i) C W.cells (rfl) (by omega) (by decide) dX6_assign_55 rfl ?_
        refine x_topl (va_up_self _ _ _) ?_
        refine x_lreturn C Rt dX6_assign_56 ⟨Nat.le_of_ble_eq_true rfl, Nat.le_of_ble_eq_true rfl⟩ ?_
        have hsp : sp_assign σ (nI i) (nI j) = (lN (lastV (rkR σ.1 (σ.1.2.2.2 j))), recd σ (σ.1.1, σ.1.2.1, va_up σ.1.2.2.1 i (lastV (rkR σ.1 (σ.1.2.2.2 j))), σ.1.2.2.2)) := by rw [sp_assign, spQ_t ⟨hin, hf⟩, hrf, if_pos hR, nI_toN (by omega)]
        exact ⟨_, rfl, by rw [hsp]; rfl, by rw [hsp]; exact ⟨⟨_, _, _, W, rfl, hr2.2.1, hr2.2.2.1, encC_set hr2.2.2.2.1 i _, hh, hr2.2.2.2.2.2.1, hr2.2.2.2.2.2.2⟩, (((fr_2).tr o_2).tr o_3)⟩⟩
      · have hR : ¬ (rkR σ.1 (σ.1.2.2.2 j)).2 = 0 := by
          rcases hcase with q | q
          · exact absurd (q.2.1.symm.trans c_27) (by decide)
          · exact q.1
        refine x_ldc2 (v := (-5)) 33 C dX6_assign_30 rfl wq_X6_159 ?_
        refine x_lreturn C Rt dX6_assign_33 ⟨Nat.le_of_ble_eq_true rfl, Nat.le_of_ble_eq_true rfl⟩ ?_
        exact ⟨_, rfl, by rw [sp_assign, spQ_t ⟨hin, hf⟩, hrf, if_neg hR], by rw [sp_assign, spQ_t ⟨hin, hf⟩, hrf, if_neg hR]; exact ⟨⟨_, _, _, W, hr2⟩, fr_2⟩⟩
    · refine x_ldc2 (v := (-1)) 21 C dX6_assign_18 rfl wq_X6_64 ?_
      refine x_lreturn C Rt dX6_assign_21 ⟨Nat.le_of_ble_eq_true rfl, Nat.le_of_ble_eq_true rfl⟩ ?_
      have hn : ¬ ((0 ≤ a.toInt ∧ a.toInt ≤ 7) ∧ isF σ.1 b) := fun q => spI_0.mp c_15 q.2
      exact ⟨_, rfl, by rw [sp_assign, spQ_f hn], by rw [sp_assign, spQ_f hn]; exact ⟨⟨z, F, G, W, hr⟩, hFr.rf⟩⟩
set_option maxHeartbeats 4000000 in
set_option maxRecDepth 100000 in
theorem c_X6_stepValue (K : hKv) (M : hM) {A : Nat → Nat} {z : Nat → Int32} {F : Nat → Nat → Int32} {G : Nat → Nat → Int64} (W : mW K A z F G M) {σ : hSt} (hr : repM z F G σ) (ho : okS σ) (a b : Int32) : hC K Y_X6_stepValue rm_X6_stepValue [.ref (A 0), .int a, .int b] M (hPl fun r M' => r = sp_stepValue σ a b ∧ mP K A M σ M') := by
  refine hC.of [some (.ref (A 0)), some (.int a), some (.int b)] (by decide) (Nat.le_of_ble_eq_true rfl) rfl rfl ?_
  intro E C Rt
  have C : hCx E K cX6_stepValue 3 RX6 "stepValue" rm_X6_stepValue := C
  refine x_aload_0 1 C dX6_stepValue_0 rfl ?_
  refine x_iload_1 2 C dX6_stepValue_1 rfl ?_
  refine x_callV 5 C (c_X6_isFormula K _ W (τ := σ.1) hr.2.2.1 ho.1 _) W.obj wcl_X6 hy_X6_isFormula wv_X6_isFormula we_X6_isFormula lk_X6_153 dX6_stepValue_2 rfl ⟨Nat.le_of_ble_eq_true rfl, Nat.le_of_ble_eq_true rfl⟩ ⟨Nat.le_of_ble_eq_true rfl, Nat.le_of_ble_eq_true rfl⟩ (Nat.le_of_ble_eq_true rfl) rfl (k_0 rfl rfl (k_ip ?_))
  refine x_if_eq 8 26 C dX6_stepValue_5 rfl rfl (fun c_5 => ?_) (fun c_5 => ?_)
  · refine x_ldc2 (v := (-1)) 29 C dX6_stepValue_26 rfl wq_X6_64 ?_
    refine x_lreturn C Rt dX6_stepValue_29 ⟨Nat.le_of_ble_eq_true rfl, Nat.le_of_ble_eq_true rfl⟩ ?_
    exact ⟨_, rfl, by rw [sp_stepValue, spQ_f (fun q => spI_0.mp c_5 q.1)], ⟨⟨z, F, G, W, hr⟩, hFr.rf⟩⟩
  · have hf := spI_n0.mp c_5
    obtain ⟨j, hj, rfl, hw, hgf⟩ := isF_j hf ho.1
    obtain ⟨q1, q2⟩ := hr.2.2.1.2.2 j hj
    have hl60 := hw.2.2
    have hrf : rF σ.1 (nI j) = rkR σ.1 (σ.1.2.2.2 j) := by unfold rF; rw [hgf]
    have hpos : 1 ≤ (σ.1.2.2.2 j).length := by
      rcases Nat.eq_zero_or_pos (σ.1.2.2.2 j).length with q | q
      · exact absurd (List.length_eq_zero_iff.mp q) (wfF_ne hw)
      · exact q
    refine x_iload_2 9 C dX6_stepValue_8 rfl ?_
    refine x_iconst (v := 0) 10 C dX6_stepValue_9 rfl rfl ?_
    refine x_aload_0 11 C dX6_stepValue_10 rfl ?_
    refine mOg_now 14 C wf_X6_7 W.obj dX6_stepValue_11 rfl ?_
    refine x_iconst (v := 2) 15 C dX6_stepValue_14 rfl rfl ?_
    refine x_iload_1 16 C dX6_stepValue_15 rfl ?_
    refine x_iadd 17 C dX6_stepValue_16 rfl ?_
    refine x_topi (nI_add 2 j) ?_
    refine x_iald 18 (2 + j) C W.now (rfl) (by omega) (by decide) dX6_stepValue_17 rfl ?_
    refine x_topi q1 ?_
    refine x_iconst (v := 1) 19 C dX6_stepValue_18 rfl rfl ?_
    refine x_isub 20 C dX6_stepValue_19 rfl ?_
    refine x_topi (v' := nI ((σ.1.2.2.2 j).length - 1)) (pk_sub (a := (σ.1.2.2.2 j).length) (b := 1) hpos) ?_
    refine x_callS 23 C (c_X6_in K _ _ _ _) hy_X6_in ws_X6_in lk_X6_57 dX6_stepValue_20 rfl ⟨Nat.le_of_ble_eq_true rfl, Nat.le_of_ble_eq_true rfl⟩ ⟨Nat.le_of_ble_eq_true rfl, Nat.le_of_ble_eq_true rfl⟩ (Nat.le_of_ble_eq_true rfl) rfl (k_0 rfl rfl (k_ip ?_))
    have hrg : ((0 : Int32).toInt ≤ b.toInt ∧ b.toInt ≤ (nI ((σ.1.2.2.2 j).length - 1)).toInt) ↔ (0 ≤ b.toInt ∧ b.toInt ≤ ((gF σ.1 (nI j)).length : Int) - 1) := by
      rw [hgf, nI_toI (by omega), show (0 : Int32).toInt = 0 from rfl]; omega
    refine x_if_ne 26 30 C dX6_stepValue_23 rfl rfl (fun c_23 => ?_) (fun c_23 => ?_)
    · have hin := hrg.mp (hB_n0p.mp c_23)
      obtain ⟨s, hs, rfl⟩ : ∃ s, s < (σ.1.2.2.2 j).length ∧ b = nI s := ⟨b.toInt.toNat, by rw [hgf] at hin; omega, nI_ofInt hin.1⟩
      obtain ⟨k1, k2, k3⟩ := rk_len (τ := σ.1) (σ.1.2.2.2 j) [] []
      simp only [List.length_nil, Nat.zero_add] at k1 k2
      refine x_aload_0 31 C dX6_stepValue_30 rfl ?_
      refine x_iload_1 32 C dX6_stepValue_31 rfl ?_
      refine x_callV 35 C (c_X6_reckon K _ W (τ := σ.1) hr.2.2.1 ho.1 hr.2.2.2.1 j hj hw) W.obj wcl_X6 hy_X6_reckon wv_X6_reckon we_X6_reckon lk_X6_156 dX6_stepValue_32 rfl ⟨Nat.le_of_ble_eq_true rfl, Nat.le_of_ble_eq_true rfl⟩ ⟨Nat.le_of_ble_eq_true rfl, Nat.le_of_ble_eq_true rfl⟩ (Nat.le_of_ble_eq_true rfl) rfl (k_0 rfl rfl (k_i (fun r_p M_1 h_1 => ?_)))
      obtain ⟨z_2, G_2, W, e_z, e_G, fr_2, hv, hcase⟩ := h_1
      have hr2 := repM_rk hr e_z e_G
      refine x_if_ne 38 46 C dX6_stepValue_35 rfl rfl (fun c_35 => ?_) (fun c_35 => ?_)
      · obtain ⟨hR, -, hends, hreas, hlast⟩ : (rkR σ.1 (σ.1.2.2.2 j)).2 = 0 ∧ r_p = 1 ∧ _ := by
          rcases hcase with q | q
          · exact q
          · exact absurd q.2.1 c_35
        have hlt : s < (rkR σ.1 (σ.1.2.2.2 j)).1.length := by rw [show (rkR σ.1 (σ.1.2.2.2 j)).1.length = _ from k2 hR]; exact hs
        refine x_aload_0 47 C dX6_stepValue_46 rfl ?_
        refine mOg_values 50 C wf_X6_45 W.obj dX6_stepValue_47 rfl ?_
        refine x_iload_2 51 C dX6_stepValue_50 rfl ?_
        have k1 : (rkR σ.1 (σ.1.2.2.2 j)).1.length ≤ (σ.1.2.2.2 j).length := k1
        refine x_lald 52 (s) C W.values (rfl) (by omega) (by decide) dX6_stepValue_51 rfl ?_
        refine x_topl (hv s hlt) ?_
        refine x_goto 58 C dX6_stepValue_52 rfl ?_
        refine x_lreturn C Rt dX6_stepValue_58 ⟨Nat.le_of_ble_eq_true rfl, Nat.le_of_ble_eq_true rfl⟩ ?_
        exact ⟨_, rfl, by rw [sp_stepValue, spQ_t ⟨hf, hin⟩, hrf, nI_toN (by omega), if_pos hlt], ⟨⟨_, _, _, W, hr2⟩, fr_2⟩⟩
      · have hz6 : z_2 6 = nI (rkR σ.1 (σ.1.2.2.2 j)).1.length := by
          rcases hcase with q | q
          · exact absurd q.2.1 (by first | exact c_35 | (rw [c_35]; decide))
          · exact q.2.2.1
        have k1 : (rkR σ.1 (σ.1.2.2.2 j)).1.length ≤ (σ.1.2.2.2 j).length := k1
        refine x_iload_2 39 C dX6_stepValue_38 rfl ?_
        refine x_aload_0 40 C dX6_stepValue_39 rfl ?_
        refine mOg_ends 43 C wf_X6_140 W.obj dX6_stepValue_40 rfl ?_
        refine x_topi hz6 ?_
        refine x_icmp_ge 46 55 C dX6_stepValue_43 rfl rfl (fun c_43 => ?_) (fun c_43 => ?_)
        · refine x_ldc2 (v := (-5)) 58 C dX6_stepValue_55 rfl wq_X6_159 ?_
          refine x_lreturn C Rt dX6_stepValue_58 ⟨Nat.le_of_ble_eq_true rfl, Nat.le_of_ble_eq_true rfl⟩ ?_
          have hge : ¬ s < (rkR σ.1 (σ.1.2.2.2 j)).1.length := by have := (nI_leI (by omega) (by omega)).mp c_43; omega
          exact ⟨_, rfl, by rw [sp_stepValue, spQ_t ⟨hf, hin⟩, hrf, nI_toN (by omega), if_neg hge], ⟨⟨_, _, _, W, hr2⟩, fr_2⟩⟩
        · have hlt : s < (rkR σ.1 (σ.1.2.2.2 j)).1.length := Nat.not_le.mp fun q => c_43 (nI_le q (by omega))
          refine x_aload_0 47 C dX6_stepValue_46 rfl ?_
          refine mOg_values 50 C wf_X6_45 W.obj dX6_stepValue_47 rfl ?_
          refine x_iload_2 51 C dX6_stepValue_50 rfl ?_
          have k1 : (rkR σ.1 (σ.1.2.2.2 j)).1.length ≤ (σ.1.2.2.2 j).length := k1
          refine x_lald 52 (s) C W.values (rfl) (by omega) (by decide) dX6_stepValue_51 rfl ?_
          refine x_topl (hv s hlt) ?_
          refine x_goto 58 C dX6_stepValue_52 rfl ?_
          refine x_lreturn C Rt dX6_stepValue_58 ⟨Nat.le_of_ble_eq_true rfl, Nat.le_of_ble_eq_true rfl⟩ ?_
          exact ⟨_, rfl, by rw [sp_stepValue, spQ_t ⟨hf, hin⟩, hrf, nI_toN (by omega), if_pos hlt], ⟨⟨_, _, _, W, hr2⟩, fr_2⟩⟩
    · refine x_ldc2 (v := (-1)) 29 C dX6_stepValue_26 rfl wq_X6_64 ?_
      refine x_lreturn C Rt dX6_stepValue_29 ⟨Nat.le_of_ble_eq_true rfl, Nat.le_of_ble_eq_true rfl⟩ ?_
      exact ⟨_, rfl, by rw [sp_stepValue, spQ_f (fun q => hB_0p.mp c_23 (hrg.mpr q.2))], ⟨⟨z, F, G, W, hr⟩, hFr.rf⟩⟩
set_option maxHeartbeats 4000000 in
set_option maxRecDepth 100000 in
theorem c_X6_ofFormula (K : hKv) (M : hM) {A : Nat → Nat} {z : Nat → Int32} {F : Nat → Nat → Int32} {G : Nat → Nat → Int64} (W : mW K A z F G M) {σ : hSt} (hr : repM z F G σ) (ho : okS σ) (a b : Int32) : hC K Y_X6_ofFormula rm_X6_ofFormula [.ref (A 0), .int a, .int b] M (hPi fun r M' => r = sp_ofFormula σ a b ∧ mP K A M σ M') := by
  refine hC.of [some (.ref (A 0)), some (.int a), some (.int b)] (by decide) (Nat.le_of_ble_eq_true rfl) rfl rfl ?_
  intro E C Rt
  have C : hCx E K cX6_ofFormula 3 RX6 "ofFormula" rm_X6_ofFormula := C
  refine x_aload_0 1 C dX6_ofFormula_0 rfl ?_
  refine x_iload_1 2 C dX6_ofFormula_1 rfl ?_
  refine x_callV 5 C (c_X6_isFormula K _ W (τ := σ.1) hr.2.2.1 ho.1 _) W.obj wcl_X6 hy_X6_isFormula wv_X6_isFormula we_X6_isFormula lk_X6_153 dX6_ofFormula_2 rfl ⟨Nat.le_of_ble_eq_true rfl, Nat.le_of_ble_eq_true rfl⟩ ⟨Nat.le_of_ble_eq_true rfl, Nat.le_of_ble_eq_true rfl⟩ (Nat.le_of_ble_eq_true rfl) rfl (k_0 rfl rfl (k_ip ?_))
  refine x_if_ne 8 10 C dX6_ofFormula_5 rfl rfl (fun c_5 => ?_) (fun c_5 => ?_)
  · have hf := spI_n0.mp c_5
    obtain ⟨j, hj, rfl, hw, hgf⟩ := isF_j hf ho.1
    obtain ⟨q1, q2⟩ := hr.2.2.1.2.2 j hj
    have hl60 := hw.2.2
    have hrf : rF σ.1 (nI j) = rkR σ.1 (σ.1.2.2.2 j) := by unfold rF; rw [hgf]
    refine x_iload_2 11 C dX6_ofFormula_10 rfl ?_
    have hk : b = 0 ∨ b = 1 ∨ b = 2 ∨ b = 3 ∨ (b.toInt < 0 ∨ 3 < b.toInt) := by
      by_cases h : b.toInt < 0 ∨ 3 < b.toInt
      · exact Or.inr (Or.inr (Or.inr (Or.inr h)))
      · obtain ⟨i, hi, rfl⟩ := in_nI (x := b) (b := 3) (by omega)
        rcases (show i = 0 ∨ i = 1 ∨ i = 2 ∨ i = 3 by omega) with rfl | rfl | rfl | rfl
        · exact Or.inl rfl
        · exact Or.inr (Or.inl rfl)
        · exact Or.inr (Or.inr (Or.inl rfl))
        · exact Or.inr (Or.inr (Or.inr (Or.inl rfl)))
    rcases hk with hk | hk | hk | hk | hk
    · subst hk
      refine x_tabIn 40 C dX6_ofFormula_11 (by decide) (by decide) rfl rfl ?_
      refine x_aload_0 41 C dX6_ofFormula_40 rfl ?_
      refine mOg_now 44 C wf_X6_7 W.obj dX6_ofFormula_41 rfl ?_
      refine x_iconst (v := 2) 45 C dX6_ofFormula_44 rfl rfl ?_
      refine x_iload_1 46 C dX6_ofFormula_45 rfl ?_
      refine x_iadd 47 C dX6_ofFormula_46 rfl ?_
      refine x_topi (nI_add 2 j) ?_
      refine x_iald 48 (2 + j) C W.now (rfl) (by omega) (by decide) dX6_ofFormula_47 rfl ?_
      refine x_topi q1 ?_
      refine x_ireturn C Rt dX6_ofFormula_48 rfl ⟨Nat.le_of_ble_eq_true rfl, Nat.le_of_ble_eq_true rfl⟩ ?_
      exact ⟨_, rfl, by rw [sp_ofFormula, spQ_t hf, ti_0, if_pos rfl, hgf], ⟨⟨z, F, G, W, hr⟩, hFr.rf⟩⟩
    · subst hk
      refine x_tabIn 49 C dX6_ofFormula_11 (by decide) (by decide) rfl rfl ?_
      refine x_aload_0 50 C dX6_ofFormula_49 rfl ?_
      refine x_iload_1 51 C dX6_ofFormula_50 rfl ?_
      refine x_callV 54 C (c_X6_cellsOf K _ W (τ := σ.1) hr.2.2.1 ho.1 j hj hw) W.obj wcl_X6 hy_X6_cellsOf wv_X6_cellsOf we_X6_cellsOf lk_X6_161 dX6_ofFormula_51 rfl ⟨Nat.le_of_ble_eq_true rfl, Nat.le_of_ble_eq_true rfl⟩ ⟨Nat.le_of_ble_eq_true rfl, Nat.le_of_ble_eq_true rfl⟩ (Nat.le_of_ble_eq_true rfl) rfl (k_0 rfl rfl (k_ip ?_))
      refine x_ireturn C Rt dX6_ofFormula_54 rfl ⟨Nat.le_of_ble_eq_true rfl, Nat.le_of_ble_eq_true rfl⟩ ?_
      exact ⟨_, rfl, by rw [sp_ofFormula, spQ_t hf, ti_1, if_neg (by decide), if_pos rfl, hgf], ⟨⟨z, F, G, W, hr⟩, hFr.rf⟩⟩
    · subst hk
      refine x_tabIn 55 C dX6_ofFormula_11 (by decide) (by decide) rfl rfl ?_
      refine x_aload_0 56 C dX6_ofFormula_55 rfl ?_
      refine x_iload_1 57 C dX6_ofFormula_56 rfl ?_
      refine x_callV 60 C (c_X6_reckon K _ W (τ := σ.1) hr.2.2.1 ho.1 hr.2.2.2.1 j hj hw) W.obj wcl_X6 hy_X6_reckon wv_X6_reckon we_X6_reckon lk_X6_156 dX6_ofFormula_57 rfl ⟨Nat.le_of_ble_eq_true rfl, Nat.le_of_ble_eq_true rfl⟩ ⟨Nat.le_of_ble_eq_true rfl, Nat.le_of_ble_eq_true rfl⟩ (Nat.le_of_ble_eq_true rfl) rfl (k_0 rfl rfl (k_i (fun r_p M_1 h_1 => ?_)))
      obtain ⟨z_2, G_2, W, e_z, e_G, fr_2, hv, hcase⟩ := h_1
      have hr2 := repM_rk hr e_z e_G
      refine x_if_eq 63 67 C dX6_ofFormula_60 rfl rfl (fun c_60 => ?_) (fun c_60 => ?_)
      · have hz7 : z_2 7 = nI (rkR σ.1 (σ.1.2.2.2 j)).2 := by
          rcases hcase with q | q
          · exact absurd (q.2.1.symm.trans c_60) (by decide)
          · exact q.2.2.2
        refine x_aload_0 68 C dX6_ofFormula_67 rfl ?_
        refine mOg_reason 71 C wf_X6_143 W.obj dX6_ofFormula_68 rfl ?_
        refine x_topi hz7 ?_
        refine x_ireturn C Rt dX6_ofFormula_71 rfl ⟨Nat.le_of_ble_eq_true rfl, Nat.le_of_ble_eq_true rfl⟩ ?_
        exact ⟨_, rfl, by rw [sp_ofFormula, spQ_t hf, ti_2, if_neg (by decide), if_neg (by decide), if_pos rfl, hrf], ⟨⟨_, _, _, W, hr2⟩, fr_2⟩⟩
      · obtain ⟨hR, -, hends, hreas, hlast⟩ : (rkR σ.1 (σ.1.2.2.2 j)).2 = 0 ∧ r_p = 1 ∧ _ := by
          rcases hcase with q | q
          · exact q
          · exact absurd q.2.1 c_60
        refine x_iconst (v := 0) 64 C dX6_ofFormula_63 rfl rfl ?_
        refine x_goto 71 C dX6_ofFormula_64 rfl ?_
        refine x_ireturn C Rt dX6_ofFormula_71 rfl ⟨Nat.le_of_ble_eq_true rfl, Nat.le_of_ble_eq_true rfl⟩ ?_
        exact ⟨_, rfl, by rw [sp_ofFormula, spQ_t hf, ti_2, if_neg (by decide), if_neg (by decide), if_pos rfl, hrf, hR]; rfl, ⟨⟨_, _, _, W, hr2⟩, fr_2⟩⟩
    · subst hk
      refine x_tabIn 72 C dX6_ofFormula_11 (by decide) (by decide) rfl rfl ?_
      refine x_aload_0 73 C dX6_ofFormula_72 rfl ?_
      refine x_iload_1 74 C dX6_ofFormula_73 rfl ?_
      refine x_callV 77 C (c_X6_reckon K _ W (τ := σ.1) hr.2.2.1 ho.1 hr.2.2.2.1 j hj hw) W.obj wcl_X6 hy_X6_reckon wv_X6_reckon we_X6_reckon lk_X6_156 dX6_ofFormula_74 rfl ⟨Nat.le_of_ble_eq_true rfl, Nat.le_of_ble_eq_true rfl⟩ ⟨Nat.le_of_ble_eq_true rfl, Nat.le_of_ble_eq_true rfl⟩ (Nat.le_of_ble_eq_true rfl) rfl (k_0 rfl rfl (k_i (fun r_p M_1 h_1 => ?_)))
      obtain ⟨z_2, G_2, W, e_z, e_G, fr_2, hv, hcase⟩ := h_1
      have hr2 := repM_rk hr e_z e_G
      refine x_if_eq 80 85 C dX6_ofFormula_77 rfl rfl (fun c_77 => ?_) (fun c_77 => ?_)
      · have hR : ¬ (rkR σ.1 (σ.1.2.2.2 j)).2 = 0 := by
          rcases hcase with q | q
          · exact absurd (q.2.1.symm.trans c_77) (by decide)
          · exact q.1
        have hz6 : z_2 6 = nI (rkR σ.1 (σ.1.2.2.2 j)).1.length := by
          rcases hcase with q | q
          · exact absurd q.1 hR
          · exact q.2.2.1
        refine x_aload_0 86 C dX6_ofFormula_85 rfl ?_
        refine mOg_ends 89 C wf_X6_140 W.obj dX6_ofFormula_86 rfl ?_
        refine x_topi hz6 ?_
        refine x_ireturn C Rt dX6_ofFormula_89 rfl ⟨Nat.le_of_ble_eq_true rfl, Nat.le_of_ble_eq_true rfl⟩ ?_
        exact ⟨_, rfl, by rw [sp_ofFormula, spQ_t hf, ti_3, if_neg (by decide), if_neg (by decide), if_neg (by decide), if_pos rfl, hrf, if_neg hR], ⟨⟨_, _, _, W, hr2⟩, fr_2⟩⟩
      · obtain ⟨hR, -, hends, hreas, hlast⟩ : (rkR σ.1 (σ.1.2.2.2 j)).2 = 0 ∧ r_p = 1 ∧ _ := by
          rcases hcase with q | q
          · exact q
          · exact absurd q.2.1 c_77
        refine x_bipush (v := (-6)) 82 C dX6_ofFormula_80 rfl rfl ?_
        refine x_goto 89 C dX6_ofFormula_82 rfl ?_
        refine x_ireturn C Rt dX6_ofFormula_89 rfl ⟨Nat.le_of_ble_eq_true rfl, Nat.le_of_ble_eq_true rfl⟩ ?_
        exact ⟨_, rfl, by rw [sp_ofFormula, spQ_t hf, ti_3, if_neg (by decide), if_neg (by decide), if_neg (by decide), if_pos rfl, hrf, if_pos hR], ⟨⟨_, _, _, W, hr2⟩, fr_2⟩⟩
    · refine x_tabOut 90 C dX6_ofFormula_11 (by omega) rfl ?_
      refine x_iload_2 91 C dX6_ofFormula_90 rfl ?_
      refine x_iconst (v := 4) 92 C dX6_ofFormula_91 rfl rfl ?_
      refine x_icmp_ne 95 103 C dX6_ofFormula_92 rfl rfl (fun c_92 => ?_) (fun c_92 => ?_)
      · refine x_bipush (v := (-2)) 105 C dX6_ofFormula_103 rfl rfl ?_
        refine x_ireturn C Rt dX6_ofFormula_105 rfl ⟨Nat.le_of_ble_eq_true rfl, Nat.le_of_ble_eq_true rfl⟩ ?_
        have h4 : ¬ b.toInt = 4 := fun q => c_92 (Int32.toInt_inj.mp q)
        exact ⟨_, rfl, by rw [sp_ofFormula, spQ_t hf, if_neg (by omega), if_neg (by omega), if_neg (by omega), if_neg (by omega), if_neg h4], ⟨⟨z, F, G, W, hr⟩, hFr.rf⟩⟩
      · refine x_aload_0 96 C dX6_ofFormula_95 rfl ?_
        refine x_iload_1 97 C dX6_ofFormula_96 rfl ?_
        refine x_callV 100 C (c_X6_rootsOf K _ W (τ := σ.1) hr.2.2.1 ho.1 j hj hw) W.obj wcl_X6 hy_X6_rootsOf wv_X6_rootsOf we_X6_rootsOf lk_X6_165 dX6_ofFormula_97 rfl ⟨Nat.le_of_ble_eq_true rfl, Nat.le_of_ble_eq_true rfl⟩ ⟨Nat.le_of_ble_eq_true rfl, Nat.le_of_ble_eq_true rfl⟩ (Nat.le_of_ble_eq_true rfl) rfl (k_0 rfl rfl (k_ip ?_))
        refine x_goto 105 C dX6_ofFormula_100 rfl ?_
        refine x_ireturn C Rt dX6_ofFormula_105 rfl ⟨Nat.le_of_ble_eq_true rfl, Nat.le_of_ble_eq_true rfl⟩ ?_
        subst c_92
        exact ⟨_, rfl, by rw [sp_ofFormula, spQ_t hf, ti_4, if_neg (by decide), if_neg (by decide), if_neg (by decide), if_neg (by decide), if_pos rfl, hgf], ⟨⟨z, F, G, W, hr⟩, hFr.rf⟩⟩
  · refine x_iconst (v := (-1)) 9 C dX6_ofFormula_8 rfl rfl ?_
    refine x_ireturn C Rt dX6_ofFormula_9 rfl ⟨Nat.le_of_ble_eq_true rfl, Nat.le_of_ble_eq_true rfl⟩ ?_
    exact ⟨_, rfl, by rw [sp_ofFormula, spQ_f (spI_0.mp c_5)], ⟨⟨z, F, G, W, hr⟩, hFr.rf⟩⟩
set_option maxHeartbeats 4000000 in
set_option maxRecDepth 100000 in
theorem c_X6_settle (K : hKv) (M : hM) {A : Nat → Nat} {z : Nat → Int32} {F : Nat → Nat → Int32} {G : Nat → Nat → Int64} (W : mW K A z F G M) {σ : hSt} (hr : repM z F G σ) (ho : okS σ) (a b c : Int32) : hC K Y_X6_settle rm_X6_settle [.ref (A 0), .int a, .int b, .int c] M (hPi fun r M' => r = (sp_settle σ a b c).1 ∧ mP K A M (sp_settle σ a b c).2 M') := by
  refine hC.of [some (.ref (A 0)), some (.int a), some (.int b), some (.int c), none, none] (by decide) (Nat.le_of_ble_eq_true rfl) rfl rfl ?_
  intro E C Rt
  have C : hCx E K cX6_settle 6 RX6 "settle" rm_X6_settle := C
  have hcl : ∀ τ : hS1, ok1 τ → ∀ i, i ≤ 7 → τ.2.2.1 i < 2 ^ 63 := fun τ q i h => by have := q.2.2.1 i (by omega); unfold LG at this; omega
  obtain ⟨M0, hM0⟩ : ∃ M0 : hM, M0 = M := ⟨_, rfl⟩
  rw [← hM0] at Rt
  have fin0 : ∀ (i j t n : Nat) (M : hM), hPi (fun r M' => r = (sp_settle σ a b c).1 ∧ mP K A M0 (sp_settle σ a b c).2 M') (some (.int (nI n))) M → hX E 0 0 43 [some (.ref (A 0)), some (.int (nI i)), some (.int (nI j)), some (.int (nI t)), some (.int (nI n)), some (.int 0)] [] M := by
    intro i j t n M hp
    refine x_iload_5 45 C dX6_settle_43 rfl ?_
    refine x_if_eq 48 103 C dX6_settle_45 rfl rfl (fun _ => ?_) (fun z => absurd (rfl) z)
    refine x_iload_4 105 C dX6_settle_103 rfl ?_
    refine x_ireturn C Rt dX6_settle_105 rfl ⟨Nat.le_of_ble_eq_true rfl, Nat.le_of_ble_eq_true rfl⟩ ?_
    exact hp
  have lp : ∀ (i j t : Nat) (LL : List (Nat × Nat)), i ≤ 7 → j < 6 → t ≤ 100 → wfF LL → ∀ (N : Nat) (τN : hS1), (∀ M : hM, mP K A M0 (τN, psh σ.2.1 σ.1, σ.2.2) M → hPi (fun r M' => r = (sp_settle σ a b c).1 ∧ mP K A M0 (sp_settle σ a b c).2 M') (some (.int (nI N))) M) → ∀ (f n : Nat) (τ : hS1) (z : Nat → Int32) (F : Nat → Nat → Int32) (G : Nat → Nat → Int64) (M : hM), n + f = t → mW K A z F G M → repM z F G (τ, psh σ.2.1 σ.1, σ.2.2) → ok1 τ → τ.2.2.2 j = LL → hFr 100 200 M0 M → n + (stl i LL f τ).1 = N → (stl i LL f τ).2 = τN → hX E 0 0 43 [some (.ref (A 0)), some (.int (nI i)), some (.int (nI j)), some (.int (nI t)), some (.int (nI n)), some (.int 1)] [] M := by
    intro i j t LL hi hj ht hw N τN hfin f
    induction f with
    | zero =>
      intro n τ z F G M hnt W hr hok hL fr hN hT
      have hn : n = N := hN
      have hT : τ = τN := hT
      subst hn
      subst hT
      refine x_iload_5 45 C dX6_settle_43 rfl ?_
      refine x_if_eq 48 103 C dX6_settle_45 rfl rfl (fun z => absurd z (by decide)) (fun _ => ?_)
      refine x_iload_4 50 C dX6_settle_48 rfl ?_
      refine x_iload_3 51 C dX6_settle_50 rfl ?_
      refine x_icmp_ge 54 103 C dX6_settle_51 rfl rfl (fun _ => ?_) (fun z => absurd (nI_le (by omega) (by omega)) z)
      refine x_iload_4 105 C dX6_settle_103 rfl ?_
      refine x_ireturn C Rt dX6_settle_105 rfl ⟨Nat.le_of_ble_eq_true rfl, Nat.le_of_ble_eq_true rfl⟩ ?_
      exact hfin _ ⟨⟨_, _, _, W, hr⟩, fr⟩
    | succ f ih =>
      intro n τ z F G M hnt W hr hok hL fr hN hT
      have hn8 : n < t := by omega
      have hwl := hw
      rw [← hL] at hwl
      refine x_iload_5 45 C dX6_settle_43 rfl ?_
      refine x_if_eq 48 103 C dX6_settle_45 rfl rfl (fun z => absurd z (by decide)) (fun _ => ?_)
      refine x_iload_4 50 C dX6_settle_48 rfl ?_
      refine x_iload_3 51 C dX6_settle_50 rfl ?_
      refine x_icmp_ge 54 103 C dX6_settle_51 rfl rfl (fun z => absurd z (nI_ge hn8 (by omega))) (fun _ => ?_)
      refine x_aload_0 55 C dX6_settle_54 rfl ?_
      refine x_iload_2 56 C dX6_settle_55 rfl ?_
      refine x_callV 59 C (c_X6_reckon K _ W (τ := τ) hr.2.2.1 hok hr.2.2.2.1 j hj hwl) W.obj wcl_X6 hy_X6_reckon wv_X6_reckon we_X6_reckon lk_X6_156 dX6_settle_56 rfl ⟨Nat.le_of_ble_eq_true rfl, Nat.le_of_ble_eq_true rfl⟩ ⟨Nat.le_of_ble_eq_true rfl, Nat.le_of_ble_eq_true rfl⟩ (Nat.le_of_ble_eq_true rfl) rfl (k_0 rfl rfl (k_i (fun r_p M_1 h_1 => ?_)))
      rw [hL] at h_1
      obtain ⟨z_2, G_2, W, e_z, e_G, fr_2, hv, hcase⟩ := h_1
      have hr2 := repM_rk hr e_z e_G
      refine x_if_eq 62 103 C dX6_settle_59 rfl rfl (fun c_59 => ?_) (fun c_59 => ?_)
      · refine x_iload_4 105 C dX6_settle_103 rfl ?_
        refine x_ireturn C Rt dX6_settle_105 rfl ⟨Nat.le_of_ble_eq_true rfl, Nat.le_of_ble_eq_true rfl⟩ ?_
        have hR : ¬ (rkR τ LL).2 = 0 := by
          rcases hcase with q | q
          · exact absurd (q.2.1.symm.trans c_59) (by decide)
          · exact q.1
        rw [stl_0 hR] at hN hT
        have hN : n = N := hN
        have hT : τ = τN := hT
        subst hN
        subst hT
        exact hfin _ ⟨⟨_, _, _, W, hr2⟩, fr.tr (fr_2)⟩
      · obtain ⟨hR, -, hends, hreas, hlast⟩ : (rkR τ LL).2 = 0 ∧ r_p = 1 ∧ _ := by
          rcases hcase with q | q
          · exact q
          · exact absurd q.2.1 c_59
        have hc63 := hcl τ hok i hi
        have hlb := lastV_bd (τ := τ) (L := LL)
        have hLG : LG = 1000000000000 := rfl
        refine x_aload_0 63 C dX6_settle_62 rfl ?_
        refine mOg_cells 66 C wf_X6_13 W.obj dX6_settle_63 rfl ?_
        refine x_iload_1 67 C dX6_settle_66 rfl ?_
        refine x_lald 68 (i) C W.cells (rfl) (by omega) (by decide) dX6_settle_67 rfl ?_
        refine x_topl (hr2.2.2.2.1 i (by omega)) ?_
        refine x_aload_0 69 C dX6_settle_68 rfl ?_
        refine mOg_pile 72 C wf_X6_48 W.obj dX6_settle_69 rfl ?_
        refine x_iconst (v := 0) 73 C dX6_settle_72 rfl rfl ?_
        refine x_lald 74 (0) C W.pile (rfl) (by decide) (by decide) dX6_settle_73 rfl ?_
        refine x_topl hlast ?_
        refine x_lc_eq 78 82 C dX6_settle_74 dX6_settle_75 rfl rfl (fun c_74 => ?_) (fun c_74 => ?_)
        · refine x_iconst (v := 0) 83 C dX6_settle_82 rfl rfl ?_
          refine x_istore_5 85 C dX6_settle_83 rfl rfl ?_
          refine x_aload_0 86 C dX6_settle_85 rfl ?_
          refine mOg_cells 89 C wf_X6_13 W.obj dX6_settle_86 rfl ?_
          refine x_iload_1 90 C dX6_settle_89 rfl ?_
          refine x_aload_0 91 C dX6_settle_90 rfl ?_
          refine mOg_pile 94 C wf_X6_48 W.obj dX6_settle_91 rfl ?_
          refine x_iconst (v := 0) 95 C dX6_settle_94 rfl rfl ?_
          refine x_lald 96 (0) C W.pile (rfl) (by decide) (by decide) dX6_settle_95 rfl ?_
          refine x_topl hlast ?_
          refine x_last 97 (i) C W.cells (rfl) (by omega) (by decide) dX6_settle_96 rfl ?_
          refine x_m_cells W (fun M_2 W o_2 => ?_)
          refine x_iinc_4 100 C dX6_settle_97 rfl rfl (nI_inc _) ?_
          refine x_goto 43 C dX6_settle_100 rfl ?_
          have he : lastV (rkR τ LL) = τ.2.2.1 i := ((lN_eq' (by omega) hc63).mp (by first | exact c_74 | exact c_74.symm))
          rw [stl_1 hR he] at hN hT
          have hN : n + 1 = N := hN
          have hT : τ = τN := hT
          subst hN
          subst hT
          refine fin0 i j t (n + 1) _ (hfin _ ⟨⟨_, _, _, W, hr2.1, hr2.2.1, hr2.2.2.1, ?_, hr2.2.2.2.2⟩, fr.tr ((fr_2).tr o_2)⟩)
          have h := encC_set hr2.2.2.2.1 i (lastV (rkR τ LL))
          rw [he] at h
          rw [va_id] at h
          refine encC.congr hr2.2.2.2.1 fun k hk => ?_
          show va_up (G_2 2) i (lN _) k = G_2 2 k
          unfold va_up
          split
          · next e => rw [e]; exact (congrArg lN he).trans (hr2.2.2.2.1 i (by omega)).symm
          · rfl
        · refine x_iconst (v := 1) 79 C dX6_settle_78 rfl rfl ?_
          refine x_goto 83 C dX6_settle_79 rfl ?_
          refine x_istore_5 85 C dX6_settle_83 rfl rfl ?_
          refine x_aload_0 86 C dX6_settle_85 rfl ?_
          refine mOg_cells 89 C wf_X6_13 W.obj dX6_settle_86 rfl ?_
          refine x_iload_1 90 C dX6_settle_89 rfl ?_
          refine x_aload_0 91 C dX6_settle_90 rfl ?_
          refine mOg_pile 94 C wf_X6_48 W.obj dX6_settle_91 rfl ?_
          refine x_iconst (v := 0) 95 C dX6_settle_94 rfl rfl ?_
          refine x_lald 96 (0) C W.pile (rfl) (by decide) (by decide) dX6_settle_95 rfl ?_
          refine x_topl hlast ?_
          refine x_last 97 (i) C W.cells (rfl) (by omega) (by decide) dX6_settle_96 rfl ?_
          refine x_m_cells W (fun M_3 W o_3 => ?_)
          refine x_iinc_4 100 C dX6_settle_97 rfl rfl (nI_inc _) ?_
          refine x_goto 43 C dX6_settle_100 rfl ?_
          have he : ¬ lastV (rkR τ LL) = τ.2.2.1 i := fun q => c_74 (by rw [show (lN (τ.2.2.1 i)) = lN (lastV (rkR τ LL)) by rw [q]]; rfl)
          rw [stl_n hR he] at hN hT
          exact ih (n + 1) (τ.1, τ.2.1, va_up τ.2.2.1 i (lastV (rkR τ LL)), τ.2.2.2) _ _ _ _ (by omega) W ⟨hr2.1, hr2.2.1, hr2.2.2.1, encC_set hr2.2.2.2.1 i _, hr2.2.2.2.2⟩ (ok1_cell hok hlb) hL (fr.tr ((fr_2).tr o_3)) (by rw [← hN]; show n + 1 + _ = n + (_ + 1); omega) hT
  refine x_iload_1 1 C dX6_settle_0 rfl ?_
  refine x_iconst (v := 0) 2 C dX6_settle_1 rfl rfl ?_
  refine x_bipush (v := 7) 4 C dX6_settle_2 rfl rfl ?_
  refine x_callS 7 C (c_X6_in K _ _ _ _) hy_X6_in ws_X6_in lk_X6_57 dX6_settle_4 rfl ⟨Nat.le_of_ble_eq_true rfl, Nat.le_of_ble_eq_true rfl⟩ ⟨Nat.le_of_ble_eq_true rfl, Nat.le_of_ble_eq_true rfl⟩ (Nat.le_of_ble_eq_true rfl) rfl (k_0 rfl rfl (k_ip ?_))
  refine x_if_eq 10 18 C dX6_settle_7 rfl rfl (fun c_7 => ?_) (fun c_7 => ?_)
  · refine x_iconst (v := (-1)) 19 C dX6_settle_18 rfl rfl ?_
    refine x_ireturn C Rt dX6_settle_19 rfl ⟨Nat.le_of_ble_eq_true rfl, Nat.le_of_ble_eq_true rfl⟩ ?_
    have hn : ¬ ((0 ≤ a.toInt ∧ a.toInt ≤ 7) ∧ isF σ.1 b) := fun q => hB_0p.mp c_7 q.1
    exact ⟨_, rfl, by rw [sp_settle, spQ_f hn], by rw [sp_settle, spQ_f hn, hM0]; exact ⟨⟨z, F, G, W, hr⟩, hFr.rf⟩⟩
  · refine x_aload_0 11 C dX6_settle_10 rfl ?_
    refine x_iload_2 12 C dX6_settle_11 rfl ?_
    refine x_callV 15 C (c_X6_isFormula K _ W (τ := σ.1) hr.2.2.1 ho.1 _) W.obj wcl_X6 hy_X6_isFormula wv_X6_isFormula we_X6_isFormula lk_X6_153 dX6_settle_12 rfl ⟨Nat.le_of_ble_eq_true rfl, Nat.le_of_ble_eq_true rfl⟩ ⟨Nat.le_of_ble_eq_true rfl, Nat.le_of_ble_eq_true rfl⟩ (Nat.le_of_ble_eq_true rfl) rfl (k_0 rfl rfl (k_ip ?_))
    refine x_if_ne 18 20 C dX6_settle_15 rfl rfl (fun c_15 => ?_) (fun c_15 => ?_)
    · have hin : 0 ≤ a.toInt ∧ a.toInt ≤ 7 := hB_n0p.mp c_7
      have hf := spI_n0.mp c_15
      refine x_iload_3 21 C dX6_settle_20 rfl ?_
      refine x_iconst (v := 1) 22 C dX6_settle_21 rfl rfl ?_
      refine x_bipush (v := 100) 24 C dX6_settle_22 rfl rfl ?_
      refine x_callS 27 C (c_X6_in K _ _ _ _) hy_X6_in ws_X6_in lk_X6_57 dX6_settle_24 rfl ⟨Nat.le_of_ble_eq_true rfl, Nat.le_of_ble_eq_true rfl⟩ ⟨Nat.le_of_ble_eq_true rfl, Nat.le_of_ble_eq_true rfl⟩ (Nat.le_of_ble_eq_true rfl) rfl (k_0 rfl rfl (k_ip ?_))
      refine x_if_ne 30 33 C dX6_settle_27 rfl rfl (fun c_27 => ?_) (fun c_27 => ?_)
      · have hin2 : 1 ≤ c.toInt ∧ c.toInt ≤ 100 := hB_n0p.mp c_27
        obtain ⟨j, hj, rfl, hw, hgf⟩ := isF_j hf ho.1
        obtain ⟨i, hi, rfl⟩ := in_nI (b := 7) hin
        obtain ⟨t, ht1, ht, rfl⟩ := in_nI2 (a := 1) (b := 100) hin2
        have hsp : sp_settle σ (nI i) (nI j) (nI t) = (nI (stl i (σ.1.2.2.2 j) t σ.1).1, recd σ (stl i (σ.1.2.2.2 j) t σ.1).2) := by rw [sp_settle, spQ_t ⟨hin, hf⟩, spQ_t hin2, hgf, nI_toN (by omega), nI_toN (by omega)]
        refine x_aload_0 34 C dX6_settle_33 rfl ?_
        refine x_callV 37 C (c_X6_record K _ W σ.2.1.1 ho.2.1 hr.1) W.obj wcl_X6 hy_X6_record wv_X6_record we_X6_record lk_X6_61 dX6_settle_34 rfl ⟨Nat.le_of_ble_eq_true rfl, Nat.le_of_ble_eq_true rfl⟩ ⟨Nat.le_of_ble_eq_true rfl, Nat.le_of_ble_eq_true rfl⟩ (Nat.le_of_ble_eq_true rfl) rfl (k_0 rfl rfl (k_v (fun M_1 hp_1 => ?_)))
        obtain ⟨f_h, g_h, W, o_1, p1, p2, p3, p4⟩ := hp_1
        have hh := hist_psh ho.2.1 hr.2.2.2.2.1 hr.2.2.1 hr.2.2.2.1 ho.1 ho.2.2.1 p1 p2 p3 p4
        rw [← psh_n (n := σ.1)] at W
        refine x_iconst (v := 0) 38 C dX6_settle_37 rfl rfl ?_
        refine x_istore_4 40 C dX6_settle_38 rfl rfl ?_
        refine x_iconst (v := 1) 41 C dX6_settle_40 rfl rfl ?_
        refine x_istore_5 43 C dX6_settle_41 rfl rfl ?_
        exact lp i j t (σ.1.2.2.2 j) hi hj ht hw _ _ (fun M2 q => ⟨_, rfl, by rw [hsp], by rw [hsp]; exact q⟩) t 0 σ.1 _ _ _ _ (Nat.zero_add _) W ⟨rfl, hr.2.1, hr.2.2.1, hr.2.2.2.1, hh, hr.2.2.2.2.2⟩ ho.1 rfl (by rw [hM0]; exact (o_1)) (Nat.zero_add _) rfl
      · refine x_bipush (v := (-2)) 32 C dX6_settle_30 rfl rfl ?_
        refine x_ireturn C Rt dX6_settle_32 rfl ⟨Nat.le_of_ble_eq_true rfl, Nat.le_of_ble_eq_true rfl⟩ ?_
        have hn : ¬ (1 ≤ c.toInt ∧ c.toInt ≤ 100) := hB_0p.mp c_27
        exact ⟨_, rfl, by rw [sp_settle, spQ_t ⟨hin, hf⟩, spQ_f hn], by rw [sp_settle, spQ_t ⟨hin, hf⟩, spQ_f hn, hM0]; exact ⟨⟨z, F, G, W, hr⟩, hFr.rf⟩⟩
    · refine x_iconst (v := (-1)) 19 C dX6_settle_18 rfl rfl ?_
      refine x_ireturn C Rt dX6_settle_19 rfl ⟨Nat.le_of_ble_eq_true rfl, Nat.le_of_ble_eq_true rfl⟩ ?_
      have hn : ¬ ((0 ≤ a.toInt ∧ a.toInt ≤ 7) ∧ isF σ.1 b) := fun q => spI_0.mp c_15 q.2
      exact ⟨_, rfl, by rw [sp_settle, spQ_f hn], by rw [sp_settle, spQ_f hn, hM0]; exact ⟨⟨z, F, G, W, hr⟩, hFr.rf⟩⟩
