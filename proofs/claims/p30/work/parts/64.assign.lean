/-! a cell is set, or assigned -/
theorem sp_setCell1 {σ : hSt} {c w : Nat} (hc : c < 8) (hw : w ≤ LG) : sp_setCell σ (nI c) (lN w) = (lN (σ.1.2.2.1 c), recd σ (σ.1.1, σ.1.2.1, va_up σ.1.2.2.1 c w, σ.1.2.2.2)) := by
  have hw2 := hw
  unfold LG at hw2
  rw [sp_setCell, spQ_t (by rw [nI_toI (by omega)]; omega), spQ_t (by rw [lN_toI (by omega)]; omega), nI_toN (by omega), lN_toN hw]
theorem f_no {σ : hSt} {f : Nat} (h6 : f < 6) (hL : σ.1.2.2.2 f = []) : ¬ isF σ.1 (nI f) := fun q => q.2 (by rw [nI_toN (by omega)]; exact hL)
theorem f_ok {σ : hSt} {f : Nat} {L : List (Nat × Nat)} (h6 : f < 6) (hL : σ.1.2.2.2 f = L) (hne : L ≠ []) : isF σ.1 (nI f) ∧ gF σ.1 (nI f) = L ∧ rF σ.1 (nI f) = rkR σ.1 L := by
  have e : gF σ.1 (nI f) = L := by unfold gF; rw [nI_toN (by omega), hL]
  refine ⟨⟨by rw [nI_toI (by omega)]; omega, by rw [nI_toN (by omega), hL]; exact hne⟩, e, ?_⟩
  unfold rF
  rw [e]
theorem vl_n {σ : hSt} {f : Nat} (h6 : f < 6) (hL : σ.1.2.2.2 f = []) : sp_value σ (nI f) = -1 := by rw [sp_value, spQ_f (f_no h6 hL)]
theorem vl_0 {σ : hSt} {f : Nat} {L : List (Nat × Nat)} (h6 : f < 6) (hL : σ.1.2.2.2 f = L) (hne : L ≠ []) (hR : (rkR σ.1 L).2 = 0) : sp_value σ (nI f) = lN (lastV (rkR σ.1 L)) := by
  obtain ⟨h1, h2, h3⟩ := f_ok h6 hL hne
  rw [sp_value, spQ_t h1, h3, if_pos hR]
theorem vl_1 {σ : hSt} {f : Nat} {L : List (Nat × Nat)} (h6 : f < 6) (hL : σ.1.2.2.2 f = L) (hne : L ≠ []) (hR : ¬ (rkR σ.1 L).2 = 0) : sp_value σ (nI f) = -5 := by
  obtain ⟨h1, h2, h3⟩ := f_ok h6 hL hne
  rw [sp_value, spQ_t h1, h3, if_neg hR]
theorem as_n {σ : hSt} {c f : Nat} (h6 : f < 6) (hL : σ.1.2.2.2 f = []) : sp_assign σ (nI c) (nI f) = (-1, σ) := by rw [sp_assign, spQ_f (fun q => f_no h6 hL q.2)]
theorem as_0 {σ : hSt} {c f : Nat} {L : List (Nat × Nat)} (hc : c < 8) (h6 : f < 6) (hL : σ.1.2.2.2 f = L) (hne : L ≠ []) (hR : (rkR σ.1 L).2 = 0) : sp_assign σ (nI c) (nI f) = (lN (lastV (rkR σ.1 L)), recd σ (σ.1.1, σ.1.2.1, va_up σ.1.2.2.1 c (lastV (rkR σ.1 L)), σ.1.2.2.2)) := by
  obtain ⟨h1, h2, h3⟩ := f_ok h6 hL hne
  rw [sp_assign, spQ_t ⟨by rw [nI_toI (by omega)]; omega, h1⟩, h3, if_pos hR, nI_toN (by omega)]
theorem as_1 {σ : hSt} {c f : Nat} {L : List (Nat × Nat)} (hc : c < 8) (h6 : f < 6) (hL : σ.1.2.2.2 f = L) (hne : L ≠ []) (hR : ¬ (rkR σ.1 L).2 = 0) : sp_assign σ (nI c) (nI f) = (-5, σ) := by
  obtain ⟨h1, h2, h3⟩ := f_ok h6 hL hne
  rw [sp_assign, spQ_t ⟨by rw [nI_toI (by omega)]; omega, h1⟩, h3, if_neg hR]
theorem nn_L {v : Nat} (h : v ≤ LG) : (0 : Int64) ≤ lN v := (lN_le' (a := 0) (by decide) (by unfold LG at h; omega)).mpr (Nat.zero_le _)
theorem fb_n {σ : hSt} {f : Nat} (h6 : f < 6) (hL : σ.1.2.2.2 f = []) : (fset σ.1 >>> (nI f &&& 31)) &&& 1 = 0 := by rw [fset_bit h6, hL]; rfl
theorem fb_y {σ : hSt} {f : Nat} {L : List (Nat × Nat)} (h6 : f < 6) (hL : σ.1.2.2.2 f = L) (hne : L ≠ []) : (fset σ.1 >>> (nI f &&& 31)) &&& 1 = 1 := by
  rw [fset_bit h6, hL]
  cases L with
  | nil => exact absurd rfl hne
  | cons => rfl
set_option maxHeartbeats 4000000 in
set_option maxRecDepth 100000 in
theorem c_L_isCell (K : hKv) (M : hM) {A : Nat → Nat} {σ : hSt} (X : cX K A σ M) (ho : okS σ) (c w : Nat) (hc : c < 8) (hw : w ≤ LG) : hC K Y_L_isCell rm_L_isCell [.ref (A 36), .int (nI c), .long (lN w)] M (hPi fun r M' => r = 1 ∧ ∃ σ2, cX K A σ2 M' ∧ okS σ2 ∧ hFr 1 100 M M') := by
  refine hC.of [some (.ref (A 36)), some (.int (nI c)), some (.long (lN w)), none, none, none] (by decide) (Nat.le_of_ble_eq_true rfl) rfl rfl ?_
  intro E C Rt
  have C : hCx E K cL_isCell 6 RL "isCell" rm_L_isCell := C
  obtain ⟨z_o, hO⟩ := X.obj
  have fr : hFr 1 100 M M := hFr.rf
  refine x_aload_0 1 C dL_isCell_0 rfl ?_
  refine x_iload_1 2 C dL_isCell_1 rfl ?_
  refine x_callV 5 C (c_X5_cell K _ X ho (nI c)) hO wcl_X5 hy_X5_cell wv_X5_cell we_X5_cell lk_L_49 dL_isCell_2 rfl ⟨Nat.le_of_ble_eq_true rfl, Nat.le_of_ble_eq_true rfl⟩ ⟨Nat.le_of_ble_eq_true rfl, Nat.le_of_ble_eq_true rfl⟩ (Nat.le_of_ble_eq_true rfl) rfl (k_0 rfl rfl (k_lp ?_))
  refine x_topl (v' := lN (σ.1.2.2.1 c)) ((sp_cell_ok hc).trans (by first | rfl | exact congrArg lN (va_up_self _ _ _))) ?_
  refine x_lstore_4 7 C dL_isCell_5 rfl rfl ?_
  refine x_aload_0 8 C dL_isCell_7 rfl ?_
  refine x_iload_1 9 C dL_isCell_8 rfl ?_
  refine x_lload_2 10 C dL_isCell_9 rfl ?_
  refine x_callV 13 C (c_X5_setCell K _ X ho (nI c) (lN w)) hO wcl_X5 hy_X5_setCell wv_X5_setCell we_X5_setCell lk_L_125 dL_isCell_10 rfl ⟨Nat.le_of_ble_eq_true rfl, Nat.le_of_ble_eq_true rfl⟩ ⟨Nat.le_of_ble_eq_true rfl, Nat.le_of_ble_eq_true rfl⟩ (Nat.le_of_ble_eq_true rfl) rfl (k_0 rfl rfl (k_l (fun r_1 M_1 h_1 => ?_)))
  obtain ⟨e_1, X, g_1⟩ := h_1
  have ho := okS_setCell ho (nI c) (lN w)
  rw [sp_setCell1 hc hw] at e_1 X ho
  subst e_1
  have fr := fr.tr g_1
  obtain ⟨z_o, hO⟩ := X.obj
  refine x_lload_4 15 C dL_isCell_13 rfl ?_
  refine x_lc_ne 19 33 C dL_isCell_15 dL_isCell_16 rfl rfl (fun z => absurd (rfl) z) (fun _ => ?_)
  refine x_aload_0 20 C dL_isCell_19 rfl ?_
  refine x_iload_1 21 C dL_isCell_20 rfl ?_
  refine x_callV 24 C (c_X5_cell K _ X ho (nI c)) hO wcl_X5 hy_X5_cell wv_X5_cell we_X5_cell lk_L_49 dL_isCell_21 rfl ⟨Nat.le_of_ble_eq_true rfl, Nat.le_of_ble_eq_true rfl⟩ ⟨Nat.le_of_ble_eq_true rfl, Nat.le_of_ble_eq_true rfl⟩ (Nat.le_of_ble_eq_true rfl) rfl (k_0 rfl rfl (k_lp ?_))
  refine x_topl (v' := lN (w)) ((sp_cell_ok hc).trans (by first | rfl | exact congrArg lN (va_up_self _ _ _))) ?_
  refine x_lload_2 25 C dL_isCell_24 rfl ?_
  refine x_lc_ne 29 33 C dL_isCell_25 dL_isCell_26 rfl rfl (fun z => absurd (rfl) z) (fun _ => ?_)
  refine x_iconst (v := 1) 30 C dL_isCell_29 rfl rfl ?_
  refine x_goto 34 C dL_isCell_30 rfl ?_
  refine x_ireturn C Rt dL_isCell_34 rfl ⟨Nat.le_of_ble_eq_true rfl, Nat.le_of_ble_eq_true rfl⟩ ?_
  exact ⟨_, rfl, rfl, _, X, ho, fr⟩
set_option maxHeartbeats 4000000 in
set_option maxRecDepth 100000 in
theorem c_L_isAssigned (K : hKv) (M : hM) {A : Nat → Nat} {σ : hSt} (X : cX K A σ M) (ho : okS σ) (c f : Nat) (hc : c < 8) (h6 : f < 6) : hC K Y_L_isAssigned rm_L_isAssigned [.ref (A 36), .int (nI c), .int (nI f)] M (hPi fun r M' => r = 1 ∧ ∃ σ2, cX K A σ2 M' ∧ okS σ2 ∧ hFr 1 100 M M') := by
  refine hC.of [some (.ref (A 36)), some (.int (nI c)), some (.int (nI f)), none, none, none, none, none, none, none] (by decide) (Nat.le_of_ble_eq_true rfl) rfl rfl ?_
  intro E C Rt
  have C : hCx E K cL_isAssigned 10 RL "isAssigned" rm_L_isAssigned := C
  obtain ⟨z_o, hO⟩ := X.obj
  have fr : hFr 1 100 M M := hFr.rf
  by_cases hL : σ.1.2.2.2 f = []
  · skip
    refine x_aload_0 1 C dL_isAssigned_0 rfl ?_
    refine x_iload_1 2 C dL_isAssigned_1 rfl ?_
    refine x_callV 5 C (c_X5_cell K _ X ho (nI c)) hO wcl_X5 hy_X5_cell wv_X5_cell we_X5_cell lk_L_49 dL_isAssigned_2 rfl ⟨Nat.le_of_ble_eq_true rfl, Nat.le_of_ble_eq_true rfl⟩ ⟨Nat.le_of_ble_eq_true rfl, Nat.le_of_ble_eq_true rfl⟩ (Nat.le_of_ble_eq_true rfl) rfl (k_0 rfl rfl (k_lp ?_))
    refine x_topl (v' := lN (σ.1.2.2.1 c)) ((sp_cell_ok hc).trans (by first | rfl | exact congrArg lN (va_up_self _ _ _))) ?_
    refine x_lstore_3 6 C dL_isAssigned_5 rfl rfl ?_
    refine x_aload_0 7 C dL_isAssigned_6 rfl ?_
    refine x_iconst (v := 0) 8 C dL_isAssigned_7 rfl rfl ?_
    refine x_callV 11 C (c_X5_count K _ X ho 0) hO wcl_X5 hy_X5_count wv_X5_count we_X5_count lk_L_74 dL_isAssigned_8 rfl ⟨Nat.le_of_ble_eq_true rfl, Nat.le_of_ble_eq_true rfl⟩ ⟨Nat.le_of_ble_eq_true rfl, Nat.le_of_ble_eq_true rfl⟩ (Nat.le_of_ble_eq_true rfl) rfl (k_0 rfl rfl (k_ip ?_))
    refine x_topi (v' := fset σ.1) sp_count0 ?_
    refine x_iload_2 12 C dL_isAssigned_11 rfl ?_
    refine x_ishr 13 C dL_isAssigned_12 rfl ?_
    refine x_iconst (v := 1) 14 C dL_isAssigned_13 rfl rfl ?_
    refine x_iand 15 C dL_isAssigned_14 rfl ?_
    refine x_topi (fb_n h6 hL) ?_
    refine x_iconst (v := 1) 16 C dL_isAssigned_15 rfl rfl ?_
    refine x_icmp_ne 19 23 C dL_isAssigned_16 rfl rfl (fun _ => ?_) (fun z => absurd z ((by decide)))
    refine x_iconst (v := 0) 24 C dL_isAssigned_23 rfl rfl ?_
    refine x_istore_5 26 C dL_isAssigned_24 rfl rfl ?_
    refine x_aload_0 27 C dL_isAssigned_26 rfl ?_
    refine x_iload_2 28 C dL_isAssigned_27 rfl ?_
    refine x_callV 31 C (c_X5_value K _ X ho (nI f)) hO wcl_X5 hy_X5_value wv_X5_value we_X5_value lk_L_109 dL_isAssigned_28 rfl ⟨Nat.le_of_ble_eq_true rfl, Nat.le_of_ble_eq_true rfl⟩ ⟨Nat.le_of_ble_eq_true rfl, Nat.le_of_ble_eq_true rfl⟩ (Nat.le_of_ble_eq_true rfl) rfl (k_0 rfl rfl (k_l (fun r_1 M_1 h_1 => ?_)))
    obtain ⟨e_1, X, g_1⟩ := h_1
    rw [vl_n h6 hL] at e_1
    subst e_1
    have fr := fr.tr g_1
    obtain ⟨z_o, hO⟩ := X.obj
    refine x_lstore_6 33 C dL_isAssigned_31 rfl rfl ?_
    refine x_aload_0 34 C dL_isAssigned_33 rfl ?_
    refine x_iload_1 35 C dL_isAssigned_34 rfl ?_
    refine x_iload_2 36 C dL_isAssigned_35 rfl ?_
    refine x_callV 39 C (c_X5_assign K _ X ho (nI c) (nI f)) hO wcl_X5 hy_X5_assign wv_X5_assign we_X5_assign lk_L_112 dL_isAssigned_36 rfl ⟨Nat.le_of_ble_eq_true rfl, Nat.le_of_ble_eq_true rfl⟩ ⟨Nat.le_of_ble_eq_true rfl, Nat.le_of_ble_eq_true rfl⟩ (Nat.le_of_ble_eq_true rfl) rfl (k_0 rfl rfl (k_l (fun r_2 M_2 h_2 => ?_)))
    obtain ⟨e_2, X, g_2⟩ := h_2
    have ho := okS_assign ho (nI c) (nI f)
    rw [as_n h6 hL] at e_2 X ho
    subst e_2
    have fr := fr.tr g_2
    obtain ⟨z_o, hO⟩ := X.obj
    refine x_lstore_8 41 C dL_isAssigned_39 rfl rfl ?_
    refine x_iload_5 43 C dL_isAssigned_41 rfl ?_
    refine x_if_ne 46 80 C dL_isAssigned_43 rfl rfl (fun z => absurd (rfl) z) (fun _ => ?_)
    refine x_lload_8 48 C dL_isAssigned_46 rfl ?_
    refine x_ldc2 (v := (-1)) 51 C dL_isAssigned_48 rfl wq_L_107 ?_
    refine x_lc_ne 55 78 C dL_isAssigned_51 dL_isAssigned_52 rfl rfl (fun z => absurd (rfl) z) (fun _ => ?_)
    refine x_lload_6 57 C dL_isAssigned_55 rfl ?_
    refine x_ldc2 (v := (-1)) 60 C dL_isAssigned_57 rfl wq_L_107 ?_
    refine x_lc_ne 64 78 C dL_isAssigned_60 dL_isAssigned_61 rfl rfl (fun z => absurd (rfl) z) (fun _ => ?_)
    refine x_aload_0 65 C dL_isAssigned_64 rfl ?_
    refine x_iload_1 66 C dL_isAssigned_65 rfl ?_
    refine x_callV 69 C (c_X5_cell K _ X ho (nI c)) hO wcl_X5 hy_X5_cell wv_X5_cell we_X5_cell lk_L_49 dL_isAssigned_66 rfl ⟨Nat.le_of_ble_eq_true rfl, Nat.le_of_ble_eq_true rfl⟩ ⟨Nat.le_of_ble_eq_true rfl, Nat.le_of_ble_eq_true rfl⟩ (Nat.le_of_ble_eq_true rfl) rfl (k_0 rfl rfl (k_lp ?_))
    refine x_topl (v' := lN (σ.1.2.2.1 c)) ((sp_cell_ok hc).trans (by first | rfl | exact congrArg lN (va_up_self _ _ _))) ?_
    refine x_lload_3 70 C dL_isAssigned_69 rfl ?_
    refine x_lc_ne 74 78 C dL_isAssigned_70 dL_isAssigned_71 rfl rfl (fun z => absurd (rfl) z) (fun _ => ?_)
    refine x_iconst (v := 1) 75 C dL_isAssigned_74 rfl rfl ?_
    refine x_goto 79 C dL_isAssigned_75 rfl ?_
    refine x_ireturn C Rt dL_isAssigned_79 rfl ⟨Nat.le_of_ble_eq_true rfl, Nat.le_of_ble_eq_true rfl⟩ ?_
    exact ⟨_, rfl, rfl, _, X, ho, fr⟩
  by_cases hR : (rkR σ.1 (σ.1.2.2.2 f)).2 = 0
  · skip
    refine x_aload_0 1 C dL_isAssigned_0 rfl ?_
    refine x_iload_1 2 C dL_isAssigned_1 rfl ?_
    refine x_callV 5 C (c_X5_cell K _ X ho (nI c)) hO wcl_X5 hy_X5_cell wv_X5_cell we_X5_cell lk_L_49 dL_isAssigned_2 rfl ⟨Nat.le_of_ble_eq_true rfl, Nat.le_of_ble_eq_true rfl⟩ ⟨Nat.le_of_ble_eq_true rfl, Nat.le_of_ble_eq_true rfl⟩ (Nat.le_of_ble_eq_true rfl) rfl (k_0 rfl rfl (k_lp ?_))
    refine x_topl (v' := lN (σ.1.2.2.1 c)) ((sp_cell_ok hc).trans (by first | rfl | exact congrArg lN (va_up_self _ _ _))) ?_
    refine x_lstore_3 6 C dL_isAssigned_5 rfl rfl ?_
    refine x_aload_0 7 C dL_isAssigned_6 rfl ?_
    refine x_iconst (v := 0) 8 C dL_isAssigned_7 rfl rfl ?_
    refine x_callV 11 C (c_X5_count K _ X ho 0) hO wcl_X5 hy_X5_count wv_X5_count we_X5_count lk_L_74 dL_isAssigned_8 rfl ⟨Nat.le_of_ble_eq_true rfl, Nat.le_of_ble_eq_true rfl⟩ ⟨Nat.le_of_ble_eq_true rfl, Nat.le_of_ble_eq_true rfl⟩ (Nat.le_of_ble_eq_true rfl) rfl (k_0 rfl rfl (k_ip ?_))
    refine x_topi (v' := fset σ.1) sp_count0 ?_
    refine x_iload_2 12 C dL_isAssigned_11 rfl ?_
    refine x_ishr 13 C dL_isAssigned_12 rfl ?_
    refine x_iconst (v := 1) 14 C dL_isAssigned_13 rfl rfl ?_
    refine x_iand 15 C dL_isAssigned_14 rfl ?_
    refine x_topi (fb_y h6 rfl hL) ?_
    refine x_iconst (v := 1) 16 C dL_isAssigned_15 rfl rfl ?_
    refine x_icmp_ne 19 23 C dL_isAssigned_16 rfl rfl (fun z => absurd (rfl) z) (fun _ => ?_)
    refine x_iconst (v := 1) 20 C dL_isAssigned_19 rfl rfl ?_
    refine x_goto 24 C dL_isAssigned_20 rfl ?_
    refine x_istore_5 26 C dL_isAssigned_24 rfl rfl ?_
    refine x_aload_0 27 C dL_isAssigned_26 rfl ?_
    refine x_iload_2 28 C dL_isAssigned_27 rfl ?_
    refine x_callV 31 C (c_X5_value K _ X ho (nI f)) hO wcl_X5 hy_X5_value wv_X5_value we_X5_value lk_L_109 dL_isAssigned_28 rfl ⟨Nat.le_of_ble_eq_true rfl, Nat.le_of_ble_eq_true rfl⟩ ⟨Nat.le_of_ble_eq_true rfl, Nat.le_of_ble_eq_true rfl⟩ (Nat.le_of_ble_eq_true rfl) rfl (k_0 rfl rfl (k_l (fun r_1 M_1 h_1 => ?_)))
    obtain ⟨e_1, X, g_1⟩ := h_1
    rw [vl_0 h6 rfl hL hR] at e_1
    subst e_1
    have fr := fr.tr g_1
    obtain ⟨z_o, hO⟩ := X.obj
    refine x_lstore_6 33 C dL_isAssigned_31 rfl rfl ?_
    refine x_aload_0 34 C dL_isAssigned_33 rfl ?_
    refine x_iload_1 35 C dL_isAssigned_34 rfl ?_
    refine x_iload_2 36 C dL_isAssigned_35 rfl ?_
    refine x_callV 39 C (c_X5_assign K _ X ho (nI c) (nI f)) hO wcl_X5 hy_X5_assign wv_X5_assign we_X5_assign lk_L_112 dL_isAssigned_36 rfl ⟨Nat.le_of_ble_eq_true rfl, Nat.le_of_ble_eq_true rfl⟩ ⟨Nat.le_of_ble_eq_true rfl, Nat.le_of_ble_eq_true rfl⟩ (Nat.le_of_ble_eq_true rfl) rfl (k_0 rfl rfl (k_l (fun r_2 M_2 h_2 => ?_)))
    obtain ⟨e_2, X, g_2⟩ := h_2
    have ho := okS_assign ho (nI c) (nI f)
    rw [as_0 hc h6 rfl hL hR] at e_2 X ho
    subst e_2
    have fr := fr.tr g_2
    obtain ⟨z_o, hO⟩ := X.obj
    refine x_lstore_8 41 C dL_isAssigned_39 rfl rfl ?_
    refine x_iload_5 43 C dL_isAssigned_41 rfl ?_
    refine x_if_ne 46 80 C dL_isAssigned_43 rfl rfl (fun _ => ?_) (fun z => absurd z ((by decide)))
    refine x_lload_8 82 C dL_isAssigned_80 rfl ?_
    refine x_lload_6 84 C dL_isAssigned_82 rfl ?_
    refine x_lc_ne 88 114 C dL_isAssigned_84 dL_isAssigned_85 rfl rfl (fun z => absurd (rfl) z) (fun _ => ?_)
    refine x_aload_0 89 C dL_isAssigned_88 rfl ?_
    refine x_iload_1 90 C dL_isAssigned_89 rfl ?_
    refine x_callV 93 C (c_X5_cell K _ X ho (nI c)) hO wcl_X5 hy_X5_cell wv_X5_cell we_X5_cell lk_L_49 dL_isAssigned_90 rfl ⟨Nat.le_of_ble_eq_true rfl, Nat.le_of_ble_eq_true rfl⟩ ⟨Nat.le_of_ble_eq_true rfl, Nat.le_of_ble_eq_true rfl⟩ (Nat.le_of_ble_eq_true rfl) rfl (k_0 rfl rfl (k_lp ?_))
    refine x_topl (v' := lN (lastV (rkR σ.1 (σ.1.2.2.2 f)))) ((sp_cell_ok hc).trans (by first | rfl | exact congrArg lN (va_up_self _ _ _))) ?_
    refine x_lload_6 95 C dL_isAssigned_93 rfl ?_
    refine x_lconst (v := 0) 96 C dL_isAssigned_95 rfl rfl ?_
    refine x_lc_ge 100 104 C dL_isAssigned_96 dL_isAssigned_97 rfl rfl (fun _ => ?_) (fun z => absurd ((nn_L lastV_bd)) z)
    refine x_lload_6 106 C dL_isAssigned_104 rfl ?_
    refine x_lc_ne 110 114 C dL_isAssigned_106 dL_isAssigned_107 rfl rfl (fun z => absurd (rfl) z) (fun _ => ?_)
    refine x_iconst (v := 1) 111 C dL_isAssigned_110 rfl rfl ?_
    refine x_goto 115 C dL_isAssigned_111 rfl ?_
    refine x_ireturn C Rt dL_isAssigned_115 rfl ⟨Nat.le_of_ble_eq_true rfl, Nat.le_of_ble_eq_true rfl⟩ ?_
    exact ⟨_, rfl, rfl, _, X, ho, fr⟩
  · skip
    refine x_aload_0 1 C dL_isAssigned_0 rfl ?_
    refine x_iload_1 2 C dL_isAssigned_1 rfl ?_
    refine x_callV 5 C (c_X5_cell K _ X ho (nI c)) hO wcl_X5 hy_X5_cell wv_X5_cell we_X5_cell lk_L_49 dL_isAssigned_2 rfl ⟨Nat.le_of_ble_eq_true rfl, Nat.le_of_ble_eq_true rfl⟩ ⟨Nat.le_of_ble_eq_true rfl, Nat.le_of_ble_eq_true rfl⟩ (Nat.le_of_ble_eq_true rfl) rfl (k_0 rfl rfl (k_lp ?_))
    refine x_topl (v' := lN (σ.1.2.2.1 c)) ((sp_cell_ok hc).trans (by first | rfl | exact congrArg lN (va_up_self _ _ _))) ?_
    refine x_lstore_3 6 C dL_isAssigned_5 rfl rfl ?_
    refine x_aload_0 7 C dL_isAssigned_6 rfl ?_
    refine x_iconst (v := 0) 8 C dL_isAssigned_7 rfl rfl ?_
    refine x_callV 11 C (c_X5_count K _ X ho 0) hO wcl_X5 hy_X5_count wv_X5_count we_X5_count lk_L_74 dL_isAssigned_8 rfl ⟨Nat.le_of_ble_eq_true rfl, Nat.le_of_ble_eq_true rfl⟩ ⟨Nat.le_of_ble_eq_true rfl, Nat.le_of_ble_eq_true rfl⟩ (Nat.le_of_ble_eq_true rfl) rfl (k_0 rfl rfl (k_ip ?_))
    refine x_topi (v' := fset σ.1) sp_count0 ?_
    refine x_iload_2 12 C dL_isAssigned_11 rfl ?_
    refine x_ishr 13 C dL_isAssigned_12 rfl ?_
    refine x_iconst (v := 1) 14 C dL_isAssigned_13 rfl rfl ?_
    refine x_iand 15 C dL_isAssigned_14 rfl ?_
    refine x_topi (fb_y h6 rfl hL) ?_
    refine x_iconst (v := 1) 16 C dL_isAssigned_15 rfl rfl ?_
    refine x_icmp_ne 19 23 C dL_isAssigned_16 rfl rfl (fun z => absurd (rfl) z) (fun _ => ?_)
    refine x_iconst (v := 1) 20 C dL_isAssigned_19 rfl rfl ?_
    refine x_goto 24 C dL_isAssigned_20 rfl ?_
    refine x_istore_5 26 C dL_isAssigned_24 rfl rfl ?_
    refine x_aload_0 27 C dL_isAssigned_26 rfl ?_
    refine x_iload_2 28 C dL_isAssigned_27 rfl ?_
    refine x_callV 31 C (c_X5_value K _ X ho (nI f)) hO wcl_X5 hy_X5_value wv_X5_value we_X5_value lk_L_109 dL_isAssigned_28 rfl ⟨Nat.le_of_ble_eq_true rfl, Nat.le_of_ble_eq_true rfl⟩ ⟨Nat.le_of_ble_eq_true rfl, Nat.le_of_ble_eq_true rfl⟩ (Nat.le_of_ble_eq_true rfl) rfl (k_0 rfl rfl (k_l (fun r_1 M_1 h_1 => ?_)))
    obtain ⟨e_1, X, g_1⟩ := h_1
    rw [vl_1 h6 rfl hL hR] at e_1
    subst e_1
    have fr := fr.tr g_1
    obtain ⟨z_o, hO⟩ := X.obj
    refine x_lstore_6 33 C dL_isAssigned_31 rfl rfl ?_
    refine x_aload_0 34 C dL_isAssigned_33 rfl ?_
    refine x_iload_1 35 C dL_isAssigned_34 rfl ?_
    refine x_iload_2 36 C dL_isAssigned_35 rfl ?_
    refine x_callV 39 C (c_X5_assign K _ X ho (nI c) (nI f)) hO wcl_X5 hy_X5_assign wv_X5_assign we_X5_assign lk_L_112 dL_isAssigned_36 rfl ⟨Nat.le_of_ble_eq_true rfl, Nat.le_of_ble_eq_true rfl⟩ ⟨Nat.le_of_ble_eq_true rfl, Nat.le_of_ble_eq_true rfl⟩ (Nat.le_of_ble_eq_true rfl) rfl (k_0 rfl rfl (k_l (fun r_2 M_2 h_2 => ?_)))
    obtain ⟨e_2, X, g_2⟩ := h_2
    have ho := okS_assign ho (nI c) (nI f)
    rw [as_1 hc h6 rfl hL hR] at e_2 X ho
    subst e_2
    have fr := fr.tr g_2
    obtain ⟨z_o, hO⟩ := X.obj
    refine x_lstore_8 41 C dL_isAssigned_39 rfl rfl ?_
    refine x_iload_5 43 C dL_isAssigned_41 rfl ?_
    refine x_if_ne 46 80 C dL_isAssigned_43 rfl rfl (fun _ => ?_) (fun z => absurd z ((by decide)))
    refine x_lload_8 82 C dL_isAssigned_80 rfl ?_
    refine x_lload_6 84 C dL_isAssigned_82 rfl ?_
    refine x_lc_ne 88 114 C dL_isAssigned_84 dL_isAssigned_85 rfl rfl (fun z => absurd (rfl) z) (fun _ => ?_)
    refine x_aload_0 89 C dL_isAssigned_88 rfl ?_
    refine x_iload_1 90 C dL_isAssigned_89 rfl ?_
    refine x_callV 93 C (c_X5_cell K _ X ho (nI c)) hO wcl_X5 hy_X5_cell wv_X5_cell we_X5_cell lk_L_49 dL_isAssigned_90 rfl ⟨Nat.le_of_ble_eq_true rfl, Nat.le_of_ble_eq_true rfl⟩ ⟨Nat.le_of_ble_eq_true rfl, Nat.le_of_ble_eq_true rfl⟩ (Nat.le_of_ble_eq_true rfl) rfl (k_0 rfl rfl (k_lp ?_))
    refine x_topl (v' := lN (σ.1.2.2.1 c)) ((sp_cell_ok hc).trans (by first | rfl | exact congrArg lN (va_up_self _ _ _))) ?_
    refine x_lload_6 95 C dL_isAssigned_93 rfl ?_
    refine x_lconst (v := 0) 96 C dL_isAssigned_95 rfl rfl ?_
    refine x_lc_ge 100 104 C dL_isAssigned_96 dL_isAssigned_97 rfl rfl (fun z => absurd z ((by decide))) (fun _ => ?_)
    refine x_lload_3 101 C dL_isAssigned_100 rfl ?_
    refine x_goto 106 C dL_isAssigned_101 rfl ?_
    refine x_lc_ne 110 114 C dL_isAssigned_106 dL_isAssigned_107 rfl rfl (fun z => absurd (rfl) z) (fun _ => ?_)
    refine x_iconst (v := 1) 111 C dL_isAssigned_110 rfl rfl ?_
    refine x_goto 115 C dL_isAssigned_111 rfl ?_
    refine x_ireturn C Rt dL_isAssigned_115 rfl ⟨Nat.le_of_ble_eq_true rfl, Nat.le_of_ble_eq_true rfl⟩ ?_
    exact ⟨_, rfl, rfl, _, X, ho, fr⟩
