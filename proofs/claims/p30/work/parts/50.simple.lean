set_option maxHeartbeats 4000000 in
set_option maxRecDepth 100000 in
theorem c_X5_cell (K : hKv) (M : hM) {A : Nat → Nat} {σ : hSt} (X : cX K A σ M) (ho : okS σ) (a : Int32) : hC K Y_X5_cell rm_X5_cell [.ref (A 36), .int a] M (hPl fun r M' => r = sp_cell σ a ∧ M' = M) := by
  refine hC.of [some (.ref (A 36)), some (.int a)] (by decide) (Nat.le_of_ble_eq_true rfl) rfl rfl ?_
  intro E C Rt
  have C : hCx E K cX5_cell 2 RX5 "cell" rm_X5_cell := C
  obtain ⟨z, pd, sl, h, W, hc, N, H, SL, IR, IK, IG⟩ := X
  refine x_iload_1 1 C dX5_cell_0 rfl ?_
  refine x_i2l 2 C dX5_cell_1 rfl ?_
  refine x_lconst (v := 0) 3 C dX5_cell_2 rfl rfl ?_
  refine x_ldc2 (v := 7) 6 C dX5_cell_3 rfl wq_X5_67 ?_
  refine x_callS 9 C (c_X5_within K _ _ _ _) hy_X5_within ws_X5_within lk_X5_48 dX5_cell_6 rfl ⟨Nat.le_of_ble_eq_true rfl, Nat.le_of_ble_eq_true rfl⟩ ⟨Nat.le_of_ble_eq_true rfl, Nat.le_of_ble_eq_true rfl⟩ (Nat.le_of_ble_eq_true rfl) rfl (k_0 rfl rfl (k_ip ?_))
  refine x_if_eq 12 23 C dX5_cell_9 rfl rfl (fun c_9 => ?_) (fun c_9 => ?_)
  · refine x_ldc2 (v := (-1)) 26 C dX5_cell_23 rfl wq_X5_69 ?_
    refine x_lreturn C Rt dX5_cell_26 ⟨Nat.le_of_ble_eq_true rfl, Nat.le_of_ble_eq_true rfl⟩ ?_
    simp only [Classical.not_not, hB_0p, hB_n0p, Int32.toInt_toInt64, tl_LG, ti_m1, Int32.lt_iff_toInt_lt, Int32.le_iff_toInt_le, Int64.lt_iff_toInt_lt, Int64.le_iff_toInt_le, tl_0, ti_0, tl_1, ti_1, tl_2, ti_2, tl_3, ti_3, tl_4, ti_4, tl_5, ti_5, tl_6, ti_6, tl_7, ti_7, tl_8, ti_8, tl_9, ti_9, tl_10, ti_10, tl_33, ti_33, tl_60, ti_60, tl_100, ti_100, tl_126, ti_126, tl_255, ti_255, tl_500, ti_500, tl_9999, ti_9999, tl_10000, ti_10000, tl_100000, ti_100000, tl_1000000, ti_1000000, tl_1000000000, ti_1000000000] at c_9
    exact ⟨_, rfl, by rw [sp_cell, spQ_f (by omega)], rfl⟩
  · simp only [Classical.not_not, hB_0p, hB_n0p, Int32.toInt_toInt64, tl_LG, ti_m1, Int32.lt_iff_toInt_lt, Int32.le_iff_toInt_le, Int64.lt_iff_toInt_lt, Int64.le_iff_toInt_le, tl_0, ti_0, tl_1, ti_1, tl_2, ti_2, tl_3, ti_3, tl_4, ti_4, tl_5, ti_5, tl_6, ti_6, tl_7, ti_7, tl_8, ti_8, tl_9, ti_9, tl_10, ti_10, tl_33, ti_33, tl_60, ti_60, tl_100, ti_100, tl_126, ti_126, tl_255, ti_255, tl_500, ti_500, tl_9999, ti_9999, tl_10000, ti_10000, tl_100000, ti_100000, tl_1000000, ti_1000000, tl_1000000000, ti_1000000000] at c_9
    obtain ⟨i, hi, rfl⟩ := in_nI (b := 7) c_9
    have N0 := N
    obtain ⟨n1, n2, n3, f_n, g_n, q_n, n0, s1, s2, s3, e1, e2, e3, e4⟩ := N0
    refine x_aload_0 13 C dX5_cell_12 rfl ?_
    refine xOg_now 16 C wf_X5_10 W.obj dX5_cell_13 rfl ?_
    refine x_iload_1 17 C dX5_cell_16 rfl ?_
    refine x_callV 20 C (c_X4_cellValue K _ n0 s2 i (by omega)) n0 wcl_X4 hy_X4_cellValue wv_X4_cellValue we_X4_cellValue lk_X5_75 dX5_cell_17 rfl ⟨Nat.le_of_ble_eq_true rfl, Nat.le_of_ble_eq_true rfl⟩ ⟨Nat.le_of_ble_eq_true rfl, Nat.le_of_ble_eq_true rfl⟩ (Nat.le_of_ble_eq_true rfl) rfl (k_0 rfl rfl (k_lp ?_))
    refine x_goto 26 C dX5_cell_20 rfl ?_
    refine x_lreturn C Rt dX5_cell_26 ⟨Nat.le_of_ble_eq_true rfl, Nat.le_of_ble_eq_true rfl⟩ ?_
    exact ⟨_, rfl, by rw [sp_cell, spQ_t c_9, nI_toN (by omega)]; exact e3 i (by omega), rfl⟩
set_option maxHeartbeats 4000000 in
set_option maxRecDepth 100000 in
theorem c_X5_wipe (K : hKv) (M : hM) {A : Nat → Nat} {σ : hSt} (X : cX K A σ M) (ho : okS σ) : hC K Y_X5_wipe rm_X5_wipe [.ref (A 36)] M (hPi fun r M' => r = (sp_wipe σ).1 ∧ cP K A M (sp_wipe σ).2 M') := by
  refine hC.of [some (.ref (A 36)), none] (by decide) (Nat.le_of_ble_eq_true rfl) rfl rfl ?_
  intro E C Rt
  have C : hCx E K cX5_wipe 2 RX5 "wipe" rm_X5_wipe := C
  obtain ⟨z, pd, sl, h, W, hc, N, H, SL, IR, IK, IG⟩ := X
  obtain ⟨c0, c1, c2, oo, co, c3, c4⟩ := hc
  refine x_aload_0 1 C dX5_wipe_0 rfl ?_
  refine xOg_padLength 4 C wf_X5_87 W.obj dX5_wipe_1 rfl ?_
  refine x_topi c0 ?_
  refine x_istore_1 5 C dX5_wipe_4 rfl rfl ?_
  refine x_aload_0 6 C dX5_wipe_5 rfl ?_
  refine x_iconst (v := 0) 7 C dX5_wipe_6 rfl rfl ?_
  refine xOp_padLength 10 C wf_X5_87 W.obj dX5_wipe_7 rfl ?_
  refine x_c_obj W (fun M_1 W o_1 => ?_)
  have N := N.kept o_1 (by decide) (by decide)
  have H := H.kept o_1 (by decide) (by decide)
  have SL := SL.kept o_1 (by decide) (by decide)
  have IR := IR.kept o_1 (by decide)
  have IK := IK.kept o_1 (by decide)
  have IG := IG.kept o_1 (by decide)
  refine x_iload_1 11 C dX5_wipe_10 rfl ?_
  refine x_ireturn C Rt dX5_wipe_11 rfl ⟨Nat.le_of_ble_eq_true rfl, Nat.le_of_ble_eq_true rfl⟩ ?_
  exact ⟨_, rfl, rfl, ⟨_, pd, sl, h, W, ⟨rfl, fun k hk => absurd hk (Nat.not_lt_zero _), c2, oo, co, c3, c4⟩, N, H, SL, IR, IK, IG⟩, ((cfr o_1 (by decide)))⟩
set_option maxHeartbeats 4000000 in
set_option maxRecDepth 100000 in
theorem c_X5_count (K : hKv) (M : hM) {A : Nat → Nat} {σ : hSt} (X : cX K A σ M) (ho : okS σ) (a : Int32) : hC K Y_X5_count rm_X5_count [.ref (A 36), .int a] M (hPi fun r M' => r = sp_count σ a ∧ M' = M) := by
  refine hC.of [some (.ref (A 36)), some (.int a)] (by decide) (Nat.le_of_ble_eq_true rfl) rfl rfl ?_
  intro E C Rt
  have C : hCx E K cX5_count 2 RX5 "count" rm_X5_count := C
  obtain ⟨z, pd, sl, h, W, hc, N, H, SL, IR, IK, IG⟩ := X
  obtain ⟨c0, c1, c2, oo, co, c3, c4⟩ := hc
  have N0 := N
  obtain ⟨n1, n2, n3, f_n, g_n, q_n, n0, s1, s2, s3, e1, e2, e3, e4⟩ := N0
  refine x_iload_1 1 C dX5_count_0 rfl ?_
  have hk : a = 0 ∨ a = 1 ∨ a = 2 ∨ a = 3 ∨ a = 4 ∨ a = 5 ∨ (a.toInt < 0 ∨ 5 < a.toInt) := by
    by_cases h : a.toInt < 0 ∨ 5 < a.toInt
    · exact Or.inr (Or.inr (Or.inr (Or.inr (Or.inr (Or.inr h)))))
    · obtain ⟨j, hj, rfl⟩ := in_nI (x := a) (b := 5) (by omega)
      rcases (show j = 0 ∨ j = 1 ∨ j = 2 ∨ j = 3 ∨ j = 4 ∨ j = 5 by omega) with rfl | rfl | rfl | rfl | rfl | rfl
      · exact Or.inl rfl
      · exact Or.inr (Or.inl rfl)
      · exact Or.inr (Or.inr (Or.inl rfl))
      · exact Or.inr (Or.inr (Or.inr (Or.inl rfl)))
      · exact Or.inr (Or.inr (Or.inr (Or.inr (Or.inl rfl))))
      · exact Or.inr (Or.inr (Or.inr (Or.inr (Or.inr (Or.inl rfl)))))
  rcases hk with hk | hk | hk | hk | hk | hk | hk
  · subst hk
    refine x_tabIn 40 C dX5_count_1 (by decide) (by decide) rfl rfl ?_
    refine x_aload_0 41 C dX5_count_40 rfl ?_
    refine xOg_now 44 C wf_X5_10 W.obj dX5_count_41 rfl ?_
    refine x_callV 47 C (c_X4_formulasThere K _ n0 s3) n0 wcl_X4 hy_X4_formulasThere wv_X4_formulasThere we_X4_formulasThere lk_X5_152 dX5_count_44 rfl ⟨Nat.le_of_ble_eq_true rfl, Nat.le_of_ble_eq_true rfl⟩ ⟨Nat.le_of_ble_eq_true rfl, Nat.le_of_ble_eq_true rfl⟩ (Nat.le_of_ble_eq_true rfl) rfl (k_0 rfl rfl (k_ip ?_))
    refine x_topi (show _ = fset σ.1 from fbv_congr 6 (fun i hi => (e4 i hi).some)) ?_
    refine x_ireturn C Rt dX5_count_47 rfl ⟨Nat.le_of_ble_eq_true rfl, Nat.le_of_ble_eq_true rfl⟩ ?_
    exact ⟨_, rfl, by rw [sp_count, ti_0, if_pos rfl], rfl⟩
  · subst hk
    refine x_tabIn 48 C dX5_count_1 (by decide) (by decide) rfl rfl ?_
    refine x_aload_0 49 C dX5_count_48 rfl ?_
    refine xOg_padLength 52 C wf_X5_87 W.obj dX5_count_49 rfl ?_
    refine x_ireturn C Rt dX5_count_52 rfl ⟨Nat.le_of_ble_eq_true rfl, Nat.le_of_ble_eq_true rfl⟩ ?_
    exact ⟨_, rfl, by rw [sp_count, ti_1, if_neg (by decide), if_pos rfl]; exact c0, rfl⟩
  · subst hk
    refine x_tabIn 53 C dX5_count_1 (by decide) (by decide) rfl rfl ?_
    refine x_aload_0 54 C dX5_count_53 rfl ?_
    refine xOg_changes 57 C wf_X5_155 W.obj dX5_count_54 rfl ?_
    refine x_ireturn C Rt dX5_count_57 rfl ⟨Nat.le_of_ble_eq_true rfl, Nat.le_of_ble_eq_true rfl⟩ ?_
    exact ⟨_, rfl, by rw [sp_count, ti_2, if_neg (by decide), if_neg (by decide), if_pos rfl]; exact c2, rfl⟩
  · subst hk
    refine x_tabIn 58 C dX5_count_1 (by decide) (by decide) rfl rfl ?_
    refine x_aload_0 59 C dX5_count_58 rfl ?_
    refine xOg_now 62 C wf_X5_10 W.obj dX5_count_59 rfl ?_
    refine x_iconst (v := 0) 63 C dX5_count_62 rfl rfl ?_
    refine x_topi (v' := nI 0) rfl ?_
    refine x_callV 66 C (c_X4_setting K _ n0 s1 0 (by decide)) n0 wcl_X4 hy_X4_setting wv_X4_setting we_X4_setting lk_X5_59 dX5_count_63 rfl ⟨Nat.le_of_ble_eq_true rfl, Nat.le_of_ble_eq_true rfl⟩ ⟨Nat.le_of_ble_eq_true rfl, Nat.le_of_ble_eq_true rfl⟩ (Nat.le_of_ble_eq_true rfl) rfl (k_0 rfl rfl (k_ip ?_))
    refine x_ireturn C Rt dX5_count_66 rfl ⟨Nat.le_of_ble_eq_true rfl, Nat.le_of_ble_eq_true rfl⟩ ?_
    exact ⟨_, rfl, by rw [sp_count, ti_3, if_neg (by decide), if_neg (by decide), if_neg (by decide), if_pos rfl]; exact e1, rfl⟩
  · subst hk
    refine x_tabIn 67 C dX5_count_1 (by decide) (by decide) rfl rfl ?_
    refine x_aload_0 68 C dX5_count_67 rfl ?_
    refine xOg_now 71 C wf_X5_10 W.obj dX5_count_68 rfl ?_
    refine x_iconst (v := 1) 72 C dX5_count_71 rfl rfl ?_
    refine x_topi (v' := nI 1) rfl ?_
    refine x_callV 75 C (c_X4_setting K _ n0 s1 1 (by decide)) n0 wcl_X4 hy_X4_setting wv_X4_setting we_X4_setting lk_X5_59 dX5_count_72 rfl ⟨Nat.le_of_ble_eq_true rfl, Nat.le_of_ble_eq_true rfl⟩ ⟨Nat.le_of_ble_eq_true rfl, Nat.le_of_ble_eq_true rfl⟩ (Nat.le_of_ble_eq_true rfl) rfl (k_0 rfl rfl (k_ip ?_))
    refine x_ireturn C Rt dX5_count_75 rfl ⟨Nat.le_of_ble_eq_true rfl, Nat.le_of_ble_eq_true rfl⟩ ?_
    exact ⟨_, rfl, by rw [sp_count, ti_4, if_neg (by decide), if_neg (by decide), if_neg (by decide), if_neg (by decide), if_pos rfl]; exact e2, rfl⟩
  · subst hk
    refine x_tabIn 76 C dX5_count_1 (by decide) (by decide) rfl rfl ?_
    refine x_aload_0 77 C dX5_count_76 rfl ?_
    refine xOg_now 80 C wf_X5_10 W.obj dX5_count_77 rfl ?_
    refine x_callV 83 C (c_X4_cellsNotZero K _ n0 s2) n0 wcl_X4 hy_X4_cellsNotZero wv_X4_cellsNotZero we_X4_cellsNotZero lk_X5_158 dX5_count_80 rfl ⟨Nat.le_of_ble_eq_true rfl, Nat.le_of_ble_eq_true rfl⟩ ⟨Nat.le_of_ble_eq_true rfl, Nat.le_of_ble_eq_true rfl⟩ (Nat.le_of_ble_eq_true rfl) rfl (k_0 rfl rfl (k_ip ?_))
    have hcz : cnz (fun i => !(g_n i == 0)) 8 = cnz (fun i => !(σ.1.2.2.1 i == 0)) 8 := cnz_congr 8 (fun i hi => by
      have := ho.1.2.2.1 i hi
      unfold LG at this
      rw [e3 i hi]
      by_cases q : σ.1.2.2.1 i = 0
      · rw [q]; rfl
      · rw [beq_false_of_ne q, show (lN (σ.1.2.2.1 i) == 0) = false from beq_false_of_ne (fun z => q ((lN_eq' (b := 0) (by omega) (by decide)).mp z))])
    rw [hcz]
    refine x_ireturn C Rt dX5_count_83 rfl ⟨Nat.le_of_ble_eq_true rfl, Nat.le_of_ble_eq_true rfl⟩ ?_
    exact ⟨_, rfl, by rw [sp_count, ti_5, if_neg (by decide), if_neg (by decide), if_neg (by decide), if_neg (by decide), if_neg (by decide), if_pos rfl], rfl⟩
  · refine x_tabOut 84 C dX5_count_1 (by omega) rfl ?_
    refine x_bipush (v := (-2)) 86 C dX5_count_84 rfl rfl ?_
    refine x_ireturn C Rt dX5_count_86 rfl ⟨Nat.le_of_ble_eq_true rfl, Nat.le_of_ble_eq_true rfl⟩ ?_
    exact ⟨_, rfl, by rw [sp_count, if_neg (by omega), if_neg (by omega), if_neg (by omega), if_neg (by omega), if_neg (by omega), if_neg (by omega)], rfl⟩
set_option maxHeartbeats 4000000 in
set_option maxRecDepth 100000 in
theorem c_X5_root (K : hKv) (M : hM) {A : Nat → Nat} {σ : hSt} (X : cX K A σ M) (ho : okS σ) (n : Int64) (k : Int32) : hC K Y_X5_root rm_X5_root [.ref (A 36), .long n, .int k] M (hPi fun r M' => r = sp_root σ.1.1 n k ∧ M' = M) := by
  refine hC.of [some (.ref (A 36)), some (.long n), none, some (.int k)] (by decide) (Nat.le_of_ble_eq_true rfl) rfl rfl ?_
  intro E C Rt
  have C : hCx E K cX5_root 4 RX5 "root" rm_X5_root := C
  obtain ⟨z, pd, sl, h, W, hc, N, H, SL, IR, IK, IG⟩ := X
  have N0 := N
  obtain ⟨n1, n2, n3, f_n, g_n, q_n, n0, s1, s2, s3, e1, e2, e3, e4⟩ := N0
  refine x_lload_1 1 C dX5_root_0 rfl ?_
  refine x_lconst (v := 0) 2 C dX5_root_1 rfl rfl ?_
  refine x_ldc2 (v := 1000000000000) 5 C dX5_root_2 rfl wq_X5_71 ?_
  refine x_callS 8 C (c_X5_within K _ _ _ _) hy_X5_within ws_X5_within lk_X5_48 dX5_root_5 rfl ⟨Nat.le_of_ble_eq_true rfl, Nat.le_of_ble_eq_true rfl⟩ ⟨Nat.le_of_ble_eq_true rfl, Nat.le_of_ble_eq_true rfl⟩ (Nat.le_of_ble_eq_true rfl) rfl (k_0 rfl rfl (k_ip ?_))
  refine x_if_eq 11 25 C dX5_root_8 rfl rfl (fun c_8 => ?_) (fun c_8 => ?_)
  · refine x_bipush (v := (-2)) 27 C dX5_root_25 rfl rfl ?_
    refine x_ireturn C Rt dX5_root_27 rfl ⟨Nat.le_of_ble_eq_true rfl, Nat.le_of_ble_eq_true rfl⟩ ?_
    simp only [Classical.not_not, hB_0p, hB_n0p, Int32.toInt_toInt64, tl_LG, ti_m1, Int32.lt_iff_toInt_lt, Int32.le_iff_toInt_le, Int64.lt_iff_toInt_lt, Int64.le_iff_toInt_le, tl_0, ti_0, tl_1, ti_1, tl_2, ti_2, tl_3, ti_3, tl_4, ti_4, tl_5, ti_5, tl_6, ti_6, tl_7, ti_7, tl_8, ti_8, tl_9, ti_9, tl_10, ti_10, tl_33, ti_33, tl_60, ti_60, tl_100, ti_100, tl_126, ti_126, tl_255, ti_255, tl_500, ti_500, tl_9999, ti_9999, tl_10000, ti_10000, tl_100000, ti_100000, tl_1000000, ti_1000000, tl_1000000000, ti_1000000000] at c_8
    exact ⟨_, rfl, by rw [sp_root, spQ_f (by unfold askd; omega)], rfl⟩
  · refine x_iload_3 12 C dX5_root_11 rfl ?_
    refine x_i2l 13 C dX5_root_12 rfl ?_
    refine x_ldc2 (v := 2) 16 C dX5_root_13 rfl wq_X5_52 ?_
    refine x_ldc2 (v := 3) 19 C dX5_root_16 rfl wq_X5_161 ?_
    refine x_callS 22 C (c_X5_within K _ _ _ _) hy_X5_within ws_X5_within lk_X5_48 dX5_root_19 rfl ⟨Nat.le_of_ble_eq_true rfl, Nat.le_of_ble_eq_true rfl⟩ ⟨Nat.le_of_ble_eq_true rfl, Nat.le_of_ble_eq_true rfl⟩ (Nat.le_of_ble_eq_true rfl) rfl (k_0 rfl rfl (k_ip ?_))
    refine x_if_ne 25 28 C dX5_root_22 rfl rfl (fun c_22 => ?_) (fun c_22 => ?_)
    · simp only [Classical.not_not, hB_0p, hB_n0p, Int32.toInt_toInt64, tl_LG, ti_m1, Int32.lt_iff_toInt_lt, Int32.le_iff_toInt_le, Int64.lt_iff_toInt_lt, Int64.le_iff_toInt_le, tl_0, ti_0, tl_1, ti_1, tl_2, ti_2, tl_3, ti_3, tl_4, ti_4, tl_5, ti_5, tl_6, ti_6, tl_7, ti_7, tl_8, ti_8, tl_9, ti_9, tl_10, ti_10, tl_33, ti_33, tl_60, ti_60, tl_100, ti_100, tl_126, ti_126, tl_255, ti_255, tl_500, ti_500, tl_9999, ti_9999, tl_10000, ti_10000, tl_100000, ti_100000, tl_1000000, ti_1000000, tl_1000000000, ti_1000000000] at c_8 c_22
      obtain ⟨NN, j, hN, hj, rfl, rfl⟩ := askd_of (n := n) (k := k) ⟨c_8, c_22⟩
      refine x_lload_1 29 C dX5_root_28 rfl ?_
      refine x_iload_3 30 C dX5_root_29 rfl ?_
      refine x_aload_0 31 C dX5_root_30 rfl ?_
      refine xOg_now 34 C wf_X5_10 W.obj dX5_root_31 rfl ?_
      refine x_iconst (v := 0) 35 C dX5_root_34 rfl rfl ?_
      refine x_topi (v' := nI 0) rfl ?_
      refine x_callV 38 C (c_X4_setting K _ n0 s1 0 (by decide)) n0 wcl_X4 hy_X4_setting wv_X4_setting we_X4_setting lk_X5_59 dX5_root_35 rfl ⟨Nat.le_of_ble_eq_true rfl, Nat.le_of_ble_eq_true rfl⟩ ⟨Nat.le_of_ble_eq_true rfl, Nat.le_of_ble_eq_true rfl⟩ (Nat.le_of_ble_eq_true rfl) rfl (k_0 rfl rfl (k_ip ?_))
      refine x_topi e1 ?_
      refine x_callS 41 C (c_X5_rootRounded K _ NN j σ.1.1 hj (LG60 hN) ho.1.1) hy_X5_rootRounded ws_X5_rootRounded lk_X5_163 dX5_root_38 rfl ⟨Nat.le_of_ble_eq_true rfl, Nat.le_of_ble_eq_true rfl⟩ ⟨Nat.le_of_ble_eq_true rfl, Nat.le_of_ble_eq_true rfl⟩ (Nat.le_of_ble_eq_true rfl) rfl (k_0 rfl rfl (k_lp ?_))
      refine x_l2i 42 C dX5_root_41 rfl ?_
      refine x_topi (lN_i _) ?_
      refine x_ireturn C Rt dX5_root_42 rfl ⟨Nat.le_of_ble_eq_true rfl, Nat.le_of_ble_eq_true rfl⟩ ?_
      exact ⟨_, rfl, by rw [sp_root_ok hN hj], rfl⟩
    · refine x_bipush (v := (-2)) 27 C dX5_root_25 rfl rfl ?_
      refine x_ireturn C Rt dX5_root_27 rfl ⟨Nat.le_of_ble_eq_true rfl, Nat.le_of_ble_eq_true rfl⟩ ?_
      simp only [Classical.not_not, hB_0p, hB_n0p, Int32.toInt_toInt64, tl_LG, ti_m1, Int32.lt_iff_toInt_lt, Int32.le_iff_toInt_le, Int64.lt_iff_toInt_lt, Int64.le_iff_toInt_le, tl_0, ti_0, tl_1, ti_1, tl_2, ti_2, tl_3, ti_3, tl_4, ti_4, tl_5, ti_5, tl_6, ti_6, tl_7, ti_7, tl_8, ti_8, tl_9, ti_9, tl_10, ti_10, tl_33, ti_33, tl_60, ti_60, tl_100, ti_100, tl_126, ti_126, tl_255, ti_255, tl_500, ti_500, tl_9999, ti_9999, tl_10000, ti_10000, tl_100000, ti_100000, tl_1000000, ti_1000000, tl_1000000000, ti_1000000000] at c_8 c_22
      exact ⟨_, rfl, by rw [sp_root, spQ_f (by unfold askd; omega)], rfl⟩
set_option maxHeartbeats 4000000 in
set_option maxRecDepth 100000 in
theorem c_X5_set (K : hKv) (M : hM) {A : Nat → Nat} {σ : hSt} (X : cX K A σ M) (ho : okS σ) (a b : Int32) : hC K Y_X5_set rm_X5_set [.ref (A 36), .int a, .int b] M (hPi fun r M' => r = (sp_set σ a b).1 ∧ cP K A M (sp_set σ a b).2 M') := by
  refine hC.of [some (.ref (A 36)), some (.int a), some (.int b), none] (by decide) (Nat.le_of_ble_eq_true rfl) rfl rfl ?_
  intro E C Rt
  have C : hCx E K cX5_set 4 RX5 "set" rm_X5_set := C
  obtain ⟨z, pd, sl, h, W, hc, N, H, SL, IR, IK, IG⟩ := X
  refine x_iload_1 1 C dX5_set_0 rfl ?_
  refine x_i2l 2 C dX5_set_1 rfl ?_
  refine x_lconst (v := 0) 3 C dX5_set_2 rfl rfl ?_
  refine x_lconst (v := 1) 4 C dX5_set_3 rfl rfl ?_
  refine x_callS 7 C (c_X5_within K _ _ _ _) hy_X5_within ws_X5_within lk_X5_48 dX5_set_4 rfl ⟨Nat.le_of_ble_eq_true rfl, Nat.le_of_ble_eq_true rfl⟩ ⟨Nat.le_of_ble_eq_true rfl, Nat.le_of_ble_eq_true rfl⟩ (Nat.le_of_ble_eq_true rfl) rfl (k_0 rfl rfl (k_ip ?_))
  refine x_if_eq 10 32 C dX5_set_7 rfl rfl (fun c_7 => ?_) (fun c_7 => ?_)
  · refine x_bipush (v := (-2)) 34 C dX5_set_32 rfl rfl ?_
    refine x_ireturn C Rt dX5_set_34 rfl ⟨Nat.le_of_ble_eq_true rfl, Nat.le_of_ble_eq_true rfl⟩ ?_
    simp only [Classical.not_not, hB_0p, hB_n0p, Int32.toInt_toInt64, tl_LG, ti_m1, Int32.lt_iff_toInt_lt, Int32.le_iff_toInt_le, Int64.lt_iff_toInt_lt, Int64.le_iff_toInt_le, tl_0, ti_0, tl_1, ti_1, tl_2, ti_2, tl_3, ti_3, tl_4, ti_4, tl_5, ti_5, tl_6, ti_6, tl_7, ti_7, tl_8, ti_8, tl_9, ti_9, tl_10, ti_10, tl_33, ti_33, tl_60, ti_60, tl_100, ti_100, tl_126, ti_126, tl_255, ti_255, tl_500, ti_500, tl_9999, ti_9999, tl_10000, ti_10000, tl_100000, ti_100000, tl_1000000, ti_1000000, tl_1000000000, ti_1000000000] at c_7
    have hn : ¬ ((0 ≤ a.toInt ∧ a.toInt ≤ 1) ∧ 0 ≤ b.toInt ∧ b.toInt ≤ (if a.toInt = 0 then 2 else 6)) := by omega
    exact ⟨_, rfl, by rw [sp_set, spQ_f hn], by rw [sp_set, spQ_f hn]; exact ⟨⟨z, pd, sl, h, W, hc, N, H, SL, IR, IK, IG⟩, hFr.rf⟩⟩
  · refine x_iload_2 11 C dX5_set_10 rfl ?_
    refine x_i2l 12 C dX5_set_11 rfl ?_
    refine x_lconst (v := 0) 13 C dX5_set_12 rfl rfl ?_
    refine x_iload_1 14 C dX5_set_13 rfl ?_
    refine x_if_ne 17 23 C dX5_set_14 rfl rfl (fun c_14 => ?_) (fun c_14 => ?_)
    · have h_a0 : ¬ a.toInt = 0 := fun q => c_14 (Int32.toInt_inj.mp q)
      refine x_ldc2 (v := 6) 26 C dX5_set_23 rfl wq_X5_54 ?_
      refine x_callS 29 C (c_X5_within K _ _ _ _) hy_X5_within ws_X5_within lk_X5_48 dX5_set_26 rfl ⟨Nat.le_of_ble_eq_true rfl, Nat.le_of_ble_eq_true rfl⟩ ⟨Nat.le_of_ble_eq_true rfl, Nat.le_of_ble_eq_true rfl⟩ (Nat.le_of_ble_eq_true rfl) rfl (k_0 rfl rfl (k_ip ?_))
      refine x_if_ne 32 35 C dX5_set_29 rfl rfl (fun c_29 => ?_) (fun c_29 => ?_)
      · simp only [Classical.not_not, hB_0p, hB_n0p, Int32.toInt_toInt64, tl_LG, ti_m1, Int32.lt_iff_toInt_lt, Int32.le_iff_toInt_le, Int64.lt_iff_toInt_lt, Int64.le_iff_toInt_le, tl_0, ti_0, tl_1, ti_1, tl_2, ti_2, tl_3, ti_3, tl_4, ti_4, tl_5, ti_5, tl_6, ti_6, tl_7, ti_7, tl_8, ti_8, tl_9, ti_9, tl_10, ti_10, tl_33, ti_33, tl_60, ti_60, tl_100, ti_100, tl_126, ti_126, tl_255, ti_255, tl_500, ti_500, tl_9999, ti_9999, tl_10000, ti_10000, tl_100000, ti_100000, tl_1000000, ti_1000000, tl_1000000000, ti_1000000000] at c_7 c_29
        obtain ⟨bb, hb, rfl⟩ := in_nI (x := b) (b := 6) (by omega)
        have h_a : a = nI 1 := by rw [nI_ofInt (x := a) (by omega)]; congr 1; omega
        subst h_a
        have hsp : sp_set σ (nI 1) (nI bb) = (nI σ.1.2.1, recd σ (σ.1.1, bb, σ.1.2.2)) := by rw [sp_set, spQ_t (by rw [if_neg h_a0]; omega), if_neg h_a0, nI_toN (by omega)]
        refine x_aload_0 36 C dX5_set_35 rfl ?_
        refine x_callV 39 C (c_X5_keepState K _ W hc N H ho.2.1) W.obj wcl_X5 hy_X5_keepState wv_X5_keepState we_X5_keepState lk_X5_56 dX5_set_36 rfl ⟨Nat.le_of_ble_eq_true rfl, Nat.le_of_ble_eq_true rfl⟩ ⟨Nat.le_of_ble_eq_true rfl, Nat.le_of_ble_eq_true rfl⟩ (Nat.le_of_ble_eq_true rfl) rfl (k_0 rfl rfl (k_v (fun M_1 h_1 => ?_)))
        obtain ⟨z_2, h_2, W, hc2, H, o_q⟩ := h_1
        have N := N.kept o_q (by decide) (by decide)
        have SL := SL.kept o_q (by decide) (by decide)
        have IR := IR.kept o_q (by decide)
        have IK := IK.kept o_q (by decide)
        have IG := IG.kept o_q (by decide)
        refine x_aload_0 40 C dX5_set_39 rfl ?_
        refine xOg_now 43 C wf_X5_10 W.obj dX5_set_40 rfl ?_
        refine x_iload_1 44 C dX5_set_43 rfl ?_
        have N0 := N
        obtain ⟨n1, n2, n3, f_n, g_n, q_n, n0, s1, s2, s3, e1, e2, e3, e4⟩ := N0
        refine x_callV 47 C (c_X4_setting K _ n0 s1 1 (by decide)) n0 wcl_X4 hy_X4_setting wv_X4_setting we_X4_setting lk_X5_59 dX5_set_44 rfl ⟨Nat.le_of_ble_eq_true rfl, Nat.le_of_ble_eq_true rfl⟩ ⟨Nat.le_of_ble_eq_true rfl, Nat.le_of_ble_eq_true rfl⟩ (Nat.le_of_ble_eq_true rfl) rfl (k_0 rfl rfl (k_ip ?_))
        refine x_topi e2 ?_
        refine x_istore_3 48 C dX5_set_47 rfl rfl ?_
        refine x_aload_0 49 C dX5_set_48 rfl ?_
        refine xOg_now 52 C wf_X5_10 W.obj dX5_set_49 rfl ?_
        refine x_iload_1 53 C dX5_set_52 rfl ?_
        refine x_iload_2 54 C dX5_set_53 rfl ?_
        refine x_callV 57 C (c_X4_changeSetting K _ n0 s1 1 (by decide) (nI bb)) n0 wcl_X4 hy_X4_changeSetting wv_X4_changeSetting we_X4_changeSetting lk_X5_63 dX5_set_54 rfl ⟨Nat.le_of_ble_eq_true rfl, Nat.le_of_ble_eq_true rfl⟩ ⟨Nat.le_of_ble_eq_true rfl, Nat.le_of_ble_eq_true rfl⟩ (Nat.le_of_ble_eq_true rfl) rfl (k_0 rfl rfl (k_v (fun M_2 h_2 => ?_)))
        subst h_2
        obtain ⟨N, o_s⟩ := stO.dig ⟨n0, s1, s2, s3, e1, e2, e3, e4⟩ (by decide) bb
        have W := W.kept o_s (by decide)
        have H := H.kept o_s (by decide) (by decide)
        have SL := SL.kept o_s (by decide) (by decide)
        have IR := IR.kept o_s (by decide)
        have IK := IK.kept o_s (by decide)
        have IG := IG.kept o_s (by decide)
        refine x_iload_3 58 C dX5_set_57 rfl ?_
        refine x_ireturn C Rt dX5_set_58 rfl ⟨Nat.le_of_ble_eq_true rfl, Nat.le_of_ble_eq_true rfl⟩ ?_
        exact ⟨_, rfl, by rw [hsp], by rw [hsp]; exact ⟨⟨_, _, _, _, W, hc2, N, H, SL, IR, IK, IG⟩, (((cfr o_q (by decide))).tr (cfr o_s (by decide)))⟩⟩
      · refine x_bipush (v := (-2)) 34 C dX5_set_32 rfl rfl ?_
        refine x_ireturn C Rt dX5_set_34 rfl ⟨Nat.le_of_ble_eq_true rfl, Nat.le_of_ble_eq_true rfl⟩ ?_
        simp only [Classical.not_not, hB_0p, hB_n0p, Int32.toInt_toInt64, tl_LG, ti_m1, Int32.lt_iff_toInt_lt, Int32.le_iff_toInt_le, Int64.lt_iff_toInt_lt, Int64.le_iff_toInt_le, tl_0, ti_0, tl_1, ti_1, tl_2, ti_2, tl_3, ti_3, tl_4, ti_4, tl_5, ti_5, tl_6, ti_6, tl_7, ti_7, tl_8, ti_8, tl_9, ti_9, tl_10, ti_10, tl_33, ti_33, tl_60, ti_60, tl_100, ti_100, tl_126, ti_126, tl_255, ti_255, tl_500, ti_500, tl_9999, ti_9999, tl_10000, ti_10000, tl_100000, ti_100000, tl_1000000, ti_1000000, tl_1000000000, ti_1000000000] at c_7 c_29
        have hn : ¬ ((0 ≤ a.toInt ∧ a.toInt ≤ 1) ∧ 0 ≤ b.toInt ∧ b.toInt ≤ (if a.toInt = 0 then 2 else 6)) := by rw [if_neg h_a0]; omega
        exact ⟨_, rfl, by rw [sp_set, spQ_f hn], by rw [sp_set, spQ_f hn]; exact ⟨⟨z, pd, sl, h, W, hc, N, H, SL, IR, IK, IG⟩, hFr.rf⟩⟩
    · have h_a0 : a.toInt = 0 := by rw [c_14]; rfl
      refine x_ldc2 (v := 2) 20 C dX5_set_17 rfl wq_X5_52 ?_
      refine x_goto 26 C dX5_set_20 rfl ?_
      refine x_callS 29 C (c_X5_within K _ _ _ _) hy_X5_within ws_X5_within lk_X5_48 dX5_set_26 rfl ⟨Nat.le_of_ble_eq_true rfl, Nat.le_of_ble_eq_true rfl⟩ ⟨Nat.le_of_ble_eq_true rfl, Nat.le_of_ble_eq_true rfl⟩ (Nat.le_of_ble_eq_true rfl) rfl (k_0 rfl rfl (k_ip ?_))
      refine x_if_ne 32 35 C dX5_set_29 rfl rfl (fun c_29 => ?_) (fun c_29 => ?_)
      · simp only [Classical.not_not, hB_0p, hB_n0p, Int32.toInt_toInt64, tl_LG, ti_m1, Int32.lt_iff_toInt_lt, Int32.le_iff_toInt_le, Int64.lt_iff_toInt_lt, Int64.le_iff_toInt_le, tl_0, ti_0, tl_1, ti_1, tl_2, ti_2, tl_3, ti_3, tl_4, ti_4, tl_5, ti_5, tl_6, ti_6, tl_7, ti_7, tl_8, ti_8, tl_9, ti_9, tl_10, ti_10, tl_33, ti_33, tl_60, ti_60, tl_100, ti_100, tl_126, ti_126, tl_255, ti_255, tl_500, ti_500, tl_9999, ti_9999, tl_10000, ti_10000, tl_100000, ti_100000, tl_1000000, ti_1000000, tl_1000000000, ti_1000000000] at c_7 c_29
        obtain ⟨bb, hb, rfl⟩ := in_nI (x := b) (b := 2) (by omega)
        have h_a : a = nI 0 := by rw [nI_ofInt (x := a) (by omega)]; congr 1; omega
        subst h_a
        have hsp : sp_set σ (nI 0) (nI bb) = (nI σ.1.1, recd σ (bb, σ.1.2.1, σ.1.2.2)) := by rw [sp_set, spQ_t (by rw [if_pos h_a0]; omega), if_pos h_a0, nI_toN (by omega)]
        refine x_aload_0 36 C dX5_set_35 rfl ?_
        refine x_callV 39 C (c_X5_keepState K _ W hc N H ho.2.1) W.obj wcl_X5 hy_X5_keepState wv_X5_keepState we_X5_keepState lk_X5_56 dX5_set_36 rfl ⟨Nat.le_of_ble_eq_true rfl, Nat.le_of_ble_eq_true rfl⟩ ⟨Nat.le_of_ble_eq_true rfl, Nat.le_of_ble_eq_true rfl⟩ (Nat.le_of_ble_eq_true rfl) rfl (k_0 rfl rfl (k_v (fun M_3 h_3 => ?_)))
        obtain ⟨z_2, h_2, W, hc2, H, o_q⟩ := h_3
        have N := N.kept o_q (by decide) (by decide)
        have SL := SL.kept o_q (by decide) (by decide)
        have IR := IR.kept o_q (by decide)
        have IK := IK.kept o_q (by decide)
        have IG := IG.kept o_q (by decide)
        refine x_aload_0 40 C dX5_set_39 rfl ?_
        refine xOg_now 43 C wf_X5_10 W.obj dX5_set_40 rfl ?_
        refine x_iload_1 44 C dX5_set_43 rfl ?_
        have N0 := N
        obtain ⟨n1, n2, n3, f_n, g_n, q_n, n0, s1, s2, s3, e1, e2, e3, e4⟩ := N0
        refine x_callV 47 C (c_X4_setting K _ n0 s1 0 (by decide)) n0 wcl_X4 hy_X4_setting wv_X4_setting we_X4_setting lk_X5_59 dX5_set_44 rfl ⟨Nat.le_of_ble_eq_true rfl, Nat.le_of_ble_eq_true rfl⟩ ⟨Nat.le_of_ble_eq_true rfl, Nat.le_of_ble_eq_true rfl⟩ (Nat.le_of_ble_eq_true rfl) rfl (k_0 rfl rfl (k_ip ?_))
        refine x_topi e1 ?_
        refine x_istore_3 48 C dX5_set_47 rfl rfl ?_
        refine x_aload_0 49 C dX5_set_48 rfl ?_
        refine xOg_now 52 C wf_X5_10 W.obj dX5_set_49 rfl ?_
        refine x_iload_1 53 C dX5_set_52 rfl ?_
        refine x_iload_2 54 C dX5_set_53 rfl ?_
        refine x_callV 57 C (c_X4_changeSetting K _ n0 s1 0 (by decide) (nI bb)) n0 wcl_X4 hy_X4_changeSetting wv_X4_changeSetting we_X4_changeSetting lk_X5_63 dX5_set_54 rfl ⟨Nat.le_of_ble_eq_true rfl, Nat.le_of_ble_eq_true rfl⟩ ⟨Nat.le_of_ble_eq_true rfl, Nat.le_of_ble_eq_true rfl⟩ (Nat.le_of_ble_eq_true rfl) rfl (k_0 rfl rfl (k_v (fun M_4 h_4 => ?_)))
        subst h_4
        obtain ⟨N, o_s⟩ := stO.rnd ⟨n0, s1, s2, s3, e1, e2, e3, e4⟩ (by decide) bb
        have W := W.kept o_s (by decide)
        have H := H.kept o_s (by decide) (by decide)
        have SL := SL.kept o_s (by decide) (by decide)
        have IR := IR.kept o_s (by decide)
        have IK := IK.kept o_s (by decide)
        have IG := IG.kept o_s (by decide)
        refine x_iload_3 58 C dX5_set_57 rfl ?_
        refine x_ireturn C Rt dX5_set_58 rfl ⟨Nat.le_of_ble_eq_true rfl, Nat.le_of_ble_eq_true rfl⟩ ?_
        exact ⟨_, rfl, by rw [hsp], by rw [hsp]; exact ⟨⟨_, _, _, _, W, hc2, N, H, SL, IR, IK, IG⟩, (((cfr o_q (by decide))).tr (cfr o_s (by decide)))⟩⟩
      · refine x_bipush (v := (-2)) 34 C dX5_set_32 rfl rfl ?_
        refine x_ireturn C Rt dX5_set_34 rfl ⟨Nat.le_of_ble_eq_true rfl, Nat.le_of_ble_eq_true rfl⟩ ?_
        simp only [Classical.not_not, hB_0p, hB_n0p, Int32.toInt_toInt64, tl_LG, ti_m1, Int32.lt_iff_toInt_lt, Int32.le_iff_toInt_le, Int64.lt_iff_toInt_lt, Int64.le_iff_toInt_le, tl_0, ti_0, tl_1, ti_1, tl_2, ti_2, tl_3, ti_3, tl_4, ti_4, tl_5, ti_5, tl_6, ti_6, tl_7, ti_7, tl_8, ti_8, tl_9, ti_9, tl_10, ti_10, tl_33, ti_33, tl_60, ti_60, tl_100, ti_100, tl_126, ti_126, tl_255, ti_255, tl_500, ti_500, tl_9999, ti_9999, tl_10000, ti_10000, tl_100000, ti_100000, tl_1000000, ti_1000000, tl_1000000000, ti_1000000000] at c_7 c_29
        have hn : ¬ ((0 ≤ a.toInt ∧ a.toInt ≤ 1) ∧ 0 ≤ b.toInt ∧ b.toInt ≤ (if a.toInt = 0 then 2 else 6)) := by rw [if_pos h_a0]; omega
        exact ⟨_, rfl, by rw [sp_set, spQ_f hn], by rw [sp_set, spQ_f hn]; exact ⟨⟨z, pd, sl, h, W, hc, N, H, SL, IR, IK, IG⟩, hFr.rf⟩⟩
set_option maxHeartbeats 4000000 in
set_option maxRecDepth 100000 in
theorem c_X5_setCell (K : hKv) (M : hM) {A : Nat → Nat} {σ : hSt} (X : cX K A σ M) (ho : okS σ) (a : Int32) (b : Int64) : hC K Y_X5_setCell rm_X5_setCell [.ref (A 36), .int a, .long b] M (hPl fun r M' => r = (sp_setCell σ a b).1 ∧ cP K A M (sp_setCell σ a b).2 M') := by
  refine hC.of [some (.ref (A 36)), some (.int a), some (.long b), none, none, none] (by decide) (Nat.le_of_ble_eq_true rfl) rfl rfl ?_
  intro E C Rt
  have C : hCx E K cX5_setCell 6 RX5 "setCell" rm_X5_setCell := C
  obtain ⟨z, pd, sl, h, W, hc, N, H, SL, IR, IK, IG⟩ := X
  refine x_iload_1 1 C dX5_setCell_0 rfl ?_
  refine x_i2l 2 C dX5_setCell_1 rfl ?_
  refine x_lconst (v := 0) 3 C dX5_setCell_2 rfl rfl ?_
  refine x_ldc2 (v := 7) 6 C dX5_setCell_3 rfl wq_X5_67 ?_
  refine x_callS 9 C (c_X5_within K _ _ _ _) hy_X5_within ws_X5_within lk_X5_48 dX5_setCell_6 rfl ⟨Nat.le_of_ble_eq_true rfl, Nat.le_of_ble_eq_true rfl⟩ ⟨Nat.le_of_ble_eq_true rfl, Nat.le_of_ble_eq_true rfl⟩ (Nat.le_of_ble_eq_true rfl) rfl (k_0 rfl rfl (k_ip ?_))
  refine x_if_ne 12 16 C dX5_setCell_9 rfl rfl (fun c_9 => ?_) (fun c_9 => ?_)
  · refine x_lload_2 17 C dX5_setCell_16 rfl ?_
    refine x_lconst (v := 0) 18 C dX5_setCell_17 rfl rfl ?_
    refine x_ldc2 (v := 1000000000000) 21 C dX5_setCell_18 rfl wq_X5_71 ?_
    refine x_callS 24 C (c_X5_within K _ _ _ _) hy_X5_within ws_X5_within lk_X5_48 dX5_setCell_21 rfl ⟨Nat.le_of_ble_eq_true rfl, Nat.le_of_ble_eq_true rfl⟩ ⟨Nat.le_of_ble_eq_true rfl, Nat.le_of_ble_eq_true rfl⟩ (Nat.le_of_ble_eq_true rfl) rfl (k_0 rfl rfl (k_ip ?_))
    refine x_if_ne 27 31 C dX5_setCell_24 rfl rfl (fun c_24 => ?_) (fun c_24 => ?_)
    · simp only [Classical.not_not, hB_0p, hB_n0p, Int32.toInt_toInt64, tl_LG, ti_m1, Int32.lt_iff_toInt_lt, Int32.le_iff_toInt_le, Int64.lt_iff_toInt_lt, Int64.le_iff_toInt_le, tl_0, ti_0, tl_1, ti_1, tl_2, ti_2, tl_3, ti_3, tl_4, ti_4, tl_5, ti_5, tl_6, ti_6, tl_7, ti_7, tl_8, ti_8, tl_9, ti_9, tl_10, ti_10, tl_33, ti_33, tl_60, ti_60, tl_100, ti_100, tl_126, ti_126, tl_255, ti_255, tl_500, ti_500, tl_9999, ti_9999, tl_10000, ti_10000, tl_100000, ti_100000, tl_1000000, ti_1000000, tl_1000000000, ti_1000000000] at c_9 c_24
      obtain ⟨i, hi, rfl⟩ := in_nI (b := 7) c_9
      obtain ⟨v, hv, rfl⟩ := in_lN (b := 1000000000000) c_24
      have hsp : sp_setCell σ (nI i) (lN v) = (lN (σ.1.2.2.1 i), recd σ (σ.1.1, σ.1.2.1, va_up σ.1.2.2.1 i v, σ.1.2.2.2)) := by rw [sp_setCell, spQ_t c_9, spQ_t c_24, nI_toN (by omega), lN_toN (show v ≤ LG from hv)]
      refine x_aload_0 32 C dX5_setCell_31 rfl ?_
      refine x_callV 35 C (c_X5_keepState K _ W hc N H ho.2.1) W.obj wcl_X5 hy_X5_keepState wv_X5_keepState we_X5_keepState lk_X5_56 dX5_setCell_32 rfl ⟨Nat.le_of_ble_eq_true rfl, Nat.le_of_ble_eq_true rfl⟩ ⟨Nat.le_of_ble_eq_true rfl, Nat.le_of_ble_eq_true rfl⟩ (Nat.le_of_ble_eq_true rfl) rfl (k_0 rfl rfl (k_v (fun M_1 h_1 => ?_)))
      obtain ⟨z_2, h_2, W, hc2, H, o_q⟩ := h_1
      have N := N.kept o_q (by decide) (by decide)
      have SL := SL.kept o_q (by decide) (by decide)
      have IR := IR.kept o_q (by decide)
      have IK := IK.kept o_q (by decide)
      have IG := IG.kept o_q (by decide)
      refine x_aload_0 36 C dX5_setCell_35 rfl ?_
      refine xOg_now 39 C wf_X5_10 W.obj dX5_setCell_36 rfl ?_
      refine x_iload_1 40 C dX5_setCell_39 rfl ?_
      have N0 := N
      obtain ⟨n1, n2, n3, f_n, g_n, q_n, n0, s1, s2, s3, e1, e2, e3, e4⟩ := N0
      refine x_callV 43 C (c_X4_cellValue K _ n0 s2 i (by omega)) n0 wcl_X4 hy_X4_cellValue wv_X4_cellValue we_X4_cellValue lk_X5_75 dX5_setCell_40 rfl ⟨Nat.le_of_ble_eq_true rfl, Nat.le_of_ble_eq_true rfl⟩ ⟨Nat.le_of_ble_eq_true rfl, Nat.le_of_ble_eq_true rfl⟩ (Nat.le_of_ble_eq_true rfl) rfl (k_0 rfl rfl (k_lp ?_))
      refine x_topl (e3 i (by omega)) ?_
      refine x_lstore_4 45 C dX5_setCell_43 rfl rfl ?_
      refine x_aload_0 46 C dX5_setCell_45 rfl ?_
      refine xOg_now 49 C wf_X5_10 W.obj dX5_setCell_46 rfl ?_
      refine x_iload_1 50 C dX5_setCell_49 rfl ?_
      refine x_lload_2 51 C dX5_setCell_50 rfl ?_
      refine x_callV 54 C (c_X4_changeCell K _ n0 s2 i (by omega) (lN v)) n0 wcl_X4 hy_X4_changeCell wv_X4_changeCell we_X4_changeCell lk_X5_79 dX5_setCell_51 rfl ⟨Nat.le_of_ble_eq_true rfl, Nat.le_of_ble_eq_true rfl⟩ ⟨Nat.le_of_ble_eq_true rfl, Nat.le_of_ble_eq_true rfl⟩ (Nat.le_of_ble_eq_true rfl) rfl (k_0 rfl rfl (k_v (fun M_2 h_2 => ?_)))
      subst h_2
      obtain ⟨N, o_s⟩ := stO.cel ⟨n0, s1, s2, s3, e1, e2, e3, e4⟩ (by decide) i v
      have W := W.kept o_s (by decide)
      have H := H.kept o_s (by decide) (by decide)
      have SL := SL.kept o_s (by decide) (by decide)
      have IR := IR.kept o_s (by decide)
      have IK := IK.kept o_s (by decide)
      have IG := IG.kept o_s (by decide)
      refine x_lload_4 56 C dX5_setCell_54 rfl ?_
      refine x_lreturn C Rt dX5_setCell_56 ⟨Nat.le_of_ble_eq_true rfl, Nat.le_of_ble_eq_true rfl⟩ ?_
      exact ⟨_, rfl, by rw [hsp], by rw [hsp]; exact ⟨⟨_, _, _, _, W, hc2, N, H, SL, IR, IK, IG⟩, (((cfr o_q (by decide))).tr (cfr o_s (by decide)))⟩⟩
    · refine x_ldc2 (v := (-2)) 30 C dX5_setCell_27 rfl wq_X5_73 ?_
      refine x_lreturn C Rt dX5_setCell_30 ⟨Nat.le_of_ble_eq_true rfl, Nat.le_of_ble_eq_true rfl⟩ ?_
      simp only [Classical.not_not, hB_0p, hB_n0p, Int32.toInt_toInt64, tl_LG, ti_m1, Int32.lt_iff_toInt_lt, Int32.le_iff_toInt_le, Int64.lt_iff_toInt_lt, Int64.le_iff_toInt_le, tl_0, ti_0, tl_1, ti_1, tl_2, ti_2, tl_3, ti_3, tl_4, ti_4, tl_5, ti_5, tl_6, ti_6, tl_7, ti_7, tl_8, ti_8, tl_9, ti_9, tl_10, ti_10, tl_33, ti_33, tl_60, ti_60, tl_100, ti_100, tl_126, ti_126, tl_255, ti_255, tl_500, ti_500, tl_9999, ti_9999, tl_10000, ti_10000, tl_100000, ti_100000, tl_1000000, ti_1000000, tl_1000000000, ti_1000000000] at c_9 c_24
      have hn : ¬ (0 ≤ b.toInt ∧ b.toInt ≤ 1000000000000) := by omega
      exact ⟨_, rfl, by rw [sp_setCell, spQ_t c_9, spQ_f hn], by rw [sp_setCell, spQ_t c_9, spQ_f hn]; exact ⟨⟨z, pd, sl, h, W, hc, N, H, SL, IR, IK, IG⟩, hFr.rf⟩⟩
  · refine x_ldc2 (v := (-1)) 15 C dX5_setCell_12 rfl wq_X5_69 ?_
    refine x_lreturn C Rt dX5_setCell_15 ⟨Nat.le_of_ble_eq_true rfl, Nat.le_of_ble_eq_true rfl⟩ ?_
    simp only [Classical.not_not, hB_0p, hB_n0p, Int32.toInt_toInt64, tl_LG, ti_m1, Int32.lt_iff_toInt_lt, Int32.le_iff_toInt_le, Int64.lt_iff_toInt_lt, Int64.le_iff_toInt_le, tl_0, ti_0, tl_1, ti_1, tl_2, ti_2, tl_3, ti_3, tl_4, ti_4, tl_5, ti_5, tl_6, ti_6, tl_7, ti_7, tl_8, ti_8, tl_9, ti_9, tl_10, ti_10, tl_33, ti_33, tl_60, ti_60, tl_100, ti_100, tl_126, ti_126, tl_255, ti_255, tl_500, ti_500, tl_9999, ti_9999, tl_10000, ti_10000, tl_100000, ti_100000, tl_1000000, ti_1000000, tl_1000000000, ti_1000000000] at c_9
    have hn : ¬ (0 ≤ a.toInt ∧ a.toInt ≤ 7) := by omega
    exact ⟨_, rfl, by rw [sp_setCell, spQ_f hn], by rw [sp_setCell, spQ_f hn]; exact ⟨⟨z, pd, sl, h, W, hc, N, H, SL, IR, IK, IG⟩, hFr.rf⟩⟩
set_option maxHeartbeats 4000000 in
set_option maxRecDepth 100000 in
theorem c_X5_restore (K : hKv) (M : hM) {A : Nat → Nat} {σ : hSt} (X : cX K A σ M) (ho : okS σ) (a : Int32) : hC K Y_X5_restore rm_X5_restore [.ref (A 36), .int a] M (hPi fun r M' => r = (sp_restore σ a).1 ∧ cP K A M (sp_restore σ a).2 M') := by
  refine hC.of [some (.ref (A 36)), some (.int a), none] (by decide) (Nat.le_of_ble_eq_true rfl) rfl rfl ?_
  intro E C Rt
  have C : hCx E K cX5_restore 3 RX5 "restore" rm_X5_restore := C
  obtain ⟨z, pd, sl, h, W, hc, N, H, SL, IR, IK, IG⟩ := X
  refine x_iload_1 1 C dX5_restore_0 rfl ?_
  refine x_i2l 2 C dX5_restore_1 rfl ?_
  refine x_lconst (v := 0) 3 C dX5_restore_2 rfl rfl ?_
  refine x_aload_0 4 C dX5_restore_3 rfl ?_
  refine xOg_slots 7 C wf_X5_20 W.obj dX5_restore_4 rfl ?_
  refine x_alenS 8 C W.slots dX5_restore_7 rfl ?_
  refine x_iconst (v := 1) 9 C dX5_restore_8 rfl rfl ?_
  refine x_topi (v' := nI 1) (pk_sub (a := 2) (b := 1) (by decide)) ?_
  refine x_isub 10 C dX5_restore_9 rfl ?_
  refine x_i2l 11 C dX5_restore_10 rfl ?_
  refine x_topl (v' := (1 : Int64)) (by decide) ?_
  refine x_callS 14 C (c_X5_within K _ _ _ _) hy_X5_within ws_X5_within lk_X5_48 dX5_restore_11 rfl ⟨Nat.le_of_ble_eq_true rfl, Nat.le_of_ble_eq_true rfl⟩ ⟨Nat.le_of_ble_eq_true rfl, Nat.le_of_ble_eq_true rfl⟩ (Nat.le_of_ble_eq_true rfl) rfl (k_0 rfl rfl (k_ip ?_))
  refine x_if_ne 17 20 C dX5_restore_14 rfl rfl (fun c_14 => ?_) (fun c_14 => ?_)
  · simp only [Classical.not_not, hB_0p, hB_n0p, Int32.toInt_toInt64, tl_LG, ti_m1, Int32.lt_iff_toInt_lt, Int32.le_iff_toInt_le, Int64.lt_iff_toInt_lt, Int64.le_iff_toInt_le, tl_0, ti_0, tl_1, ti_1, tl_2, ti_2, tl_3, ti_3, tl_4, ti_4, tl_5, ti_5, tl_6, ti_6, tl_7, ti_7, tl_8, ti_8, tl_9, ti_9, tl_10, ti_10, tl_33, ti_33, tl_60, ti_60, tl_100, ti_100, tl_126, ti_126, tl_255, ti_255, tl_500, ti_500, tl_9999, ti_9999, tl_10000, ti_10000, tl_100000, ti_100000, tl_1000000, ti_1000000, tl_1000000000, ti_1000000000] at c_14
    obtain ⟨s, hs, rfl⟩ := in_nI (b := 1) c_14
    refine x_aload_0 21 C dX5_restore_20 rfl ?_
    refine xOg_slots 24 C wf_X5_20 W.obj dX5_restore_21 rfl ?_
    refine x_iload_1 25 C dX5_restore_24 rfl ?_
    refine x_sald 26 (s) C W.slots (rfl) (by omega) (by decide) dX5_restore_25 rfl ?_
    rcases hq : σ.2.2.1 s with _ | τ
    · have hl := (SL s (by omega)).1 hq
      rw [hl]
      refine x_qstore_2 27 C dX5_restore_26 rfl rfl ?_
      refine x_qload_2 28 C dX5_restore_27 rfl ?_
      refine x_ifnonnull 31 34 C dX5_restore_28 rfl rfl ((fun _ z => by cases z)) (fun c_28 => ?_)
      refine x_bipush (v := (-5)) 33 C dX5_restore_31 rfl rfl ?_
      refine x_ireturn C Rt dX5_restore_33 rfl ⟨Nat.le_of_ble_eq_true rfl, Nat.le_of_ble_eq_true rfl⟩ ?_
      exact ⟨_, rfl, by rw [sp_restore, spQ_t c_14, nI_toN (by omega), hq], by rw [sp_restore, spQ_t c_14, nI_toN (by omega), hq]; exact ⟨⟨z, pd, sl, h, W, hc, N, H, SL, IR, IK, IG⟩, hFr.rf⟩⟩
    · obtain ⟨b, hl, S2⟩ := (SL s (by omega)).2 τ hq
      rw [hl]
      refine x_qstore_2 27 C dX5_restore_26 rfl rfl ?_
      refine x_qload_2 28 C dX5_restore_27 rfl ?_
      refine x_ifnonnull 31 34 C dX5_restore_28 rfl rfl (fun y_28 c_28 => ?_) ((fun z => by cases z))
      refine x_aload_0 35 C dX5_restore_34 rfl ?_
      refine x_callV 38 C (c_X5_keepState K _ W hc N H ho.2.1) W.obj wcl_X5 hy_X5_keepState wv_X5_keepState we_X5_keepState lk_X5_56 dX5_restore_35 rfl ⟨Nat.le_of_ble_eq_true rfl, Nat.le_of_ble_eq_true rfl⟩ ⟨Nat.le_of_ble_eq_true rfl, Nat.le_of_ble_eq_true rfl⟩ (Nat.le_of_ble_eq_true rfl) rfl (k_0 rfl rfl (k_v (fun M_1 h_1 => ?_)))
      obtain ⟨z_2, h_2, W, hc2, H, o_q⟩ := h_1
      have N := N.kept o_q (by decide) (by decide)
      have SL := SL.kept o_q (by decide) (by decide)
      have IR := IR.kept o_q (by decide)
      have IK := IK.kept o_q (by decide)
      have IG := IG.kept o_q (by decide)
      have S2 := S2.kept o_q (by decide) (by omega)
      refine x_aload_0 39 C dX5_restore_38 rfl ?_
      refine xOg_now 42 C wf_X5_10 W.obj dX5_restore_39 rfl ?_
      refine x_qload_2 43 C dX5_restore_42 rfl ?_
      refine x_top (v' := .ref b) rfl ?_
      have N0 := N
      obtain ⟨n1, n2, n3, f_n, g_n, q_n, n0, s1, s2, s3, e1, e2, e3, e4⟩ := N0
      refine x_callV 46 C (c_become K _ N S2 (by decide) (by omega)) n0 wcl_X4 hy_X4_become wv_X4_become we_X4_become lk_X5_238 dX5_restore_43 rfl ⟨Nat.le_of_ble_eq_true rfl, Nat.le_of_ble_eq_true rfl⟩ ⟨Nat.le_of_ble_eq_true rfl, Nat.le_of_ble_eq_true rfl⟩ (Nat.le_of_ble_eq_true rfl) rfl (k_0 rfl rfl (k_v (fun M_2 h_2 => ?_)))
      obtain ⟨N, o_b⟩ := h_2
      have W := W.kept o_b (by decide)
      have H := H.kept o_b (by decide) (by decide)
      have SL := SL.kept o_b (by decide) (by decide)
      have IR := IR.kept o_b (by decide)
      have IK := IK.kept o_b (by decide)
      have IG := IG.kept o_b (by decide)
      refine x_aload_0 47 C dX5_restore_46 rfl ?_
      refine xOg_now 50 C wf_X5_10 W.obj dX5_restore_47 rfl ?_
      have N0 := N
      obtain ⟨n1, n2, n3, f_n, g_n, q_n, n0, s1, s2, s3, e1, e2, e3, e4⟩ := N0
      refine x_callV 53 C (c_X4_formulasThere K _ n0 s3) n0 wcl_X4 hy_X4_formulasThere wv_X4_formulasThere we_X4_formulasThere lk_X5_152 dX5_restore_50 rfl ⟨Nat.le_of_ble_eq_true rfl, Nat.le_of_ble_eq_true rfl⟩ ⟨Nat.le_of_ble_eq_true rfl, Nat.le_of_ble_eq_true rfl⟩ (Nat.le_of_ble_eq_true rfl) rfl (k_0 rfl rfl (k_ip ?_))
      refine x_topi (show _ = fset τ from fbv_congr 6 (fun i hi => (e4 i hi).some)) ?_
      refine x_ireturn C Rt dX5_restore_53 rfl ⟨Nat.le_of_ble_eq_true rfl, Nat.le_of_ble_eq_true rfl⟩ ?_
      have hsp : sp_restore σ (nI s) = (fset τ, recd σ τ) := by rw [sp_restore, spQ_t c_14, nI_toN (by omega), hq]
      exact ⟨_, rfl, by rw [hsp], by rw [hsp]; exact ⟨⟨_, _, _, _, W, hc2, N, H, SL, IR, IK, IG⟩, (((cfr o_q (by decide))).tr (cfr o_b (by decide)))⟩⟩
  · refine x_bipush (v := (-2)) 19 C dX5_restore_17 rfl rfl ?_
    refine x_ireturn C Rt dX5_restore_19 rfl ⟨Nat.le_of_ble_eq_true rfl, Nat.le_of_ble_eq_true rfl⟩ ?_
    simp only [Classical.not_not, hB_0p, hB_n0p, Int32.toInt_toInt64, tl_LG, ti_m1, Int32.lt_iff_toInt_lt, Int32.le_iff_toInt_le, Int64.lt_iff_toInt_lt, Int64.le_iff_toInt_le, tl_0, ti_0, tl_1, ti_1, tl_2, ti_2, tl_3, ti_3, tl_4, ti_4, tl_5, ti_5, tl_6, ti_6, tl_7, ti_7, tl_8, ti_8, tl_9, ti_9, tl_10, ti_10, tl_33, ti_33, tl_60, ti_60, tl_100, ti_100, tl_126, ti_126, tl_255, ti_255, tl_500, ti_500, tl_9999, ti_9999, tl_10000, ti_10000, tl_100000, ti_100000, tl_1000000, ti_1000000, tl_1000000000, ti_1000000000] at c_14
    have hn : ¬ (0 ≤ a.toInt ∧ a.toInt ≤ 1) := by omega
    exact ⟨_, rfl, by rw [sp_restore, spQ_f hn], by rw [sp_restore, spQ_f hn]; exact ⟨⟨z, pd, sl, h, W, hc, N, H, SL, IR, IK, IG⟩, hFr.rf⟩⟩
