set_option maxHeartbeats 4000000 in
set_option maxRecDepth 100000 in
theorem c_X5_value (K : hKv) (M : hM) {A : Nat → Nat} {σ : hSt} (X : cX K A σ M) (ho : okS σ) (a : Int32) : hC K Y_X5_value rm_X5_value [.ref (A 36), .int a] M (hPl fun r M' => r = sp_value σ a ∧ cP K A M σ M') := by
  refine hC.of [some (.ref (A 36)), some (.int a), none] (by decide) (Nat.le_of_ble_eq_true rfl) rfl rfl ?_
  intro E C Rt
  have C : hCx E K cX5_value 3 RX5 "value" rm_X5_value := C
  obtain ⟨z, pd, sl, h, W, hc, N, H, SL, IR, IK, IG⟩ := X
  have N0 := N
  obtain ⟨n1, n2, n3, f_n, g_n, q_n, n0, s1, s2, s3, e1, e2, e3, e4⟩ := N0
  obtain ⟨zk, Gk, WK⟩ := IK
  have IK : cIK K A M := ⟨_, _, WK⟩
  refine x_aload_0 1 C dX5_value_0 rfl ?_
  refine xOg_now 4 C wf_X5_10 W.obj dX5_value_1 rfl ?_
  refine x_iload_1 5 C dX5_value_4 rfl ?_
  refine x_callV 8 C (c_X4_formula K _ n0 s3 a) n0 wcl_X4 hy_X4_formula wv_X4_formula we_X4_formula lk_X5_120 dX5_value_5 rfl ⟨Nat.le_of_ble_eq_true rfl, Nat.le_of_ble_eq_true rfl⟩ ⟨Nat.le_of_ble_eq_true rfl, Nat.le_of_ble_eq_true rfl⟩ (Nat.le_of_ble_eq_true rfl) rfl (k_0 rfl rfl (k_qp ?_))
  rcases fo_F ho.1 e4 a with ⟨hq, hnF⟩ | ⟨y, j, b, fb, hq, hF, hj, rfl, hgf, hw, hY, hb, hbf⟩
  · rw [hq]
    refine x_qstore_2 9 C dX5_value_8 rfl rfl ?_
    refine x_qload_2 10 C dX5_value_9 rfl ?_
    refine x_ifnonnull 13 17 C dX5_value_10 rfl rfl ((fun _ z => by cases z)) (fun c_10 => ?_)
    refine x_ldc2 (v := (-1)) 16 C dX5_value_13 rfl wq_X5_69 ?_
    refine x_lreturn C Rt dX5_value_16 ⟨Nat.le_of_ble_eq_true rfl, Nat.le_of_ble_eq_true rfl⟩ ?_
    exact ⟨_, rfl, by rw [sp_value, spQ_f hnF], ⟨⟨z, pd, sl, h, W, hc, N, H, SL, IR, IK, IG⟩, hFr.rf⟩⟩
  · rw [hq]
    have hrf : rF σ.1 (nI j) = rkR σ.1 (σ.1.2.2.2 j) := by unfold rF; rw [hgf]
    obtain ⟨k1, k2, k3⟩ := rk_len (τ := σ.1) (σ.1.2.2.2 j) [] []
    simp only [List.length_nil, Nat.zero_add] at k1 k2
    have k1 : (rkR σ.1 (σ.1.2.2.2 j)).1.length ≤ (σ.1.2.2.2 j).length := k1
    have k2 : (rkR σ.1 (σ.1.2.2.2 j)).2 = 0 → (rkR σ.1 (σ.1.2.2.2 j)).1.length = (σ.1.2.2.2 j).length := k2
    have k3 : (rkR σ.1 (σ.1.2.2.2 j)).2 ≤ 2 := k3
    have hl60 := hw.2.2
    have hpos : 1 ≤ (σ.1.2.2.2 j).length := by
      rcases Nat.eq_zero_or_pos (σ.1.2.2.2 j).length with q | q
      · exact absurd (List.length_eq_zero_iff.mp q) (wfF_ne hw)
      · exact q
    refine x_top (v' := .ref y) rfl ?_
    refine x_astore_2 9 C dX5_value_8 rfl rfl ?_
    refine x_aload_2 10 C dX5_value_9 rfl ?_
    refine x_top (v' := va_rf (some y)) rfl ?_
    refine x_ifnonnull 13 17 C dX5_value_10 rfl rfl (fun y_10 c_10 => ?_) ((fun z => by cases z))
    refine x_aload_0 18 C dX5_value_17 rfl ?_
    refine xOg_reckoner 21 C wf_X5_37 W.obj dX5_value_18 rfl ?_
    refine x_aload_2 22 C dX5_value_21 rfl ?_
    refine x_aload_0 23 C dX5_value_22 rfl ?_
    refine xOg_now 26 C wf_X5_10 W.obj dX5_value_23 rfl ?_
    refine x_callV 29 C (c_X3_reckon K _ WK ho.1 hw hY hb hbf n0 s1 s2 e1 e3 (Or.inl (by decide)) (Or.inl (by decide)) (Or.inl (by decide))) WK.obj wcl_X3 hy_X3_reckon wv_X3_reckon we_X3_reckon lk_X5_124 dX5_value_26 rfl ⟨Nat.le_of_ble_eq_true rfl, Nat.le_of_ble_eq_true rfl⟩ ⟨Nat.le_of_ble_eq_true rfl, Nat.le_of_ble_eq_true rfl⟩ (Nat.le_of_ble_eq_true rfl) rfl (k_0 rfl rfl (k_v (fun M_1 h_1 => ?_)))
    obtain ⟨z_k, G_k, WK, o_r, hv, hk1, hk2⟩ := h_1
    have IK : cIK K A M_1 := ⟨_, _, WK⟩
    have W := W.kept o_r (by decide)
    have N := N.kept o_r (by decide) (by decide)
    have H := H.kept o_r (by decide) (by decide)
    have SL := SL.kept o_r (by decide) (by decide)
    have IR := IR.kept o_r (by decide)
    have IG := IG.kept o_r (by decide)
    have hY := o_r _ _ _ (Or.inl (by decide)) hY
    have hb := o_r _ _ _ (Or.inl (by decide)) hb
    refine x_aload_0 30 C dX5_value_29 rfl ?_
    refine xOg_reckoner 33 C wf_X5_37 W.obj dX5_value_30 rfl ?_
    refine kOg_reason 36 C wf_X5_128 WK.obj dX5_value_33 rfl ?_
    refine x_topi hk2 ?_
    refine x_if_ne 39 49 C dX5_value_36 rfl rfl (fun c_36 => ?_) (fun c_36 => ?_)
    · have hR : ¬ (rkR σ.1 (σ.1.2.2.2 j)).2 = 0 := fun q => c_36 (by rw [q]; rfl)
      refine x_ldc2 (v := (-5)) 52 C dX5_value_49 rfl wq_X5_131 ?_
      refine x_lreturn C Rt dX5_value_52 ⟨Nat.le_of_ble_eq_true rfl, Nat.le_of_ble_eq_true rfl⟩ ?_
      exact ⟨_, rfl, by rw [sp_value, spQ_t hF, hrf, if_neg hR], ⟨⟨_, _, _, _, W, hc, N, H, SL, IR, IK, IG⟩, ((cfr o_r (by decide)))⟩⟩
    · have hR : (rkR σ.1 (σ.1.2.2.2 j)).2 = 0 := (nI_eq (b := 0) (by omega) (by decide)).mp (by first | exact c_36 | exact Decidable.not_not.mp c_36)
      have k2 := k2 hR
      refine x_aload_0 40 C dX5_value_39 rfl ?_
      refine xOg_reckoner 43 C wf_X5_37 W.obj dX5_value_40 rfl ?_
      refine x_callV 46 C (c_X3_result K _ WK ((rkR σ.1 (σ.1.2.2.2 j)).1.length - 1) (by rw [hk1]; congr 1; omega) (by omega)) WK.obj wcl_X3 hy_X3_result wv_X3_result we_X3_result lk_X5_133 dX5_value_43 rfl ⟨Nat.le_of_ble_eq_true rfl, Nat.le_of_ble_eq_true rfl⟩ ⟨Nat.le_of_ble_eq_true rfl, Nat.le_of_ble_eq_true rfl⟩ (Nat.le_of_ble_eq_true rfl) rfl (k_0 rfl rfl (k_lp ?_))
      refine x_topl (hv _ (by omega)) ?_
      refine x_goto 52 C dX5_value_46 rfl ?_
      refine x_lreturn C Rt dX5_value_52 ⟨Nat.le_of_ble_eq_true rfl, Nat.le_of_ble_eq_true rfl⟩ ?_
      exact ⟨_, rfl, by rw [sp_value, spQ_t hF, hrf, if_pos hR]; rfl, ⟨⟨_, _, _, _, W, hc, N, H, SL, IR, IK, IG⟩, ((cfr o_r (by decide)))⟩⟩
set_option maxHeartbeats 4000000 in
set_option maxRecDepth 100000 in
theorem c_X5_assign (K : hKv) (M : hM) {A : Nat → Nat} {σ : hSt} (X : cX K A σ M) (ho : okS σ) (a b : Int32) : hC K Y_X5_assign rm_X5_assign [.ref (A 36), .int a, .int b] M (hPl fun r M' => r = (sp_assign σ a b).1 ∧ cP K A M (sp_assign σ a b).2 M') := by
  refine hC.of [some (.ref (A 36)), some (.int a), some (.int b), none] (by decide) (Nat.le_of_ble_eq_true rfl) rfl rfl ?_
  intro E C Rt
  have C : hCx E K cX5_assign 4 RX5 "assign" rm_X5_assign := C
  obtain ⟨z, pd, sl, h, W, hc, N, H, SL, IR, IK, IG⟩ := X
  have N0 := N
  obtain ⟨n1, n2, n3, f_n, g_n, q_n, n0, s1, s2, s3, e1, e2, e3, e4⟩ := N0
  obtain ⟨zk, Gk, WK⟩ := IK
  have IK : cIK K A M := ⟨_, _, WK⟩
  refine x_aload_0 1 C dX5_assign_0 rfl ?_
  refine xOg_now 4 C wf_X5_10 W.obj dX5_assign_1 rfl ?_
  refine x_iload_2 5 C dX5_assign_4 rfl ?_
  refine x_callV 8 C (c_X4_formula K _ n0 s3 b) n0 wcl_X4 hy_X4_formula wv_X4_formula we_X4_formula lk_X5_120 dX5_assign_5 rfl ⟨Nat.le_of_ble_eq_true rfl, Nat.le_of_ble_eq_true rfl⟩ ⟨Nat.le_of_ble_eq_true rfl, Nat.le_of_ble_eq_true rfl⟩ (Nat.le_of_ble_eq_true rfl) rfl (k_0 rfl rfl (k_qp ?_))
  rcases fo_F ho.1 e4 b with ⟨hq, hnF⟩ | ⟨y, j, b, fb, hq, hF, hj, rfl, hgf, hw, hY, hb, hbf⟩
  · rw [hq]
    refine x_qstore_3 9 C dX5_assign_8 rfl rfl ?_
    refine x_iload_1 10 C dX5_assign_9 rfl ?_
    refine x_i2l 11 C dX5_assign_10 rfl ?_
    refine x_lconst (v := 0) 12 C dX5_assign_11 rfl rfl ?_
    refine x_ldc2 (v := 7) 15 C dX5_assign_12 rfl wq_X5_67 ?_
    refine x_callS 18 C (c_X5_within K _ _ _ _) hy_X5_within ws_X5_within lk_X5_48 dX5_assign_15 rfl ⟨Nat.le_of_ble_eq_true rfl, Nat.le_of_ble_eq_true rfl⟩ ⟨Nat.le_of_ble_eq_true rfl, Nat.le_of_ble_eq_true rfl⟩ (Nat.le_of_ble_eq_true rfl) rfl (k_0 rfl rfl (k_ip ?_))
    refine x_if_eq 21 25 C dX5_assign_18 rfl rfl (fun c_18 => ?_) (fun c_18 => ?_)
    · refine x_ldc2 (v := (-1)) 28 C dX5_assign_25 rfl wq_X5_69 ?_
      refine x_lreturn C Rt dX5_assign_28 ⟨Nat.le_of_ble_eq_true rfl, Nat.le_of_ble_eq_true rfl⟩ ?_
      have hn : ¬ ((0 ≤ a.toInt ∧ a.toInt ≤ 7) ∧ isF σ.1 b) := fun q => hnF q.2
      exact ⟨_, rfl, by rw [sp_assign, spQ_f hn], by rw [sp_assign, spQ_f hn]; exact ⟨⟨z, pd, sl, h, W, hc, N, H, SL, IR, IK, IG⟩, hFr.rf⟩⟩
    · refine x_qload_3 22 C dX5_assign_21 rfl ?_
      refine x_ifnonnull 25 29 C dX5_assign_22 rfl rfl ((fun _ z => by cases z)) (fun c_22 => ?_)
      refine x_ldc2 (v := (-1)) 28 C dX5_assign_25 rfl wq_X5_69 ?_
      refine x_lreturn C Rt dX5_assign_28 ⟨Nat.le_of_ble_eq_true rfl, Nat.le_of_ble_eq_true rfl⟩ ?_
      have hn : ¬ ((0 ≤ a.toInt ∧ a.toInt ≤ 7) ∧ isF σ.1 b) := fun q => hnF q.2
      exact ⟨_, rfl, by rw [sp_assign, spQ_f hn], by rw [sp_assign, spQ_f hn]; exact ⟨⟨z, pd, sl, h, W, hc, N, H, SL, IR, IK, IG⟩, hFr.rf⟩⟩
  · rw [hq]
    have hrf : rF σ.1 (nI j) = rkR σ.1 (σ.1.2.2.2 j) := by unfold rF; rw [hgf]
    obtain ⟨k1, k2, k3⟩ := rk_len (τ := σ.1) (σ.1.2.2.2 j) [] []
    simp only [List.length_nil, Nat.zero_add] at k1 k2
    have k1 : (rkR σ.1 (σ.1.2.2.2 j)).1.length ≤ (σ.1.2.2.2 j).length := k1
    have k2 : (rkR σ.1 (σ.1.2.2.2 j)).2 = 0 → (rkR σ.1 (σ.1.2.2.2 j)).1.length = (σ.1.2.2.2 j).length := k2
    have k3 : (rkR σ.1 (σ.1.2.2.2 j)).2 ≤ 2 := k3
    have hl60 := hw.2.2
    have hpos : 1 ≤ (σ.1.2.2.2 j).length := by
      rcases Nat.eq_zero_or_pos (σ.1.2.2.2 j).length with q | q
      · exact absurd (List.length_eq_zero_iff.mp q) (wfF_ne hw)
      · exact q
    refine x_top (v' := .ref y) rfl ?_
    refine x_astore_3 9 C dX5_assign_8 rfl rfl ?_
    refine x_iload_1 10 C dX5_assign_9 rfl ?_
    refine x_i2l 11 C dX5_assign_10 rfl ?_
    refine x_lconst (v := 0) 12 C dX5_assign_11 rfl rfl ?_
    refine x_ldc2 (v := 7) 15 C dX5_assign_12 rfl wq_X5_67 ?_
    refine x_callS 18 C (c_X5_within K _ _ _ _) hy_X5_within ws_X5_within lk_X5_48 dX5_assign_15 rfl ⟨Nat.le_of_ble_eq_true rfl, Nat.le_of_ble_eq_true rfl⟩ ⟨Nat.le_of_ble_eq_true rfl, Nat.le_of_ble_eq_true rfl⟩ (Nat.le_of_ble_eq_true rfl) rfl (k_0 rfl rfl (k_ip ?_))
    refine x_if_eq 21 25 C dX5_assign_18 rfl rfl (fun c_18 => ?_) (fun c_18 => ?_)
    · refine x_ldc2 (v := (-1)) 28 C dX5_assign_25 rfl wq_X5_69 ?_
      refine x_lreturn C Rt dX5_assign_28 ⟨Nat.le_of_ble_eq_true rfl, Nat.le_of_ble_eq_true rfl⟩ ?_
      simp only [Classical.not_not, hB_0p, hB_n0p, Int32.toInt_toInt64, tl_LG, ti_m1, Int32.lt_iff_toInt_lt, Int32.le_iff_toInt_le, Int64.lt_iff_toInt_lt, Int64.le_iff_toInt_le, tl_0, ti_0, tl_1, ti_1, tl_2, ti_2, tl_3, ti_3, tl_4, ti_4, tl_5, ti_5, tl_6, ti_6, tl_7, ti_7, tl_8, ti_8, tl_9, ti_9, tl_10, ti_10, tl_33, ti_33, tl_60, ti_60, tl_100, ti_100, tl_126, ti_126, tl_255, ti_255, tl_500, ti_500, tl_9999, ti_9999, tl_10000, ti_10000, tl_100000, ti_100000, tl_1000000, ti_1000000, tl_1000000000, ti_1000000000] at c_18
      have hn : ¬ ((0 ≤ a.toInt ∧ a.toInt ≤ 7) ∧ isF σ.1 (nI j)) := fun q => by omega
      exact ⟨_, rfl, by rw [sp_assign, spQ_f hn], by rw [sp_assign, spQ_f hn]; exact ⟨⟨z, pd, sl, h, W, hc, N, H, SL, IR, IK, IG⟩, hFr.rf⟩⟩
    · refine x_aload_3 22 C dX5_assign_21 rfl ?_
      refine x_top (v' := va_rf (some y)) rfl ?_
      refine x_ifnonnull 25 29 C dX5_assign_22 rfl rfl (fun y_22 c_22 => ?_) ((fun z => by cases z))
      simp only [Classical.not_not, hB_0p, hB_n0p, Int32.toInt_toInt64, tl_LG, ti_m1, Int32.lt_iff_toInt_lt, Int32.le_iff_toInt_le, Int64.lt_iff_toInt_lt, Int64.le_iff_toInt_le, tl_0, ti_0, tl_1, ti_1, tl_2, ti_2, tl_3, ti_3, tl_4, ti_4, tl_5, ti_5, tl_6, ti_6, tl_7, ti_7, tl_8, ti_8, tl_9, ti_9, tl_10, ti_10, tl_33, ti_33, tl_60, ti_60, tl_100, ti_100, tl_126, ti_126, tl_255, ti_255, tl_500, ti_500, tl_9999, ti_9999, tl_10000, ti_10000, tl_100000, ti_100000, tl_1000000, ti_1000000, tl_1000000000, ti_1000000000] at c_18
      obtain ⟨i, hi, rfl⟩ := in_nI (b := 7) c_18
      refine x_aload_0 30 C dX5_assign_29 rfl ?_
      refine xOg_reckoner 33 C wf_X5_37 W.obj dX5_assign_30 rfl ?_
      refine x_aload_3 34 C dX5_assign_33 rfl ?_
      refine x_aload_0 35 C dX5_assign_34 rfl ?_
      refine xOg_now 38 C wf_X5_10 W.obj dX5_assign_35 rfl ?_
      refine x_callV 41 C (c_X3_reckon K _ WK ho.1 hw hY hb hbf n0 s1 s2 e1 e3 (Or.inl (by decide)) (Or.inl (by decide)) (Or.inl (by decide))) WK.obj wcl_X3 hy_X3_reckon wv_X3_reckon we_X3_reckon lk_X5_124 dX5_assign_38 rfl ⟨Nat.le_of_ble_eq_true rfl, Nat.le_of_ble_eq_true rfl⟩ ⟨Nat.le_of_ble_eq_true rfl, Nat.le_of_ble_eq_true rfl⟩ (Nat.le_of_ble_eq_true rfl) rfl (k_0 rfl rfl (k_v (fun M_1 h_1 => ?_)))
      obtain ⟨z_k, G_k, WK, o_r, hv, hk1, hk2⟩ := h_1
      have IK : cIK K A M_1 := ⟨_, _, WK⟩
      have W := W.kept o_r (by decide)
      have N := N.kept o_r (by decide) (by decide)
      have H := H.kept o_r (by decide) (by decide)
      have SL := SL.kept o_r (by decide) (by decide)
      have IR := IR.kept o_r (by decide)
      have IG := IG.kept o_r (by decide)
      have hY := o_r _ _ _ (Or.inl (by decide)) hY
      have hb := o_r _ _ _ (Or.inl (by decide)) hb
      refine x_aload_0 42 C dX5_assign_41 rfl ?_
      refine xOg_reckoner 45 C wf_X5_37 W.obj dX5_assign_42 rfl ?_
      refine kOg_reason 48 C wf_X5_128 WK.obj dX5_assign_45 rfl ?_
      refine x_topi hk2 ?_
      refine x_if_eq 51 55 C dX5_assign_48 rfl rfl (fun c_48 => ?_) (fun c_48 => ?_)
      · have hR : (rkR σ.1 (σ.1.2.2.2 j)).2 = 0 := (nI_eq (b := 0) (by omega) (by decide)).mp (by first | exact c_48 | exact Decidable.not_not.mp c_48)
        have k2 := k2 hR
        have hsp : sp_assign σ (nI i) (nI j) = (lN (lastV (rkR σ.1 (σ.1.2.2.2 j))), recd σ (σ.1.1, σ.1.2.1, va_up σ.1.2.2.1 i (lastV (rkR σ.1 (σ.1.2.2.2 j))), σ.1.2.2.2)) := by rw [sp_assign, spQ_t ⟨c_18, hF⟩, hrf, if_pos hR, nI_toN (by omega)]
        refine x_aload_0 56 C dX5_assign_55 rfl ?_
        refine x_callV 59 C (c_X5_keepState K _ W hc N H ho.2.1) W.obj wcl_X5 hy_X5_keepState wv_X5_keepState we_X5_keepState lk_X5_56 dX5_assign_56 rfl ⟨Nat.le_of_ble_eq_true rfl, Nat.le_of_ble_eq_true rfl⟩ ⟨Nat.le_of_ble_eq_true rfl, Nat.le_of_ble_eq_true rfl⟩ (Nat.le_of_ble_eq_true rfl) rfl (k_0 rfl rfl (k_v (fun M_2 h_2 => ?_)))
        obtain ⟨z_2, h_2, W, hc2, H, o_q⟩ := h_2
        have N := N.kept o_q (by decide) (by decide)
        have SL := SL.kept o_q (by decide) (by decide)
        have IR := IR.kept o_q (by decide)
        have IK := IK.kept o_q (by decide)
        have IG := IG.kept o_q (by decide)
        have WK := WK.kept o_q (by decide)
        have N0 := N
        obtain ⟨n1, n2, n3, f_n, g_n, q_n, n0, s1, s2, s3, e1, e2, e3, e4⟩ := N0
        refine x_aload_0 60 C dX5_assign_59 rfl ?_
        refine xOg_now 63 C wf_X5_10 W.obj dX5_assign_60 rfl ?_
        refine x_iload_1 64 C dX5_assign_63 rfl ?_
        refine x_aload_0 65 C dX5_assign_64 rfl ?_
        refine xOg_reckoner 68 C wf_X5_37 W.obj dX5_assign_65 rfl ?_
        refine x_callV 71 C (c_X3_result K _ WK ((rkR σ.1 (σ.1.2.2.2 j)).1.length - 1) (by rw [hk1]; congr 1; omega) (by omega)) WK.obj wcl_X3 hy_X3_result wv_X3_result we_X3_result lk_X5_133 dX5_assign_68 rfl ⟨Nat.le_of_ble_eq_true rfl, Nat.le_of_ble_eq_true rfl⟩ ⟨Nat.le_of_ble_eq_true rfl, Nat.le_of_ble_eq_true rfl⟩ (Nat.le_of_ble_eq_true rfl) rfl (k_0 rfl rfl (k_lp ?_))
        refine x_topl (hv _ (by omega)) ?_
        refine x_callV 74 C (c_X4_changeCell K _ n0 s2 i (by omega) _) n0 wcl_X4 hy_X4_changeCell wv_X4_changeCell we_X4_changeCell lk_X5_79 dX5_assign_71 rfl ⟨Nat.le_of_ble_eq_true rfl, Nat.le_of_ble_eq_true rfl⟩ ⟨Nat.le_of_ble_eq_true rfl, Nat.le_of_ble_eq_true rfl⟩ (Nat.le_of_ble_eq_true rfl) rfl (k_0 rfl rfl (k_v (fun M_3 h_3 => ?_)))
        subst h_3
        obtain ⟨N, o_s⟩ := stO.cel ⟨n0, s1, s2, s3, e1, e2, e3, e4⟩ (by decide) i (lastV (rkR σ.1 (σ.1.2.2.2 j)))
        have W := W.kept o_s (by decide)
        have H := H.kept o_s (by decide) (by decide)
        have SL := SL.kept o_s (by decide) (by decide)
        have IR := IR.kept o_s (by decide)
        have IK := IK.kept o_s (by decide)
        have IG := IG.kept o_s (by decide)
        have WK := WK.kept o_s (by decide)
        refine x_aload_0 75 C dX5_assign_74 rfl ?_
        refine xOg_reckoner 78 C wf_X5_37 W.obj dX5_assign_75 rfl ?_
        refine x_callV 81 C (c_X3_result K _ WK ((rkR σ.1 (σ.1.2.2.2 j)).1.length - 1) (by rw [hk1]; congr 1; omega) (by omega)) WK.obj wcl_X3 hy_X3_result wv_X3_result we_X3_result lk_X5_133 dX5_assign_78 rfl ⟨Nat.le_of_ble_eq_true rfl, Nat.le_of_ble_eq_true rfl⟩ ⟨Nat.le_of_ble_eq_true rfl, Nat.le_of_ble_eq_true rfl⟩ (Nat.le_of_ble_eq_true rfl) rfl (k_0 rfl rfl (k_lp ?_))
        refine x_topl (hv _ (by omega)) ?_
        refine x_lreturn C Rt dX5_assign_81 ⟨Nat.le_of_ble_eq_true rfl, Nat.le_of_ble_eq_true rfl⟩ ?_
        exact ⟨_, rfl, by rw [hsp]; rfl, by rw [hsp]; exact ⟨⟨_, _, _, _, W, hc2, N, H, SL, IR, IK, IG⟩, ((((cfr o_r (by decide))).tr (cfr o_q (by decide))).tr (cfr o_s (by decide)))⟩⟩
      · have hR : ¬ (rkR σ.1 (σ.1.2.2.2 j)).2 = 0 := fun q => c_48 (by rw [q]; rfl)
        refine x_ldc2 (v := (-5)) 54 C dX5_assign_51 rfl wq_X5_131 ?_
        refine x_lreturn C Rt dX5_assign_54 ⟨Nat.le_of_ble_eq_true rfl, Nat.le_of_ble_eq_true rfl⟩ ?_
        have hsp : sp_assign σ (nI i) (nI j) = (-5, σ) := by rw [sp_assign, spQ_t ⟨c_18, hF⟩, hrf, if_neg hR]
        exact ⟨_, rfl, by rw [hsp], by rw [hsp]; exact ⟨⟨_, _, _, _, W, hc, N, H, SL, IR, IK, IG⟩, ((cfr o_r (by decide)))⟩⟩
set_option maxHeartbeats 4000000 in
set_option maxRecDepth 100000 in
theorem c_X5_ofFormula (K : hKv) (M : hM) {A : Nat → Nat} {σ : hSt} (X : cX K A σ M) (ho : okS σ) (a w : Int32) : hC K Y_X5_ofFormula rm_X5_ofFormula [.ref (A 36), .int a, .int w] M (hPi fun r M' => r = sp_ofFormula σ a w ∧ cP K A M σ M') := by
  refine hC.of [some (.ref (A 36)), some (.int a), some (.int w), none] (by decide) (Nat.le_of_ble_eq_true rfl) rfl rfl ?_
  intro E C Rt
  have C : hCx E K cX5_ofFormula 4 RX5 "ofFormula" rm_X5_ofFormula := C
  obtain ⟨z, pd, sl, h, W, hc, N, H, SL, IR, IK, IG⟩ := X
  have N0 := N
  obtain ⟨n1, n2, n3, f_n, g_n, q_n, n0, s1, s2, s3, e1, e2, e3, e4⟩ := N0
  obtain ⟨zk, Gk, WK⟩ := IK
  have IK : cIK K A M := ⟨_, _, WK⟩
  refine x_aload_0 1 C dX5_ofFormula_0 rfl ?_
  refine xOg_now 4 C wf_X5_10 W.obj dX5_ofFormula_1 rfl ?_
  refine x_iload_1 5 C dX5_ofFormula_4 rfl ?_
  refine x_callV 8 C (c_X4_formula K _ n0 s3 a) n0 wcl_X4 hy_X4_formula wv_X4_formula we_X4_formula lk_X5_120 dX5_ofFormula_5 rfl ⟨Nat.le_of_ble_eq_true rfl, Nat.le_of_ble_eq_true rfl⟩ ⟨Nat.le_of_ble_eq_true rfl, Nat.le_of_ble_eq_true rfl⟩ (Nat.le_of_ble_eq_true rfl) rfl (k_0 rfl rfl (k_qp ?_))
  rcases fo_F ho.1 e4 a with ⟨hq, hnF⟩ | ⟨y, j, b, fb, hq, hF, hj, rfl, hgf, hw, hY, hb, hbf⟩
  · rw [hq]
    refine x_qstore_3 9 C dX5_ofFormula_8 rfl rfl ?_
    refine x_qload_3 10 C dX5_ofFormula_9 rfl ?_
    refine x_ifnonnull 13 15 C dX5_ofFormula_10 rfl rfl ((fun _ z => by cases z)) (fun c_10 => ?_)
    refine x_iconst (v := (-1)) 14 C dX5_ofFormula_13 rfl rfl ?_
    refine x_ireturn C Rt dX5_ofFormula_14 rfl ⟨Nat.le_of_ble_eq_true rfl, Nat.le_of_ble_eq_true rfl⟩ ?_
    exact ⟨_, rfl, by rw [sp_ofFormula, spQ_f hnF], ⟨⟨z, pd, sl, h, W, hc, N, H, SL, IR, IK, IG⟩, hFr.rf⟩⟩
  · rw [hq]
    have hrf : rF σ.1 (nI j) = rkR σ.1 (σ.1.2.2.2 j) := by unfold rF; rw [hgf]
    obtain ⟨k1, k2, k3⟩ := rk_len (τ := σ.1) (σ.1.2.2.2 j) [] []
    simp only [List.length_nil, Nat.zero_add] at k1 k2
    have k1 : (rkR σ.1 (σ.1.2.2.2 j)).1.length ≤ (σ.1.2.2.2 j).length := k1
    have k2 : (rkR σ.1 (σ.1.2.2.2 j)).2 = 0 → (rkR σ.1 (σ.1.2.2.2 j)).1.length = (σ.1.2.2.2 j).length := k2
    have k3 : (rkR σ.1 (σ.1.2.2.2 j)).2 ≤ 2 := k3
    have hl60 := hw.2.2
    have hpos : 1 ≤ (σ.1.2.2.2 j).length := by
      rcases Nat.eq_zero_or_pos (σ.1.2.2.2 j).length with q | q
      · exact absurd (List.length_eq_zero_iff.mp q) (wfF_ne hw)
      · exact q
    refine x_top (v' := .ref y) rfl ?_
    refine x_astore_3 9 C dX5_ofFormula_8 rfl rfl ?_
    refine x_aload_3 10 C dX5_ofFormula_9 rfl ?_
    refine x_top (v' := va_rf (some y)) rfl ?_
    refine x_ifnonnull 13 15 C dX5_ofFormula_10 rfl rfl (fun y_10 c_10 => ?_) ((fun z => by cases z))
    refine x_aload_0 16 C dX5_ofFormula_15 rfl ?_
    refine xOg_reckoner 19 C wf_X5_37 W.obj dX5_ofFormula_16 rfl ?_
    refine x_aload_3 20 C dX5_ofFormula_19 rfl ?_
    refine x_aload_0 21 C dX5_ofFormula_20 rfl ?_
    refine xOg_now 24 C wf_X5_10 W.obj dX5_ofFormula_21 rfl ?_
    refine x_callV 27 C (c_X3_reckon K _ WK ho.1 hw hY hb hbf n0 s1 s2 e1 e3 (Or.inl (by decide)) (Or.inl (by decide)) (Or.inl (by decide))) WK.obj wcl_X3 hy_X3_reckon wv_X3_reckon we_X3_reckon lk_X5_124 dX5_ofFormula_24 rfl ⟨Nat.le_of_ble_eq_true rfl, Nat.le_of_ble_eq_true rfl⟩ ⟨Nat.le_of_ble_eq_true rfl, Nat.le_of_ble_eq_true rfl⟩ (Nat.le_of_ble_eq_true rfl) rfl (k_0 rfl rfl (k_v (fun M_1 h_1 => ?_)))
    obtain ⟨z_k, G_k, WK, o_r, hv, hk1, hk2⟩ := h_1
    have IK : cIK K A M_1 := ⟨_, _, WK⟩
    have W := W.kept o_r (by decide)
    have N := N.kept o_r (by decide) (by decide)
    have H := H.kept o_r (by decide) (by decide)
    have SL := SL.kept o_r (by decide) (by decide)
    have IR := IR.kept o_r (by decide)
    have IG := IG.kept o_r (by decide)
    have hY := o_r _ _ _ (Or.inl (by decide)) hY
    have hb := o_r _ _ _ (Or.inl (by decide)) hb
    refine x_iload_2 28 C dX5_ofFormula_27 rfl ?_
    have hk : w = 0 ∨ w = 1 ∨ w = 2 ∨ w = 3 ∨ w = 4 ∨ (w.toInt < 0 ∨ 4 < w.toInt) := by
      by_cases h : w.toInt < 0 ∨ 4 < w.toInt
      · exact Or.inr (Or.inr (Or.inr (Or.inr (Or.inr h))))
      · obtain ⟨j, hj, rfl⟩ := in_nI (x := w) (b := 4) (by omega)
        rcases (show j = 0 ∨ j = 1 ∨ j = 2 ∨ j = 3 ∨ j = 4 by omega) with rfl | rfl | rfl | rfl | rfl
        · exact Or.inl rfl
        · exact Or.inr (Or.inl rfl)
        · exact Or.inr (Or.inr (Or.inl rfl))
        · exact Or.inr (Or.inr (Or.inr (Or.inl rfl)))
        · exact Or.inr (Or.inr (Or.inr (Or.inr (Or.inl rfl))))
    rcases hk with hk | hk | hk | hk | hk | hk
    · subst hk
      refine x_tabIn 64 C dX5_ofFormula_28 (by decide) (by decide) rfl rfl ?_
      refine x_aload_3 65 C dX5_ofFormula_64 rfl ?_
      refine xg_X0_steps 68 C wf_X5_119 hY dX5_ofFormula_65 rfl ?_
      refine x_alenI 69 C hb dX5_ofFormula_68 rfl ?_
      refine x_ireturn C Rt dX5_ofFormula_69 rfl ⟨Nat.le_of_ble_eq_true rfl, Nat.le_of_ble_eq_true rfl⟩ ?_
      exact ⟨_, rfl, by rw [sp_ofFormula, spQ_t hF, ti_0, if_pos rfl, hgf], ⟨⟨_, _, _, _, W, hc, N, H, SL, IR, IK, IG⟩, cfr o_r (by decide)⟩⟩
    · subst hk
      refine x_tabIn 70 C dX5_ofFormula_28 (by decide) (by decide) rfl rfl ?_
      refine x_aload_3 71 C dX5_ofFormula_70 rfl ?_
      refine x_callV 74 C (c_X0_cellsNamed K _ hw hY hb hbf) hY wcl_X0 hy_X0_cellsNamed wv_X0_cellsNamed we_X0_cellsNamed lk_X5_139 dX5_ofFormula_71 rfl ⟨Nat.le_of_ble_eq_true rfl, Nat.le_of_ble_eq_true rfl⟩ ⟨Nat.le_of_ble_eq_true rfl, Nat.le_of_ble_eq_true rfl⟩ (Nat.le_of_ble_eq_true rfl) rfl (k_0 rfl rfl (k_ip ?_))
      refine x_ireturn C Rt dX5_ofFormula_74 rfl ⟨Nat.le_of_ble_eq_true rfl, Nat.le_of_ble_eq_true rfl⟩ ?_
      exact ⟨_, rfl, by rw [sp_ofFormula, spQ_t hF, ti_1, if_neg (by decide), if_pos rfl, hgf], ⟨⟨_, _, _, _, W, hc, N, H, SL, IR, IK, IG⟩, cfr o_r (by decide)⟩⟩
    · subst hk
      refine x_tabIn 75 C dX5_ofFormula_28 (by decide) (by decide) rfl rfl ?_
      refine x_aload_0 76 C dX5_ofFormula_75 rfl ?_
      refine xOg_reckoner 79 C wf_X5_37 W.obj dX5_ofFormula_76 rfl ?_
      refine kOg_reason 82 C wf_X5_128 WK.obj dX5_ofFormula_79 rfl ?_
      refine x_topi hk2 ?_
      refine x_ireturn C Rt dX5_ofFormula_82 rfl ⟨Nat.le_of_ble_eq_true rfl, Nat.le_of_ble_eq_true rfl⟩ ?_
      exact ⟨_, rfl, by rw [sp_ofFormula, spQ_t hF, ti_2, if_neg (by decide), if_neg (by decide), if_pos rfl, hrf], ⟨⟨_, _, _, _, W, hc, N, H, SL, IR, IK, IG⟩, cfr o_r (by decide)⟩⟩
    · subst hk
      refine x_tabIn 83 C dX5_ofFormula_28 (by decide) (by decide) rfl rfl ?_
      refine x_aload_0 84 C dX5_ofFormula_83 rfl ?_
      refine xOg_reckoner 87 C wf_X5_37 W.obj dX5_ofFormula_84 rfl ?_
      refine kOg_reason 90 C wf_X5_128 WK.obj dX5_ofFormula_87 rfl ?_
      refine x_topi hk2 ?_
      refine x_if_ne 93 98 C dX5_ofFormula_90 rfl rfl (fun c_90 => ?_) (fun c_90 => ?_)
      · have hR : ¬ (rkR σ.1 (σ.1.2.2.2 j)).2 = 0 := fun q => c_90 (by rw [q]; rfl)
        refine x_aload_0 99 C dX5_ofFormula_98 rfl ?_
        refine xOg_reckoner 102 C wf_X5_37 W.obj dX5_ofFormula_99 rfl ?_
        refine kOg_reached 105 C wf_X5_143 WK.obj dX5_ofFormula_102 rfl ?_
        refine x_topi hk1 ?_
        refine x_ireturn C Rt dX5_ofFormula_105 rfl ⟨Nat.le_of_ble_eq_true rfl, Nat.le_of_ble_eq_true rfl⟩ ?_
        exact ⟨_, rfl, by rw [sp_ofFormula, spQ_t hF, ti_3, if_neg (by decide), if_neg (by decide), if_neg (by decide), if_pos rfl, hrf, if_neg hR], ⟨⟨_, _, _, _, W, hc, N, H, SL, IR, IK, IG⟩, cfr o_r (by decide)⟩⟩
      · have hR : (rkR σ.1 (σ.1.2.2.2 j)).2 = 0 := (nI_eq (b := 0) (by omega) (by decide)).mp (by first | exact c_90 | exact Decidable.not_not.mp c_90)
        have k2 := k2 hR
        refine x_bipush (v := (-6)) 95 C dX5_ofFormula_93 rfl rfl ?_
        refine x_goto 105 C dX5_ofFormula_95 rfl ?_
        refine x_ireturn C Rt dX5_ofFormula_105 rfl ⟨Nat.le_of_ble_eq_true rfl, Nat.le_of_ble_eq_true rfl⟩ ?_
        exact ⟨_, rfl, by rw [sp_ofFormula, spQ_t hF, ti_3, if_neg (by decide), if_neg (by decide), if_neg (by decide), if_pos rfl, hrf, if_pos hR], ⟨⟨_, _, _, _, W, hc, N, H, SL, IR, IK, IG⟩, cfr o_r (by decide)⟩⟩
    · subst hk
      refine x_tabIn 106 C dX5_ofFormula_28 (by decide) (by decide) rfl rfl ?_
      refine x_aload_3 107 C dX5_ofFormula_106 rfl ?_
      refine x_callV 110 C (c_X0_rootsInside K _ hw hY hb hbf) hY wcl_X0 hy_X0_rootsInside wv_X0_rootsInside we_X0_rootsInside lk_X5_146 dX5_ofFormula_107 rfl ⟨Nat.le_of_ble_eq_true rfl, Nat.le_of_ble_eq_true rfl⟩ ⟨Nat.le_of_ble_eq_true rfl, Nat.le_of_ble_eq_true rfl⟩ (Nat.le_of_ble_eq_true rfl) rfl (k_0 rfl rfl (k_ip ?_))
      refine x_ireturn C Rt dX5_ofFormula_110 rfl ⟨Nat.le_of_ble_eq_true rfl, Nat.le_of_ble_eq_true rfl⟩ ?_
      exact ⟨_, rfl, by rw [sp_ofFormula, spQ_t hF, ti_4, if_neg (by decide), if_neg (by decide), if_neg (by decide), if_neg (by decide), if_pos rfl, hgf], ⟨⟨_, _, _, _, W, hc, N, H, SL, IR, IK, IG⟩, cfr o_r (by decide)⟩⟩
    · refine x_tabOut 111 C dX5_ofFormula_28 (by omega) rfl ?_
      refine x_bipush (v := (-2)) 113 C dX5_ofFormula_111 rfl rfl ?_
      refine x_ireturn C Rt dX5_ofFormula_113 rfl ⟨Nat.le_of_ble_eq_true rfl, Nat.le_of_ble_eq_true rfl⟩ ?_
      exact ⟨_, rfl, by rw [sp_ofFormula, spQ_t hF, if_neg (by omega), if_neg (by omega), if_neg (by omega), if_neg (by omega), if_neg (by omega)], ⟨⟨_, _, _, _, W, hc, N, H, SL, IR, IK, IG⟩, cfr o_r (by decide)⟩⟩
set_option maxHeartbeats 4000000 in
set_option maxRecDepth 100000 in
theorem c_X5_stepValue (K : hKv) (M : hM) {A : Nat → Nat} {σ : hSt} (X : cX K A σ M) (ho : okS σ) (a w : Int32) : hC K Y_X5_stepValue rm_X5_stepValue [.ref (A 36), .int a, .int w] M (hPl fun r M' => r = sp_stepValue σ a w ∧ cP K A M σ M') := by
  refine hC.of [some (.ref (A 36)), some (.int a), some (.int w), none] (by decide) (Nat.le_of_ble_eq_true rfl) rfl rfl ?_
  intro E C Rt
  have C : hCx E K cX5_stepValue 4 RX5 "stepValue" rm_X5_stepValue := C
  obtain ⟨z, pd, sl, h, W, hc, N, H, SL, IR, IK, IG⟩ := X
  have N0 := N
  obtain ⟨n1, n2, n3, f_n, g_n, q_n, n0, s1, s2, s3, e1, e2, e3, e4⟩ := N0
  obtain ⟨zk, Gk, WK⟩ := IK
  have IK : cIK K A M := ⟨_, _, WK⟩
  refine x_aload_0 1 C dX5_stepValue_0 rfl ?_
  refine xOg_now 4 C wf_X5_10 W.obj dX5_stepValue_1 rfl ?_
  refine x_iload_1 5 C dX5_stepValue_4 rfl ?_
  refine x_callV 8 C (c_X4_formula K _ n0 s3 a) n0 wcl_X4 hy_X4_formula wv_X4_formula we_X4_formula lk_X5_120 dX5_stepValue_5 rfl ⟨Nat.le_of_ble_eq_true rfl, Nat.le_of_ble_eq_true rfl⟩ ⟨Nat.le_of_ble_eq_true rfl, Nat.le_of_ble_eq_true rfl⟩ (Nat.le_of_ble_eq_true rfl) rfl (k_0 rfl rfl (k_qp ?_))
  rcases fo_F ho.1 e4 a with ⟨hq, hnF⟩ | ⟨y, j, b, fb, hq, hF, hj, rfl, hgf, hw, hY, hb, hbf⟩
  · rw [hq]
    refine x_qstore_3 9 C dX5_stepValue_8 rfl rfl ?_
    refine x_qload_3 10 C dX5_stepValue_9 rfl ?_
    refine x_ifnull 13 30 C dX5_stepValue_10 rfl rfl (fun c_10 => ?_) ((fun _ z => by cases z))
    refine x_ldc2 (v := (-1)) 33 C dX5_stepValue_30 rfl wq_X5_69 ?_
    refine x_lreturn C Rt dX5_stepValue_33 ⟨Nat.le_of_ble_eq_true rfl, Nat.le_of_ble_eq_true rfl⟩ ?_
    exact ⟨_, rfl, by rw [sp_stepValue, spQ_f (fun q => hnF q.1)], ⟨⟨z, pd, sl, h, W, hc, N, H, SL, IR, IK, IG⟩, hFr.rf⟩⟩
  · rw [hq]
    have hrf : rF σ.1 (nI j) = rkR σ.1 (σ.1.2.2.2 j) := by unfold rF; rw [hgf]
    obtain ⟨k1, k2, k3⟩ := rk_len (τ := σ.1) (σ.1.2.2.2 j) [] []
    simp only [List.length_nil, Nat.zero_add] at k1 k2
    have k1 : (rkR σ.1 (σ.1.2.2.2 j)).1.length ≤ (σ.1.2.2.2 j).length := k1
    have k2 : (rkR σ.1 (σ.1.2.2.2 j)).2 = 0 → (rkR σ.1 (σ.1.2.2.2 j)).1.length = (σ.1.2.2.2 j).length := k2
    have k3 : (rkR σ.1 (σ.1.2.2.2 j)).2 ≤ 2 := k3
    have hl60 := hw.2.2
    have hpos : 1 ≤ (σ.1.2.2.2 j).length := by
      rcases Nat.eq_zero_or_pos (σ.1.2.2.2 j).length with q | q
      · exact absurd (List.length_eq_zero_iff.mp q) (wfF_ne hw)
      · exact q
    refine x_top (v' := .ref y) rfl ?_
    refine x_astore_3 9 C dX5_stepValue_8 rfl rfl ?_
    refine x_aload_3 10 C dX5_stepValue_9 rfl ?_
    refine x_top (v' := va_rf (some y)) rfl ?_
    refine x_ifnull 13 30 C dX5_stepValue_10 rfl rfl ((fun z => by cases z)) (fun y_10 c_10 => ?_)
    refine x_iload_2 14 C dX5_stepValue_13 rfl ?_
    refine x_i2l 15 C dX5_stepValue_14 rfl ?_
    refine x_lconst (v := 0) 16 C dX5_stepValue_15 rfl rfl ?_
    refine x_aload_3 17 C dX5_stepValue_16 rfl ?_
    refine xg_X0_steps 20 C wf_X5_119 hY dX5_stepValue_17 rfl ?_
    refine x_alenI 21 C hb dX5_stepValue_20 rfl ?_
    refine x_iconst (v := 1) 22 C dX5_stepValue_21 rfl rfl ?_
    refine x_isub 23 C dX5_stepValue_22 rfl ?_
    refine x_topi (v' := nI ((σ.1.2.2.2 j).length - 1)) (pk_sub (a := (σ.1.2.2.2 j).length) (b := 1) hpos) ?_
    refine x_i2l 24 C dX5_stepValue_23 rfl ?_
    refine x_topl (nI_l (by omega)) ?_
    refine x_callS 27 C (c_X5_within K _ _ _ _) hy_X5_within ws_X5_within lk_X5_48 dX5_stepValue_24 rfl ⟨Nat.le_of_ble_eq_true rfl, Nat.le_of_ble_eq_true rfl⟩ ⟨Nat.le_of_ble_eq_true rfl, Nat.le_of_ble_eq_true rfl⟩ (Nat.le_of_ble_eq_true rfl) rfl (k_0 rfl rfl (k_ip ?_))
    have hrg : ((0 : Int64).toInt ≤ w.toInt64.toInt ∧ w.toInt64.toInt ≤ (lN ((σ.1.2.2.2 j).length - 1)).toInt) ↔ (0 ≤ w.toInt ∧ w.toInt ≤ ((gF σ.1 (nI j)).length : Int) - 1) := by
      rw [hgf, lN_toI (by omega), tl_0, Int32.toInt_toInt64]; omega
    refine x_if_ne 30 34 C dX5_stepValue_27 rfl rfl (fun c_27 => ?_) (fun c_27 => ?_)
    · have hin := hrg.mp (hB_n0p.mp c_27)
      obtain ⟨s, hs, rfl⟩ : ∃ s, s < (σ.1.2.2.2 j).length ∧ w = nI s := ⟨w.toInt.toNat, by rw [hgf] at hin; omega, nI_ofInt hin.1⟩
      refine x_aload_0 35 C dX5_stepValue_34 rfl ?_
      refine xOg_reckoner 38 C wf_X5_37 W.obj dX5_stepValue_35 rfl ?_
      refine x_aload_3 39 C dX5_stepValue_38 rfl ?_
      refine x_aload_0 40 C dX5_stepValue_39 rfl ?_
      refine xOg_now 43 C wf_X5_10 W.obj dX5_stepValue_40 rfl ?_
      refine x_callV 46 C (c_X3_reckon K _ WK ho.1 hw hY hb hbf n0 s1 s2 e1 e3 (Or.inl (by decide)) (Or.inl (by decide)) (Or.inl (by decide))) WK.obj wcl_X3 hy_X3_reckon wv_X3_reckon we_X3_reckon lk_X5_124 dX5_stepValue_43 rfl ⟨Nat.le_of_ble_eq_true rfl, Nat.le_of_ble_eq_true rfl⟩ ⟨Nat.le_of_ble_eq_true rfl, Nat.le_of_ble_eq_true rfl⟩ (Nat.le_of_ble_eq_true rfl) rfl (k_0 rfl rfl (k_v (fun M_1 h_1 => ?_)))
      obtain ⟨z_k, G_k, WK, o_r, hv, hk1, hk2⟩ := h_1
      have IK : cIK K A M_1 := ⟨_, _, WK⟩
      have W := W.kept o_r (by decide)
      have N := N.kept o_r (by decide) (by decide)
      have H := H.kept o_r (by decide) (by decide)
      have SL := SL.kept o_r (by decide) (by decide)
      have IR := IR.kept o_r (by decide)
      have IG := IG.kept o_r (by decide)
      have hY := o_r _ _ _ (Or.inl (by decide)) hY
      have hb := o_r _ _ _ (Or.inl (by decide)) hb
      refine x_iload_2 47 C dX5_stepValue_46 rfl ?_
      refine x_aload_0 48 C dX5_stepValue_47 rfl ?_
      refine xOg_reckoner 51 C wf_X5_37 W.obj dX5_stepValue_48 rfl ?_
      refine kOg_reached 54 C wf_X5_143 WK.obj dX5_stepValue_51 rfl ?_
      refine x_topi hk1 ?_
      refine x_icmp_ge 57 68 C dX5_stepValue_54 rfl rfl (fun c_54 => ?_) (fun c_54 => ?_)
      · refine x_ldc2 (v := (-5)) 71 C dX5_stepValue_68 rfl wq_X5_131 ?_
        refine x_lreturn C Rt dX5_stepValue_71 ⟨Nat.le_of_ble_eq_true rfl, Nat.le_of_ble_eq_true rfl⟩ ?_
        have hge : ¬ s < (rkR σ.1 (σ.1.2.2.2 j)).1.length := by have := (nI_leI (by omega) (by omega)).mp c_54; omega
        exact ⟨_, rfl, by rw [sp_stepValue, spQ_t ⟨hF, hin⟩, hrf, nI_toN (by omega), if_neg hge], ⟨⟨_, _, _, _, W, hc, N, H, SL, IR, IK, IG⟩, ((cfr o_r (by decide)))⟩⟩
      · have hlt : s < (rkR σ.1 (σ.1.2.2.2 j)).1.length := Nat.not_le.mp fun q => c_54 (nI_le q (by omega))
        refine x_aload_0 58 C dX5_stepValue_57 rfl ?_
        refine xOg_reckoner 61 C wf_X5_37 W.obj dX5_stepValue_58 rfl ?_
        refine x_iload_2 62 C dX5_stepValue_61 rfl ?_
        refine x_callV 65 C (c_X3_valueOf K _ WK s (by omega)) WK.obj wcl_X3 hy_X3_valueOf wv_X3_valueOf we_X3_valueOf lk_X5_149 dX5_stepValue_62 rfl ⟨Nat.le_of_ble_eq_true rfl, Nat.le_of_ble_eq_true rfl⟩ ⟨Nat.le_of_ble_eq_true rfl, Nat.le_of_ble_eq_true rfl⟩ (Nat.le_of_ble_eq_true rfl) rfl (k_0 rfl rfl (k_lp ?_))
        refine x_topl (hv s hlt) ?_
        refine x_goto 71 C dX5_stepValue_65 rfl ?_
        refine x_lreturn C Rt dX5_stepValue_71 ⟨Nat.le_of_ble_eq_true rfl, Nat.le_of_ble_eq_true rfl⟩ ?_
        exact ⟨_, rfl, by rw [sp_stepValue, spQ_t ⟨hF, hin⟩, hrf, nI_toN (by omega), if_pos hlt], ⟨⟨_, _, _, _, W, hc, N, H, SL, IR, IK, IG⟩, ((cfr o_r (by decide)))⟩⟩
    · refine x_ldc2 (v := (-1)) 33 C dX5_stepValue_30 rfl wq_X5_69 ?_
      refine x_lreturn C Rt dX5_stepValue_33 ⟨Nat.le_of_ble_eq_true rfl, Nat.le_of_ble_eq_true rfl⟩ ?_
      exact ⟨_, rfl, by rw [sp_stepValue, spQ_f (fun q => hB_0p.mp c_27 (hrg.mpr q.2))], ⟨⟨z, pd, sl, h, W, hc, N, H, SL, IR, IK, IG⟩, hFr.rf⟩⟩
set_option maxHeartbeats 4000000 in
set_option maxRecDepth 100000 in
theorem c_X5_settle (K : hKv) (M : hM) {A : Nat → Nat} {σ : hSt} (X : cX K A σ M) (ho : okS σ) (a w t : Int32) : hC K Y_X5_settle rm_X5_settle [.ref (A 36), .int a, .int w, .int t] M (hPi fun r M' => r = (sp_settle σ a w t).1 ∧ cP K A M (sp_settle σ a w t).2 M') := by
  refine hC.of [some (.ref (A 36)), some (.int a), some (.int w), some (.int t), none, none] (by decide) (Nat.le_of_ble_eq_true rfl) rfl rfl ?_
  intro E C Rt
  have C : hCx E K cX5_settle 6 RX5 "settle" rm_X5_settle := C
  obtain ⟨z, pd, sl, h, W, hc, N, H, SL, IR, IK, IG⟩ := X
  have N0 := N
  obtain ⟨n1, n2, n3, f_n, g_n, q_n, n0, s1, s2, s3, e1, e2, e3, e4⟩ := N0
  obtain ⟨zk, Gk, WK⟩ := IK
  have IK : cIK K A M := ⟨_, _, WK⟩
  obtain ⟨M0, hM0⟩ : ∃ M0 : hM, M0 = M := ⟨_, rfl⟩
  rw [← hM0] at Rt
  have lp : ∀ (i tt : Nat) (L : List (Nat × Nat)) (y b : Nat) (fb : Nat → Int32) (bb : Int32) (z2 : Nat → Int32) (h2 : Nat → hS1) (fin : ∀ (c : Nat) (τ : hS1) (M : hM), stl i L tt σ.1 = (c, τ) → cX K A (recd σ τ) M → hFr 1 100 M0 M → hPi (fun r M' => r = (sp_settle σ a w t).1 ∧ cP K A M0 (sp_settle σ a w t).2 M') (some (.int (nI c))) M), i < 8 → tt ≤ 100 → wfF L → (∀ k, k < L.length → fb k = nI (cdS (L.getD k (0, 0)))) → cRl z2 pd h2 (recd σ σ.1) → ∀ (d n : Nat), n + d = tt → ∀ (τ : hS1) (M : hM), ok1 τ → stl i L tt σ.1 = (n + (stl i L d τ).1, (stl i L d τ).2) → cW K A z2 pd sl M → stW K M 9 (A 0) τ → cH K A M h2 → cSl K M sl σ.2.2.1 → cIR K A M → cIK K A M → cIG A M → M y = some (0, eO 0 [.ref b]) → M b = some (0, eI K L.length fb) → hFr 1 100 M0 M → hX E 0 0 51 [some (.ref (A 36)), some (.int (nI i)), some (.int bb), some (.int (nI tt)), some (.ref y), some (.int (nI n))] [] M := by
    intro i tt L y b fb bb z2 h2 fin hi ht hw hbf hc2 d
    have hl60 := hw.2.2
    have hpos : 1 ≤ L.length := by
      rcases Nat.eq_zero_or_pos L.length with q | q
      · exact absurd (List.length_eq_zero_iff.mp q) (wfF_ne hw)
      · exact q
    induction d with
    | zero =>
      intro n hn τ M okτ hs W N H SL IR IK IG hY hb fr
      have hn : n = tt := by omega
      subst hn
      refine x_iload_5 53 C dX5_settle_51 rfl ?_
      refine x_iload_3 54 C dX5_settle_53 rfl ?_
      refine x_icmp_ge 57 128 C dX5_settle_54 rfl rfl (fun _ => ?_) (fun z => absurd (nI_le (Nat.le_refl _) (by omega)) z)
      refine x_iload_3 129 C dX5_settle_128 rfl ?_
      refine x_ireturn C Rt dX5_settle_129 rfl ⟨Nat.le_of_ble_eq_true rfl, Nat.le_of_ble_eq_true rfl⟩ ?_
      exact fin n τ _ hs ⟨_, _, _, _, W, hc2, N, H, SL, IR, IK, IG⟩ fr
    | succ d ih =>
      intro n hn τ M okτ hs W N H SL IR IK IG hY hb fr
      obtain ⟨zk, Gk, WK⟩ := IK
      have IK : cIK K A M := ⟨_, _, WK⟩
      have N0 := N
      obtain ⟨n1, n2, n3, f_n, g_n, q_n, n0, s1, s2, s3, e1, e2, e3, e4⟩ := N0
      obtain ⟨k1, k2, k3⟩ := rk_len (τ := τ) L [] []
      simp only [List.length_nil, Nat.zero_add] at k1 k2
      have k1 : (rkR τ L).1.length ≤ L.length := k1
      have k2 : (rkR τ L).2 = 0 → (rkR τ L).1.length = L.length := k2
      have k3 : (rkR τ L).2 ≤ 2 := k3
      have hlv := lastV_bd (τ := τ) (L := L)
      have hci := okτ.2.2.1 i hi
      have hLG : LG = 1000000000000 := rfl
      refine x_iload_5 53 C dX5_settle_51 rfl ?_
      refine x_iload_3 54 C dX5_settle_53 rfl ?_
      refine x_icmp_ge 57 128 C dX5_settle_54 rfl rfl (fun z => absurd z (nI_ge (by omega) (by omega))) (fun _ => ?_)
      refine x_aload_0 58 C dX5_settle_57 rfl ?_
      refine xOg_reckoner 61 C wf_X5_37 W.obj dX5_settle_58 rfl ?_
      refine x_aload_4 63 C dX5_settle_61 rfl ?_
      refine x_aload_0 64 C dX5_settle_63 rfl ?_
      refine xOg_now 67 C wf_X5_10 W.obj dX5_settle_64 rfl ?_
      refine x_callV 70 C (c_X3_reckon K _ WK okτ hw hY hb hbf n0 s1 s2 e1 e3 (Or.inl (by decide)) (Or.inl (by decide)) (Or.inl (by decide))) WK.obj wcl_X3 hy_X3_reckon wv_X3_reckon we_X3_reckon lk_X5_124 dX5_settle_67 rfl ⟨Nat.le_of_ble_eq_true rfl, Nat.le_of_ble_eq_true rfl⟩ ⟨Nat.le_of_ble_eq_true rfl, Nat.le_of_ble_eq_true rfl⟩ (Nat.le_of_ble_eq_true rfl) rfl (k_0 rfl rfl (k_v (fun M_1 h_1 => ?_)))
      obtain ⟨z_k, G_k, WK, o_r, hv, hk1, hk2⟩ := h_1
      have IK : cIK K A M_1 := ⟨_, _, WK⟩
      have W := W.kept o_r (by decide)
      have N := N.kept o_r (by decide) (by decide)
      have H := H.kept o_r (by decide) (by decide)
      have SL := SL.kept o_r (by decide) (by decide)
      have IR := IR.kept o_r (by decide)
      have IG := IG.kept o_r (by decide)
      have hY := o_r _ _ _ (Or.inl (by decide)) hY
      have hb := o_r _ _ _ (Or.inl (by decide)) hb
      have N0 := N
      obtain ⟨n1, n2, n3, f_n, g_n, q_n, n0, s1, s2, s3, e1, e2, e3, e4⟩ := N0
      refine x_aload_0 71 C dX5_settle_70 rfl ?_
      refine xOg_reckoner 74 C wf_X5_37 W.obj dX5_settle_71 rfl ?_
      refine kOg_reason 77 C wf_X5_128 WK.obj dX5_settle_74 rfl ?_
      refine x_topi hk2 ?_
      refine x_if_eq 80 83 C dX5_settle_77 rfl rfl (fun c_77 => ?_) (fun c_77 => ?_)
      · have hR : (rkR τ L).2 = 0 := (nI_eq (b := 0) (by omega) (by decide)).mp (by first | exact c_77 | exact Decidable.not_not.mp c_77)
        have k2 := k2 hR
        refine x_aload_0 84 C dX5_settle_83 rfl ?_
        refine xOg_reckoner 87 C wf_X5_37 W.obj dX5_settle_84 rfl ?_
        refine x_callV 90 C (c_X3_result K _ WK ((rkR τ L).1.length - 1) (by rw [hk1]; congr 1; omega) (by omega)) WK.obj wcl_X3 hy_X3_result wv_X3_result we_X3_result lk_X5_133 dX5_settle_87 rfl ⟨Nat.le_of_ble_eq_true rfl, Nat.le_of_ble_eq_true rfl⟩ ⟨Nat.le_of_ble_eq_true rfl, Nat.le_of_ble_eq_true rfl⟩ (Nat.le_of_ble_eq_true rfl) rfl (k_0 rfl rfl (k_lp ?_))
        refine x_topl (v' := lN (lastV (rkR τ L))) (hv _ (by omega)) ?_
        refine x_aload_0 91 C dX5_settle_90 rfl ?_
        refine xOg_now 94 C wf_X5_10 W.obj dX5_settle_91 rfl ?_
        refine x_iload_1 95 C dX5_settle_94 rfl ?_
        refine x_callV 98 C (c_X4_cellValue K _ n0 s2 i hi) n0 wcl_X4 hy_X4_cellValue wv_X4_cellValue we_X4_cellValue lk_X5_75 dX5_settle_95 rfl ⟨Nat.le_of_ble_eq_true rfl, Nat.le_of_ble_eq_true rfl⟩ ⟨Nat.le_of_ble_eq_true rfl, Nat.le_of_ble_eq_true rfl⟩ (Nat.le_of_ble_eq_true rfl) rfl (k_0 rfl rfl (k_lp ?_))
        refine x_topl (e3 i hi) ?_
        refine x_lc_ne 102 107 C dX5_settle_98 dX5_settle_99 rfl rfl (fun c_98 => ?_) (fun c_98 => ?_)
        · have h1 : ¬ lastV (rkR τ L) = τ.2.2.1 i := fun q => c_98 (by rw [q])
          refine x_aload_0 108 C dX5_settle_107 rfl ?_
          refine xOg_now 111 C wf_X5_10 W.obj dX5_settle_108 rfl ?_
          refine x_iload_1 112 C dX5_settle_111 rfl ?_
          refine x_aload_0 113 C dX5_settle_112 rfl ?_
          refine xOg_reckoner 116 C wf_X5_37 W.obj dX5_settle_113 rfl ?_
          refine x_callV 119 C (c_X3_result K _ WK ((rkR τ L).1.length - 1) (by rw [hk1]; congr 1; omega) (by omega)) WK.obj wcl_X3 hy_X3_result wv_X3_result we_X3_result lk_X5_133 dX5_settle_116 rfl ⟨Nat.le_of_ble_eq_true rfl, Nat.le_of_ble_eq_true rfl⟩ ⟨Nat.le_of_ble_eq_true rfl, Nat.le_of_ble_eq_true rfl⟩ (Nat.le_of_ble_eq_true rfl) rfl (k_0 rfl rfl (k_lp ?_))
          refine x_topl (v' := lN (lastV (rkR τ L))) (hv _ (by omega)) ?_
          refine x_callV 122 C (c_X4_changeCell K _ n0 s2 i hi _) n0 wcl_X4 hy_X4_changeCell wv_X4_changeCell we_X4_changeCell lk_X5_79 dX5_settle_119 rfl ⟨Nat.le_of_ble_eq_true rfl, Nat.le_of_ble_eq_true rfl⟩ ⟨Nat.le_of_ble_eq_true rfl, Nat.le_of_ble_eq_true rfl⟩ (Nat.le_of_ble_eq_true rfl) rfl (k_0 rfl rfl (k_v (fun M_2 h_2 => ?_)))
          subst h_2
          obtain ⟨N, o_s⟩ := stO.cel ⟨n0, s1, s2, s3, e1, e2, e3, e4⟩ (by decide) i (lastV (rkR τ L))
          have W := W.kept o_s (by decide)
          have H := H.kept o_s (by decide) (by decide)
          have SL := SL.kept o_s (by decide) (by decide)
          have IR := IR.kept o_s (by decide)
          have IK := IK.kept o_s (by decide)
          have IG := IG.kept o_s (by decide)
          have hY := o_s _ _ _ (Or.inl (by decide)) hY
          have hb := o_s _ _ _ (Or.inl (by decide)) hb
          refine x_iinc_5 125 C dX5_settle_122 rfl rfl (nI_inc _) ?_
          refine x_goto 51 C dX5_settle_125 rfl ?_
          exact ih (n + 1) (by omega) _ _ (ok1_cell okτ hlv) (by rw [hs, stl_n hR h1]; exact Prod.ext (by show n + (_ + 1) = n + 1 + _; omega) rfl) W N H SL IR IK IG hY hb (fr.tr (((cfr o_r (by decide))).tr (cfr o_s (by decide))))
        · refine x_iload_5 104 C dX5_settle_102 rfl ?_
          refine x_iconst (v := 1) 105 C dX5_settle_104 rfl rfl ?_
          refine x_iadd 106 C dX5_settle_105 rfl ?_
          refine x_topi (nI_1 _) ?_
          refine x_ireturn C Rt dX5_settle_106 rfl ⟨Nat.le_of_ble_eq_true rfl, Nat.le_of_ble_eq_true rfl⟩ ?_
          have h1 : lastV (rkR τ L) = τ.2.2.1 i := (lN_eq' (by omega) (by omega)).mp (by first | exact c_98 | exact Decidable.not_not.mp c_98)
          exact fin (n + 1) τ _ (by rw [hs, stl_1 hR h1]) ⟨_, _, _, _, W, hc2, N, H, SL, IR, IK, IG⟩ (fr.tr ((cfr o_r (by decide))))
      · refine x_iload_5 82 C dX5_settle_80 rfl ?_
        refine x_ireturn C Rt dX5_settle_82 rfl ⟨Nat.le_of_ble_eq_true rfl, Nat.le_of_ble_eq_true rfl⟩ ?_
        have hR : ¬ (rkR τ L).2 = 0 := fun q => c_77 (by rw [q]; rfl)
        exact fin n τ _ (by rw [hs, stl_0 hR]; rfl) ⟨_, _, _, _, W, hc2, N, H, SL, IR, IK, IG⟩ (fr.tr ((cfr o_r (by decide))))
  refine x_aload_0 1 C dX5_settle_0 rfl ?_
  refine xOg_now 4 C wf_X5_10 W.obj dX5_settle_1 rfl ?_
  refine x_iload_2 5 C dX5_settle_4 rfl ?_
  refine x_callV 8 C (c_X4_formula K _ n0 s3 w) n0 wcl_X4 hy_X4_formula wv_X4_formula we_X4_formula lk_X5_120 dX5_settle_5 rfl ⟨Nat.le_of_ble_eq_true rfl, Nat.le_of_ble_eq_true rfl⟩ ⟨Nat.le_of_ble_eq_true rfl, Nat.le_of_ble_eq_true rfl⟩ (Nat.le_of_ble_eq_true rfl) rfl (k_0 rfl rfl (k_qp ?_))
  rcases fo_F ho.1 e4 w with ⟨hq, hnF⟩ | ⟨y, j, b, fb, hq, hF, hj, rfl, hgf, hw, hY, hb, hbf⟩
  · rw [hq]
    refine x_qstore_4 10 C dX5_settle_8 rfl rfl ?_
    refine x_iload_1 11 C dX5_settle_10 rfl ?_
    refine x_i2l 12 C dX5_settle_11 rfl ?_
    refine x_lconst (v := 0) 13 C dX5_settle_12 rfl rfl ?_
    refine x_ldc2 (v := 7) 16 C dX5_settle_13 rfl wq_X5_67 ?_
    refine x_callS 19 C (c_X5_within K _ _ _ _) hy_X5_within ws_X5_within lk_X5_48 dX5_settle_16 rfl ⟨Nat.le_of_ble_eq_true rfl, Nat.le_of_ble_eq_true rfl⟩ ⟨Nat.le_of_ble_eq_true rfl, Nat.le_of_ble_eq_true rfl⟩ (Nat.le_of_ble_eq_true rfl) rfl (k_0 rfl rfl (k_ip ?_))
    refine x_if_eq 22 27 C dX5_settle_19 rfl rfl (fun c_19 => ?_) (fun c_19 => ?_)
    · refine x_iconst (v := (-1)) 28 C dX5_settle_27 rfl rfl ?_
      refine x_ireturn C Rt dX5_settle_28 rfl ⟨Nat.le_of_ble_eq_true rfl, Nat.le_of_ble_eq_true rfl⟩ ?_
      have hn : ¬ ((0 ≤ a.toInt ∧ a.toInt ≤ 7) ∧ isF σ.1 w) := fun q => hnF q.2
      exact ⟨_, rfl, by rw [sp_settle, spQ_f hn], by rw [sp_settle, spQ_f hn]; exact ⟨⟨z, pd, sl, h, W, hc, N, H, SL, IR, IK, IG⟩, (by rw [hM0]; exact hFr.rf)⟩⟩
    · refine x_qload_4 24 C dX5_settle_22 rfl ?_
      refine x_ifnonnull 27 29 C dX5_settle_24 rfl rfl ((fun _ z => by cases z)) (fun c_24 => ?_)
      refine x_iconst (v := (-1)) 28 C dX5_settle_27 rfl rfl ?_
      refine x_ireturn C Rt dX5_settle_28 rfl ⟨Nat.le_of_ble_eq_true rfl, Nat.le_of_ble_eq_true rfl⟩ ?_
      have hn : ¬ ((0 ≤ a.toInt ∧ a.toInt ≤ 7) ∧ isF σ.1 w) := fun q => hnF q.2
      exact ⟨_, rfl, by rw [sp_settle, spQ_f hn], by rw [sp_settle, spQ_f hn]; exact ⟨⟨z, pd, sl, h, W, hc, N, H, SL, IR, IK, IG⟩, (by rw [hM0]; exact hFr.rf)⟩⟩
  · rw [hq]
    have hrf : rF σ.1 (nI j) = rkR σ.1 (σ.1.2.2.2 j) := by unfold rF; rw [hgf]
    obtain ⟨k1, k2, k3⟩ := rk_len (τ := σ.1) (σ.1.2.2.2 j) [] []
    simp only [List.length_nil, Nat.zero_add] at k1 k2
    have k1 : (rkR σ.1 (σ.1.2.2.2 j)).1.length ≤ (σ.1.2.2.2 j).length := k1
    have k2 : (rkR σ.1 (σ.1.2.2.2 j)).2 = 0 → (rkR σ.1 (σ.1.2.2.2 j)).1.length = (σ.1.2.2.2 j).length := k2
    have k3 : (rkR σ.1 (σ.1.2.2.2 j)).2 ≤ 2 := k3
    have hl60 := hw.2.2
    have hpos : 1 ≤ (σ.1.2.2.2 j).length := by
      rcases Nat.eq_zero_or_pos (σ.1.2.2.2 j).length with q | q
      · exact absurd (List.length_eq_zero_iff.mp q) (wfF_ne hw)
      · exact q
    refine x_top (v' := .ref y) rfl ?_
    refine x_astore_4 10 C dX5_settle_8 rfl rfl ?_
    refine x_iload_1 11 C dX5_settle_10 rfl ?_
    refine x_i2l 12 C dX5_settle_11 rfl ?_
    refine x_lconst (v := 0) 13 C dX5_settle_12 rfl rfl ?_
    refine x_ldc2 (v := 7) 16 C dX5_settle_13 rfl wq_X5_67 ?_
    refine x_callS 19 C (c_X5_within K _ _ _ _) hy_X5_within ws_X5_within lk_X5_48 dX5_settle_16 rfl ⟨Nat.le_of_ble_eq_true rfl, Nat.le_of_ble_eq_true rfl⟩ ⟨Nat.le_of_ble_eq_true rfl, Nat.le_of_ble_eq_true rfl⟩ (Nat.le_of_ble_eq_true rfl) rfl (k_0 rfl rfl (k_ip ?_))
    refine x_if_eq 22 27 C dX5_settle_19 rfl rfl (fun c_19 => ?_) (fun c_19 => ?_)
    · refine x_iconst (v := (-1)) 28 C dX5_settle_27 rfl rfl ?_
      refine x_ireturn C Rt dX5_settle_28 rfl ⟨Nat.le_of_ble_eq_true rfl, Nat.le_of_ble_eq_true rfl⟩ ?_
      simp only [Classical.not_not, hB_0p, hB_n0p, Int32.toInt_toInt64, tl_LG, ti_m1, Int32.lt_iff_toInt_lt, Int32.le_iff_toInt_le, Int64.lt_iff_toInt_lt, Int64.le_iff_toInt_le, tl_0, ti_0, tl_1, ti_1, tl_2, ti_2, tl_3, ti_3, tl_4, ti_4, tl_5, ti_5, tl_6, ti_6, tl_7, ti_7, tl_8, ti_8, tl_9, ti_9, tl_10, ti_10, tl_33, ti_33, tl_60, ti_60, tl_100, ti_100, tl_126, ti_126, tl_255, ti_255, tl_500, ti_500, tl_9999, ti_9999, tl_10000, ti_10000, tl_100000, ti_100000, tl_1000000, ti_1000000, tl_1000000000, ti_1000000000] at c_19
      have hn : ¬ ((0 ≤ a.toInt ∧ a.toInt ≤ 7) ∧ isF σ.1 (nI j)) := fun q => by omega
      exact ⟨_, rfl, by rw [sp_settle, spQ_f hn], by rw [sp_settle, spQ_f hn]; exact ⟨⟨z, pd, sl, h, W, hc, N, H, SL, IR, IK, IG⟩, (by rw [hM0]; exact hFr.rf)⟩⟩
    · refine x_aload_4 24 C dX5_settle_22 rfl ?_
      refine x_top (v' := va_rf (some y)) rfl ?_
      refine x_ifnonnull 27 29 C dX5_settle_24 rfl rfl (fun y_24 c_24 => ?_) ((fun z => by cases z))
      simp only [Classical.not_not, hB_0p, hB_n0p, Int32.toInt_toInt64, tl_LG, ti_m1, Int32.lt_iff_toInt_lt, Int32.le_iff_toInt_le, Int64.lt_iff_toInt_lt, Int64.le_iff_toInt_le, tl_0, ti_0, tl_1, ti_1, tl_2, ti_2, tl_3, ti_3, tl_4, ti_4, tl_5, ti_5, tl_6, ti_6, tl_7, ti_7, tl_8, ti_8, tl_9, ti_9, tl_10, ti_10, tl_33, ti_33, tl_60, ti_60, tl_100, ti_100, tl_126, ti_126, tl_255, ti_255, tl_500, ti_500, tl_9999, ti_9999, tl_10000, ti_10000, tl_100000, ti_100000, tl_1000000, ti_1000000, tl_1000000000, ti_1000000000] at c_19
      obtain ⟨i, hi, rfl⟩ := in_nI (b := 7) c_19
      refine x_iload_3 30 C dX5_settle_29 rfl ?_
      refine x_i2l 31 C dX5_settle_30 rfl ?_
      refine x_lconst (v := 1) 32 C dX5_settle_31 rfl rfl ?_
      refine x_ldc2 (v := 100) 35 C dX5_settle_32 rfl wq_X5_137 ?_
      refine x_callS 38 C (c_X5_within K _ _ _ _) hy_X5_within ws_X5_within lk_X5_48 dX5_settle_35 rfl ⟨Nat.le_of_ble_eq_true rfl, Nat.le_of_ble_eq_true rfl⟩ ⟨Nat.le_of_ble_eq_true rfl, Nat.le_of_ble_eq_true rfl⟩ (Nat.le_of_ble_eq_true rfl) rfl (k_0 rfl rfl (k_ip ?_))
      refine x_if_ne 41 44 C dX5_settle_38 rfl rfl (fun c_38 => ?_) (fun c_38 => ?_)
      · simp only [Classical.not_not, hB_0p, hB_n0p, Int32.toInt_toInt64, tl_LG, ti_m1, Int32.lt_iff_toInt_lt, Int32.le_iff_toInt_le, Int64.lt_iff_toInt_lt, Int64.le_iff_toInt_le, tl_0, ti_0, tl_1, ti_1, tl_2, ti_2, tl_3, ti_3, tl_4, ti_4, tl_5, ti_5, tl_6, ti_6, tl_7, ti_7, tl_8, ti_8, tl_9, ti_9, tl_10, ti_10, tl_33, ti_33, tl_60, ti_60, tl_100, ti_100, tl_126, ti_126, tl_255, ti_255, tl_500, ti_500, tl_9999, ti_9999, tl_10000, ti_10000, tl_100000, ti_100000, tl_1000000, ti_1000000, tl_1000000000, ti_1000000000] at c_38
        obtain ⟨tt, ht, rfl⟩ := in_nI (b := 100) (x := t) ⟨by omega, c_38.2⟩
        refine x_aload_0 45 C dX5_settle_44 rfl ?_
        refine x_callV 48 C (c_X5_keepState K _ W hc N H ho.2.1) W.obj wcl_X5 hy_X5_keepState wv_X5_keepState we_X5_keepState lk_X5_56 dX5_settle_45 rfl ⟨Nat.le_of_ble_eq_true rfl, Nat.le_of_ble_eq_true rfl⟩ ⟨Nat.le_of_ble_eq_true rfl, Nat.le_of_ble_eq_true rfl⟩ (Nat.le_of_ble_eq_true rfl) rfl (k_0 rfl rfl (k_v (fun M_1 h_1 => ?_)))
        obtain ⟨z_2, h_2, W, hc2, H, o_q⟩ := h_1
        have N := N.kept o_q (by decide) (by decide)
        have SL := SL.kept o_q (by decide) (by decide)
        have IR := IR.kept o_q (by decide)
        have IK := IK.kept o_q (by decide)
        have IG := IG.kept o_q (by decide)
        refine x_iconst (v := 0) 49 C dX5_settle_48 rfl rfl ?_
        refine x_istore_5 51 C dX5_settle_49 rfl rfl ?_
        refine lp i tt (σ.1.2.2.2 j) y b fb (nI j) z_2 h_2 (fun c τ M2 hst X2 fr2 => ?_) (by omega) ht hw hbf hc2 tt 0 (Nat.zero_add _) σ.1 _ ho.1 (by rw [Nat.zero_add]) W N H SL IR IK IG (o_q _ _ _ (Or.inl (by decide)) hY) (o_q _ _ _ (Or.inl (by decide)) hb) (by rw [hM0]; exact ((cfr o_q (by decide))))
        have hsp : sp_settle σ (nI i) (nI j) (nI tt) = (nI c, recd σ τ) := by rw [sp_settle, spQ_t ⟨c_19, hF⟩, spQ_t c_38, nI_toN (by omega), nI_toN (by omega), hgf, hst]
        exact ⟨_, rfl, by rw [hsp], by rw [hsp]; exact ⟨X2, fr2⟩⟩
      · refine x_bipush (v := (-2)) 43 C dX5_settle_41 rfl rfl ?_
        refine x_ireturn C Rt dX5_settle_43 rfl ⟨Nat.le_of_ble_eq_true rfl, Nat.le_of_ble_eq_true rfl⟩ ?_
        simp only [Classical.not_not, hB_0p, hB_n0p, Int32.toInt_toInt64, tl_LG, ti_m1, Int32.lt_iff_toInt_lt, Int32.le_iff_toInt_le, Int64.lt_iff_toInt_lt, Int64.le_iff_toInt_le, tl_0, ti_0, tl_1, ti_1, tl_2, ti_2, tl_3, ti_3, tl_4, ti_4, tl_5, ti_5, tl_6, ti_6, tl_7, ti_7, tl_8, ti_8, tl_9, ti_9, tl_10, ti_10, tl_33, ti_33, tl_60, ti_60, tl_100, ti_100, tl_126, ti_126, tl_255, ti_255, tl_500, ti_500, tl_9999, ti_9999, tl_10000, ti_10000, tl_100000, ti_100000, tl_1000000, ti_1000000, tl_1000000000, ti_1000000000] at c_38
        have hn : ¬ (1 ≤ t.toInt ∧ t.toInt ≤ 100) := by omega
        exact ⟨_, rfl, by rw [sp_settle, spQ_t ⟨c_19, hF⟩, spQ_f hn], by rw [sp_settle, spQ_t ⟨c_19, hF⟩, spQ_f hn]; exact ⟨⟨z, pd, sl, h, W, hc, N, H, SL, IR, IK, IG⟩, (by rw [hM0]; exact hFr.rf)⟩⟩
