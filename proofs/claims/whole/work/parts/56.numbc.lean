theorem rs_sum : ∀ m : Nat, 6 * rsS (m + 1) = 2 * (m * (m + 1) * (2 * m + 1)) + 3 * (m * (m + 1))
  | 0 => rfl
  | m + 1 => by
    have h := rs_sum m
    rw [rsS]
    have e1 : m * (m + 1) * (2 * m + 1) = 2 * (m * m * m) + 3 * (m * m) + m := by grind
    have e2 : (m + 1) * (m + 1 + 1) * (2 * (m + 1) + 1) = 2 * (m * m * m) + 9 * (m * m) + 13 * m + 6 := by grind
    have e3 : m * (m + 1) = m * m + m := by rw [Nat.mul_add, Nat.mul_one]
    have e4 : (m + 1) * (m + 1 + 1) = m * m + 3 * m + 2 := by
      simp only [Nat.mul_add, Nat.add_mul, Nat.mul_one, Nat.one_mul]
      omega
    have e5 : (m + 1) * (2 * (m + 1) + 1) = 2 * (m * m) + 5 * m + 3 := by
      simp only [Nat.mul_add, Nat.add_mul, Nat.mul_one, Nat.one_mul]
      simp only [Nat.mul_assoc, Nat.mul_comm, Nat.mul_left_comm]
      omega
    rw [e1, e3] at h
    rw [e2, e4, e5]
    omega
theorem rs_val {t : Nat} (ht : t ≤ 31623) : (lN t - 1) * lN t * (2 * lN t - 1) / 3 + (lN t - 1) * lN t / 2 = lN (rsS t) := by
  rcases Nat.eq_zero_or_pos t with h0 | h0
  · subst h0; decide
  obtain ⟨m, rfl⟩ : ∃ m, t = m + 1 := ⟨t - 1, by omega⟩
  have h := rs_sum m
  have b1 := Nat.mul_le_mul (show m ≤ 31623 by omega) ht
  have b2 := Nat.mul_le_mul b1 (show 2 * m + 1 ≤ 70000 by omega)
  have e1 : lN (m + 1) - 1 = lN m := (lN_sub (a := m + 1) (b := 1) (by omega)).trans (by rw [Nat.add_sub_cancel])
  have e2 : 2 * lN (m + 1) - 1 = lN (2 * m + 1) := by
    rw [show (2 : Int64) * lN (m + 1) = lN (2 * (m + 1)) from lN_mul 2 (m + 1)]
    exact (lN_sub (a := 2 * (m + 1)) (b := 1) (by omega)).trans (congrArg lN (by omega))
  rw [e1, e2, lN_mul, lN_mul, show lN (m * (m + 1) * (2 * m + 1)) / 3 = lN (m * (m + 1) * (2 * m + 1) / 3) from pk_lDiv (b := 3) (by omega) (by decide) (by decide), show lN (m * (m + 1)) / 2 = lN (m * (m + 1) / 2) from pk_lDiv (b := 2) (by omega) (by decide) (by decide), lN_add]
  congr 1
  omega
set_option maxHeartbeats 4000000 in
set_option maxRecDepth 100000 in
theorem c_X5_powersBelow (K : hKv) (M : hM) (e : Nat) (he : e ≤ LG + 1) : hC K Y_X5_powersBelow rm_X5_powersBelow [.long (lN e)] M (hPl fun r M' => r = ptI ((e : Int) - 1) ∧ M' = M) := by
  refine hC.of [some (.long (lN e)), none, none, none] (by decide) (Nat.le_of_ble_eq_true rfl) rfl rfl ?_
  intro E C Rt
  have C : hCx E K cX5_powersBelow 4 RX5 "powersBelow" rm_X5_powersBelow := C
  have hLG : LG = 1000000000000 := rfl
  refine x_lload_0 1 C dX5_powersBelow_0 rfl ?_
  refine x_lconst (v := 1) 2 C dX5_powersBelow_1 rfl rfl ?_
  refine x_lc_ge 6 8 C dX5_powersBelow_2 dX5_powersBelow_3 rfl rfl (fun c_2 => ?_) (fun c_2 => ?_)
  · have h1 : 1 ≤ e := (lN_le' (a := 1) (by decide) (by omega)).mp c_2
    have hs : lN e - 1 = lN (e - 1) := lN_sub (b := 1) h1
    refine x_lload_0 9 C dX5_powersBelow_8 rfl ?_
    refine x_lconst (v := 1) 10 C dX5_powersBelow_9 rfl rfl ?_
    refine x_lsub 11 C dX5_powersBelow_10 rfl ?_
    refine x_topl hs ?_
    refine x_iconst (v := 2) 12 C dX5_powersBelow_11 rfl rfl ?_
    refine x_topi (v' := nI 2) rfl ?_
    refine x_callS 15 C (c_X5_rootDown K _ (e - 1) 2 (by decide) (by omega)) hy_X5_rootDown ws_X5_rootDown lk_X5_167 dX5_powersBelow_12 rfl ⟨Nat.le_of_ble_eq_true rfl, Nat.le_of_ble_eq_true rfl⟩ ⟨Nat.le_of_ble_eq_true rfl, Nat.le_of_ble_eq_true rfl⟩ (Nat.le_of_ble_eq_true rfl) rfl (k_0 rfl rfl (k_lp ?_))
    refine x_lstore_2 16 C dX5_powersBelow_15 rfl rfl ?_
    refine x_lload_2 17 C dX5_powersBelow_16 rfl ?_
    refine x_lload_0 18 C dX5_powersBelow_17 rfl ?_
    refine x_lconst (v := 1) 19 C dX5_powersBelow_18 rfl rfl ?_
    refine x_lsub 20 C dX5_powersBelow_19 rfl ?_
    refine x_topl hs ?_
    refine x_iconst (v := 3) 21 C dX5_powersBelow_20 rfl rfl ?_
    refine x_topi (v' := nI 3) rfl ?_
    refine x_callS 24 C (c_X5_rootDown K _ (e - 1) 3 (by decide) (by omega)) hy_X5_rootDown ws_X5_rootDown lk_X5_167 dX5_powersBelow_21 rfl ⟨Nat.le_of_ble_eq_true rfl, Nat.le_of_ble_eq_true rfl⟩ ⟨Nat.le_of_ble_eq_true rfl, Nat.le_of_ble_eq_true rfl⟩ (Nat.le_of_ble_eq_true rfl) rfl (k_0 rfl rfl (k_lp ?_))
    refine x_ladd 25 C dX5_powersBelow_24 rfl ?_
    refine x_lload_2 26 C dX5_powersBelow_25 rfl ?_
    refine x_iconst (v := 3) 27 C dX5_powersBelow_26 rfl rfl ?_
    refine x_topi (v' := nI 3) rfl ?_
    refine x_callS 30 C (c_X5_rootDown K _ (sq 2 (e - 1)) 3 (by decide) (by have := sq_lt (k := 2) (N := e - 1) (by omega); omega)) hy_X5_rootDown ws_X5_rootDown lk_X5_167 dX5_powersBelow_27 rfl ⟨Nat.le_of_ble_eq_true rfl, Nat.le_of_ble_eq_true rfl⟩ ⟨Nat.le_of_ble_eq_true rfl, Nat.le_of_ble_eq_true rfl⟩ (Nat.le_of_ble_eq_true rfl) rfl (k_0 rfl rfl (k_lp ?_))
    refine x_lsub 31 C dX5_powersBelow_30 rfl ?_
    refine x_lconst (v := 1) 32 C dX5_powersBelow_31 rfl rfl ?_
    refine x_ladd 33 C dX5_powersBelow_32 rfl ?_
    refine x_lreturn C Rt dX5_powersBelow_33 ⟨Nat.le_of_ble_eq_true rfl, Nat.le_of_ble_eq_true rfl⟩ ?_
    exact ⟨_, rfl, by rw [ptI, if_neg (by omega), show ((e : Int) - 1).toNat = e - 1 by omega]; rfl, rfl⟩
  · refine x_lconst (v := 0) 7 C dX5_powersBelow_6 rfl rfl ?_
    refine x_lreturn C Rt dX5_powersBelow_7 ⟨Nat.le_of_ble_eq_true rfl, Nat.le_of_ble_eq_true rfl⟩ ?_
    have h0 : e = 0 := by
      rcases Nat.eq_zero_or_pos e with q | q
      · exact q
      · exact absurd ((lN_le' (a := 1) (by decide) (by omega)).mpr q) c_2
    exact ⟨_, rfl, by rw [h0]; rfl, rfl⟩
set_option maxHeartbeats 4000000 in
set_option maxRecDepth 100000 in
theorem c_X5_powers (K : hKv) (M : hM) (oo : Nat) (a b : Int64) : hC K Y_X5_powers rm_X5_powers [.ref oo, .long a, .long b] M (hPi fun r M' => r = sp_powers a b ∧ M' = M) := by
  refine hC.of [some (.ref oo), some (.long a), none, some (.long b), none] (by decide) (Nat.le_of_ble_eq_true rfl) rfl rfl ?_
  intro E C Rt
  have C : hCx E K cX5_powers 5 RX5 "powers" rm_X5_powers := C
  refine x_lload_1 1 C dX5_powers_0 rfl ?_
  refine x_lconst (v := 0) 2 C dX5_powers_1 rfl rfl ?_
  refine x_ldc2 (v := 1000000000000) 5 C dX5_powers_2 rfl wq_X5_71 ?_
  refine x_callS 8 C (c_X5_within K _ _ _ _) hy_X5_within ws_X5_within lk_X5_48 dX5_powers_5 rfl ⟨Nat.le_of_ble_eq_true rfl, Nat.le_of_ble_eq_true rfl⟩ ⟨Nat.le_of_ble_eq_true rfl, Nat.le_of_ble_eq_true rfl⟩ (Nat.le_of_ble_eq_true rfl) rfl (k_0 rfl rfl (k_ip ?_))
  refine x_if_eq 11 22 C dX5_powers_8 rfl rfl (fun c_8 => ?_) (fun c_8 => ?_)
  · refine x_bipush (v := (-2)) 24 C dX5_powers_22 rfl rfl ?_
    refine x_ireturn C Rt dX5_powers_24 rfl ⟨Nat.le_of_ble_eq_true rfl, Nat.le_of_ble_eq_true rfl⟩ ?_
    simp only [Classical.not_not, hB_0p, hB_n0p, Int32.toInt_toInt64, tl_LG, ti_m1, Int32.lt_iff_toInt_lt, Int32.le_iff_toInt_le, Int64.lt_iff_toInt_lt, Int64.le_iff_toInt_le, tl_0, ti_0, tl_1, ti_1, tl_2, ti_2, tl_3, ti_3, tl_4, ti_4, tl_5, ti_5, tl_6, ti_6, tl_7, ti_7, tl_8, ti_8, tl_9, ti_9, tl_10, ti_10, tl_33, ti_33, tl_60, ti_60, tl_100, ti_100, tl_126, ti_126, tl_255, ti_255, tl_500, ti_500, tl_9999, ti_9999, tl_10000, ti_10000, tl_100000, ti_100000, tl_1000000, ti_1000000, tl_1000000000, ti_1000000000] at c_8
    exact ⟨_, rfl, by rw [sp_powers, spQ_f (by omega)], rfl⟩
  · refine x_lload_3 12 C dX5_powers_11 rfl ?_
    refine x_lload_1 13 C dX5_powers_12 rfl ?_
    refine x_ldc2 (v := 1000000000000) 16 C dX5_powers_13 rfl wq_X5_71 ?_
    refine x_callS 19 C (c_X5_within K _ _ _ _) hy_X5_within ws_X5_within lk_X5_48 dX5_powers_16 rfl ⟨Nat.le_of_ble_eq_true rfl, Nat.le_of_ble_eq_true rfl⟩ ⟨Nat.le_of_ble_eq_true rfl, Nat.le_of_ble_eq_true rfl⟩ (Nat.le_of_ble_eq_true rfl) rfl (k_0 rfl rfl (k_ip ?_))
    refine x_if_ne 22 25 C dX5_powers_19 rfl rfl (fun c_19 => ?_) (fun c_19 => ?_)
    · simp only [Classical.not_not, hB_0p, hB_n0p, Int32.toInt_toInt64, tl_LG, ti_m1, Int32.lt_iff_toInt_lt, Int32.le_iff_toInt_le, Int64.lt_iff_toInt_lt, Int64.le_iff_toInt_le, tl_0, ti_0, tl_1, ti_1, tl_2, ti_2, tl_3, ti_3, tl_4, ti_4, tl_5, ti_5, tl_6, ti_6, tl_7, ti_7, tl_8, ti_8, tl_9, ti_9, tl_10, ti_10, tl_33, ti_33, tl_60, ti_60, tl_100, ti_100, tl_126, ti_126, tl_255, ti_255, tl_500, ti_500, tl_9999, ti_9999, tl_10000, ti_10000, tl_100000, ti_100000, tl_1000000, ti_1000000, tl_1000000000, ti_1000000000] at c_8 c_19
      obtain ⟨x, hx, rfl⟩ := in_lN (b := LG) c_8
      obtain ⟨y, hy, rfl⟩ := in_lN (x := b) (b := LG) ⟨by omega, c_19.2⟩
      have hLG : LG = 1000000000000 := rfl
      refine x_lload_3 26 C dX5_powers_25 rfl ?_
      refine x_lconst (v := 1) 27 C dX5_powers_26 rfl rfl ?_
      refine x_ladd 28 C dX5_powers_27 rfl ?_
      refine x_topl (v' := lN (y + 1)) (lN_add _ 1) ?_
      refine x_callS 31 C (c_X5_powersBelow K _ (y + 1) (by omega)) hy_X5_powersBelow ws_X5_powersBelow lk_X5_225 dX5_powers_28 rfl ⟨Nat.le_of_ble_eq_true rfl, Nat.le_of_ble_eq_true rfl⟩ ⟨Nat.le_of_ble_eq_true rfl, Nat.le_of_ble_eq_true rfl⟩ (Nat.le_of_ble_eq_true rfl) rfl (k_0 rfl rfl (k_lp ?_))
      refine x_topl (v' := ptI (lN y).toInt) (by rw [lN_toI (by omega)]; congr 1; omega) ?_
      refine x_lload_1 32 C dX5_powers_31 rfl ?_
      refine x_callS 35 C (c_X5_powersBelow K _ x (by omega)) hy_X5_powersBelow ws_X5_powersBelow lk_X5_225 dX5_powers_32 rfl ⟨Nat.le_of_ble_eq_true rfl, Nat.le_of_ble_eq_true rfl⟩ ⟨Nat.le_of_ble_eq_true rfl, Nat.le_of_ble_eq_true rfl⟩ (Nat.le_of_ble_eq_true rfl) rfl (k_0 rfl rfl (k_lp ?_))
      refine x_topl (v' := ptI ((lN x).toInt - 1)) (by rw [lN_toI (by omega)]) ?_
      refine x_lsub 36 C dX5_powers_35 rfl ?_
      refine x_l2i 37 C dX5_powers_36 rfl ?_
      refine x_ireturn C Rt dX5_powers_37 rfl ⟨Nat.le_of_ble_eq_true rfl, Nat.le_of_ble_eq_true rfl⟩ ?_
      exact ⟨_, rfl, by rw [sp_powers, spQ_t ⟨c_8, c_19⟩], rfl⟩
    · refine x_bipush (v := (-2)) 24 C dX5_powers_22 rfl rfl ?_
      refine x_ireturn C Rt dX5_powers_24 rfl ⟨Nat.le_of_ble_eq_true rfl, Nat.le_of_ble_eq_true rfl⟩ ?_
      simp only [Classical.not_not, hB_0p, hB_n0p, Int32.toInt_toInt64, tl_LG, ti_m1, Int32.lt_iff_toInt_lt, Int32.le_iff_toInt_le, Int64.lt_iff_toInt_lt, Int64.le_iff_toInt_le, tl_0, ti_0, tl_1, ti_1, tl_2, ti_2, tl_3, ti_3, tl_4, ti_4, tl_5, ti_5, tl_6, ti_6, tl_7, ti_7, tl_8, ti_8, tl_9, ti_9, tl_10, ti_10, tl_33, ti_33, tl_60, ti_60, tl_100, ti_100, tl_126, ti_126, tl_255, ti_255, tl_500, ti_500, tl_9999, ti_9999, tl_10000, ti_10000, tl_100000, ti_100000, tl_1000000, ti_1000000, tl_1000000000, ti_1000000000] at c_8 c_19
      exact ⟨_, rfl, by rw [sp_powers, spQ_f (by omega)], rfl⟩
set_option maxHeartbeats 4000000 in
set_option maxRecDepth 100000 in
theorem c_X5_rootSum (K : hKv) (M : hM) (oo : Nat) (n : Int32) : hC K Y_X5_rootSum rm_X5_rootSum [.ref oo, .int n] M (hPl fun r M' => r = sp_rootSum n ∧ M' = M) := by
  refine hC.of [some (.ref oo), some (.int n), none, none, none, none] (by decide) (Nat.le_of_ble_eq_true rfl) rfl rfl ?_
  intro E C Rt
  have C : hCx E K cX5_rootSum 6 RX5 "rootSum" rm_X5_rootSum := C
  refine x_iload_1 1 C dX5_rootSum_0 rfl ?_
  refine x_i2l 2 C dX5_rootSum_1 rfl ?_
  refine x_lconst (v := 0) 3 C dX5_rootSum_2 rfl rfl ?_
  refine x_ldc2 (v := 1000000000) 6 C dX5_rootSum_3 rfl wq_X5_229 ?_
  refine x_callS 9 C (c_X5_within K _ _ _ _) hy_X5_within ws_X5_within lk_X5_48 dX5_rootSum_6 rfl ⟨Nat.le_of_ble_eq_true rfl, Nat.le_of_ble_eq_true rfl⟩ ⟨Nat.le_of_ble_eq_true rfl, Nat.le_of_ble_eq_true rfl⟩ (Nat.le_of_ble_eq_true rfl) rfl (k_0 rfl rfl (k_ip ?_))
  refine x_if_ne 12 16 C dX5_rootSum_9 rfl rfl (fun c_9 => ?_) (fun c_9 => ?_)
  · simp only [Classical.not_not, hB_0p, hB_n0p, Int32.toInt_toInt64, tl_LG, ti_m1, Int32.lt_iff_toInt_lt, Int32.le_iff_toInt_le, Int64.lt_iff_toInt_lt, Int64.le_iff_toInt_le, tl_0, ti_0, tl_1, ti_1, tl_2, ti_2, tl_3, ti_3, tl_4, ti_4, tl_5, ti_5, tl_6, ti_6, tl_7, ti_7, tl_8, ti_8, tl_9, ti_9, tl_10, ti_10, tl_33, ti_33, tl_60, ti_60, tl_100, ti_100, tl_126, ti_126, tl_255, ti_255, tl_500, ti_500, tl_9999, ti_9999, tl_10000, ti_10000, tl_100000, ti_100000, tl_1000000, ti_1000000, tl_1000000000, ti_1000000000] at c_9
    obtain ⟨NN, hN, rfl⟩ := in_nI (b := 1000000000) c_9
    have hp := (sq2_pw (N := NN) (by omega)).1
    have hs := sq2_le (N := NN) (R := 31623) (by omega) (by omega)
    refine x_iload_1 17 C dX5_rootSum_16 rfl ?_
    refine x_i2l 18 C dX5_rootSum_17 rfl ?_
    refine x_topl (nI_l (by omega)) ?_
    refine x_iconst (v := 2) 19 C dX5_rootSum_18 rfl rfl ?_
    refine x_topi (v' := nI 2) rfl ?_
    refine x_callS 22 C (c_X5_rootDown K _ NN 2 (by decide) (by omega)) hy_X5_rootDown ws_X5_rootDown lk_X5_167 dX5_rootSum_19 rfl ⟨Nat.le_of_ble_eq_true rfl, Nat.le_of_ble_eq_true rfl⟩ ⟨Nat.le_of_ble_eq_true rfl, Nat.le_of_ble_eq_true rfl⟩ (Nat.le_of_ble_eq_true rfl) rfl (k_0 rfl rfl (k_lp ?_))
    refine x_lstore_2 23 C dX5_rootSum_22 rfl rfl ?_
    refine x_lload_2 24 C dX5_rootSum_23 rfl ?_
    refine x_lconst (v := 1) 25 C dX5_rootSum_24 rfl rfl ?_
    refine x_lsub 26 C dX5_rootSum_25 rfl ?_
    refine x_lload_2 27 C dX5_rootSum_26 rfl ?_
    refine x_lmul 28 C dX5_rootSum_27 rfl ?_
    refine x_ldc2 (v := 2) 31 C dX5_rootSum_28 rfl wq_X5_52 ?_
    refine x_lload_2 32 C dX5_rootSum_31 rfl ?_
    refine x_lmul 33 C dX5_rootSum_32 rfl ?_
    refine x_lconst (v := 1) 34 C dX5_rootSum_33 rfl rfl ?_
    refine x_lsub 35 C dX5_rootSum_34 rfl ?_
    refine x_lmul 36 C dX5_rootSum_35 rfl ?_
    refine x_ldc2 (v := 3) 39 C dX5_rootSum_36 rfl wq_X5_161 ?_
    refine x_ldiv 40 C dX5_rootSum_39 rfl (by decide) ?_
    refine x_lload_2 41 C dX5_rootSum_40 rfl ?_
    refine x_lconst (v := 1) 42 C dX5_rootSum_41 rfl rfl ?_
    refine x_lsub 43 C dX5_rootSum_42 rfl ?_
    refine x_lload_2 44 C dX5_rootSum_43 rfl ?_
    refine x_lmul 45 C dX5_rootSum_44 rfl ?_
    refine x_ldc2 (v := 2) 48 C dX5_rootSum_45 rfl wq_X5_52 ?_
    refine x_ldiv 49 C dX5_rootSum_48 rfl (by decide) ?_
    refine x_ladd 50 C dX5_rootSum_49 rfl ?_
    refine x_topl (rs_val (by omega)) ?_
    refine x_lstore_4 52 C dX5_rootSum_50 rfl rfl ?_
    refine x_lload_4 54 C dX5_rootSum_52 rfl ?_
    refine x_lload_2 55 C dX5_rootSum_54 rfl ?_
    refine x_iload_1 56 C dX5_rootSum_55 rfl ?_
    refine x_i2l 57 C dX5_rootSum_56 rfl ?_
    refine x_topl (nI_l (by omega)) ?_
    refine x_lload_2 58 C dX5_rootSum_57 rfl ?_
    refine x_lload_2 59 C dX5_rootSum_58 rfl ?_
    refine x_lmul 60 C dX5_rootSum_59 rfl ?_
    refine x_topl (lN_mul _ _) ?_
    refine x_lsub 61 C dX5_rootSum_60 rfl ?_
    refine x_topl (lN_sub hp) ?_
    refine x_lconst (v := 1) 62 C dX5_rootSum_61 rfl rfl ?_
    refine x_ladd 63 C dX5_rootSum_62 rfl ?_
    refine x_topl (v' := lN (NN - sq 2 NN * sq 2 NN + 1)) (lN_add _ 1) ?_
    refine x_lmul 64 C dX5_rootSum_63 rfl ?_
    refine x_topl (lN_mul _ _) ?_
    refine x_ladd 65 C dX5_rootSum_64 rfl ?_
    refine x_topl (lN_add _ _) ?_
    refine x_lreturn C Rt dX5_rootSum_65 ⟨Nat.le_of_ble_eq_true rfl, Nat.le_of_ble_eq_true rfl⟩ ?_
    exact ⟨_, rfl, by rw [sp_rootSum, spQ_t c_9, nI_toN (by omega), rsN, Nat.add_comm], rfl⟩
  · refine x_ldc2 (v := (-2)) 15 C dX5_rootSum_12 rfl wq_X5_73 ?_
    refine x_lreturn C Rt dX5_rootSum_15 ⟨Nat.le_of_ble_eq_true rfl, Nat.le_of_ble_eq_true rfl⟩ ?_
    simp only [Classical.not_not, hB_0p, hB_n0p, Int32.toInt_toInt64, tl_LG, ti_m1, Int32.lt_iff_toInt_lt, Int32.le_iff_toInt_le, Int64.lt_iff_toInt_lt, Int64.le_iff_toInt_le, tl_0, ti_0, tl_1, ti_1, tl_2, ti_2, tl_3, ti_3, tl_4, ti_4, tl_5, ti_5, tl_6, ti_6, tl_7, ti_7, tl_8, ti_8, tl_9, ti_9, tl_10, ti_10, tl_33, ti_33, tl_60, ti_60, tl_100, ti_100, tl_126, ti_126, tl_255, ti_255, tl_500, ti_500, tl_9999, ti_9999, tl_10000, ti_10000, tl_100000, ti_100000, tl_1000000, ti_1000000, tl_1000000000, ti_1000000000] at c_9
    exact ⟨_, rfl, by rw [sp_rootSum, spQ_f (by omega)], rfl⟩
theorem tsf_per {n k x : Nat} (h : tsf n k = some x) : ∀ d, tsf n (k + d) = some x
  | 0 => h
  | d + 1 => by
    have e : tsf n (k + d + 1) = match tsf n (k + d) with | some x => some x | none => spQ (tsP n (k + d)) (some (k + d)) none := rfl
    rw [← Nat.add_assoc, e, tsf_per h d]
set_option maxHeartbeats 4000000 in
set_option maxRecDepth 100000 in
theorem c_X5_twoSquares (K : hKv) (M : hM) (oo : Nat) (n u : Int32) : hC K Y_X5_twoSquares rm_X5_twoSquares [.ref oo, .int n, .int u] M (hPi fun r M' => r = sp_twoSquares n u ∧ M' = M) := by
  refine hC.of [some (.ref oo), some (.int n), some (.int u), none, none, none] (by decide) (Nat.le_of_ble_eq_true rfl) rfl rfl ?_
  intro E C Rt
  have C : hCx E K cX5_twoSquares 6 RX5 "twoSquares" rm_X5_twoSquares := C
  have inn : ∀ (NN : Nat) (x3 : Int32) (a c : Nat), NN ≤ 1000000 → a ≤ c → c ≤ 1000 → (c = a ∨ a * a + c * c ≤ NN) → (∀ x, c < x → NN < a * a + x * x) → hX E 0 0 76 [some (.ref oo), some (.int (nI NN)), some (.int u), some (.int x3), some (.int (nI c)), some (.int (nI a))] [] M → ∀ e, c + e ≤ 1000 → hX E 0 0 48 [some (.ref oo), some (.int (nI NN)), some (.int u), some (.int x3), some (.int (nI (c + e))), some (.int (nI a))] [] M := by
    intro NN x3 a c hN hac hc h1 h2 kk e
    induction e with
    | zero =>
      intro he
      rw [Nat.add_zero]
      have haa := Nat.mul_le_mul (show a ≤ 1000 by omega) (show a ≤ 1000 by omega)
      have hcc := Nat.mul_le_mul hc hc
      by_cases hca : c ≤ a
      · skip
        refine x_iload_4 50 C dX5_twoSquares_48 rfl ?_
        refine x_iload_5 52 C dX5_twoSquares_50 rfl ?_
        refine x_icmp_le 55 76 C dX5_twoSquares_52 rfl rfl (fun _ => ?_) (fun z => absurd (nI_le hca (by omega)) z)
        exact kk
      · skip
        refine x_iload_4 50 C dX5_twoSquares_48 rfl ?_
        refine x_iload_5 52 C dX5_twoSquares_50 rfl ?_
        refine x_icmp_le 55 76 C dX5_twoSquares_52 rfl rfl (fun z => absurd z (nI_ge (by omega) (by omega))) (fun _ => ?_)
        refine x_iload_5 57 C dX5_twoSquares_55 rfl ?_
        refine x_iload_5 59 C dX5_twoSquares_57 rfl ?_
        refine x_imul 60 C dX5_twoSquares_59 rfl ?_
        refine x_topi (pk_mul _ _) ?_
        refine x_iload_4 62 C dX5_twoSquares_60 rfl ?_
        refine x_iload_4 64 C dX5_twoSquares_62 rfl ?_
        refine x_imul 65 C dX5_twoSquares_64 rfl ?_
        refine x_topi (pk_mul _ _) ?_
        refine x_iadd 66 C dX5_twoSquares_65 rfl ?_
        refine x_topi (nI_add _ _) ?_
        refine x_iload_1 67 C dX5_twoSquares_66 rfl ?_
        refine x_icmp_le 70 76 C dX5_twoSquares_67 rfl rfl (fun _ => ?_) (fun z => absurd (nI_le (by omega) (by omega)) z)
        exact kk
    | succ e ih =>
      intro he
      have haa := Nat.mul_le_mul (show a ≤ 1000 by omega) (show a ≤ 1000 by omega)
      have hcc := Nat.mul_le_mul he he
      have hgt := h2 (c + (e + 1)) (by omega)
      refine x_iload_4 50 C dX5_twoSquares_48 rfl ?_
      refine x_iload_5 52 C dX5_twoSquares_50 rfl ?_
      refine x_icmp_le 55 76 C dX5_twoSquares_52 rfl rfl (fun z => absurd z (nI_ge (by omega) (by omega))) (fun _ => ?_)
      refine x_iload_5 57 C dX5_twoSquares_55 rfl ?_
      refine x_iload_5 59 C dX5_twoSquares_57 rfl ?_
      refine x_imul 60 C dX5_twoSquares_59 rfl ?_
      refine x_topi (pk_mul _ _) ?_
      refine x_iload_4 62 C dX5_twoSquares_60 rfl ?_
      refine x_iload_4 64 C dX5_twoSquares_62 rfl ?_
      refine x_imul 65 C dX5_twoSquares_64 rfl ?_
      refine x_topi (pk_mul _ _) ?_
      refine x_iadd 66 C dX5_twoSquares_65 rfl ?_
      refine x_topi (nI_add _ _) ?_
      refine x_iload_1 67 C dX5_twoSquares_66 rfl ?_
      refine x_icmp_le 70 76 C dX5_twoSquares_67 rfl rfl (fun z => absurd z (nI_ge hgt (by omega))) (fun _ => ?_)
      refine x_iinc_4 73 C dX5_twoSquares_70 rfl rfl ((nI_dn _).trans (iI_up (c + e))) ?_
      refine x_goto 48 C dX5_twoSquares_73 rfl ?_
      exact ih (by omega)
  have ex : ∀ (NN : Nat), (∀ x : Int32, x = (if u = 0 then nI (tsc NN (tsK NN)) else if u = 1 then tsL (tsf NN (tsK NN)) else tsO NN (tsf NN (tsK NN))) → hPi (fun r M' => r = sp_twoSquares n u ∧ M' = M) (some (.int x)) M) → (u ≠ 0 → tsf NN (tsK NN) = none) → ∀ l4 l5 : Option Value, hX E 0 0 117 [some (.ref oo), some (.int (nI NN)), some (.int u), some (.int (nI (tsc NN (tsK NN)))), l4, l5] [] M := by
    intro NN hfin hn l4 l5
    refine x_iload_2 118 C dX5_twoSquares_117 rfl ?_
    refine x_if_ne 121 125 C dX5_twoSquares_118 rfl rfl (fun c_118 => ?_) (fun c_118 => ?_)
    · refine x_bipush (v := (-6)) 127 C dX5_twoSquares_125 rfl rfl ?_
      refine x_ireturn C Rt dX5_twoSquares_127 rfl ⟨Nat.le_of_ble_eq_true rfl, Nat.le_of_ble_eq_true rfl⟩ ?_
      exact hfin _ (by rw [if_neg c_118, hn c_118]; split <;> rfl)
    · refine x_iload_3 122 C dX5_twoSquares_121 rfl ?_
      refine x_goto 127 C dX5_twoSquares_122 rfl ?_
      refine x_ireturn C Rt dX5_twoSquares_127 rfl ⟨Nat.le_of_ble_eq_true rfl, Nat.le_of_ble_eq_true rfl⟩ ?_
      exact hfin _ (by rw [if_pos (by first | exact c_118 | exact Decidable.not_not.mp c_118)])
  have lp : ∀ (NN : Nat), NN ≤ 1000000 → (∀ x : Int32, x = (if u = 0 then nI (tsc NN (tsK NN)) else if u = 1 then tsL (tsf NN (tsK NN)) else tsO NN (tsf NN (tsK NN))) → hPi (fun r M' => r = sp_twoSquares n u ∧ M' = M) (some (.int x)) M) → ∀ (d a : Nat), a + d = tsK NN → ∀ b : Nat, b ≤ 1000 → (a * a ≤ NN → sq 2 (NN - a * a) ≤ b) → (u ≠ 0 → tsf NN a = none) → hX E 0 0 41 [some (.ref oo), some (.int (nI NN)), some (.int u), some (.int (nI (tsc NN a))), some (.int (nI b)), some (.int (nI a))] [] M := by
    intro NN hN hfin d
    have hK := tsK_bd hN
    induction d with
    | zero =>
      intro a ha b hb hinv hu
      have ha : a = tsK NN := by omega
      subst ha
      have hgt : NN < 2 * tsK NN * tsK NN := Nat.not_le.mp fun q => absurd ((tsK_lt hN).mpr q) (Nat.lt_irrefl _)
      rw [Nat.mul_assoc] at hgt
      have hkk := Nat.mul_le_mul hK hK
      by_cases hab : b < tsK NN
      · skip
        refine x_iload_5 43 C dX5_twoSquares_41 rfl ?_
        refine x_iload_4 45 C dX5_twoSquares_43 rfl ?_
        refine x_icmp_gt 48 117 C dX5_twoSquares_45 rfl rfl (fun _ => ?_) (fun z => absurd ((nI_ltI (by omega) (by omega)).mpr hab) z)
        exact ex NN hfin hu _ _
      · skip
        refine x_iload_5 43 C dX5_twoSquares_41 rfl ?_
        refine x_iload_4 45 C dX5_twoSquares_43 rfl ?_
        refine x_icmp_gt 48 117 C dX5_twoSquares_45 rfl rfl (fun z => absurd z ((fun q => by have := (nI_ltI (by omega) (by omega)).mp q; omega))) (fun _ => ?_)
        obtain ⟨e, rfl⟩ : ∃ e, b = tsK NN + e := ⟨b - tsK NN, by omega⟩
        refine inn NN _ (tsK NN) (tsK NN) hN (Nat.le_refl _) (by omega) (Or.inl rfl) (fun x hx => by have := Nat.mul_le_mul (Nat.le_of_lt hx) (Nat.le_of_lt hx); omega) ?_ e hb
        refine x_iload_5 78 C dX5_twoSquares_76 rfl ?_
        refine x_iload_5 80 C dX5_twoSquares_78 rfl ?_
        refine x_imul 81 C dX5_twoSquares_80 rfl ?_
        refine x_topi (pk_mul _ _) ?_
        refine x_iload_4 83 C dX5_twoSquares_81 rfl ?_
        refine x_iload_4 85 C dX5_twoSquares_83 rfl ?_
        refine x_imul 86 C dX5_twoSquares_85 rfl ?_
        refine x_topi (pk_mul _ _) ?_
        refine x_iadd 87 C dX5_twoSquares_86 rfl ?_
        refine x_topi (nI_add _ _) ?_
        refine x_iload_1 88 C dX5_twoSquares_87 rfl ?_
        refine x_icmp_ne 91 111 C dX5_twoSquares_88 rfl rfl (fun _ => ?_) (fun z => absurd z ((fun q => by have := (nI_eq (by omega) (by omega)).mp q; omega)))
        refine x_iinc_5 114 C dX5_twoSquares_111 rfl rfl (nI_inc _) ?_
        refine x_goto 41 C dX5_twoSquares_114 rfl ?_
        refine x_iload_5 43 C dX5_twoSquares_41 rfl ?_
        refine x_iload_4 45 C dX5_twoSquares_43 rfl ?_
        refine x_icmp_gt 48 117 C dX5_twoSquares_45 rfl rfl (fun _ => ?_) (fun z => absurd ((nI_ltI (by omega) (by omega)).mpr (by omega)) z)
        exact ex NN hfin hu _ _
    | succ d ih =>
      intro a ha b hb hinv hu
      have hle := (tsK_lt hN (a := a)).mp (by omega)
      rw [Nat.mul_assoc] at hle
      have ha2 : a * a ≤ NN := by omega
      obtain ⟨p1, p2⟩ := sq2_pw (N := NN - a * a) (by omega)
      have hrb := hinv ha2
      have hs2 := tsc_f (n := NN) a
      generalize hr : sq 2 (NN - a * a) = r at p1 p2 hrb
      have har : a ≤ r := by
        rcases Nat.lt_or_ge r a with q | q
        · have := Nat.mul_le_mul (show r + 1 ≤ a from q) (show r + 1 ≤ a from q)
          omega
        · exact q
      have hrr := Nat.mul_le_mul (show r ≤ 1000 by omega) (show r ≤ 1000 by omega)
      have hinv2 : (a + 1) * (a + 1) ≤ NN → sq 2 (NN - (a + 1) * (a + 1)) ≤ r := fun q => by
        have e : (a + 1) * (a + 1) = a * a + 2 * a + 1 := by simp only [Nat.mul_add, Nat.add_mul, Nat.mul_one, Nat.one_mul]; omega
        have := sq2_le (N := NN - (a + 1) * (a + 1)) (R := r + 1) (by omega) (by omega)
        omega
      have hP : tsP NN a ↔ a * a + r * r = NN := by unfold tsP; rw [hr]
      obtain ⟨e, he⟩ : ∃ e, b = r + e := ⟨b - r, by omega⟩
      have m76 : hX E 0 0 76 [some (.ref oo), some (.int (nI NN)), some (.int u), some (.int (nI (tsc NN a))), some (.int (nI r)), some (.int (nI a))] [] M := by
        refine x_iload_5 78 C dX5_twoSquares_76 rfl ?_
        refine x_iload_5 80 C dX5_twoSquares_78 rfl ?_
        refine x_imul 81 C dX5_twoSquares_80 rfl ?_
        refine x_topi (pk_mul _ _) ?_
        refine x_iload_4 83 C dX5_twoSquares_81 rfl ?_
        refine x_iload_4 85 C dX5_twoSquares_83 rfl ?_
        refine x_imul 86 C dX5_twoSquares_85 rfl ?_
        refine x_topi (pk_mul _ _) ?_
        refine x_iadd 87 C dX5_twoSquares_86 rfl ?_
        refine x_topi (nI_add _ _) ?_
        refine x_iload_1 88 C dX5_twoSquares_87 rfl ?_
        refine x_icmp_ne 91 111 C dX5_twoSquares_88 rfl rfl (fun c_88 => ?_) (fun c_88 => ?_)
        · refine x_iinc_5 114 C dX5_twoSquares_111 rfl rfl (nI_inc _) ?_
          refine x_goto 41 C dX5_twoSquares_114 rfl ?_
          have hn : ¬ tsP NN a := fun q => c_88 (by rw [hP.mp q])
          obtain ⟨e1, e2⟩ := tsf_0 hn
          have h := ih (a + 1) (by omega) r (by omega) hinv2 (fun q => by rw [e1]; exact hu q)
          rw [e2] at h
          exact h
        · refine x_iload_2 92 C dX5_twoSquares_91 rfl ?_
          refine x_if_eq 95 108 C dX5_twoSquares_92 rfl rfl (fun c_92 => ?_) (fun c_92 => ?_)
          · refine x_iinc_3 111 C dX5_twoSquares_108 rfl rfl (nI_inc _) ?_
            refine x_iinc_5 114 C dX5_twoSquares_111 rfl rfl (nI_inc _) ?_
            refine x_goto 41 C dX5_twoSquares_114 rfl ?_
            have hy : tsP NN a := hP.mpr ((nI_eq (by omega) (by omega)).mp (by first | exact c_88 | exact Decidable.not_not.mp c_88))
            have hu0 : u = 0 := by first | exact c_92 | exact Decidable.not_not.mp c_92
            cases hf : tsf NN a with
            | none =>
              obtain ⟨e1, e2⟩ := tsf_1 hy hf
              have h := ih (a + 1) (by omega) r (by omega) hinv2 (fun q => absurd hu0 q)
              rw [e2] at h
              exact h
            | some x =>
              obtain ⟨e1, e2⟩ := tsf_2 hy hf
              have h := ih (a + 1) (by omega) r (by omega) hinv2 (fun q => absurd hu0 q)
              rw [e2] at h
              exact h
          · refine x_iload_2 96 C dX5_twoSquares_95 rfl ?_
            refine x_iconst (v := 1) 97 C dX5_twoSquares_96 rfl rfl ?_
            refine x_icmp_ne 100 105 C dX5_twoSquares_97 rfl rfl (fun c_97 => ?_) (fun c_97 => ?_)
            · refine x_iload_4 107 C dX5_twoSquares_105 rfl ?_
              refine x_ireturn C Rt dX5_twoSquares_107 rfl ⟨Nat.le_of_ble_eq_true rfl, Nat.le_of_ble_eq_true rfl⟩ ?_
              have hy : tsP NN a := hP.mpr ((nI_eq (by omega) (by omega)).mp (by first | exact c_88 | exact Decidable.not_not.mp c_88))
              have hf := hu c_92
              obtain ⟨e1, e2⟩ := tsf_1 hy hf
              have hper := tsf_per e1 d
              rw [show a + 1 + d = tsK NN by omega] at hper
              exact hfin _ (by rw [if_neg c_92, if_neg c_97, hper]; show nI r = nI (sq 2 (NN - a * a)); rw [hr])
            · refine x_iload_5 102 C dX5_twoSquares_100 rfl ?_
              refine x_goto 107 C dX5_twoSquares_102 rfl ?_
              refine x_ireturn C Rt dX5_twoSquares_107 rfl ⟨Nat.le_of_ble_eq_true rfl, Nat.le_of_ble_eq_true rfl⟩ ?_
              have hy : tsP NN a := hP.mpr ((nI_eq (by omega) (by omega)).mp (by first | exact c_88 | exact Decidable.not_not.mp c_88))
              have hf := hu c_92
              obtain ⟨e1, e2⟩ := tsf_1 hy hf
              have hper := tsf_per e1 d
              rw [show a + 1 + d = tsK NN by omega] at hper
              have hu1 : u = 1 := by first | exact c_97 | exact Decidable.not_not.mp c_97
              exact hfin _ (by rw [if_neg c_92, if_pos hu1, hper]; rfl)
      refine x_iload_5 43 C dX5_twoSquares_41 rfl ?_
      refine x_iload_4 45 C dX5_twoSquares_43 rfl ?_
      refine x_icmp_gt 48 117 C dX5_twoSquares_45 rfl rfl (fun z => absurd z ((fun q => by have := (nI_ltI (by omega) (by omega)).mp q; omega))) (fun _ => ?_)
      rw [he]
      exact inn NN _ a r hN har (by omega) (Or.inr (by omega)) (fun x hx => by have := Nat.mul_le_mul (show r + 1 ≤ x from hx) (show r + 1 ≤ x from hx); omega) m76 e (by omega)
  refine x_iload_1 1 C dX5_twoSquares_0 rfl ?_
  refine x_i2l 2 C dX5_twoSquares_1 rfl ?_
  refine x_lconst (v := 0) 3 C dX5_twoSquares_2 rfl rfl ?_
  refine x_ldc2 (v := 1000000) 6 C dX5_twoSquares_3 rfl wq_X5_182 ?_
  refine x_callS 9 C (c_X5_within K _ _ _ _) hy_X5_within ws_X5_within lk_X5_48 dX5_twoSquares_6 rfl ⟨Nat.le_of_ble_eq_true rfl, Nat.le_of_ble_eq_true rfl⟩ ⟨Nat.le_of_ble_eq_true rfl, Nat.le_of_ble_eq_true rfl⟩ (Nat.le_of_ble_eq_true rfl) rfl (k_0 rfl rfl (k_ip ?_))
  refine x_if_eq 12 24 C dX5_twoSquares_9 rfl rfl (fun c_9 => ?_) (fun c_9 => ?_)
  · refine x_bipush (v := (-2)) 26 C dX5_twoSquares_24 rfl rfl ?_
    refine x_ireturn C Rt dX5_twoSquares_26 rfl ⟨Nat.le_of_ble_eq_true rfl, Nat.le_of_ble_eq_true rfl⟩ ?_
    simp only [Classical.not_not, hB_0p, hB_n0p, Int32.toInt_toInt64, tl_LG, ti_m1, Int32.lt_iff_toInt_lt, Int32.le_iff_toInt_le, Int64.lt_iff_toInt_lt, Int64.le_iff_toInt_le, tl_0, ti_0, tl_1, ti_1, tl_2, ti_2, tl_3, ti_3, tl_4, ti_4, tl_5, ti_5, tl_6, ti_6, tl_7, ti_7, tl_8, ti_8, tl_9, ti_9, tl_10, ti_10, tl_33, ti_33, tl_60, ti_60, tl_100, ti_100, tl_126, ti_126, tl_255, ti_255, tl_500, ti_500, tl_9999, ti_9999, tl_10000, ti_10000, tl_100000, ti_100000, tl_1000000, ti_1000000, tl_1000000000, ti_1000000000] at c_9
    exact ⟨_, rfl, by rw [sp_twoSquares, spQ_f (by omega)], rfl⟩
  · refine x_iload_2 13 C dX5_twoSquares_12 rfl ?_
    refine x_i2l 14 C dX5_twoSquares_13 rfl ?_
    refine x_lconst (v := 0) 15 C dX5_twoSquares_14 rfl rfl ?_
    refine x_ldc2 (v := 2) 18 C dX5_twoSquares_15 rfl wq_X5_52 ?_
    refine x_callS 21 C (c_X5_within K _ _ _ _) hy_X5_within ws_X5_within lk_X5_48 dX5_twoSquares_18 rfl ⟨Nat.le_of_ble_eq_true rfl, Nat.le_of_ble_eq_true rfl⟩ ⟨Nat.le_of_ble_eq_true rfl, Nat.le_of_ble_eq_true rfl⟩ (Nat.le_of_ble_eq_true rfl) rfl (k_0 rfl rfl (k_ip ?_))
    refine x_if_ne 24 27 C dX5_twoSquares_21 rfl rfl (fun c_21 => ?_) (fun c_21 => ?_)
    · simp only [Classical.not_not, hB_0p, hB_n0p, Int32.toInt_toInt64, tl_LG, ti_m1, Int32.lt_iff_toInt_lt, Int32.le_iff_toInt_le, Int64.lt_iff_toInt_lt, Int64.le_iff_toInt_le, tl_0, ti_0, tl_1, ti_1, tl_2, ti_2, tl_3, ti_3, tl_4, ti_4, tl_5, ti_5, tl_6, ti_6, tl_7, ti_7, tl_8, ti_8, tl_9, ti_9, tl_10, ti_10, tl_33, ti_33, tl_60, ti_60, tl_100, ti_100, tl_126, ti_126, tl_255, ti_255, tl_500, ti_500, tl_9999, ti_9999, tl_10000, ti_10000, tl_100000, ti_100000, tl_1000000, ti_1000000, tl_1000000000, ti_1000000000] at c_9 c_21
      obtain ⟨NN, hN, rfl⟩ := in_nI (b := 1000000) c_9
      have hs := sq2_le (N := NN) (R := 1001) (by omega) (by omega)
      refine x_iconst (v := 0) 28 C dX5_twoSquares_27 rfl rfl ?_
      refine x_topi (v' := nI 0) rfl ?_
      refine x_istore_3 29 C dX5_twoSquares_28 rfl rfl ?_
      refine x_iload_1 30 C dX5_twoSquares_29 rfl ?_
      refine x_i2l 31 C dX5_twoSquares_30 rfl ?_
      refine x_topl (nI_l (by omega)) ?_
      refine x_iconst (v := 2) 32 C dX5_twoSquares_31 rfl rfl ?_
      refine x_topi (v' := nI 2) rfl ?_
      refine x_callS 35 C (c_X5_rootDown K _ NN 2 (by decide) (by omega)) hy_X5_rootDown ws_X5_rootDown lk_X5_167 dX5_twoSquares_32 rfl ⟨Nat.le_of_ble_eq_true rfl, Nat.le_of_ble_eq_true rfl⟩ ⟨Nat.le_of_ble_eq_true rfl, Nat.le_of_ble_eq_true rfl⟩ (Nat.le_of_ble_eq_true rfl) rfl (k_0 rfl rfl (k_lp ?_))
      refine x_l2i 36 C dX5_twoSquares_35 rfl ?_
      refine x_topi (lN_i _) ?_
      refine x_istore_4 38 C dX5_twoSquares_36 rfl rfl ?_
      refine x_iconst (v := 0) 39 C dX5_twoSquares_38 rfl rfl ?_
      refine x_topi (v' := nI 0) rfl ?_
      refine x_istore_5 41 C dX5_twoSquares_39 rfl rfl ?_
      refine lp NN hN (fun x hx => ⟨_, rfl, ?_, rfl⟩) (tsK NN) 0 (Nat.zero_add _) (sq 2 NN) (by omega) (fun _ => Nat.le_refl _) (fun _ => rfl)
      have e0 : u = 0 ↔ u.toInt = 0 := ⟨fun q => by rw [q]; rfl, fun q => Int32.toInt_inj.mp q⟩
      have e1 : u = 1 ↔ u.toInt = 1 := ⟨fun q => by rw [q]; rfl, fun q => Int32.toInt_inj.mp q⟩
      rw [hx, sp_twoSquares, spQ_t ⟨c_9, c_21⟩, nI_toN (by omega)]
      simp only [e0, e1]
    · refine x_bipush (v := (-2)) 26 C dX5_twoSquares_24 rfl rfl ?_
      refine x_ireturn C Rt dX5_twoSquares_26 rfl ⟨Nat.le_of_ble_eq_true rfl, Nat.le_of_ble_eq_true rfl⟩ ?_
      simp only [Classical.not_not, hB_0p, hB_n0p, Int32.toInt_toInt64, tl_LG, ti_m1, Int32.lt_iff_toInt_lt, Int32.le_iff_toInt_le, Int64.lt_iff_toInt_lt, Int64.le_iff_toInt_le, tl_0, ti_0, tl_1, ti_1, tl_2, ti_2, tl_3, ti_3, tl_4, ti_4, tl_5, ti_5, tl_6, ti_6, tl_7, ti_7, tl_8, ti_8, tl_9, ti_9, tl_10, ti_10, tl_33, ti_33, tl_60, ti_60, tl_100, ti_100, tl_126, ti_126, tl_255, ti_255, tl_500, ti_500, tl_9999, ti_9999, tl_10000, ti_10000, tl_100000, ti_100000, tl_1000000, ti_1000000, tl_1000000000, ti_1000000000] at c_9 c_21
      exact ⟨_, rfl, by rw [sp_twoSquares, spQ_f (by omega)], rfl⟩
