set_option maxHeartbeats 4000000 in
set_option maxRecDepth 100000 in
theorem c_X5_within (K : hKv) (M : hM) (a b c : Int64) : hC K Y_X5_within rm_X5_within [.long a, .long b, .long c] M (hPi fun r M1 => r = hB (decide (b.toInt ≤ a.toInt ∧ a.toInt ≤ c.toInt)) ∧ M1 = M) := by
  refine hC.of [some (.long a), none, some (.long b), none, some (.long c), none] (by decide) (Nat.le_of_ble_eq_true rfl) rfl rfl ?_
  intro E C Rt
  have C : hCx E K cX5_within 6 RX5 "within" rm_X5_within := C
  refine x_lload_0 1 C dX5_within_0 rfl ?_
  refine x_lload_2 2 C dX5_within_1 rfl ?_
  refine x_lc_lt 6 17 C dX5_within_2 dX5_within_3 rfl rfl (fun c_2 => ?_) (fun c_2 => ?_)
  · refine x_iconst (v := 0) 18 C dX5_within_17 rfl rfl ?_
    refine x_ireturn C Rt dX5_within_18 rfl ⟨Nat.le_of_ble_eq_true rfl, Nat.le_of_ble_eq_true rfl⟩ ?_
    first | exact ⟨_, rfl, (hB_if (by simp only [Int64.lt_iff_toInt_lt, Int64.le_iff_toInt_le] at *; omega)).symm, rfl⟩ | exact ⟨_, rfl, (hB_ifn (by simp only [Int64.lt_iff_toInt_lt, Int64.le_iff_toInt_le] at *; omega)).symm, rfl⟩
  · refine x_lload_0 7 C dX5_within_6 rfl ?_
    refine x_lload_4 9 C dX5_within_7 rfl ?_
    refine x_lc_gt 13 17 C dX5_within_9 dX5_within_10 rfl rfl (fun c_9 => ?_) (fun c_9 => ?_)
    · refine x_iconst (v := 0) 18 C dX5_within_17 rfl rfl ?_
      refine x_ireturn C Rt dX5_within_18 rfl ⟨Nat.le_of_ble_eq_true rfl, Nat.le_of_ble_eq_true rfl⟩ ?_
      first | exact ⟨_, rfl, (hB_if (by simp only [Int64.lt_iff_toInt_lt, Int64.le_iff_toInt_le] at *; omega)).symm, rfl⟩ | exact ⟨_, rfl, (hB_ifn (by simp only [Int64.lt_iff_toInt_lt, Int64.le_iff_toInt_le] at *; omega)).symm, rfl⟩
    · refine x_iconst (v := 1) 14 C dX5_within_13 rfl rfl ?_
      refine x_goto 18 C dX5_within_14 rfl ?_
      refine x_ireturn C Rt dX5_within_18 rfl ⟨Nat.le_of_ble_eq_true rfl, Nat.le_of_ble_eq_true rfl⟩ ?_
      first | exact ⟨_, rfl, (hB_if (by simp only [Int64.lt_iff_toInt_lt, Int64.le_iff_toInt_le] at *; omega)).symm, rfl⟩ | exact ⟨_, rfl, (hB_ifn (by simp only [Int64.lt_iff_toInt_lt, Int64.le_iff_toInt_le] at *; omega)).symm, rfl⟩
theorem c_kind {k : Nat} (h : k = 2 ∨ k = 3) : nI k = 3 ↔ k = 3 := by rcases h with rfl | rfl <;> decide
theorem c_kind2 {k : Nat} (h : k = 2 ∨ k = 3) : nI k = 2 ↔ ¬ k = 3 := by rcases h with rfl | rfl <;> decide
set_option maxHeartbeats 4000000 in
set_option maxRecDepth 100000 in
theorem c_X5_power (K : hKv) (M : hM) (x k : Nat) (hk : k = 2 ∨ k = 3) : hC K Y_X5_power rm_X5_power [.long (lN x), .int (nI k)] M (hPl fun r M1 => r = lN (pw k x) ∧ M1 = M) := by
  refine hC.of [some (.long (lN x)), none, some (.int (nI k))] (by decide) (Nat.le_of_ble_eq_true rfl) rfl rfl ?_
  intro E C Rt
  have C : hCx E K cX5_power 3 RX5 "power" rm_X5_power := C
  refine x_iload_2 1 C dX5_power_0 rfl ?_
  refine x_iconst (v := 3) 2 C dX5_power_1 rfl rfl ?_
  refine x_icmp_ne 5 13 C dX5_power_2 rfl rfl (fun c_2 => ?_) (fun c_2 => ?_)
  · refine x_lload_0 14 C dX5_power_13 rfl ?_
    refine x_lload_0 15 C dX5_power_14 rfl ?_
    refine x_lmul 16 C dX5_power_15 rfl ?_
    refine x_lreturn C Rt dX5_power_16 ⟨Nat.le_of_ble_eq_true rfl, Nat.le_of_ble_eq_true rfl⟩ ?_
    have h2 : ¬ k = 3 := fun z => c_2 ((c_kind hk).mpr z)
    exact ⟨_, rfl, by rw [lN_mul]; simp [pw, h2], rfl⟩
  · refine x_lload_0 6 C dX5_power_5 rfl ?_
    refine x_lload_0 7 C dX5_power_6 rfl ?_
    refine x_lmul 8 C dX5_power_7 rfl ?_
    refine x_lload_0 9 C dX5_power_8 rfl ?_
    refine x_lmul 10 C dX5_power_9 rfl ?_
    refine x_goto 16 C dX5_power_10 rfl ?_
    refine x_lreturn C Rt dX5_power_16 ⟨Nat.le_of_ble_eq_true rfl, Nat.le_of_ble_eq_true rfl⟩ ?_
    have h2 : k = 3 := (c_kind hk).mp c_2
    exact ⟨_, rfl, by rw [lN_mul, lN_mul]; simp [pw, h2], rfl⟩
set_option maxHeartbeats 4000000 in
set_option maxRecDepth 100000 in
theorem c_X5_firstBit (K : hKv) (M : hM) (N k : Nat) (hk : k = 2 ∨ k = 3) (hN : N < 2 ^ 60) : hC K Y_X5_firstBit rm_X5_firstBit [.long (lN N), .int (nI k)] M (hPl fun r M1 => r = lN (bv (nb k N)) ∧ M1 = M) := by
  refine hC.of [some (.long (lN N)), none, some (.int (nI k)), none, none] (by decide) (Nat.le_of_ble_eq_true rfl) rfl rfl ?_
  intro E C Rt
  have C : hCx E K cX5_firstBit 5 RX5 "firstBit" rm_X5_firstBit := C
  have lp : ∀ (f j : Nat), 0 < N → j + f = 30 → fe k N f j = fe k N 30 0 → pw k (2 ^ j) ≤ N → hX E 0 0 10 [some (.long (lN N)), none, some (.int (nI k)), some (.long (lN (2 ^ j))), none] [] M := by
    intro f
    induction f with
    | zero =>
      intro j h0 hj he hp
      have hj : j = 30 := by omega
      subst hj
      refine x_lload_3 11 C dX5_firstBit_10 rfl ?_
      refine x_ldc2 (v := 1073741824) 14 C dX5_firstBit_11 rfl wq_X5_248 ?_
      refine x_lc_ge 18 41 C dX5_firstBit_14 dX5_firstBit_15 rfl rfl (fun _ => ?_) (fun z => absurd ((by decide : lN (2 ^ 30) ≥ (1073741824 : Int64))) z)
      refine x_lload_3 42 C dX5_firstBit_41 rfl ?_
      refine x_lreturn C Rt dX5_firstBit_42 ⟨Nat.le_of_ble_eq_true rfl, Nat.le_of_ble_eq_true rfl⟩ ?_
      exact ⟨_, rfl, by simp only [nb, if_neg (Nat.ne_of_gt h0), bv]; rw [← he]; rfl, rfl⟩
    | succ f ih =>
      intro j h0 hj he hp
      have h8 := pw_dbl k (2 ^ j)
      have hj30 : 2 ^ j < 2 ^ 30 := Nat.pow_lt_pow_right (by decide) (by omega)
      refine x_lload_3 11 C dX5_firstBit_10 rfl ?_
      refine x_ldc2 (v := 1073741824) 14 C dX5_firstBit_11 rfl wq_X5_248 ?_
      refine x_lc_ge 18 41 C dX5_firstBit_14 dX5_firstBit_15 rfl rfl (fun z => absurd z ((by rw [show (1073741824 : Int64) = lN (2 ^ 30) from rfl, lN_le' (by omega) (by omega)]; omega))) (fun _ => ?_)
      refine x_ldc2 (v := 2) 21 C dX5_firstBit_18 rfl wq_X5_52 ?_
      refine x_lload_3 22 C dX5_firstBit_21 rfl ?_
      refine x_lmul 23 C dX5_firstBit_22 rfl ?_
      refine x_topl (v' := lN (2 * 2 ^ j)) (lN_mul 2 (2 ^ j)) ?_
      refine x_iload_2 24 C dX5_firstBit_23 rfl ?_
      refine x_callS 27 C (c_X5_power K _ _ k hk) hy_X5_power ws_X5_power lk_X5_171 dX5_firstBit_24 rfl ⟨Nat.le_of_ble_eq_true rfl, Nat.le_of_ble_eq_true rfl⟩ ⟨Nat.le_of_ble_eq_true rfl, Nat.le_of_ble_eq_true rfl⟩ (Nat.le_of_ble_eq_true rfl) rfl (k_0 rfl rfl (k_lp ?_))
      refine x_lload_0 28 C dX5_firstBit_27 rfl ?_
      refine x_lc_gt 32 41 C dX5_firstBit_28 dX5_firstBit_29 rfl rfl (fun c_28 => ?_) (fun c_28 => ?_)
      · refine x_lload_3 42 C dX5_firstBit_41 rfl ?_
        refine x_lreturn C Rt dX5_firstBit_42 ⟨Nat.le_of_ble_eq_true rfl, Nat.le_of_ble_eq_true rfl⟩ ?_
        have hc : ¬ pw k (2 * 2 ^ j) ≤ N := fun z => absurd ((lN_lt' (by omega) (by omega)).mp c_28) (by omega)
        exact ⟨_, rfl, by simp only [nb, if_neg (Nat.ne_of_gt h0), bv]; rw [← he, fe, if_neg hc], rfl⟩
      · have hc : pw k (2 * 2 ^ j) ≤ N := by
          rcases Nat.lt_or_ge N (pw k (2 * 2 ^ j)) with q | q
          · exact absurd ((lN_lt' (by omega) (by omega)).mpr q) c_28
          · exact q
        refine x_lload_3 33 C dX5_firstBit_32 rfl ?_
        refine x_ldc2 (v := 2) 36 C dX5_firstBit_33 rfl wq_X5_52 ?_
        refine x_lmul 37 C dX5_firstBit_36 rfl ?_
        refine x_topl (v' := lN (2 ^ (j + 1))) ((lN_mul (2 ^ j) 2).trans (by rw [← Nat.pow_succ])) ?_
        refine x_lstore_3 38 C dX5_firstBit_37 rfl rfl ?_
        refine x_goto 10 C dX5_firstBit_38 rfl ?_
        exact ih (j + 1) h0 (by omega) (by rw [← he, fe, if_pos hc]) (by rw [← two_pow_succ]; exact hc)
  refine x_lload_0 1 C dX5_firstBit_0 rfl ?_
  refine x_lconst (v := 1) 2 C dX5_firstBit_1 rfl rfl ?_
  refine x_lc_ge 6 8 C dX5_firstBit_2 dX5_firstBit_3 rfl rfl (fun c_2 => ?_) (fun c_2 => ?_)
  · have h0 : 0 < N := (lN_le' (a := 1) (by omega) (by omega)).mp c_2
    refine x_lconst (v := 1) 9 C dX5_firstBit_8 rfl rfl ?_
    refine x_lstore_3 10 C dX5_firstBit_9 rfl rfl ?_
    exact lp 30 0 h0 rfl rfl (by rw [Nat.pow_zero, pw_one]; exact h0)
  · refine x_lconst (v := 0) 7 C dX5_firstBit_6 rfl rfl ?_
    refine x_lreturn C Rt dX5_firstBit_7 ⟨Nat.le_of_ble_eq_true rfl, Nat.le_of_ble_eq_true rfl⟩ ?_
    have h0 : N = 0 := by
      rcases Nat.eq_zero_or_pos N with h | h
      · exact h
      · exact absurd ((lN_le' (a := 1) (by omega) (by omega)).mpr h) c_2
    exact ⟨_, rfl, by subst h0; rfl, rfl⟩
set_option maxHeartbeats 4000000 in
set_option maxRecDepth 100000 in
theorem c_X5_rootDown (K : hKv) (M : hM) (N k : Nat) (hk : k = 2 ∨ k = 3) (hN : N < 2 ^ 60) : hC K Y_X5_rootDown rm_X5_rootDown [.long (lN N), .int (nI k)] M (hPl fun r M1 => r = lN (sq k N) ∧ M1 = M) := by
  refine hC.of [some (.long (lN N)), none, some (.int (nI k)), none, none, none, none] (by decide) (Nat.le_of_ble_eq_true rfl) rfl rfl ?_
  intro E C Rt
  have C : hCx E K cX5_rootDown 7 RX5 "rootDown" rm_X5_rootDown := C
  have hB := nb_bd (k := k) hN
  have hnb := nb_le (k := k) hN
  have lp : ∀ (j r : Nat), rt k N j r = sq k N → r + 2 ^ j ≤ 2 ^ nb k N → j ≤ 60 → hX E 0 0 9 [some (.long (lN N)), none, some (.int (nI k)), some (.long (lN r)), none, some (.long (lN (bv j))), none] [] M := by
    intro j
    induction j with
    | zero =>
      intro r he hr hj
      refine x_lload_5 11 C dX5_rootDown_9 rfl ?_
      refine x_lconst (v := 0) 12 C dX5_rootDown_11 rfl rfl ?_
      refine x_lc_le 16 45 C dX5_rootDown_12 dX5_rootDown_13 rfl rfl (fun _ => ?_) (fun z => absurd ((lN_le0 (by decide)).mpr rfl) z)
      refine x_lload_3 46 C dX5_rootDown_45 rfl ?_
      refine x_lreturn C Rt dX5_rootDown_46 ⟨Nat.le_of_ble_eq_true rfl, Nat.le_of_ble_eq_true rfl⟩ ?_
      exact ⟨_, rfl, by rw [← he]; rfl, rfl⟩
    | succ j ih =>
      intro r he hr hj
      have hp : 2 ^ (j + 1) = 2 * 2 ^ j := (two_pow_succ j).symm
      have hj : j ≤ 60 := by omega
      have h60 : 2 ^ j ≤ 2 ^ 60 := Nat.pow_le_pow_right (by decide) hj
      have hb1 := pw_mono (k := k) (show r + 2 ^ j ≤ 2 ^ nb k N by omega)
      refine x_lload_5 11 C dX5_rootDown_9 rfl ?_
      refine x_lconst (v := 0) 12 C dX5_rootDown_11 rfl rfl ?_
      refine x_lc_le 16 45 C dX5_rootDown_12 dX5_rootDown_13 rfl rfl (fun z => absurd z ((fun z => absurd ((lN_le0 (by show 2 ^ j < _; omega)).mp z) (Nat.ne_of_gt bv_pos)))) (fun _ => ?_)
      refine x_lload_3 17 C dX5_rootDown_16 rfl ?_
      refine x_lload_5 19 C dX5_rootDown_17 rfl ?_
      refine x_ladd 20 C dX5_rootDown_19 rfl ?_
      refine x_topl (v' := lN (r + 2 ^ j)) (lN_add r (2 ^ j)) ?_
      refine x_iload_2 21 C dX5_rootDown_20 rfl ?_
      refine x_callS 24 C (c_X5_power K _ _ k hk) hy_X5_power ws_X5_power lk_X5_171 dX5_rootDown_21 rfl ⟨Nat.le_of_ble_eq_true rfl, Nat.le_of_ble_eq_true rfl⟩ ⟨Nat.le_of_ble_eq_true rfl, Nat.le_of_ble_eq_true rfl⟩ (Nat.le_of_ble_eq_true rfl) rfl (k_0 rfl rfl (k_lp ?_))
      refine x_lload_0 25 C dX5_rootDown_24 rfl ?_
      refine x_lc_gt 29 34 C dX5_rootDown_25 dX5_rootDown_26 rfl rfl (fun c_25 => ?_) (fun c_25 => ?_)
      · have hc : ¬ pw k (r + 2 ^ j) ≤ N := fun z => absurd ((lN_lt' (by omega) (by omega)).mp c_25) (by omega)
        refine x_lload_5 36 C dX5_rootDown_34 rfl ?_
        refine x_ldc2 (v := 2) 39 C dX5_rootDown_36 rfl wq_X5_52 ?_
        refine x_ldiv 40 C dX5_rootDown_39 rfl (by decide) ?_
        refine x_topl (v' := lN (bv j)) (lN_halfbv hj) ?_
        refine x_lstore_5 42 C dX5_rootDown_40 rfl rfl ?_
        refine x_goto 9 C dX5_rootDown_42 rfl ?_
        exact ih r (by rw [← he, rt, if_neg hc]) (by omega) (by omega)
      · have hc : pw k (r + 2 ^ j) ≤ N := by
          rcases Nat.lt_or_ge N (pw k (r + 2 ^ j)) with q | q
          · exact absurd ((lN_lt' (by omega) (by omega)).mpr q) c_25
          · exact q
        refine x_lload_3 30 C dX5_rootDown_29 rfl ?_
        refine x_lload_5 32 C dX5_rootDown_30 rfl ?_
        refine x_ladd 33 C dX5_rootDown_32 rfl ?_
        refine x_topl (v' := lN (r + 2 ^ j)) (lN_add r (2 ^ j)) ?_
        refine x_lstore_3 34 C dX5_rootDown_33 rfl rfl ?_
        refine x_lload_5 36 C dX5_rootDown_34 rfl ?_
        refine x_ldc2 (v := 2) 39 C dX5_rootDown_36 rfl wq_X5_52 ?_
        refine x_ldiv 40 C dX5_rootDown_39 rfl (by decide) ?_
        refine x_topl (v' := lN (bv j)) (lN_halfbv hj) ?_
        refine x_lstore_5 42 C dX5_rootDown_40 rfl rfl ?_
        refine x_goto 9 C dX5_rootDown_42 rfl ?_
        exact ih (r + 2 ^ j) (by rw [← he, rt, if_pos hc]) (by omega) (by omega)
  refine x_lconst (v := 0) 1 C dX5_rootDown_0 rfl rfl ?_
  refine x_lstore_3 2 C dX5_rootDown_1 rfl rfl ?_
  refine x_lload_0 3 C dX5_rootDown_2 rfl ?_
  refine x_iload_2 4 C dX5_rootDown_3 rfl ?_
  refine x_callS 7 C (c_X5_firstBit K _ N k hk hN) hy_X5_firstBit ws_X5_firstBit lk_X5_250 dX5_rootDown_4 rfl ⟨Nat.le_of_ble_eq_true rfl, Nat.le_of_ble_eq_true rfl⟩ ⟨Nat.le_of_ble_eq_true rfl, Nat.le_of_ble_eq_true rfl⟩ (Nat.le_of_ble_eq_true rfl) rfl (k_0 rfl rfl (k_lp ?_))
  refine x_lstore_5 9 C dX5_rootDown_7 rfl rfl ?_
  exact lp (nb k N) 0 rfl (by omega) (by omega)
set_option maxHeartbeats 4000000 in
set_option maxRecDepth 100000 in
theorem c_X5_bitsOfRoot (K : hKv) (M : hM) (N k : Nat) (hk : k = 2 ∨ k = 3) (hN : N < 2 ^ 60) : hC K Y_X5_bitsOfRoot rm_X5_bitsOfRoot [.long (lN N), .int (nI k)] M (hPi fun r M1 => r = nI (nb k N) ∧ M1 = M) := by
  refine hC.of [some (.long (lN N)), none, some (.int (nI k)), none, none, none] (by decide) (Nat.le_of_ble_eq_true rfl) rfl rfl ?_
  intro E C Rt
  have C : hCx E K cX5_bitsOfRoot 6 RX5 "bitsOfRoot" rm_X5_bitsOfRoot := C
  have hnb := nb_le (k := k) hN
  have lp : ∀ (j i : Nat), i + j = nb k N → hX E 0 0 9 [some (.long (lN N)), none, some (.int (nI k)), some (.int (nI i)), some (.long (lN (bv j))), none] [] M := by
    intro j
    induction j with
    | zero =>
      intro i hi
      refine x_lload_4 11 C dX5_bitsOfRoot_9 rfl ?_
      refine x_lconst (v := 0) 12 C dX5_bitsOfRoot_11 rfl rfl ?_
      refine x_lc_le 16 30 C dX5_bitsOfRoot_12 dX5_bitsOfRoot_13 rfl rfl (fun _ => ?_) (fun z => absurd ((lN_le0 (by decide)).mpr rfl) z)
      refine x_iload_3 31 C dX5_bitsOfRoot_30 rfl ?_
      refine x_ireturn C Rt dX5_bitsOfRoot_31 rfl ⟨Nat.le_of_ble_eq_true rfl, Nat.le_of_ble_eq_true rfl⟩ ?_
      exact ⟨_, rfl, by rw [← hi]; rfl, rfl⟩
    | succ j ih =>
      intro i hi
      have h60 : 2 ^ j ≤ 2 ^ 60 := Nat.pow_le_pow_right (by decide) (by omega)
      refine x_lload_4 11 C dX5_bitsOfRoot_9 rfl ?_
      refine x_lconst (v := 0) 12 C dX5_bitsOfRoot_11 rfl rfl ?_
      refine x_lc_le 16 30 C dX5_bitsOfRoot_12 dX5_bitsOfRoot_13 rfl rfl (fun z => absurd z ((fun z => absurd ((lN_le0 (by show 2 ^ j < _; omega)).mp z) (Nat.ne_of_gt bv_pos)))) (fun _ => ?_)
      refine x_iinc_3 19 C dX5_bitsOfRoot_16 rfl rfl (nI_inc _) ?_
      refine x_lload_4 21 C dX5_bitsOfRoot_19 rfl ?_
      refine x_ldc2 (v := 2) 24 C dX5_bitsOfRoot_21 rfl wq_X5_52 ?_
      refine x_ldiv 25 C dX5_bitsOfRoot_24 rfl (by decide) ?_
      refine x_topl (v' := lN (bv j)) (lN_halfbv (by omega)) ?_
      refine x_lstore_4 27 C dX5_bitsOfRoot_25 rfl rfl ?_
      refine x_goto 9 C dX5_bitsOfRoot_27 rfl ?_
      exact ih (i + 1) (by omega)
  refine x_iconst (v := 0) 1 C dX5_bitsOfRoot_0 rfl rfl ?_
  refine x_istore_3 2 C dX5_bitsOfRoot_1 rfl rfl ?_
  refine x_lload_0 3 C dX5_bitsOfRoot_2 rfl ?_
  refine x_iload_2 4 C dX5_bitsOfRoot_3 rfl ?_
  refine x_callS 7 C (c_X5_firstBit K _ N k hk hN) hy_X5_firstBit ws_X5_firstBit lk_X5_250 dX5_bitsOfRoot_4 rfl ⟨Nat.le_of_ble_eq_true rfl, Nat.le_of_ble_eq_true rfl⟩ ⟨Nat.le_of_ble_eq_true rfl, Nat.le_of_ble_eq_true rfl⟩ (Nat.le_of_ble_eq_true rfl) rfl (k_0 rfl rfl (k_lp ?_))
  refine x_lstore_4 9 C dX5_bitsOfRoot_7 rfl rfl ?_
  exact lp (nb k N) 0 (by omega)
set_option maxHeartbeats 4000000 in
set_option maxRecDepth 100000 in
theorem c_X5_rootRounded (K : hKv) (M : hM) (N k ρ : Nat) (hk : k = 2 ∨ k = 3) (hN : N < 2 ^ 60) (hρ : ρ ≤ 2) : hC K Y_X5_rootRounded rm_X5_rootRounded [.long (lN N), .int (nI k), .int (nI ρ)] M (hPl fun r M1 => r = lN (rr k N ρ) ∧ M1 = M) := by
  refine hC.of [some (.long (lN N)), none, some (.int (nI k)), some (.int (nI ρ)), none, none, none, none, none] (by decide) (Nat.le_of_ble_eq_true rfl) rfl rfl ?_
  intro E C Rt
  have C : hCx E K cX5_rootRounded 9 RX5 "rootRounded" rm_X5_rootRounded := C
  have hs := (sq_spec (k := k) hN).1
  have hlt := sq_lt (k := k) hN
  have e2 : nI ρ = 2 ↔ ρ = 2 := nI_eq (b := 2) (by omega) (by decide)
  have e1 : nI ρ = 1 ↔ ρ = 1 := nI_eq (b := 1) (by omega) (by decide)
  have m91 : ρ = 1 → hX E 0 0 91 [some (.long (lN N)), none, some (.int (nI k)), some (.int (nI ρ)), some (.long (lN (sq k N))), none, some (.long (lN (N - pw k (sq k N)))), none, none] [.int (hB (near k N))] M := by
    intro h1
    refine x_istore_8 93 C dX5_rootRounded_91 rfl rfl ?_
    refine x_iload_8 95 C dX5_rootRounded_93 rfl ?_
    refine x_if_eq 98 105 C dX5_rootRounded_95 rfl rfl (fun c_95 => ?_) (fun c_95 => ?_)
    · refine x_lload_4 107 C dX5_rootRounded_105 rfl ?_
      refine x_lreturn C Rt dX5_rootRounded_107 ⟨Nat.le_of_ble_eq_true rfl, Nat.le_of_ble_eq_true rfl⟩ ?_
      exact ⟨_, rfl, by rw [rr_1f h1 (hB_0.mp c_95)], rfl⟩
    · refine x_lload_4 100 C dX5_rootRounded_98 rfl ?_
      refine x_lconst (v := 1) 101 C dX5_rootRounded_100 rfl rfl ?_
      refine x_ladd 102 C dX5_rootRounded_101 rfl ?_
      refine x_topl (v' := lN (sq k N + 1)) (lN_1 _) ?_
      refine x_goto 107 C dX5_rootRounded_102 rfl ?_
      refine x_lreturn C Rt dX5_rootRounded_107 ⟨Nat.le_of_ble_eq_true rfl, Nat.le_of_ble_eq_true rfl⟩ ?_
      exact ⟨_, rfl, by rw [rr_1t h1 (hB_n0.mp c_95)], rfl⟩
  refine x_lload_0 1 C dX5_rootRounded_0 rfl ?_
  refine x_iload_2 2 C dX5_rootRounded_1 rfl ?_
  refine x_callS 5 C (c_X5_rootDown K _ N k hk hN) hy_X5_rootDown ws_X5_rootDown lk_X5_167 dX5_rootRounded_2 rfl ⟨Nat.le_of_ble_eq_true rfl, Nat.le_of_ble_eq_true rfl⟩ ⟨Nat.le_of_ble_eq_true rfl, Nat.le_of_ble_eq_true rfl⟩ (Nat.le_of_ble_eq_true rfl) rfl (k_0 rfl rfl (k_lp ?_))
  refine x_lstore_4 7 C dX5_rootRounded_5 rfl rfl ?_
  refine x_lload_0 8 C dX5_rootRounded_7 rfl ?_
  refine x_lload_4 10 C dX5_rootRounded_8 rfl ?_
  refine x_iload_2 11 C dX5_rootRounded_10 rfl ?_
  refine x_callS 14 C (c_X5_power K _ (sq k N) k hk) hy_X5_power ws_X5_power lk_X5_171 dX5_rootRounded_11 rfl ⟨Nat.le_of_ble_eq_true rfl, Nat.le_of_ble_eq_true rfl⟩ ⟨Nat.le_of_ble_eq_true rfl, Nat.le_of_ble_eq_true rfl⟩ (Nat.le_of_ble_eq_true rfl) rfl (k_0 rfl rfl (k_lp ?_))
  refine x_lsub 15 C dX5_rootRounded_14 rfl ?_
  refine x_topl (v' := lN (N - pw k (sq k N))) (lN_sub hs) ?_
  refine x_lstore_6 17 C dX5_rootRounded_15 rfl rfl ?_
  refine x_iload_3 18 C dX5_rootRounded_17 rfl ?_
  refine x_iconst (v := 2) 19 C dX5_rootRounded_18 rfl rfl ?_
  refine x_icmp_ne 22 39 C dX5_rootRounded_19 rfl rfl (fun c_19 => ?_) (fun c_19 => ?_)
  · refine x_iload_3 40 C dX5_rootRounded_39 rfl ?_
    refine x_iconst (v := 1) 41 C dX5_rootRounded_40 rfl rfl ?_
    refine x_icmp_ne 44 108 C dX5_rootRounded_41 rfl rfl (fun c_41 => ?_) (fun c_41 => ?_)
    · refine x_lload_4 110 C dX5_rootRounded_108 rfl ?_
      refine x_lreturn C Rt dX5_rootRounded_110 ⟨Nat.le_of_ble_eq_true rfl, Nat.le_of_ble_eq_true rfl⟩ ?_
      exact ⟨_, rfl, by rw [rr_0 (fun z => c_41 (e1.mpr z)) (fun z => c_19 (e2.mpr z))], rfl⟩
    · have h1 : ρ = 1 := e1.mp (c_41)
      refine x_iload_2 45 C dX5_rootRounded_44 rfl ?_
      refine x_iconst (v := 3) 46 C dX5_rootRounded_45 rfl rfl ?_
      refine x_icmp_ne 49 78 C dX5_rootRounded_46 rfl rfl (fun c_46 => ?_) (fun c_46 => ?_)
      · have h3 : ¬ k = 3 := fun z => c_46 ((c_kind hk).mpr z)
        refine x_lload_6 80 C dX5_rootRounded_78 rfl ?_
        refine x_lload_4 82 C dX5_rootRounded_80 rfl ?_
        refine x_lc_le 86 90 C dX5_rootRounded_82 dX5_rootRounded_83 rfl rfl (fun c_82 => ?_) (fun c_82 => ?_)
        · refine x_iconst (v := 0) 91 C dX5_rootRounded_90 rfl rfl ?_
          have h4 : ¬ sq k N < N - pw k (sq k N) := fun q => absurd ((lN_le' (by omega) (by omega)).mp c_82) (by omega)
          exact x_topi (hB_f (near_2f h3 h4)).symm (m91 h1)
        · refine x_iconst (v := 1) 87 C dX5_rootRounded_86 rfl rfl ?_
          refine x_goto 91 C dX5_rootRounded_87 rfl ?_
          have h4 : sq k N < N - pw k (sq k N) := by
            rcases Nat.lt_or_ge (sq k N) (N - pw k (sq k N)) with q | q
            · exact q
            · exact absurd ((lN_le' (by omega) (by omega)).mpr q) c_82
          exact x_topi (hB_t (near_2t h3 h4)).symm (m91 h1)
      · have h3 : k = 3 := (c_kind hk).mp (c_46)
        refine x_ldc2 (v := 8) 52 C dX5_rootRounded_49 rfl wq_X5_253 ?_
        refine x_lload_0 53 C dX5_rootRounded_52 rfl ?_
        refine x_lmul 54 C dX5_rootRounded_53 rfl ?_
        refine x_topl (v' := lN (8 * N)) (lN_mul 8 N) ?_
        refine x_ldc2 (v := 2) 57 C dX5_rootRounded_54 rfl wq_X5_52 ?_
        refine x_lload_4 59 C dX5_rootRounded_57 rfl ?_
        refine x_lmul 60 C dX5_rootRounded_59 rfl ?_
        refine x_topl (v' := lN (2 * sq k N)) (lN_mul 2 _) ?_
        refine x_lconst (v := 1) 61 C dX5_rootRounded_60 rfl rfl ?_
        refine x_ladd 62 C dX5_rootRounded_61 rfl ?_
        refine x_topl (v' := lN (2 * sq k N + 1)) (lN_1 _) ?_
        refine x_iconst (v := 3) 63 C dX5_rootRounded_62 rfl rfl ?_
        refine x_callS 66 C (c_X5_power K _ (2 * sq k N + 1) 3 (Or.inr rfl)) hy_X5_power ws_X5_power lk_X5_171 dX5_rootRounded_63 rfl ⟨Nat.le_of_ble_eq_true rfl, Nat.le_of_ble_eq_true rfl⟩ ⟨Nat.le_of_ble_eq_true rfl, Nat.le_of_ble_eq_true rfl⟩ (Nat.le_of_ble_eq_true rfl) rfl (k_0 rfl rfl (k_lp ?_))
        refine x_lc_le 70 74 C dX5_rootRounded_66 dX5_rootRounded_67 rfl rfl (fun c_66 => ?_) (fun c_66 => ?_)
        · refine x_iconst (v := 0) 75 C dX5_rootRounded_74 rfl rfl ?_
          refine x_goto 91 C dX5_rootRounded_75 rfl ?_
          have hb := pw3_big h3 hN
          have h4 : ¬ pw 3 (2 * sq k N + 1) < 8 * N := fun q => absurd ((lN_le' (by omega) (by omega)).mp c_66) (by omega)
          exact x_topi (hB_f (near_3f h3 h4)).symm (m91 h1)
        · refine x_iconst (v := 1) 71 C dX5_rootRounded_70 rfl rfl ?_
          refine x_goto 91 C dX5_rootRounded_71 rfl ?_
          have hb := pw3_big h3 hN
          have h4 : pw 3 (2 * sq k N + 1) < 8 * N := by
            rcases Nat.lt_or_ge (pw 3 (2 * sq k N + 1)) (8 * N) with q | q
            · exact q
            · exact absurd ((lN_le' (by omega) (by omega)).mpr q) c_66
          exact x_topi (hB_t (near_3t h3 h4)).symm (m91 h1)
  · refine x_lload_6 24 C dX5_rootRounded_22 rfl ?_
    refine x_lconst (v := 0) 25 C dX5_rootRounded_24 rfl rfl ?_
    refine x_lc_le 29 36 C dX5_rootRounded_25 dX5_rootRounded_26 rfl rfl (fun c_25 => ?_) (fun c_25 => ?_)
    · have h2 : ρ = 2 := e2.mp (c_19)
      have h3 : ¬ pw k (sq k N) < N := fun q => absurd ((lN_le0 (by omega)).mp c_25) (by omega)
      refine x_lload_4 38 C dX5_rootRounded_36 rfl ?_
      refine x_lreturn C Rt dX5_rootRounded_38 ⟨Nat.le_of_ble_eq_true rfl, Nat.le_of_ble_eq_true rfl⟩ ?_
      exact ⟨_, rfl, by rw [rr_2f h2 h3], rfl⟩
    · have h2 : ρ = 2 := e2.mp (c_19)
      have h3 : pw k (sq k N) < N := by
        rcases Nat.lt_or_ge (pw k (sq k N)) N with q | q
        · exact q
        · exact absurd ((lN_le0 (by omega)).mpr (by omega)) c_25
      refine x_lload_4 31 C dX5_rootRounded_29 rfl ?_
      refine x_lconst (v := 1) 32 C dX5_rootRounded_31 rfl rfl ?_
      refine x_ladd 33 C dX5_rootRounded_32 rfl ?_
      refine x_topl (v' := lN (sq k N + 1)) (lN_1 _) ?_
      refine x_goto 38 C dX5_rootRounded_33 rfl ?_
      refine x_lreturn C Rt dX5_rootRounded_38 ⟨Nat.le_of_ble_eq_true rfl, Nat.le_of_ble_eq_true rfl⟩ ?_
      exact ⟨_, rfl, by rw [rr_2t h2 h3], rfl⟩
