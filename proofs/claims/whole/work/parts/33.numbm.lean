noncomputable def sp_digits (τ : hS1) (n : Int32) : Int32 := spQ (0 ≤ n.toInt ∧ n.toInt ≤ 1000000) (nI (rr 2 (n.toInt.toNat * 100 ^ τ.2.1) τ.1)) (-2)
def ptL (N : Nat) : Int64 := lN (sq 2 N) + lN (sq 3 N) - lN (sq 3 (sq 2 N)) + 1
def ptI (x : Int) : Int64 := if x < 0 then 0 else ptL x.toNat
noncomputable def sp_powers (a b : Int64) : Int32 := spQ ((0 ≤ a.toInt ∧ a.toInt ≤ 1000000000000) ∧ a.toInt ≤ b.toInt ∧ b.toInt ≤ 1000000000000) ((ptI b.toInt - ptI (a.toInt - 1)).toInt32) (-2)
def rsS : Nat → Nat
  | 0 => 0
  | k + 1 => rsS k + k * (2 * k + 1)
def rsN (n : Nat) : Nat := sq 2 n * (n - sq 2 n * sq 2 n + 1) + rsS (sq 2 n)
noncomputable def sp_rootSum (n : Int32) : Int64 := spQ (0 ≤ n.toInt ∧ n.toInt ≤ 1000000000) (lN (rsN n.toInt.toNat)) (-2)
theorem l_sub1 (a : Int64) : a - 1 = lI (a.toInt - 1) := by
  have e : a = lI a.toInt := (Int64.ofInt_toInt a).symm
  have h := lI_sub a.toInt 1
  rw [← e] at h
  exact h
theorem pow100 {d : Nat} (h : d ≤ 6) : 100 ^ d ≤ 1000000000000 := by
  have := Nat.pow_le_pow_right (n := 100) (by decide) h
  exact Nat.le_trans this (by decide)
theorem dg_bd {n d : Nat} (hn : n ≤ 1000000) (h : d ≤ 6) : n * 100 ^ d < 2 ^ 60 := by
  have := Nat.mul_le_mul hn (pow100 h)
  omega
theorem sq2_le {N R : Nat} (hN : N < 2 ^ 60) (h : N < R * R) : sq 2 N < R := by
  rcases Nat.lt_or_ge (sq 2 N) R with q | q
  · exact q
  · have h1 := (sq_spec (k := 2) hN).1
    have h2 : pw 2 (sq 2 N) = sq 2 N * sq 2 N := rfl
    have h3 := Nat.mul_le_mul q q
    omega
theorem sq2_pw {N : Nat} (hN : N < 2 ^ 60) : sq 2 N * sq 2 N ≤ N ∧ N < (sq 2 N + 1) * (sq 2 N + 1) := sq_spec (k := 2) hN
set_option maxHeartbeats 4000000 in
set_option maxRecDepth 100000 in
theorem c_X6_root (K : hKv) (M : hM) {A : Nat → Nat} {z : Nat → Int32} {F : Nat → Nat → Int32} {G : Nat → Nat → Int64} (W : mW K A z F G M) {τ : hS1} (hr : encN τ (F 1)) (ho : ok1 τ) (n : Int64) (k : Int32) : hC K Y_X6_root rm_X6_root [.ref (A 0), .long n, .int k] M (hPi fun r M' => r = sp_root τ.1 n k ∧ M' = M) := by
  refine hC.of [some (.ref (A 0)), some (.long n), none, some (.int k)] (by decide) (Nat.le_of_ble_eq_true rfl) rfl rfl ?_
  intro E C Rt
  have C : hCx E K cX6_root 4 RX6 "root" rm_X6_root := C
  refine x_lload_1 1 C dX6_root_0 rfl ?_
  refine x_iload_3 2 C dX6_root_1 rfl ?_
  refine x_callS 5 C (c_X6_isAsked K _ _ _) hy_X6_isAsked ws_X6_isAsked lk_X6_171 dX6_root_2 rfl ⟨Nat.le_of_ble_eq_true rfl, Nat.le_of_ble_eq_true rfl⟩ ⟨Nat.le_of_ble_eq_true rfl, Nat.le_of_ble_eq_true rfl⟩ (Nat.le_of_ble_eq_true rfl) rfl (k_0 rfl rfl (k_iq (fun r_1 h_a => ?_)))
  refine x_if_eq 8 18 C dX6_root_5 rfl rfl (fun c_5 => ?_) (fun c_5 => ?_)
  · have h_k : ¬ askd n k := by
      rcases h_a with h | h
      · exact absurd (h.1.symm.trans c_5) (by decide)
      · exact h.2
    refine x_bipush (v := (-2)) 20 C dX6_root_18 rfl rfl ?_
    refine x_ireturn C Rt dX6_root_20 rfl ⟨Nat.le_of_ble_eq_true rfl, Nat.le_of_ble_eq_true rfl⟩ ?_
    exact ⟨_, rfl, by rw [sp_root, spQ_f h_k], rfl⟩
  · have h_k : askd n k := by
      rcases h_a with h | h
      · exact h.2
      · exact absurd h.1 c_5
    obtain ⟨N, j, hN, hj, rfl, rfl⟩ := askd_of h_k
    refine x_aload_0 9 C dX6_root_8 rfl ?_
    refine x_lload_1 10 C dX6_root_9 rfl ?_
    refine x_iload_3 11 C dX6_root_10 rfl ?_
    refine x_callV 14 C (c_X6_rounded K _ W N j τ.1 hj (LG60 hN) ho.1 hr.1) W.obj wcl_X6 hy_X6_rounded wv_X6_rounded we_X6_rounded lk_X6_150 dX6_root_11 rfl ⟨Nat.le_of_ble_eq_true rfl, Nat.le_of_ble_eq_true rfl⟩ ⟨Nat.le_of_ble_eq_true rfl, Nat.le_of_ble_eq_true rfl⟩ (Nat.le_of_ble_eq_true rfl) rfl (k_0 rfl rfl (k_lp ?_))
    refine x_l2i 15 C dX6_root_14 rfl ?_
    refine x_topi (lN_i _) ?_
    refine x_goto 20 C dX6_root_15 rfl ?_
    refine x_ireturn C Rt dX6_root_20 rfl ⟨Nat.le_of_ble_eq_true rfl, Nat.le_of_ble_eq_true rfl⟩ ?_
    exact ⟨_, rfl, by rw [sp_root, spQ_t h_k, nI_toN (by omega), lN_toN hN], rfl⟩
set_option maxHeartbeats 4000000 in
set_option maxRecDepth 100000 in
theorem c_X6_digits (K : hKv) (M : hM) {A : Nat → Nat} {z : Nat → Int32} {F : Nat → Nat → Int32} {G : Nat → Nat → Int64} (W : mW K A z F G M) {τ : hS1} (hr : encN τ (F 1)) (ho : ok1 τ) (n : Int32) : hC K Y_X6_digits rm_X6_digits [.ref (A 0), .int n] M (hPi fun r M' => r = sp_digits τ n ∧ M' = M) := by
  refine hC.of [some (.ref (A 0)), some (.int n), none, none, none] (by decide) (Nat.le_of_ble_eq_true rfl) rfl rfl ?_
  intro E C Rt
  have C : hCx E K cX6_digits 5 RX6 "digits" rm_X6_digits := C
  have hd6 := ho.2.1
  have lp : ∀ (N : Nat), N ≤ 1000000 → (hPi (fun r M' => r = sp_digits τ n ∧ M' = M) (some (.int (nI (rr 2 (N * 100 ^ τ.2.1) τ.1)))) M) → ∀ (d k : Nat), k + d = τ.2.1 → hX E 0 0 19 [some (.ref (A 0)), some (.int n), some (.long (lN (N * 100 ^ k))), none, some (.int (nI k))] [] M := by
    intro N hN hfin d
    induction d with
    | zero =>
      intro k hk
      have hk : k = τ.2.1 := by omega
      subst hk
      refine x_iload_4 21 C dX6_digits_19 rfl ?_
      refine x_aload_0 22 C dX6_digits_21 rfl ?_
      refine mOg_now 25 C wf_X6_7 W.obj dX6_digits_22 rfl ?_
      refine x_iconst (v := 1) 26 C dX6_digits_25 rfl rfl ?_
      refine x_iald 27 (1) C W.now (rfl) (by decide) (by decide) dX6_digits_26 rfl ?_
      refine x_topi hr.2.1 ?_
      refine x_icmp_ge 30 42 C dX6_digits_27 rfl rfl (fun _ => ?_) (fun z => absurd (nI_le (Nat.le_refl _) (by omega)) z)
      refine x_aload_0 43 C dX6_digits_42 rfl ?_
      refine x_lload_2 44 C dX6_digits_43 rfl ?_
      refine x_iconst (v := 2) 45 C dX6_digits_44 rfl rfl ?_
      refine x_topi (v' := nI 2) rfl ?_
      refine x_callV 48 C (c_X6_rounded K _ W (N * 100 ^ τ.2.1) 2 τ.1 (Or.inl rfl) (dg_bd hN hd6) ho.1 hr.1) W.obj wcl_X6 hy_X6_rounded wv_X6_rounded we_X6_rounded lk_X6_150 dX6_digits_45 rfl ⟨Nat.le_of_ble_eq_true rfl, Nat.le_of_ble_eq_true rfl⟩ ⟨Nat.le_of_ble_eq_true rfl, Nat.le_of_ble_eq_true rfl⟩ (Nat.le_of_ble_eq_true rfl) rfl (k_0 rfl rfl (k_lp ?_))
      refine x_l2i 49 C dX6_digits_48 rfl ?_
      refine x_topi (lN_i _) ?_
      refine x_ireturn C Rt dX6_digits_49 rfl ⟨Nat.le_of_ble_eq_true rfl, Nat.le_of_ble_eq_true rfl⟩ ?_
      exact hfin
    | succ d ih =>
      intro k hk
      have hk8 : k < τ.2.1 := by omega
      refine x_iload_4 21 C dX6_digits_19 rfl ?_
      refine x_aload_0 22 C dX6_digits_21 rfl ?_
      refine mOg_now 25 C wf_X6_7 W.obj dX6_digits_22 rfl ?_
      refine x_iconst (v := 1) 26 C dX6_digits_25 rfl rfl ?_
      refine x_iald 27 (1) C W.now (rfl) (by decide) (by decide) dX6_digits_26 rfl ?_
      refine x_topi hr.2.1 ?_
      refine x_icmp_ge 30 42 C dX6_digits_27 rfl rfl (fun z => absurd z (nI_ge hk8 (by omega))) (fun _ => ?_)
      refine x_lload_2 31 C dX6_digits_30 rfl ?_
      refine x_ldc2 (v := 100) 34 C dX6_digits_31 rfl wq_X6_178 ?_
      refine x_lmul 35 C dX6_digits_34 rfl ?_
      refine x_topl (v' := lN (N * 100 ^ (k + 1))) ((lN_mul _ 100).trans (by rw [Nat.pow_succ, Nat.mul_assoc])) ?_
      refine x_lstore_2 36 C dX6_digits_35 rfl rfl ?_
      refine x_iinc_4 39 C dX6_digits_36 rfl rfl (nI_inc _) ?_
      refine x_goto 19 C dX6_digits_39 rfl ?_
      exact ih (k + 1) (by omega)
  refine x_iload_1 1 C dX6_digits_0 rfl ?_
  refine x_iconst (v := 0) 2 C dX6_digits_1 rfl rfl ?_
  refine x_ldc (v := 1000000) 4 C dX6_digits_2 rfl wq_X6_177 ?_
  refine x_callS 7 C (c_X6_in K _ _ _ _) hy_X6_in ws_X6_in lk_X6_57 dX6_digits_4 rfl ⟨Nat.le_of_ble_eq_true rfl, Nat.le_of_ble_eq_true rfl⟩ ⟨Nat.le_of_ble_eq_true rfl, Nat.le_of_ble_eq_true rfl⟩ (Nat.le_of_ble_eq_true rfl) rfl (k_0 rfl rfl (k_ip ?_))
  refine x_if_ne 10 13 C dX6_digits_7 rfl rfl (fun c_7 => ?_) (fun c_7 => ?_)
  · simp only [Classical.not_not, hB_0p, hB_n0p, Int32.toInt_toInt64, tl_LG, ti_m1, Int32.lt_iff_toInt_lt, Int32.le_iff_toInt_le, Int64.lt_iff_toInt_lt, Int64.le_iff_toInt_le, tl_0, ti_0, tl_1, ti_1, tl_2, ti_2, tl_3, ti_3, tl_4, ti_4, tl_5, ti_5, tl_6, ti_6, tl_7, ti_7, tl_8, ti_8, tl_9, ti_9, tl_10, ti_10, tl_33, ti_33, tl_60, ti_60, tl_100, ti_100, tl_126, ti_126, tl_255, ti_255, tl_500, ti_500, tl_9999, ti_9999, tl_10000, ti_10000, tl_100000, ti_100000, tl_1000000, ti_1000000, tl_1000000000, ti_1000000000] at c_7
    obtain ⟨N, hN, rfl⟩ := in_nI (b := 1000000) c_7
    refine x_iload_1 14 C dX6_digits_13 rfl ?_
    refine x_i2l 15 C dX6_digits_14 rfl ?_
    refine x_topl (nI_l (by omega)) ?_
    refine x_lstore_2 16 C dX6_digits_15 rfl rfl ?_
    refine x_iconst (v := 0) 17 C dX6_digits_16 rfl rfl ?_
    refine x_istore_4 19 C dX6_digits_17 rfl rfl ?_
    have h := lp N hN ⟨_, rfl, by rw [sp_digits, spQ_t c_7, nI_toN (by omega)], rfl⟩ τ.2.1 0 (Nat.zero_add _)
    rw [Nat.pow_zero, Nat.mul_one] at h
    exact h
  · refine x_bipush (v := (-2)) 12 C dX6_digits_10 rfl rfl ?_
    refine x_ireturn C Rt dX6_digits_12 rfl ⟨Nat.le_of_ble_eq_true rfl, Nat.le_of_ble_eq_true rfl⟩ ?_
    simp only [Classical.not_not, hB_0p, hB_n0p, Int32.toInt_toInt64, tl_LG, ti_m1, Int32.lt_iff_toInt_lt, Int32.le_iff_toInt_le, Int64.lt_iff_toInt_lt, Int64.le_iff_toInt_le, tl_0, ti_0, tl_1, ti_1, tl_2, ti_2, tl_3, ti_3, tl_4, ti_4, tl_5, ti_5, tl_6, ti_6, tl_7, ti_7, tl_8, ti_8, tl_9, ti_9, tl_10, ti_10, tl_33, ti_33, tl_60, ti_60, tl_100, ti_100, tl_126, ti_126, tl_255, ti_255, tl_500, ti_500, tl_9999, ti_9999, tl_10000, ti_10000, tl_100000, ti_100000, tl_1000000, ti_1000000, tl_1000000000, ti_1000000000] at c_7
    exact ⟨_, rfl, by rw [sp_digits, spQ_f (by omega)], rfl⟩
set_option maxHeartbeats 4000000 in
set_option maxRecDepth 100000 in
theorem c_X6_powersTo (K : hKv) (M : hM) (x : Int) (h1 : -1 ≤ x) (h2 : x ≤ 1000000000000) : hC K Y_X6_powersTo rm_X6_powersTo [.long (lI x)] M (hPl fun r M' => r = ptI x ∧ M' = M) := by
  refine hC.of [some (.long (lI x)), none] (by decide) (Nat.le_of_ble_eq_true rfl) rfl rfl ?_
  intro E C Rt
  have C : hCx E K cX6_powersTo 2 RX6 "powersTo" rm_X6_powersTo := C
  refine x_lload_0 1 C dX6_powersTo_0 rfl ?_
  refine x_lconst (v := 0) 2 C dX6_powersTo_1 rfl rfl ?_
  refine x_lc_ge 6 10 C dX6_powersTo_2 dX6_powersTo_3 rfl rfl (fun c_2 => ?_) (fun c_2 => ?_)
  · obtain ⟨N, rfl⟩ : ∃ N : Nat, x = N := ⟨x.toNat, by have := (lI_0l (by omega)).mp c_2; omega⟩
    have hN : N < 2 ^ 60 := by omega
    have hs := sq_lt (k := 2) hN
    rw [← lN_lI]
    refine x_lload_0 11 C dX6_powersTo_10 rfl ?_
    
    refine x_iconst (v := 2) 12 C dX6_powersTo_11 rfl rfl ?_
    refine x_topi (v' := nI 2) rfl ?_
    refine x_callS 15 C (c_X6_floorRoot K _ N 2 (by decide) hN) hy_X6_floorRoot ws_X6_floorRoot lk_X6_133 dX6_powersTo_12 rfl ⟨Nat.le_of_ble_eq_true rfl, Nat.le_of_ble_eq_true rfl⟩ ⟨Nat.le_of_ble_eq_true rfl, Nat.le_of_ble_eq_true rfl⟩ (Nat.le_of_ble_eq_true rfl) rfl (k_0 rfl rfl (k_lp ?_))
    refine x_lload_0 16 C dX6_powersTo_15 rfl ?_
    refine x_iconst (v := 3) 17 C dX6_powersTo_16 rfl rfl ?_
    refine x_topi (v' := nI 3) rfl ?_
    refine x_callS 20 C (c_X6_floorRoot K _ N 3 (by decide) hN) hy_X6_floorRoot ws_X6_floorRoot lk_X6_133 dX6_powersTo_17 rfl ⟨Nat.le_of_ble_eq_true rfl, Nat.le_of_ble_eq_true rfl⟩ ⟨Nat.le_of_ble_eq_true rfl, Nat.le_of_ble_eq_true rfl⟩ (Nat.le_of_ble_eq_true rfl) rfl (k_0 rfl rfl (k_lp ?_))
    refine x_ladd 21 C dX6_powersTo_20 rfl ?_
    refine x_lload_0 22 C dX6_powersTo_21 rfl ?_
    refine x_iconst (v := 2) 23 C dX6_powersTo_22 rfl rfl ?_
    refine x_topi (v' := nI 2) rfl ?_
    refine x_callS 26 C (c_X6_floorRoot K _ N 2 (by decide) hN) hy_X6_floorRoot ws_X6_floorRoot lk_X6_133 dX6_powersTo_23 rfl ⟨Nat.le_of_ble_eq_true rfl, Nat.le_of_ble_eq_true rfl⟩ ⟨Nat.le_of_ble_eq_true rfl, Nat.le_of_ble_eq_true rfl⟩ (Nat.le_of_ble_eq_true rfl) rfl (k_0 rfl rfl (k_lp ?_))
    refine x_iconst (v := 3) 27 C dX6_powersTo_26 rfl rfl ?_
    refine x_topi (v' := nI 3) rfl ?_
    refine x_callS 30 C (c_X6_floorRoot K _ (sq 2 N) 3 (by decide) (by omega)) hy_X6_floorRoot ws_X6_floorRoot lk_X6_133 dX6_powersTo_27 rfl ⟨Nat.le_of_ble_eq_true rfl, Nat.le_of_ble_eq_true rfl⟩ ⟨Nat.le_of_ble_eq_true rfl, Nat.le_of_ble_eq_true rfl⟩ (Nat.le_of_ble_eq_true rfl) rfl (k_0 rfl rfl (k_lp ?_))
    refine x_lsub 31 C dX6_powersTo_30 rfl ?_
    refine x_lconst (v := 1) 32 C dX6_powersTo_31 rfl rfl ?_
    refine x_ladd 33 C dX6_powersTo_32 rfl ?_
    refine x_lreturn C Rt dX6_powersTo_33 ⟨Nat.le_of_ble_eq_true rfl, Nat.le_of_ble_eq_true rfl⟩ ?_
    exact ⟨_, rfl, by rw [ptI, if_neg (by omega)]; rfl, rfl⟩
  · refine x_lconst (v := 0) 7 C dX6_powersTo_6 rfl rfl ?_
    refine x_goto 33 C dX6_powersTo_7 rfl ?_
    refine x_lreturn C Rt dX6_powersTo_33 ⟨Nat.le_of_ble_eq_true rfl, Nat.le_of_ble_eq_true rfl⟩ ?_
    have h0 : x < 0 := Decidable.by_contra fun q => c_2 ((lI_0l (by omega)).mpr (by omega))
    exact ⟨_, rfl, by rw [ptI, if_pos h0], rfl⟩
set_option maxHeartbeats 4000000 in
set_option maxRecDepth 100000 in
theorem c_X6_powers (K : hKv) (M : hM) (o : Nat) (a b : Int64) : hC K Y_X6_powers rm_X6_powers [.ref o, .long a, .long b] M (hPi fun r M' => r = sp_powers a b ∧ M' = M) := by
  refine hC.of [some (.ref o), some (.long a), none, some (.long b), none] (by decide) (Nat.le_of_ble_eq_true rfl) rfl rfl ?_
  intro E C Rt
  have C : hCx E K cX6_powers 5 RX6 "powers" rm_X6_powers := C
  refine x_lload_1 1 C dX6_powers_0 rfl ?_
  refine x_callS 4 C (c_X6_isValue K _ _) hy_X6_isValue ws_X6_isValue lk_X6_66 dX6_powers_1 rfl ⟨Nat.le_of_ble_eq_true rfl, Nat.le_of_ble_eq_true rfl⟩ ⟨Nat.le_of_ble_eq_true rfl, Nat.le_of_ble_eq_true rfl⟩ (Nat.le_of_ble_eq_true rfl) rfl (k_0 rfl rfl (k_ip ?_))
  refine x_if_eq 7 21 C dX6_powers_4 rfl rfl (fun c_4 => ?_) (fun c_4 => ?_)
  · refine x_bipush (v := (-2)) 23 C dX6_powers_21 rfl rfl ?_
    refine x_ireturn C Rt dX6_powers_23 rfl ⟨Nat.le_of_ble_eq_true rfl, Nat.le_of_ble_eq_true rfl⟩ ?_
    simp only [Classical.not_not, hB_0p, hB_n0p, Int32.toInt_toInt64, tl_LG, ti_m1, Int32.lt_iff_toInt_lt, Int32.le_iff_toInt_le, Int64.lt_iff_toInt_lt, Int64.le_iff_toInt_le, tl_0, ti_0, tl_1, ti_1, tl_2, ti_2, tl_3, ti_3, tl_4, ti_4, tl_5, ti_5, tl_6, ti_6, tl_7, ti_7, tl_8, ti_8, tl_9, ti_9, tl_10, ti_10, tl_33, ti_33, tl_60, ti_60, tl_100, ti_100, tl_126, ti_126, tl_255, ti_255, tl_500, ti_500, tl_9999, ti_9999, tl_10000, ti_10000, tl_100000, ti_100000, tl_1000000, ti_1000000, tl_1000000000, ti_1000000000] at c_4
    exact ⟨_, rfl, by rw [sp_powers, spQ_f (by omega)], rfl⟩
  · refine x_lload_3 8 C dX6_powers_7 rfl ?_
    refine x_lload_1 9 C dX6_powers_8 rfl ?_
    refine x_lc_lt 13 21 C dX6_powers_9 dX6_powers_10 rfl rfl (fun c_9 => ?_) (fun c_9 => ?_)
    · refine x_bipush (v := (-2)) 23 C dX6_powers_21 rfl rfl ?_
      refine x_ireturn C Rt dX6_powers_23 rfl ⟨Nat.le_of_ble_eq_true rfl, Nat.le_of_ble_eq_true rfl⟩ ?_
      simp only [Classical.not_not, hB_0p, hB_n0p, Int32.toInt_toInt64, tl_LG, ti_m1, Int32.lt_iff_toInt_lt, Int32.le_iff_toInt_le, Int64.lt_iff_toInt_lt, Int64.le_iff_toInt_le, tl_0, ti_0, tl_1, ti_1, tl_2, ti_2, tl_3, ti_3, tl_4, ti_4, tl_5, ti_5, tl_6, ti_6, tl_7, ti_7, tl_8, ti_8, tl_9, ti_9, tl_10, ti_10, tl_33, ti_33, tl_60, ti_60, tl_100, ti_100, tl_126, ti_126, tl_255, ti_255, tl_500, ti_500, tl_9999, ti_9999, tl_10000, ti_10000, tl_100000, ti_100000, tl_1000000, ti_1000000, tl_1000000000, ti_1000000000] at c_4 c_9
      exact ⟨_, rfl, by rw [sp_powers, spQ_f (by omega)], rfl⟩
    · refine x_lload_3 14 C dX6_powers_13 rfl ?_
      refine x_ldc2 (v := 1000000000000) 17 C dX6_powers_14 rfl wq_X6_51 ?_
      refine x_lc_le 21 24 C dX6_powers_17 dX6_powers_18 rfl rfl (fun c_17 => ?_) (fun c_17 => ?_)
      · simp only [Classical.not_not, hB_0p, hB_n0p, Int32.toInt_toInt64, tl_LG, ti_m1, Int32.lt_iff_toInt_lt, Int32.le_iff_toInt_le, Int64.lt_iff_toInt_lt, Int64.le_iff_toInt_le, tl_0, ti_0, tl_1, ti_1, tl_2, ti_2, tl_3, ti_3, tl_4, ti_4, tl_5, ti_5, tl_6, ti_6, tl_7, ti_7, tl_8, ti_8, tl_9, ti_9, tl_10, ti_10, tl_33, ti_33, tl_60, ti_60, tl_100, ti_100, tl_126, ti_126, tl_255, ti_255, tl_500, ti_500, tl_9999, ti_9999, tl_10000, ti_10000, tl_100000, ti_100000, tl_1000000, ti_1000000, tl_1000000000, ti_1000000000] at c_4 c_9 c_17
        have hLL : (1000000000000 : Int64).toInt = 1000000000000 := rfl
        refine x_lload_3 25 C dX6_powers_24 rfl ?_
        refine x_topl (v' := lI b.toInt) (Int64.ofInt_toInt b).symm ?_
        refine x_callS 28 C (c_X6_powersTo K _ b.toInt (by omega) (by omega)) hy_X6_powersTo ws_X6_powersTo lk_X6_207 dX6_powers_25 rfl ⟨Nat.le_of_ble_eq_true rfl, Nat.le_of_ble_eq_true rfl⟩ ⟨Nat.le_of_ble_eq_true rfl, Nat.le_of_ble_eq_true rfl⟩ (Nat.le_of_ble_eq_true rfl) rfl (k_0 rfl rfl (k_lp ?_))
        refine x_lload_1 29 C dX6_powers_28 rfl ?_
        refine x_lconst (v := 1) 30 C dX6_powers_29 rfl rfl ?_
        refine x_lsub 31 C dX6_powers_30 rfl ?_
        refine x_topl (v' := lI (a.toInt - 1)) (l_sub1 a) ?_
        refine x_callS 34 C (c_X6_powersTo K _ (a.toInt - 1) (by omega) (by omega)) hy_X6_powersTo ws_X6_powersTo lk_X6_207 dX6_powers_31 rfl ⟨Nat.le_of_ble_eq_true rfl, Nat.le_of_ble_eq_true rfl⟩ ⟨Nat.le_of_ble_eq_true rfl, Nat.le_of_ble_eq_true rfl⟩ (Nat.le_of_ble_eq_true rfl) rfl (k_0 rfl rfl (k_lp ?_))
        refine x_lsub 35 C dX6_powers_34 rfl ?_
        refine x_l2i 36 C dX6_powers_35 rfl ?_
        refine x_ireturn C Rt dX6_powers_36 rfl ⟨Nat.le_of_ble_eq_true rfl, Nat.le_of_ble_eq_true rfl⟩ ?_
        exact ⟨_, rfl, by rw [sp_powers, spQ_t (by omega)], rfl⟩
      · refine x_bipush (v := (-2)) 23 C dX6_powers_21 rfl rfl ?_
        refine x_ireturn C Rt dX6_powers_23 rfl ⟨Nat.le_of_ble_eq_true rfl, Nat.le_of_ble_eq_true rfl⟩ ?_
        simp only [Classical.not_not, hB_0p, hB_n0p, Int32.toInt_toInt64, tl_LG, ti_m1, Int32.lt_iff_toInt_lt, Int32.le_iff_toInt_le, Int64.lt_iff_toInt_lt, Int64.le_iff_toInt_le, tl_0, ti_0, tl_1, ti_1, tl_2, ti_2, tl_3, ti_3, tl_4, ti_4, tl_5, ti_5, tl_6, ti_6, tl_7, ti_7, tl_8, ti_8, tl_9, ti_9, tl_10, ti_10, tl_33, ti_33, tl_60, ti_60, tl_100, ti_100, tl_126, ti_126, tl_255, ti_255, tl_500, ti_500, tl_9999, ti_9999, tl_10000, ti_10000, tl_100000, ti_100000, tl_1000000, ti_1000000, tl_1000000000, ti_1000000000] at c_4 c_9 c_17
        exact ⟨_, rfl, by rw [sp_powers, spQ_f (by have : (1000000000000 : Int64).toInt = 1000000000000 := rfl; omega)], rfl⟩
set_option maxHeartbeats 4000000 in
set_option maxRecDepth 100000 in
theorem c_X6_rootSum (K : hKv) (M : hM) (o : Nat) (n : Int32) : hC K Y_X6_rootSum rm_X6_rootSum [.ref o, .int n] M (hPl fun r M' => r = sp_rootSum n ∧ M' = M) := by
  refine hC.of [some (.ref o), some (.int n), none, none, none, none, none, none] (by decide) (Nat.le_of_ble_eq_true rfl) rfl rfl ?_
  intro E C Rt
  have C : hCx E K cX6_rootSum 8 RX6 "rootSum" rm_X6_rootSum := C
  have lp : ∀ (o : Nat) (nn : Int32) (N R : Nat), N ≤ 1000000000 → sq 2 N = R → R < 2 ^ 30 → (hPl (fun r M' => r = sp_rootSum n ∧ M' = M) (some (.long (lN (R * (N - R * R + 1) + rsS R)))) M) → ∀ (d k : Nat), k + d = R → ∀ x : Nat, x = R * (N - R * R + 1) + rsS k → hX E 0 0 36 [some (.ref o), some (.int nn), some (.long (lN R)), none, some (.long (lN x)), none, some (.long (lN k)), none] [] M := by
    intro o nn N R hN hR hR30 hfin d
    induction d with
    | zero =>
      intro k hk x hx
      have hk : k = R := by omega
      subst hk
      subst hx
      refine x_lload_6 38 C dX6_rootSum_36 rfl ?_
      refine x_lload_2 39 C dX6_rootSum_38 rfl ?_
      refine x_lc_ge 43 68 C dX6_rootSum_39 dX6_rootSum_40 rfl rfl (fun _ => ?_) (fun z => absurd ((lN_le' (by omega) (by omega)).mpr (Nat.le_refl _)) z)
      refine x_lload_4 70 C dX6_rootSum_68 rfl ?_
      refine x_lreturn C Rt dX6_rootSum_70 ⟨Nat.le_of_ble_eq_true rfl, Nat.le_of_ble_eq_true rfl⟩ ?_
      exact hfin
    | succ d ih =>
      intro k hk x hx
      refine x_lload_6 38 C dX6_rootSum_36 rfl ?_
      refine x_lload_2 39 C dX6_rootSum_38 rfl ?_
      refine x_lc_ge 43 68 C dX6_rootSum_39 dX6_rootSum_40 rfl rfl (fun z => absurd z ((fun q => by have := (lN_le' (by omega) (by omega)).mp q; omega))) (fun _ => ?_)
      refine x_lload_4 45 C dX6_rootSum_43 rfl ?_
      refine x_lload_6 47 C dX6_rootSum_45 rfl ?_
      refine x_ldc2 (v := 2) 50 C dX6_rootSum_47 rfl wq_X6_124 ?_
      refine x_lload_6 52 C dX6_rootSum_50 rfl ?_
      refine x_lmul 53 C dX6_rootSum_52 rfl ?_
      refine x_topl (lN_mul 2 k) ?_
      refine x_lconst (v := 1) 54 C dX6_rootSum_53 rfl rfl ?_
      refine x_ladd 55 C dX6_rootSum_54 rfl ?_
      refine x_topl (lN_1 _) ?_
      refine x_lmul 56 C dX6_rootSum_55 rfl ?_
      refine x_topl (lN_mul _ _) ?_
      refine x_ladd 57 C dX6_rootSum_56 rfl ?_
      refine x_topl (lN_add _ _) ?_
      refine x_lstore_4 59 C dX6_rootSum_57 rfl rfl ?_
      refine x_lload_6 61 C dX6_rootSum_59 rfl ?_
      refine x_lconst (v := 1) 62 C dX6_rootSum_61 rfl rfl ?_
      refine x_ladd 63 C dX6_rootSum_62 rfl ?_
      refine x_topl (lN_1 _) ?_
      refine x_lstore_6 65 C dX6_rootSum_63 rfl rfl ?_
      refine x_goto 36 C dX6_rootSum_65 rfl ?_
      exact ih (k + 1) (by omega) _ (by rw [hx, rsS, Nat.add_assoc])
  refine x_iload_1 1 C dX6_rootSum_0 rfl ?_
  refine x_iconst (v := 0) 2 C dX6_rootSum_1 rfl rfl ?_
  refine x_ldc (v := 1000000000) 4 C dX6_rootSum_2 rfl wq_X6_211 ?_
  refine x_callS 7 C (c_X6_in K _ _ _ _) hy_X6_in ws_X6_in lk_X6_57 dX6_rootSum_4 rfl ⟨Nat.le_of_ble_eq_true rfl, Nat.le_of_ble_eq_true rfl⟩ ⟨Nat.le_of_ble_eq_true rfl, Nat.le_of_ble_eq_true rfl⟩ (Nat.le_of_ble_eq_true rfl) rfl (k_0 rfl rfl (k_ip ?_))
  refine x_if_ne 10 14 C dX6_rootSum_7 rfl rfl (fun c_7 => ?_) (fun c_7 => ?_)
  · simp only [Classical.not_not, hB_0p, hB_n0p, Int32.toInt_toInt64, tl_LG, ti_m1, Int32.lt_iff_toInt_lt, Int32.le_iff_toInt_le, Int64.lt_iff_toInt_lt, Int64.le_iff_toInt_le, tl_0, ti_0, tl_1, ti_1, tl_2, ti_2, tl_3, ti_3, tl_4, ti_4, tl_5, ti_5, tl_6, ti_6, tl_7, ti_7, tl_8, ti_8, tl_9, ti_9, tl_10, ti_10, tl_33, ti_33, tl_60, ti_60, tl_100, ti_100, tl_126, ti_126, tl_255, ti_255, tl_500, ti_500, tl_9999, ti_9999, tl_10000, ti_10000, tl_100000, ti_100000, tl_1000000, ti_1000000, tl_1000000000, ti_1000000000] at c_7
    obtain ⟨N, hN, rfl⟩ := in_nI (b := 1000000000) c_7
    have hsp := sq2_pw (N := N) (by omega)
    have hs := sq_lt (k := 2) (N := N) (by omega)
    have hf : sp_rootSum (nI N) = lN (rsN N) := by rw [sp_rootSum, spQ_t c_7, nI_toN (by omega)]
    unfold rsN at hf
    refine x_iload_1 15 C dX6_rootSum_14 rfl ?_
    refine x_i2l 16 C dX6_rootSum_15 rfl ?_
    refine x_topl (nI_l (by omega)) ?_
    refine x_iconst (v := 2) 17 C dX6_rootSum_16 rfl rfl ?_
    refine x_topi (v' := nI 2) rfl ?_
    refine x_callS 20 C (c_X6_floorRoot K _ N 2 (by decide) (by omega)) hy_X6_floorRoot ws_X6_floorRoot lk_X6_133 dX6_rootSum_17 rfl ⟨Nat.le_of_ble_eq_true rfl, Nat.le_of_ble_eq_true rfl⟩ ⟨Nat.le_of_ble_eq_true rfl, Nat.le_of_ble_eq_true rfl⟩ (Nat.le_of_ble_eq_true rfl) rfl (k_0 rfl rfl (k_lp ?_))
    generalize hR : sq 2 N = R at hsp hs hf
    refine x_lstore_2 21 C dX6_rootSum_20 rfl rfl ?_
    refine x_lload_2 22 C dX6_rootSum_21 rfl ?_
    refine x_iload_1 23 C dX6_rootSum_22 rfl ?_
    refine x_i2l 24 C dX6_rootSum_23 rfl ?_
    refine x_topl (nI_l (by omega)) ?_
    refine x_lload_2 25 C dX6_rootSum_24 rfl ?_
    refine x_lload_2 26 C dX6_rootSum_25 rfl ?_
    refine x_lmul 27 C dX6_rootSum_26 rfl ?_
    refine x_topl (lN_mul _ _) ?_
    refine x_lsub 28 C dX6_rootSum_27 rfl ?_
    refine x_topl (lN_sub hsp.1) ?_
    refine x_lconst (v := 1) 29 C dX6_rootSum_28 rfl rfl ?_
    refine x_ladd 30 C dX6_rootSum_29 rfl ?_
    refine x_topl (lN_1 _) ?_
    refine x_lmul 31 C dX6_rootSum_30 rfl ?_
    refine x_topl (lN_mul _ _) ?_
    refine x_lstore_4 33 C dX6_rootSum_31 rfl rfl ?_
    refine x_lconst (v := 1) 34 C dX6_rootSum_33 rfl rfl ?_
    refine x_lstore_6 36 C dX6_rootSum_34 rfl rfl ?_
    rcases Nat.eq_zero_or_pos R with h0 | h0
    · subst h0
      refine x_lload_6 38 C dX6_rootSum_36 rfl ?_
      refine x_lload_2 39 C dX6_rootSum_38 rfl ?_
      refine x_lc_ge 43 68 C dX6_rootSum_39 dX6_rootSum_40 rfl rfl (fun _ => ?_) (fun z => absurd (by decide) z)
      refine x_lload_4 70 C dX6_rootSum_68 rfl ?_
      refine x_lreturn C Rt dX6_rootSum_70 ⟨Nat.le_of_ble_eq_true rfl, Nat.le_of_ble_eq_true rfl⟩ ?_
      exact ⟨_, rfl, by rw [hf]; rfl, rfl⟩
    · exact lp o (nI N) N R hN hR hs ⟨_, rfl, hf.symm, rfl⟩ (R - 1) 1 (by omega) _ rfl
  · refine x_ldc2 (v := (-2)) 13 C dX6_rootSum_10 rfl wq_X6_70 ?_
    refine x_lreturn C Rt dX6_rootSum_13 ⟨Nat.le_of_ble_eq_true rfl, Nat.le_of_ble_eq_true rfl⟩ ?_
    simp only [Classical.not_not, hB_0p, hB_n0p, Int32.toInt_toInt64, tl_LG, ti_m1, Int32.lt_iff_toInt_lt, Int32.le_iff_toInt_le, Int64.lt_iff_toInt_lt, Int64.le_iff_toInt_le, tl_0, ti_0, tl_1, ti_1, tl_2, ti_2, tl_3, ti_3, tl_4, ti_4, tl_5, ti_5, tl_6, ti_6, tl_7, ti_7, tl_8, ti_8, tl_9, ti_9, tl_10, ti_10, tl_33, ti_33, tl_60, ti_60, tl_100, ti_100, tl_126, ti_126, tl_255, ti_255, tl_500, ti_500, tl_9999, ti_9999, tl_10000, ti_10000, tl_100000, ti_100000, tl_1000000, ti_1000000, tl_1000000000, ti_1000000000] at c_7
    exact ⟨_, rfl, by rw [sp_rootSum, spQ_f (by omega)], rfl⟩
