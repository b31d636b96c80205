/-- the class's fraction at a term, and its convergent -/
def gfM (z : Nat → Int32) (n i : Nat) : Prop := z 0 = nI n ∧ z 1 = nI (sq 2 n) ∧ z 2 = nI (cm n i) ∧ z 3 = nI (cd n i) ∧ z 4 = nI (ct n i)
def gvM (y : Nat → Int64) (n i : Nat) : Prop := y 0 = lN (cvS n i).1.1 ∧ y 1 = lN (cvS n i).1.2 ∧ y 2 = lN (cvS n i).2.1 ∧ y 3 = lN (cvS n i).2.2
theorem cdS_le {s : Nat × Nat} (h : okP s) : cdS s ≤ 10127 := by
  obtain ⟨k, v⟩ := s
  rcases h with ⟨h1, h2⟩ | ⟨h1, h2⟩ | ⟨h1, h2⟩
  · have h1 : k = 0 := h1
    have h2 : v ≤ 9999 := h2
    subst h1; show v ≤ 10127; omega
  · have h1 : k = 1 := h1
    have h2 : v < 8 := h2
    subst h1; show 10065 + v ≤ 10127; omega
  · have h1 : k = 43 ∨ k = 45 ∨ k = 42 ∨ k = 113 ∨ k = 107 ∨ k = 115 := h1
    rw [cdS, if_neg (by show ¬ k = 0; omega), if_neg (by show ¬ k = 1; omega)]
    show 10000 + k ≤ 10127; omega
theorem cdS_cell {s : Nat × Nat} (h : okP s) : ((0 ≤ (cdS s : Int) - 10065 ∧ (cdS s : Int) - 10065 ≤ 7) ↔ s.1 = 1) ∧ (s.1 = 1 → (cdS s : Int) - 10065 = s.2) ∧ (cdS s = 10113 ↔ s.1 = 113) ∧ (cdS s = 10107 ↔ s.1 = 107) := by
  obtain ⟨k, v⟩ := s
  rcases h with ⟨h1, h2⟩ | ⟨h1, h2⟩ | ⟨h1, h2⟩
  · have h1 : k = 0 := h1
    have h2 : v ≤ 9999 := h2
    subst h1
    rw [show cdS (0, v) = v from rfl]
    show (_ ↔ 0 = 1) ∧ (0 = 1 → _) ∧ (_ ↔ 0 = 113) ∧ (_ ↔ 0 = 107)
    omega
  · have h1 : k = 1 := h1
    have h2 : v < 8 := h2
    subst h1
    rw [show cdS (1, v) = 10065 + v from rfl]
    show (_ ↔ 1 = 1) ∧ (1 = 1 → _ = ((v : Nat) : Int)) ∧ (_ ↔ 1 = 113) ∧ (_ ↔ 1 = 107)
    omega
  · have h1 : k = 43 ∨ k = 45 ∨ k = 42 ∨ k = 113 ∨ k = 107 ∨ k = 115 := h1
    have e : cdS (k, v) = 10000 + k := by rw [cdS, if_neg (by show ¬ k = 0; omega), if_neg (by show ¬ k = 1; omega)]
    rw [e]
    show (_ ↔ k = 1) ∧ (k = 1 → _) ∧ (_ ↔ k = 113) ∧ (_ ↔ k = 107)
    refine ⟨by omega, fun q => by omega, by omega, by omega⟩
theorem cn_sub (c : Nat) : nI c - 10000 - 65 = iI ((c : Int) - 10065) := by
  rw [nI_iI, show (10000 : Int32) = iI 10000 by decide, show (65 : Int32) = iI 65 by decide, iI_sub, iI_sub]
  congr 1; omega
set_option maxHeartbeats 4000000 in
set_option maxRecDepth 100000 in
theorem c_X1_start (K : hKv) (M : hM) {A : Nat → Nat} {z : Nat → Int32} {y : Nat → Int64} (W : gW A z y M) (n : Nat) (hn : n ≤ 100000) : hC K Y_X1_start rm_X1_start [.ref (A 46), .int (nI n)] M (hPv fun M' => ∃ z2 y2, gW A z2 y2 M' ∧ gfM z2 n 0 ∧ gvM y2 n 0 ∧ hFr 47 48 M M') := by
  refine hC.of [some (.ref (A 46)), some (.int (nI n))] (by decide) (Nat.le_of_ble_eq_true rfl) rfl rfl ?_
  intro E C Rt
  have C : hCx E K cX1_start 2 RX1 "start" rm_X1_start := C
  obtain ⟨w0, -, -⟩ := cf_w hn
  refine x_aload_0 1 C dX1_start_0 rfl ?_
  refine x_iload_1 2 C dX1_start_1 rfl ?_
  refine gOp_number 5 C wf_X1_9 W.obj dX1_start_2 rfl ?_
  refine x_g_obj W (fun M_1 W o_1 => ?_)
  refine x_aload_0 6 C dX1_start_5 rfl ?_
  refine x_iload_1 7 C dX1_start_6 rfl ?_
  refine x_i2l 8 C dX1_start_7 rfl ?_
  refine x_topl (nI_l (by omega)) ?_
  refine x_iconst (v := 2) 9 C dX1_start_8 rfl rfl ?_
  refine x_topi (v' := nI 2) rfl ?_
  refine x_callS 12 C (c_X5_rootDown K _ n 2 (by decide) (by omega)) hy_X5_rootDown ws_X5_rootDown lk_X1_15 dX1_start_9 rfl ⟨Nat.le_of_ble_eq_true rfl, Nat.le_of_ble_eq_true rfl⟩ ⟨Nat.le_of_ble_eq_true rfl, Nat.le_of_ble_eq_true rfl⟩ (Nat.le_of_ble_eq_true rfl) rfl (k_0 rfl rfl (k_lp ?_))
  refine x_l2i 13 C dX1_start_12 rfl ?_
  refine x_topi (lN_i _) ?_
  refine gOp_whole 16 C wf_X1_19 W.obj dX1_start_13 rfl ?_
  refine x_g_obj W (fun M_2 W o_2 => ?_)
  refine x_aload_0 17 C dX1_start_16 rfl ?_
  refine x_iconst (v := 0) 18 C dX1_start_17 rfl rfl ?_
  refine gOp_addend 21 C wf_X1_22 W.obj dX1_start_18 rfl ?_
  refine x_g_obj W (fun M_3 W o_3 => ?_)
  refine x_aload_0 22 C dX1_start_21 rfl ?_
  refine x_iconst (v := 1) 23 C dX1_start_22 rfl rfl ?_
  refine gOp_divisor 26 C wf_X1_25 W.obj dX1_start_23 rfl ?_
  refine x_g_obj W (fun M_4 W o_4 => ?_)
  refine x_aload_0 27 C dX1_start_26 rfl ?_
  refine x_aload_0 28 C dX1_start_27 rfl ?_
  refine gOg_whole 31 C wf_X1_19 W.obj dX1_start_28 rfl ?_
  refine x_topi (v' := nI (sq 2 n)) rfl ?_
  refine gOp_quotient 34 C wf_X1_28 W.obj dX1_start_31 rfl ?_
  refine x_g_obj W (fun M_5 W o_5 => ?_)
  refine x_aload_0 35 C dX1_start_34 rfl ?_
  refine x_aload_0 36 C dX1_start_35 rfl ?_
  refine gOg_whole 39 C wf_X1_19 W.obj dX1_start_36 rfl ?_
  refine x_topi (v' := nI (sq 2 n)) rfl ?_
  refine x_i2l 40 C dX1_start_39 rfl ?_
  refine x_topl (nI_l (by omega)) ?_
  refine gOp_upper 43 C wf_X1_31 W.obj dX1_start_40 rfl ?_
  refine x_g_obj W (fun M_6 W o_6 => ?_)
  refine x_aload_0 44 C dX1_start_43 rfl ?_
  refine x_lconst (v := 1) 45 C dX1_start_44 rfl rfl ?_
  refine gOp_lower 48 C wf_X1_35 W.obj dX1_start_45 rfl ?_
  refine x_g_obj W (fun M_7 W o_7 => ?_)
  refine x_aload_0 49 C dX1_start_48 rfl ?_
  refine x_lconst (v := 1) 50 C dX1_start_49 rfl rfl ?_
  refine gOp_upperBefore 53 C wf_X1_38 W.obj dX1_start_50 rfl ?_
  refine x_g_obj W (fun M_8 W o_8 => ?_)
  refine x_aload_0 54 C dX1_start_53 rfl ?_
  refine x_lconst (v := 0) 55 C dX1_start_54 rfl rfl ?_
  refine gOp_lowerBefore 58 C wf_X1_41 W.obj dX1_start_55 rfl ?_
  refine x_g_obj W (fun M_9 W o_9 => ?_)
  refine x_vreturn C Rt dX1_start_58 ⟨Nat.le_of_ble_eq_true rfl, Nat.le_of_ble_eq_true rfl⟩ ?_
  exact ⟨rfl, _, _, W, ⟨rfl, rfl, rfl, rfl, rfl⟩, ⟨rfl, rfl, rfl, rfl⟩, (((((((((o_1).tr o_2).tr o_3).tr o_4).tr o_5).tr o_6).tr o_7).tr o_8).tr o_9)⟩
set_option maxHeartbeats 4000000 in
set_option maxRecDepth 100000 in
theorem c_X1_goesOn (K : hKv) (M : hM) {A : Nat → Nat} {z : Nat → Int32} {y : Nat → Int64} (W : gW A z y M) (n i : Nat) (hc : gfM z n i) (hq : nsq n) : hC K Y_X1_goesOn rm_X1_goesOn [.ref (A 46)] M (hPi fun r M' => r = 1 ∧ ∃ z2, gW A z2 y M' ∧ gfM z2 n (i + 1) ∧ hFr 47 48 M M') := by
  refine hC.of [some (.ref (A 46))] (by decide) (Nat.le_of_ble_eq_true rfl) rfl rfl ?_
  intro E C Rt
  have C : hCx E K cX1_goesOn 1 RX1 "goesOn" rm_X1_goesOn := C
  obtain ⟨c0, c1, c2, c3, c4⟩ := hc
  obtain ⟨a1, a2, a3, a4, a5, a6, a7, a8, a9, a10⟩ := nsq_all hq i
  have hn := hq.1
  have hlt := hq.2
  have hw0 := (cf_w hq.1).1
  refine x_aload_0 1 C dX1_goesOn_0 rfl ?_
  refine gOg_whole 4 C wf_X1_19 W.obj dX1_goesOn_1 rfl ?_
  refine x_topi c1 ?_
  refine x_aload_0 5 C dX1_goesOn_4 rfl ?_
  refine gOg_whole 8 C wf_X1_19 W.obj dX1_goesOn_5 rfl ?_
  refine x_topi c1 ?_
  refine x_imul 9 C dX1_goesOn_8 rfl ?_
  refine x_topi (pk_mul _ _) ?_
  refine x_aload_0 10 C dX1_goesOn_9 rfl ?_
  refine gOg_number 13 C wf_X1_9 W.obj dX1_goesOn_10 rfl ?_
  refine x_topi c0 ?_
  refine x_icmp_eq 16 24 C dX1_goesOn_13 rfl rfl (fun z => absurd z ((fun q => by have := (nI_eq (by omega) (by omega)).mp q; omega))) (fun _ => ?_)
  refine x_aload_0 17 C dX1_goesOn_16 rfl ?_
  refine gOg_divisor 20 C wf_X1_25 W.obj dX1_goesOn_17 rfl ?_
  refine x_topi c3 ?_
  refine x_iconst (v := 1) 21 C dX1_goesOn_20 rfl rfl ?_
  refine x_icmp_ge 24 26 C dX1_goesOn_21 rfl rfl (fun _ => ?_) (fun z => absurd (nI_le (a := 1) a4 (by omega)) z)
  refine x_aload_0 27 C dX1_goesOn_26 rfl ?_
  refine x_aload_0 28 C dX1_goesOn_27 rfl ?_
  refine gOg_divisor 31 C wf_X1_25 W.obj dX1_goesOn_28 rfl ?_
  refine x_topi c3 ?_
  refine x_aload_0 32 C dX1_goesOn_31 rfl ?_
  refine gOg_quotient 35 C wf_X1_28 W.obj dX1_goesOn_32 rfl ?_
  refine x_topi c4 ?_
  refine x_imul 36 C dX1_goesOn_35 rfl ?_
  refine x_topi (pk_mul _ _) ?_
  refine x_aload_0 37 C dX1_goesOn_36 rfl ?_
  refine gOg_addend 40 C wf_X1_22 W.obj dX1_goesOn_37 rfl ?_
  refine x_topi c2 ?_
  refine x_isub 41 C dX1_goesOn_40 rfl ?_
  refine x_topi (v' := nI (cm n (i + 1))) (pk_sub a1) ?_
  refine gOp_addend 44 C wf_X1_22 W.obj dX1_goesOn_41 rfl ?_
  refine x_g_obj W (fun M_1 W o_1 => ?_)
  refine x_aload_0 45 C dX1_goesOn_44 rfl ?_
  refine x_aload_0 46 C dX1_goesOn_45 rfl ?_
  refine gOg_number 49 C wf_X1_9 W.obj dX1_goesOn_46 rfl ?_
  refine x_topi c0 ?_
  refine x_aload_0 50 C dX1_goesOn_49 rfl ?_
  refine gOg_addend 53 C wf_X1_22 W.obj dX1_goesOn_50 rfl ?_
  refine x_topi (v' := nI (cm n (i + 1))) rfl ?_
  refine x_aload_0 54 C dX1_goesOn_53 rfl ?_
  refine gOg_addend 57 C wf_X1_22 W.obj dX1_goesOn_54 rfl ?_
  refine x_topi (v' := nI (cm n (i + 1))) rfl ?_
  refine x_imul 58 C dX1_goesOn_57 rfl ?_
  refine x_topi (pk_mul _ _) ?_
  refine x_isub 59 C dX1_goesOn_58 rfl ?_
  refine x_topi (pk_sub a3) ?_
  refine x_aload_0 60 C dX1_goesOn_59 rfl ?_
  refine gOg_divisor 63 C wf_X1_25 W.obj dX1_goesOn_60 rfl ?_
  refine x_topi c3 ?_
  refine x_idiv 64 C dX1_goesOn_63 rfl (fun q => by have := (nI_eq (b := 0) (by omega) (by decide)).mp q; omega) ?_
  refine x_topi (v' := nI (cd n (i + 1))) (pk_div (by omega) a4 (by omega)) ?_
  refine gOp_divisor 67 C wf_X1_25 W.obj dX1_goesOn_64 rfl ?_
  refine x_g_obj W (fun M_2 W o_2 => ?_)
  refine x_aload_0 68 C dX1_goesOn_67 rfl ?_
  refine gOg_divisor 71 C wf_X1_25 W.obj dX1_goesOn_68 rfl ?_
  refine x_topi (v' := nI (cd n (i + 1))) rfl ?_
  refine x_iconst (v := 1) 72 C dX1_goesOn_71 rfl rfl ?_
  refine x_icmp_ge 75 77 C dX1_goesOn_72 rfl rfl (fun _ => ?_) (fun z => absurd (nI_le (a := 1) a5 (by omega)) z)
  refine x_aload_0 78 C dX1_goesOn_77 rfl ?_
  refine x_aload_0 79 C dX1_goesOn_78 rfl ?_
  refine gOg_whole 82 C wf_X1_19 W.obj dX1_goesOn_79 rfl ?_
  refine x_topi c1 ?_
  refine x_aload_0 83 C dX1_goesOn_82 rfl ?_
  refine gOg_addend 86 C wf_X1_22 W.obj dX1_goesOn_83 rfl ?_
  refine x_topi (v' := nI (cm n (i + 1))) rfl ?_
  refine x_iadd 87 C dX1_goesOn_86 rfl ?_
  refine x_topi (nI_add _ _) ?_
  refine x_aload_0 88 C dX1_goesOn_87 rfl ?_
  refine gOg_divisor 91 C wf_X1_25 W.obj dX1_goesOn_88 rfl ?_
  refine x_topi (v' := nI (cd n (i + 1))) rfl ?_
  refine x_idiv 92 C dX1_goesOn_91 rfl (fun q => by have := (nI_eq (b := 0) (by omega) (by decide)).mp q; omega) ?_
  refine x_topi (v' := nI (ct n (i + 1))) (pk_div (by omega) a5 (by omega)) ?_
  refine gOp_quotient 95 C wf_X1_28 W.obj dX1_goesOn_92 rfl ?_
  refine x_g_obj W (fun M_3 W o_3 => ?_)
  refine x_iconst (v := 1) 96 C dX1_goesOn_95 rfl rfl ?_
  refine x_ireturn C Rt dX1_goesOn_96 rfl ⟨Nat.le_of_ble_eq_true rfl, Nat.le_of_ble_eq_true rfl⟩ ?_
  exact ⟨_, rfl, rfl, _, W, ⟨c0, c1, rfl, rfl, rfl⟩, (((o_1).tr o_2).tr o_3)⟩
set_option maxHeartbeats 4000000 in
set_option maxRecDepth 100000 in
theorem c_X1_goesOn0 (K : hKv) (M : hM) {A : Nat → Nat} {z : Nat → Int32} {y : Nat → Int64} (W : gW A z y M) (n i : Nat) (hc : gfM z n i) (hs : sq 2 n * sq 2 n = n) : hC K Y_X1_goesOn rm_X1_goesOn [.ref (A 46)] M (hPi fun r M' => r = 0 ∧ M' = M) := by
  refine hC.of [some (.ref (A 46))] (by decide) (Nat.le_of_ble_eq_true rfl) rfl rfl ?_
  intro E C Rt
  have C : hCx E K cX1_goesOn 1 RX1 "goesOn" rm_X1_goesOn := C
  obtain ⟨c0, c1, -⟩ := hc
  refine x_aload_0 1 C dX1_goesOn_0 rfl ?_
  refine gOg_whole 4 C wf_X1_19 W.obj dX1_goesOn_1 rfl ?_
  refine x_topi c1 ?_
  refine x_aload_0 5 C dX1_goesOn_4 rfl ?_
  refine gOg_whole 8 C wf_X1_19 W.obj dX1_goesOn_5 rfl ?_
  refine x_topi c1 ?_
  refine x_imul 9 C dX1_goesOn_8 rfl ?_
  refine x_topi (pk_mul _ _) ?_
  refine x_aload_0 10 C dX1_goesOn_9 rfl ?_
  refine gOg_number 13 C wf_X1_9 W.obj dX1_goesOn_10 rfl ?_
  refine x_topi c0 ?_
  refine x_icmp_eq 16 24 C dX1_goesOn_13 rfl rfl (fun _ => ?_) (fun z => absurd ((by rw [hs])) z)
  refine x_iconst (v := 0) 25 C dX1_goesOn_24 rfl rfl ?_
  refine x_ireturn C Rt dX1_goesOn_25 rfl ⟨Nat.le_of_ble_eq_true rfl, Nat.le_of_ble_eq_true rfl⟩ ?_
  exact ⟨_, rfl, rfl, rfl⟩
set_option maxHeartbeats 4000000 in
set_option maxRecDepth 100000 in
theorem c_X1_extend (K : hKv) (M : hM) {A : Nat → Nat} {z : Nat → Int32} {y : Nat → Int64} (W : gW A z y M) (n i : Nat) (hc : z 4 = nI (ct n (i + 1))) (ht : ct n (i + 1) ≤ 632) (hv : gvM y n i) : hC K Y_X1_extend rm_X1_extend [.ref (A 46)] M (hPv fun M' => ∃ y2, gW A z y2 M' ∧ gvM y2 n (i + 1) ∧ hFr 47 48 M M') := by
  refine hC.of [some (.ref (A 46)), none, none, none, none] (by decide) (Nat.le_of_ble_eq_true rfl) rfl rfl ?_
  intro E C Rt
  have C : hCx E K cX1_extend 5 RX1 "extend" rm_X1_extend := C
  obtain ⟨v0, v1, v2, v3⟩ := hv
  refine x_aload_0 1 C dX1_extend_0 rfl ?_
  refine gOg_quotient 4 C wf_X1_28 W.obj dX1_extend_1 rfl ?_
  refine x_topi hc ?_
  refine x_i2l 5 C dX1_extend_4 rfl ?_
  refine x_topl (nI_l (by omega)) ?_
  refine x_aload_0 6 C dX1_extend_5 rfl ?_
  refine gOg_upper 9 C wf_X1_31 W.obj dX1_extend_6 rfl ?_
  refine x_topl v0 ?_
  refine x_lmul 10 C dX1_extend_9 rfl ?_
  refine x_topl (lN_mul _ _) ?_
  refine x_aload_0 11 C dX1_extend_10 rfl ?_
  refine gOg_upperBefore 14 C wf_X1_38 W.obj dX1_extend_11 rfl ?_
  refine x_topl v2 ?_
  refine x_ladd 15 C dX1_extend_14 rfl ?_
  refine x_topl (v' := lN (cvS n (i + 1)).1.1) (lN_add _ _) ?_
  refine x_lstore_1 16 C dX1_extend_15 rfl rfl ?_
  refine x_aload_0 17 C dX1_extend_16 rfl ?_
  refine gOg_quotient 20 C wf_X1_28 W.obj dX1_extend_17 rfl ?_
  refine x_topi hc ?_
  refine x_i2l 21 C dX1_extend_20 rfl ?_
  refine x_topl (nI_l (by omega)) ?_
  refine x_aload_0 22 C dX1_extend_21 rfl ?_
  refine gOg_lower 25 C wf_X1_35 W.obj dX1_extend_22 rfl ?_
  refine x_topl v1 ?_
  refine x_lmul 26 C dX1_extend_25 rfl ?_
  refine x_topl (lN_mul _ _) ?_
  refine x_aload_0 27 C dX1_extend_26 rfl ?_
  refine gOg_lowerBefore 30 C wf_X1_41 W.obj dX1_extend_27 rfl ?_
  refine x_topl v3 ?_
  refine x_ladd 31 C dX1_extend_30 rfl ?_
  refine x_topl (v' := lN (cvS n (i + 1)).1.2) (lN_add _ _) ?_
  refine x_lstore_3 32 C dX1_extend_31 rfl rfl ?_
  refine x_aload_0 33 C dX1_extend_32 rfl ?_
  refine x_aload_0 34 C dX1_extend_33 rfl ?_
  refine gOg_upper 37 C wf_X1_31 W.obj dX1_extend_34 rfl ?_
  refine x_topl v0 ?_
  refine gOp_upperBefore 40 C wf_X1_38 W.obj dX1_extend_37 rfl ?_
  refine x_g_obj W (fun M_1 W o_1 => ?_)
  refine x_aload_0 41 C dX1_extend_40 rfl ?_
  refine x_aload_0 42 C dX1_extend_41 rfl ?_
  refine gOg_lower 45 C wf_X1_35 W.obj dX1_extend_42 rfl ?_
  refine x_topl v1 ?_
  refine gOp_lowerBefore 48 C wf_X1_41 W.obj dX1_extend_45 rfl ?_
  refine x_g_obj W (fun M_2 W o_2 => ?_)
  refine x_aload_0 49 C dX1_extend_48 rfl ?_
  refine x_lload_1 50 C dX1_extend_49 rfl ?_
  refine gOp_upper 53 C wf_X1_31 W.obj dX1_extend_50 rfl ?_
  refine x_g_obj W (fun M_3 W o_3 => ?_)
  refine x_aload_0 54 C dX1_extend_53 rfl ?_
  refine x_lload_3 55 C dX1_extend_54 rfl ?_
  refine gOp_lower 58 C wf_X1_35 W.obj dX1_extend_55 rfl ?_
  refine x_g_obj W (fun M_4 W o_4 => ?_)
  refine x_vreturn C Rt dX1_extend_58 ⟨Nat.le_of_ble_eq_true rfl, Nat.le_of_ble_eq_true rfl⟩ ?_
  exact ⟨rfl, _, W, ⟨rfl, rfl, rfl, rfl⟩, ((((o_1).tr o_2).tr o_3).tr o_4)⟩
set_option maxHeartbeats 4000000 in
set_option maxRecDepth 100000 in
theorem c_X0_cellsNamed (K : hKv) (M : hM) {L : List (Nat × Nat)} (hw : wfF L) {y b t u : Nat} {f : Nat → Int32} (hY : M y = some (t, eO 0 [.ref b])) (hb : M b = some (u, eI K L.length f)) (hbf : ∀ k, k < L.length → f k = nI (cdS (L.getD k (0, 0)))) : hC K Y_X0_cellsNamed rm_X0_cellsNamed [.ref y] M (hPi fun r M' => r = cOf L L.length ∧ M' = M) := by
  refine hC.of [some (.ref y), none, none, none] (by decide) (Nat.le_of_ble_eq_true rfl) rfl rfl ?_
  intro E C Rt
  have C : hCx E K cX0_cellsNamed 4 RX0 "cellsNamed" rm_X0_cellsNamed := C
  have hl60 := hw.2.2
  have lp : ∀ (d i : Nat), i + d = L.length → ∀ (x : Int32) (l3 : Option Value), x = cOf L i → hX E 0 0 4 [some (.ref y), some (.int x), some (.int (nI i)), l3] [] M := by
    intro d
    induction d with
    | zero =>
      intro i hi x l3 hx
      have hi : i = L.length := by omega
      subst hi
      subst hx
      refine x_iload_2 5 C dX0_cellsNamed_4 rfl ?_
      refine x_aload_0 6 C dX0_cellsNamed_5 rfl ?_
      refine xg_X0_steps 9 C wf_X0_15 hY dX0_cellsNamed_6 rfl ?_
      refine x_alenI 10 C hb dX0_cellsNamed_9 rfl ?_
      refine x_icmp_ge 13 51 C dX0_cellsNamed_10 rfl rfl (fun _ => ?_) (fun z => absurd (nI_le (Nat.le_refl _) (by omega)) z)
      refine x_iload_1 52 C dX0_cellsNamed_51 rfl ?_
      refine x_ireturn C Rt dX0_cellsNamed_52 rfl ⟨Nat.le_of_ble_eq_true rfl, Nat.le_of_ble_eq_true rfl⟩ ?_
      exact ⟨_, rfl, rfl, rfl⟩
    | succ d ih =>
      intro i hi x l3 hx
      have hil : i < L.length := by omega
      have hok := wf_at hw hil
      have hcl := cdS_le hok
      obtain ⟨k1, k2, k3, k4⟩ := cdS_cell hok
      refine x_iload_2 5 C dX0_cellsNamed_4 rfl ?_
      refine x_aload_0 6 C dX0_cellsNamed_5 rfl ?_
      refine xg_X0_steps 9 C wf_X0_15 hY dX0_cellsNamed_6 rfl ?_
      refine x_alenI 10 C hb dX0_cellsNamed_9 rfl ?_
      refine x_icmp_ge 13 51 C dX0_cellsNamed_10 rfl rfl (fun z => absurd z (nI_ge hil (by omega))) (fun _ => ?_)
      refine x_aload_0 14 C dX0_cellsNamed_13 rfl ?_
      refine xg_X0_steps 17 C wf_X0_15 hY dX0_cellsNamed_14 rfl ?_
      refine x_iload_2 18 C dX0_cellsNamed_17 rfl ?_
      refine x_iald 19 (i) C hb (rfl) (hil) (by omega) dX0_cellsNamed_18 rfl ?_
      refine x_topi (hbf i hil) ?_
      refine x_sipush (v := 10000) 22 C dX0_cellsNamed_19 rfl rfl ?_
      refine x_isub 23 C dX0_cellsNamed_22 rfl ?_
      refine x_bipush (v := 65) 25 C dX0_cellsNamed_23 rfl rfl ?_
      refine x_isub 26 C dX0_cellsNamed_25 rfl ?_
      refine x_topi (cn_sub _) ?_
      refine x_istore_3 27 C dX0_cellsNamed_26 rfl rfl ?_
      refine x_iload_3 28 C dX0_cellsNamed_27 rfl ?_
      refine x_i2l 29 C dX0_cellsNamed_28 rfl ?_
      refine x_topl (iI_l (by omega) (by omega)) ?_
      refine x_lconst (v := 0) 30 C dX0_cellsNamed_29 rfl rfl ?_
      refine x_ldc2 (v := 7) 33 C dX0_cellsNamed_30 rfl wq_X0_21 ?_
      refine x_callS 36 C (c_X5_within K _ _ _ _) hy_X5_within ws_X5_within lk_X0_23 dX0_cellsNamed_33 rfl ⟨Nat.le_of_ble_eq_true rfl, Nat.le_of_ble_eq_true rfl⟩ ⟨Nat.le_of_ble_eq_true rfl, Nat.le_of_ble_eq_true rfl⟩ (Nat.le_of_ble_eq_true rfl) rfl (k_0 rfl rfl (k_ip ?_))
      have hti : (lI ((cdS (L.getD i (0, 0)) : Int) - 10065)).toInt = (cdS (L.getD i (0, 0)) : Int) - 10065 := lI_toI (by omega) (by omega)
      have hv7 : ((0 : Int64).toInt ≤ (lI ((cdS (L.getD i (0, 0)) : Int) - 10065)).toInt ∧ (lI ((cdS (L.getD i (0, 0)) : Int) - 10065)).toInt ≤ (7 : Int64).toInt) ↔ (L.getD i (0, 0)).1 = 1 := by rw [hti, tl_0, tl_7]; exact k1
      refine x_if_eq 39 45 C dX0_cellsNamed_36 rfl rfl (fun c_36 => ?_) (fun c_36 => ?_)
      · refine x_iinc_2 48 C dX0_cellsNamed_45 rfl rfl (nI_inc _) ?_
        refine x_goto 4 C dX0_cellsNamed_48 rfl ?_
        exact ih (i + 1) (by omega) _ _ (by rw [cOf_f (fun q => hB_0p.mp c_36 (hv7.mpr q)), Int32.or_zero]; exact hx)
      · refine x_iload_1 40 C dX0_cellsNamed_39 rfl ?_
        refine x_iconst (v := 1) 41 C dX0_cellsNamed_40 rfl rfl ?_
        refine x_iload_3 42 C dX0_cellsNamed_41 rfl ?_
        have h1 := hv7.mp (hB_n0p.mp c_36)
        refine x_topi (by rw [k2 h1, ← nI_iI]) ?_
        refine x_ishl 43 C dX0_cellsNamed_42 rfl ?_
        refine x_ior 44 C dX0_cellsNamed_43 rfl ?_
        refine x_istore_1 45 C dX0_cellsNamed_44 rfl rfl ?_
        refine x_iinc_2 48 C dX0_cellsNamed_45 rfl rfl (nI_inc _) ?_
        refine x_goto 4 C dX0_cellsNamed_48 rfl ?_
        exact ih (i + 1) (by omega) _ _ (by rw [cOf_t h1, hx])
  refine x_iconst (v := 0) 1 C dX0_cellsNamed_0 rfl rfl ?_
  refine x_istore_1 2 C dX0_cellsNamed_1 rfl rfl ?_
  refine x_iconst (v := 0) 3 C dX0_cellsNamed_2 rfl rfl ?_
  refine x_istore_2 4 C dX0_cellsNamed_3 rfl rfl ?_
  exact lp L.length 0 (Nat.zero_add _) _ _ rfl
set_option maxHeartbeats 4000000 in
set_option maxRecDepth 100000 in
theorem c_X0_rootsInside (K : hKv) (M : hM) {L : List (Nat × Nat)} (hw : wfF L) {y b t u : Nat} {f : Nat → Int32} (hY : M y = some (t, eO 0 [.ref b])) (hb : M b = some (u, eI K L.length f)) (hbf : ∀ k, k < L.length → f k = nI (cdS (L.getD k (0, 0)))) : hC K Y_X0_rootsInside rm_X0_rootsInside [.ref y] M (hPi fun r M' => r = nI (rOf L L.length) ∧ M' = M) := by
  refine hC.of [some (.ref y), none, none] (by decide) (Nat.le_of_ble_eq_true rfl) rfl rfl ?_
  intro E C Rt
  have C : hCx E K cX0_rootsInside 3 RX0 "rootsInside" rm_X0_rootsInside := C
  have hl60 := hw.2.2
  have lp : ∀ (d i : Nat), i + d = L.length → ∀ (x : Int32), x = nI (rOf L i) → hX E 0 0 4 [some (.ref y), some (.int x), some (.int (nI i))] [] M := by
    intro d
    induction d with
    | zero =>
      intro i hi x hx
      have hi : i = L.length := by omega
      subst hi
      subst hx
      refine x_iload_2 5 C dX0_rootsInside_4 rfl ?_
      refine x_aload_0 6 C dX0_rootsInside_5 rfl ?_
      refine xg_X0_steps 9 C wf_X0_15 hY dX0_rootsInside_6 rfl ?_
      refine x_alenI 10 C hb dX0_rootsInside_9 rfl ?_
      refine x_icmp_ge 13 46 C dX0_rootsInside_10 rfl rfl (fun _ => ?_) (fun z => absurd (nI_le (Nat.le_refl _) (by omega)) z)
      refine x_iload_1 47 C dX0_rootsInside_46 rfl ?_
      refine x_ireturn C Rt dX0_rootsInside_47 rfl ⟨Nat.le_of_ble_eq_true rfl, Nat.le_of_ble_eq_true rfl⟩ ?_
      exact ⟨_, rfl, rfl, rfl⟩
    | succ d ih =>
      intro i hi x hx
      have hil : i < L.length := by omega
      have hok := wf_at hw hil
      have hcl := cdS_le hok
      obtain ⟨k1, k2, k3, k4⟩ := cdS_cell hok
      refine x_iload_2 5 C dX0_rootsInside_4 rfl ?_
      refine x_aload_0 6 C dX0_rootsInside_5 rfl ?_
      refine xg_X0_steps 9 C wf_X0_15 hY dX0_rootsInside_6 rfl ?_
      refine x_alenI 10 C hb dX0_rootsInside_9 rfl ?_
      refine x_icmp_ge 13 46 C dX0_rootsInside_10 rfl rfl (fun z => absurd z (nI_ge hil (by omega))) (fun _ => ?_)
      refine x_aload_0 14 C dX0_rootsInside_13 rfl ?_
      refine xg_X0_steps 17 C wf_X0_15 hY dX0_rootsInside_14 rfl ?_
      refine x_iload_2 18 C dX0_rootsInside_17 rfl ?_
      refine x_iald 19 (i) C hb (rfl) (hil) (by omega) dX0_rootsInside_18 rfl ?_
      refine x_topi (hbf i hil) ?_
      refine x_sipush (v := 10113) 22 C dX0_rootsInside_19 rfl rfl ?_
      refine x_icmp_eq 25 37 C dX0_rootsInside_22 rfl rfl (fun c_22 => ?_) (fun c_22 => ?_)
      · refine x_iinc_1 40 C dX0_rootsInside_37 rfl rfl (rfl) ?_
        refine x_iinc_2 43 C dX0_rootsInside_40 rfl rfl (nI_inc _) ?_
        refine x_goto 4 C dX0_rootsInside_43 rfl ?_
        exact ih (i + 1) (by omega) _ (by rw [hx]; exact rOf_t (Or.inl (k3.mp ((nI_eq (b := 10113) (by omega) (by decide)).mp c_22))))
      · refine x_aload_0 26 C dX0_rootsInside_25 rfl ?_
        refine xg_X0_steps 29 C wf_X0_15 hY dX0_rootsInside_26 rfl ?_
        refine x_iload_2 30 C dX0_rootsInside_29 rfl ?_
        refine x_iald 31 (i) C hb (rfl) (hil) (by omega) dX0_rootsInside_30 rfl ?_
        refine x_topi (hbf i hil) ?_
        refine x_sipush (v := 10107) 34 C dX0_rootsInside_31 rfl rfl ?_
        refine x_icmp_ne 37 40 C dX0_rootsInside_34 rfl rfl (fun c_34 => ?_) (fun c_34 => ?_)
        · refine x_iinc_2 43 C dX0_rootsInside_40 rfl rfl (nI_inc _) ?_
          refine x_goto 4 C dX0_rootsInside_43 rfl ?_
          exact ih (i + 1) (by omega) _ (by rw [hx, ← rOf_f (fun q => by
            rcases q with q | q
            · exact c_22 (by rw [k3.mpr q]; rfl)
            · exact c_34 (by rw [k4.mpr q]; rfl))]; exact (Int32.add_zero _).symm)
        · refine x_iinc_1 40 C dX0_rootsInside_37 rfl rfl (rfl) ?_
          refine x_iinc_2 43 C dX0_rootsInside_40 rfl rfl (nI_inc _) ?_
          refine x_goto 4 C dX0_rootsInside_43 rfl ?_
          exact ih (i + 1) (by omega) _ (by rw [hx]; exact rOf_t (Or.inr (k4.mp ((nI_eq (b := 10107) (by omega) (by decide)).mp (by first | exact c_34 | exact Decidable.not_not.mp c_34)))))
  refine x_iconst (v := 0) 1 C dX0_rootsInside_0 rfl rfl ?_
  refine x_istore_1 2 C dX0_rootsInside_1 rfl rfl ?_
  refine x_iconst (v := 0) 3 C dX0_rootsInside_2 rfl rfl ?_
  refine x_istore_2 4 C dX0_rootsInside_3 rfl rfl ?_
  exact lp L.length 0 (Nat.zero_add _) _ rfl
