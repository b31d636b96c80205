set_option maxHeartbeats 4000000 in
set_option maxRecDepth 100000 in
theorem c_X3_push (K : hKv) (M : hM) {A : Nat → Nat} {z : Nat → Int32} {G : Nat → Nat → Int64} (W : kW K A z G M) (h : Nat) (h0 : z 0 = nI h) (hh : h < 60) (v : Int64) : hC K Y_X3_push rm_X3_push [.ref (A 43), .long v] M (hPv fun M' => kW K A (va_up z 0 (nI (h + 1))) (va_up G 1 (va_up (G 1) h v)) M' ∧ hFr 44 47 M M') := by
  refine hC.of [some (.ref (A 43)), some (.long v), none] (by decide) (Nat.le_of_ble_eq_true rfl) rfl rfl ?_
  intro E C Rt
  have C : hCx E K cX3_push 3 RX3 "push" rm_X3_push := C
  refine x_aload_0 1 C dX3_push_0 rfl ?_
  refine kOg_height 4 C wf_X3_18 W.obj dX3_push_1 rfl ?_
  refine x_topi h0 ?_
  refine x_if_lt 7 39 C dX3_push_4 rfl rfl (fun z => absurd z (nI_n0 (by omega))) (fun _ => ?_)
  refine x_aload_0 8 C dX3_push_7 rfl ?_
  refine kOg_height 11 C wf_X3_18 W.obj dX3_push_8 rfl ?_
  refine x_topi h0 ?_
  refine x_aload_0 12 C dX3_push_11 rfl ?_
  refine kOg_operands 15 C wf_X3_15 W.obj dX3_push_12 rfl ?_
  refine x_alenJ 16 C W.operands dX3_push_15 rfl ?_
  refine x_icmp_ge 19 39 C dX3_push_16 rfl rfl (fun z => absurd z (nI_ge hh (by decide))) (fun _ => ?_)
  refine x_aload_0 20 C dX3_push_19 rfl ?_
  refine kOg_operands 23 C wf_X3_15 W.obj dX3_push_20 rfl ?_
  refine x_aload_0 24 C dX3_push_23 rfl ?_
  refine kOg_height 27 C wf_X3_18 W.obj dX3_push_24 rfl ?_
  refine x_topi h0 ?_
  refine x_lload_1 28 C dX3_push_27 rfl ?_
  refine x_last 29 (h) C W.operands (rfl) (hh) (by decide) dX3_push_28 rfl ?_
  refine x_k_operands W (fun M_1 W o_1 => ?_)
  refine x_aload_0 30 C dX3_push_29 rfl ?_
  refine x_dup 31 C dX3_push_30 rfl rfl ?_
  refine kOg_height 34 C wf_X3_18 W.obj dX3_push_31 rfl ?_
  refine x_topi h0 ?_
  refine x_iconst (v := 1) 35 C dX3_push_34 rfl rfl ?_
  refine x_iadd 36 C dX3_push_35 rfl ?_
  refine x_topi (nI_1 _) ?_
  refine kOp_height 39 C wf_X3_18 W.obj dX3_push_36 rfl ?_
  refine x_k_obj W (fun M_2 W o_2 => ?_)
  refine x_vreturn C Rt dX3_push_39 ⟨Nat.le_of_ble_eq_true rfl, Nat.le_of_ble_eq_true rfl⟩ ?_
  exact ⟨rfl, W, ((o_1).tr o_2)⟩
set_option maxHeartbeats 4000000 in
set_option maxRecDepth 100000 in
theorem c_X3_pop (K : hKv) (M : hM) {A : Nat → Nat} {z : Nat → Int32} {G : Nat → Nat → Int64} (W : kW K A z G M) (h : Nat) (h0 : z 0 = nI (h + 1)) (hh : h < 60) : hC K Y_X3_pop rm_X3_pop [.ref (A 43)] M (hPl fun r M' => r = G 1 h ∧ kW K A (va_up z 0 (nI h)) G M' ∧ hFr 44 47 M M') := by
  refine hC.of [some (.ref (A 43))] (by decide) (Nat.le_of_ble_eq_true rfl) rfl rfl ?_
  intro E C Rt
  have C : hCx E K cX3_pop 1 RX3 "pop" rm_X3_pop := C
  refine x_aload_0 1 C dX3_pop_0 rfl ?_
  refine kOg_height 4 C wf_X3_18 W.obj dX3_pop_1 rfl ?_
  refine x_topi h0 ?_
  refine x_iconst (v := 1) 5 C dX3_pop_4 rfl rfl ?_
  refine x_icmp_lt 8 20 C dX3_pop_5 rfl rfl (fun z => absurd z ((fun q => by have := (nI_ltI (b := 1) (by omega) (by decide)).mp q; omega))) (fun _ => ?_)
  refine x_aload_0 9 C dX3_pop_8 rfl ?_
  refine kOg_height 12 C wf_X3_18 W.obj dX3_pop_9 rfl ?_
  refine x_topi h0 ?_
  refine x_aload_0 13 C dX3_pop_12 rfl ?_
  refine kOg_operands 16 C wf_X3_15 W.obj dX3_pop_13 rfl ?_
  refine x_alenJ 17 C W.operands dX3_pop_16 rfl ?_
  refine x_icmp_le 20 22 C dX3_pop_17 rfl rfl (fun _ => ?_) (fun z => absurd (nI_le (show h + 1 ≤ 60 by omega) (by decide)) z)
  refine x_aload_0 23 C dX3_pop_22 rfl ?_
  refine x_dup 24 C dX3_pop_23 rfl rfl ?_
  refine kOg_height 27 C wf_X3_18 W.obj dX3_pop_24 rfl ?_
  refine x_topi h0 ?_
  refine x_iconst (v := 1) 28 C dX3_pop_27 rfl rfl ?_
  refine x_isub 29 C dX3_pop_28 rfl ?_
  refine x_topi (v' := nI h) (pk_sub (a := h + 1) (b := 1) (by omega)) ?_
  refine kOp_height 32 C wf_X3_18 W.obj dX3_pop_29 rfl ?_
  refine x_k_obj W (fun M_1 W o_1 => ?_)
  refine x_aload_0 33 C dX3_pop_32 rfl ?_
  refine kOg_operands 36 C wf_X3_15 W.obj dX3_pop_33 rfl ?_
  refine x_aload_0 37 C dX3_pop_36 rfl ?_
  refine kOg_height 40 C wf_X3_18 W.obj dX3_pop_37 rfl ?_
  refine x_topi (va_up_self _ _ _) ?_
  refine x_lald 41 (h) C W.operands (rfl) (hh) (by decide) dX3_pop_40 rfl ?_
  refine x_lreturn C Rt dX3_pop_41 ⟨Nat.le_of_ble_eq_true rfl, Nat.le_of_ble_eq_true rfl⟩ ?_
  exact ⟨_, rfl, rfl, W, (o_1)⟩
set_option maxHeartbeats 4000000 in
set_option maxRecDepth 100000 in
theorem c_X3_valueOf (K : hKv) (M : hM) {A : Nat → Nat} {z : Nat → Int32} {G : Nat → Nat → Int64} (W : kW K A z G M) (s : Nat) (hs : s < 60) : hC K Y_X3_valueOf rm_X3_valueOf [.ref (A 43), .int (nI s)] M (hPl fun r M' => r = G 0 s ∧ M' = M) := by
  refine hC.of [some (.ref (A 43)), some (.int (nI s))] (by decide) (Nat.le_of_ble_eq_true rfl) rfl rfl ?_
  intro E C Rt
  have C : hCx E K cX3_valueOf 2 RX3 "valueOf" rm_X3_valueOf := C
  refine x_iload_1 1 C dX3_valueOf_0 rfl ?_
  refine x_if_lt 4 22 C dX3_valueOf_1 rfl rfl (fun z => absurd z (nI_n0 (by omega))) (fun _ => ?_)
  refine x_iload_1 5 C dX3_valueOf_4 rfl ?_
  refine x_aload_0 6 C dX3_valueOf_5 rfl ?_
  refine kOg_values 9 C wf_X3_9 W.obj dX3_valueOf_6 rfl ?_
  refine x_alenJ 10 C W.values dX3_valueOf_9 rfl ?_
  refine x_icmp_ge 13 22 C dX3_valueOf_10 rfl rfl (fun z => absurd z (nI_ge hs (by decide))) (fun _ => ?_)
  refine x_aload_0 14 C dX3_valueOf_13 rfl ?_
  refine kOg_values 17 C wf_X3_9 W.obj dX3_valueOf_14 rfl ?_
  refine x_iload_1 18 C dX3_valueOf_17 rfl ?_
  refine x_lald 19 (s) C W.values (rfl) (hs) (by decide) dX3_valueOf_18 rfl ?_
  refine x_goto 23 C dX3_valueOf_19 rfl ?_
  refine x_lreturn C Rt dX3_valueOf_23 ⟨Nat.le_of_ble_eq_true rfl, Nat.le_of_ble_eq_true rfl⟩ ?_
  exact ⟨_, rfl, rfl, rfl⟩
set_option maxHeartbeats 4000000 in
set_option maxRecDepth 100000 in
theorem c_X3_result (K : hKv) (M : hM) {A : Nat → Nat} {z : Nat → Int32} {G : Nat → Nat → Int64} (W : kW K A z G M) (n : Nat) (h1 : z 1 = nI (n + 1)) (hn : n < 60) : hC K Y_X3_result rm_X3_result [.ref (A 43)] M (hPl fun r M' => r = G 0 n ∧ M' = M) := by
  refine hC.of [some (.ref (A 43))] (by decide) (Nat.le_of_ble_eq_true rfl) rfl rfl ?_
  intro E C Rt
  have C : hCx E K cX3_result 1 RX3 "result" rm_X3_result := C
  refine x_aload_0 1 C dX3_result_0 rfl ?_
  refine x_aload_0 2 C dX3_result_1 rfl ?_
  refine kOg_reached 5 C wf_X3_22 W.obj dX3_result_2 rfl ?_
  refine x_topi h1 ?_
  refine x_iconst (v := 1) 6 C dX3_result_5 rfl rfl ?_
  refine x_isub 7 C dX3_result_6 rfl ?_
  refine x_topi (v' := nI n) (pk_sub (a := n + 1) (b := 1) (by omega)) ?_
  refine x_callV 10 C (c_X3_valueOf K _ W n hn) W.obj wcl_X3 hy_X3_valueOf wv_X3_valueOf we_X3_valueOf lk_X3_74 dX3_result_7 rfl ⟨Nat.le_of_ble_eq_true rfl, Nat.le_of_ble_eq_true rfl⟩ ⟨Nat.le_of_ble_eq_true rfl, Nat.le_of_ble_eq_true rfl⟩ (Nat.le_of_ble_eq_true rfl) rfl (k_0 rfl rfl (k_lp ?_))
  refine x_lreturn C Rt dX3_result_10 ⟨Nat.le_of_ble_eq_true rfl, Nat.le_of_ble_eq_true rfl⟩ ?_
  exact ⟨_, rfl, rfl, rfl⟩
set_option maxHeartbeats 4000000 in
set_option maxRecDepth 100000 in
theorem c_X3_product (K : hKv) (M : hM) (a b : Nat) (ha : a ≤ LG) (hb : b ≤ LG) : hC K Y_X3_product rm_X3_product [.long (lN a), .long (lN b)] M (hPl fun r M1 => r = lN (tmn a b) ∧ M1 = M) := by
  refine hC.of [some (.long (lN a)), none, some (.long (lN b)), none] (by decide) (Nat.le_of_ble_eq_true rfl) rfl rfl ?_
  intro E C Rt
  have C : hCx E K cX3_product 4 RX3 "product" rm_X3_product := C
  have e : LG = 1000000000000 := rfl
  refine x_lload_0 1 C dX3_product_0 rfl ?_
  refine x_lconst (v := 0) 2 C dX3_product_1 rfl rfl ?_
  refine x_lc_le 6 22 C dX3_product_2 dX3_product_3 rfl rfl (fun c_2 => ?_) (fun c_2 => ?_)
  · refine x_lload_0 23 C dX3_product_22 rfl ?_
    refine x_lload_2 24 C dX3_product_23 rfl ?_
    refine x_lmul 25 C dX3_product_24 rfl ?_
    refine x_lreturn C Rt dX3_product_25 ⟨Nat.le_of_ble_eq_true rfl, Nat.le_of_ble_eq_true rfl⟩ ?_
    have ha0 : a = 0 := (lN_le0 (by omega)).mp c_2
    exact ⟨_, rfl, by rw [lN_mul, tmn, if_neg (fun q => q.1 ha0)], rfl⟩
  · have ha0 : a ≠ 0 := fun q => c_2 (by rw [q]; decide)
    refine x_lload_2 7 C dX3_product_6 rfl ?_
    refine x_ldc2 (v := 1000000000000) 10 C dX3_product_7 rfl wq_X3_38 ?_
    refine x_lload_0 11 C dX3_product_10 rfl ?_
    refine x_ldiv 12 C dX3_product_11 rfl (fun q => ha0 ((lN_eq' (b := 0) (by omega) (by decide)).mp q)) ?_
    refine x_topl (v' := lN (LG / a)) (pk_lDiv (a := 1000000000000) (by decide) (by omega) (by omega)) ?_
    refine x_lc_le 16 22 C dX3_product_12 dX3_product_13 rfl rfl (fun c_12 => ?_) (fun c_12 => ?_)
    · refine x_lload_0 23 C dX3_product_22 rfl ?_
      refine x_lload_2 24 C dX3_product_23 rfl ?_
      refine x_lmul 25 C dX3_product_24 rfl ?_
      refine x_lreturn C Rt dX3_product_25 ⟨Nat.le_of_ble_eq_true rfl, Nat.le_of_ble_eq_true rfl⟩ ?_
      have hle : b ≤ LG / a := (lN_le' (by omega) (Nat.lt_of_le_of_lt (Nat.div_le_self _ _) (by decide))).mp c_12
      exact ⟨_, rfl, by rw [lN_mul, tmn, if_neg (fun q => by omega)], rfl⟩
    · refine x_ldc2 (v := 1000000000001) 19 C dX3_product_16 rfl wq_X3_72 ?_
      refine x_goto 25 C dX3_product_19 rfl ?_
      refine x_lreturn C Rt dX3_product_25 ⟨Nat.le_of_ble_eq_true rfl, Nat.le_of_ble_eq_true rfl⟩ ?_
      have hle : ¬ b ≤ LG / a := fun q => c_12 ((lN_le' (by omega) (Nat.lt_of_le_of_lt (Nat.div_le_self _ _) (by decide))).mpr q)
      exact ⟨_, rfl, by rw [tmn, if_pos ⟨ha0, by omega⟩]; rfl, rfl⟩
