theorem strg_le {c : Nat} : strg c ≤ 2 := by
  unfold strg
  repeat' split
  all_goals omega
theorem cdS_op {t : Nat} (h : 2 ≤ t) : cdS (t, 0) = 10000 + t := by rw [cdS, if_neg (by show ¬ t = 0; omega), if_neg (by show ¬ t = 1; omega)]
theorem pr_dgt {z : Nat → Int32} {F : Nat → Nat → Int32} {st : List (Nat × Nat)} {wt : List Nat} {op nx v v2 : Nat} {x : Int32} (hnx : nx = 2) (h : prM z F (st ++ [(0, v)], wt, op, nx)) (hx : nI v2 = x) : prM z (va_up F 0 (va_up (F 0) st.length x)) (st ++ [(0, v2)], wt, op, 2) := by
  subst hnx
  subst hx
  obtain ⟨h1, h2, h3, h4, h5, h6⟩ := h
  have h1 : z 0 = nI (st ++ [(0, v)]).length := h1
  have h5 : ∀ k, k < (st ++ [(0, v)]).length → F 0 k = nI (cdS ((st ++ [(0, v)]).getD k (0, 0))) := h5
  refine ⟨by rw [h1, List.length_append, List.length_append]; rfl, h2, h3, h4, fun k hk => ?_, h6⟩
  show va_up (F 0) st.length (nI v2) k = nI (cdS ((st ++ [(0, v2)]).getD k (0, 0)))
  have hk : k < (st ++ [(0, v2)]).length := hk
  rw [List.length_append] at hk
  by_cases e : k = st.length
  · subst e
    rw [va_up_self]
    simp [cdS]
  · have hk2 : k < st.length := by simp only [List.length_cons, List.length_nil] at hk; omega
    rw [va_up_ne _ _ e, h5 k (by rw [List.length_append]; omega)]
    simp only [List.getD_eq_getElem?_getD, List.getElem?_append_left hk2]
theorem isB_lo {c : Nat} (h : isB c ∨ isO c) : 40 ≤ c ∧ c < 256 := by unfold isB isO at h; omega
set_option maxHeartbeats 4000000 in
set_option maxRecDepth 100000 in
theorem c_X2_release (K : hKv) (M : hM) {A : Nat → Nat} {z : Nat → Int32} {F : Nat → Nat → Int32} (W : rW K A z F M) {st : List (Nat × Nat)} {wt : List Nat} {op nx : Nat} (pr : prM z F (st, wt, op, nx)) (hs : st.length + wt.length ≤ 60) (hw : ∀ x ∈ wt, isB x ∨ isO x) (s : Nat) (hs2 : s ≤ 2) : hC K Y_X2_release rm_X2_release [.ref (A 40), .int (nI s)] M (hPv fun M' => rQ K A M ((rel s wt st).2, (rel s wt st).1, op, nx) M') := by
  refine hC.of [some (.ref (A 40)), some (.int (nI s))] (by decide) (Nat.le_of_ble_eq_true rfl) rfl rfl ?_
  intro E C Rt
  have C : hCx E K cX2_release 2 RX2 "release" rm_X2_release := C
  obtain ⟨M0, hM0⟩ : ∃ M0 : hM, M0 = M := ⟨_, rfl⟩
  rw [← hM0] at Rt
  have lp : ∀ (w1 : List Nat) (s1 : List (Nat × Nat)) (z1 : Nat → Int32) (F1 : Nat → Nat → Int32) (M : hM), rW K A z1 F1 M → prM z1 F1 (s1, w1, op, nx) → hFr 41 44 M0 M → s1.length + w1.length ≤ 60 → (∀ x ∈ w1, isB x ∨ isO x) → rel s w1 s1 = rel s wt st → hX E 0 0 0 [some (.ref (A 40)), some (.int (nI s))] [] M := by
    intro w1
    induction w1 with
    | nil =>
      intro s1 z1 F1 M W pr fr hl hw hr
      refine x_aload_0 1 C dX2_release_0 rfl ?_
      refine rOg_waits 4 C wf_X2_23 W.obj dX2_release_1 rfl ?_
      refine x_topi pr.2.1 ?_
      refine x_if_le 7 43 C dX2_release_4 rfl rfl (fun _ => ?_) (fun z => absurd ((show nI 0 ≤ 0 by decide)) z)
      refine x_vreturn C Rt dX2_release_43 ⟨Nat.le_of_ble_eq_true rfl, Nat.le_of_ble_eq_true rfl⟩ ?_
      exact ⟨rfl, z1, F1, W, by rw [← hr]; exact pr, fr⟩
    | cons t w1 ih =>
      intro s1 z1 F1 M W pr fr hl hw hr
      have ht := hw t List.mem_cons_self
      have ht2 := isB_lo ht
      simp only [List.length_cons] at hl
      have hw256 : ∀ x ∈ t :: w1, x < 256 := fun x hx => (isB_lo (hw x hx)).2
      have hss : strg t ≤ 2 := strg_le
      refine x_aload_0 1 C dX2_release_0 rfl ?_
      refine rOg_waits 4 C wf_X2_23 W.obj dX2_release_1 rfl ?_
      refine x_topi pr.2.1 ?_
      refine x_if_le 7 43 C dX2_release_4 rfl rfl (fun z => absurd z (nI_nle (by simp only [List.length_cons]; omega) (by simp only [List.length_cons]; omega))) (fun _ => ?_)
      refine x_aload_0 8 C dX2_release_7 rfl ?_
      refine x_callV 11 C (c_X2_top K _ W pr hw256 (by simp only [List.length_cons]; omega)) W.obj wcl_X2 hy_X2_top wv_X2_top we_X2_top lk_X2_74 dX2_release_8 rfl ⟨Nat.le_of_ble_eq_true rfl, Nat.le_of_ble_eq_true rfl⟩ ⟨Nat.le_of_ble_eq_true rfl, Nat.le_of_ble_eq_true rfl⟩ (Nat.le_of_ble_eq_true rfl) rfl (k_0 rfl rfl (k_ip ?_))
      refine x_topi (v' := nI t) rfl ?_
      refine x_callS 14 C (c_X2_strengthOf K _ t (by omega)) hy_X2_strengthOf ws_X2_strengthOf lk_X2_70 dX2_release_11 rfl ⟨Nat.le_of_ble_eq_true rfl, Nat.le_of_ble_eq_true rfl⟩ ⟨Nat.le_of_ble_eq_true rfl, Nat.le_of_ble_eq_true rfl⟩ (Nat.le_of_ble_eq_true rfl) rfl (k_0 rfl rfl (k_ip ?_))
      refine x_iload_1 15 C dX2_release_14 rfl ?_
      refine x_icmp_lt 18 43 C dX2_release_15 rfl rfl (fun c_15 => ?_) (fun c_15 => ?_)
      · refine x_vreturn C Rt dX2_release_43 ⟨Nat.le_of_ble_eq_true rfl, Nat.le_of_ble_eq_true rfl⟩ ?_
        have hn : ¬ s ≤ strg t := fun q => absurd ((nI_ltI (by omega) (by omega)).mp c_15) (by omega)
        exact ⟨rfl, z1, F1, W, by rw [← hr, rel, if_neg hn]; exact pr, fr⟩
      · have hy : s ≤ strg t := Nat.not_lt.mp fun q => c_15 ((nI_ltI (by omega) (by omega)).mpr q)
        rw [rel, if_pos hy] at hr
        refine x_aload_0 19 C dX2_release_18 rfl ?_
        refine x_sipush (v := 10000) 22 C dX2_release_19 rfl rfl ?_
        refine x_aload_0 23 C dX2_release_22 rfl ?_
        refine x_callV 26 C (c_X2_top K _ W pr hw256 (by simp only [List.length_cons]; omega)) W.obj wcl_X2 hy_X2_top wv_X2_top we_X2_top lk_X2_74 dX2_release_23 rfl ⟨Nat.le_of_ble_eq_true rfl, Nat.le_of_ble_eq_true rfl⟩ ⟨Nat.le_of_ble_eq_true rfl, Nat.le_of_ble_eq_true rfl⟩ (Nat.le_of_ble_eq_true rfl) rfl (k_0 rfl rfl (k_ip ?_))
        refine x_topi (v' := nI t) rfl ?_
        refine x_iadd 27 C dX2_release_26 rfl ?_
        refine x_topi (v' := nI (cdS (t, 0))) (by rw [cdS_op (by omega)]; exact nI_add 10000 t) ?_
        refine x_callV 30 C (c_X2_addStep K _ W pr (t, 0) (by omega)) W.obj wcl_X2 hy_X2_addStep wv_X2_addStep we_X2_addStep lk_X2_52 dX2_release_27 rfl ⟨Nat.le_of_ble_eq_true rfl, Nat.le_of_ble_eq_true rfl⟩ ⟨Nat.le_of_ble_eq_true rfl, Nat.le_of_ble_eq_true rfl⟩ (Nat.le_of_ble_eq_true rfl) rfl (k_0 rfl rfl (k_v (fun M_1 h_1 => ?_)))
        obtain ⟨z_2, F_2, W, pr_2, o_a⟩ := h_1
        refine x_aload_0 31 C dX2_release_30 rfl ?_
        refine x_dup 32 C dX2_release_31 rfl rfl ?_
        refine rOg_waits 35 C wf_X2_23 W.obj dX2_release_32 rfl ?_
        refine x_topi pr_2.2.1 ?_
        refine x_iconst (v := 1) 36 C dX2_release_35 rfl rfl ?_
        refine x_isub 37 C dX2_release_36 rfl ?_
        refine x_topi (v' := nI w1.length) (by rw [List.length_cons]; exact pk_sub (a := w1.length + 1) (b := 1) (by omega)) ?_
        refine rOp_waits 40 C wf_X2_23 W.obj dX2_release_37 rfl ?_
        refine x_r_obj W (fun M_2 W o_2 => ?_)
        refine x_goto 0 C dX2_release_40 rfl ?_
        exact ih _ _ _ _ W (pr_pop pr_2).1 (fr.tr ((o_a).tr o_2)) (by rw [List.length_append]; simp only [List.length_cons, List.length_nil]; omega) (fun x hx => hw x (List.mem_cons_of_mem _ hx)) hr
  exact lp wt st z F M W pr (by rw [hM0]; exact hFr.rf) hs hw rfl
set_option maxHeartbeats 4000000 in
set_option maxRecDepth 100000 in
theorem c_X2_closeBracket (K : hKv) (M : hM) {A : Nat → Nat} {z : Nat → Int32} {F : Nat → Nat → Int32} (W : rW K A z F M) {st : List (Nat × Nat)} {wt : List Nat} {op nx : Nat} (pr : prM z F (st, wt, op, nx)) {i n : Nat} (hP : PI (st, wt, op, n) i) (hi : i ≤ 59) (hn : 2 ≤ n) {x : Nat} {v : List Nat} (hr : (rel 1 wt st).1 = x :: v) (hop : 0 < op) : hC K Y_X2_closeBracket rm_X2_closeBracket [.ref (A 40)] M (hPv fun M' => rQ K A M (clo (rel 1 wt st) op) M') := by
  refine hC.of [some (.ref (A 40)), none] (by decide) (Nat.le_of_ble_eq_true rfl) rfl rfl ?_
  intro E C Rt
  have C : hCx E K cX2_closeBracket 2 RX2 "closeBracket" rm_X2_closeBracket := C
  have hlen : st.length + wt.length ≤ i := hP.1
  have hw : ∀ x ∈ wt, isB x ∨ isO x := hP.2.2.1
  have hop60 : op ≤ 60 := PI_sm hP (by omega)
  obtain ⟨q1, q2, q3⟩ := rel_256 hP (Nat.le_refl 1) hn
  simp only [] at q1 q2 q3
  rw [hr] at q1 q2 q3
  simp only [List.length_cons] at q1
  have hx := q3 x List.mem_cons_self
  have hx40 : 40 ≤ x := by
    obtain ⟨-, -, r3, -⟩ := rel_spec 1 (Nat.le_refl _) wt st 0 hP.2.2.1 hP.2.2.2.2.1 (by have := hP.2.2.2.2.2.1; rw [if_neg (by show ¬ (n = 0 ∨ n = 1); omega)] at this; exact this)
    rw [hr] at r3
    exact (isB_lo (r3 x List.mem_cons_self)).1
  have hclo : clo (rel 1 wt st) op = ((if x = 40 then (rel 1 wt st).2 else (rel 1 wt st).2 ++ [(x, 0)]), v, op - 1, 3) := by unfold clo; simp only [hr]
  refine x_aload_0 1 C dX2_closeBracket_0 rfl ?_
  refine x_iconst (v := 1) 2 C dX2_closeBracket_1 rfl rfl ?_
  refine x_topi (v' := nI 1) rfl ?_
  refine x_callV 5 C (c_X2_release K _ W pr (by omega) hw (1) (by decide)) W.obj wcl_X2 hy_X2_release wv_X2_release we_X2_release lk_X2_36 dX2_closeBracket_2 rfl ⟨Nat.le_of_ble_eq_true rfl, Nat.le_of_ble_eq_true rfl⟩ ⟨Nat.le_of_ble_eq_true rfl, Nat.le_of_ble_eq_true rfl⟩ (Nat.le_of_ble_eq_true rfl) rfl (k_0 rfl rfl (k_v (fun M_1 h_1 => ?_)))
  obtain ⟨z_1, F_1, W, pr_1, o_r⟩ := h_1
  rw [hr] at pr_1
  refine x_aload_0 6 C dX2_closeBracket_5 rfl ?_
  refine x_callV 9 C (c_X2_top K _ W pr_1 q3 (by simp only [List.length_cons]; omega)) W.obj wcl_X2 hy_X2_top wv_X2_top we_X2_top lk_X2_74 dX2_closeBracket_6 rfl ⟨Nat.le_of_ble_eq_true rfl, Nat.le_of_ble_eq_true rfl⟩ ⟨Nat.le_of_ble_eq_true rfl, Nat.le_of_ble_eq_true rfl⟩ (Nat.le_of_ble_eq_true rfl) rfl (k_0 rfl rfl (k_ip ?_))
  refine x_topi (v' := nI x) rfl ?_
  refine x_istore_1 10 C dX2_closeBracket_9 rfl rfl ?_
  refine x_aload_0 11 C dX2_closeBracket_10 rfl ?_
  refine x_dup 12 C dX2_closeBracket_11 rfl rfl ?_
  refine rOg_waits 15 C wf_X2_23 W.obj dX2_closeBracket_12 rfl ?_
  refine x_topi pr_1.2.1 ?_
  refine x_iconst (v := 1) 16 C dX2_closeBracket_15 rfl rfl ?_
  refine x_isub 17 C dX2_closeBracket_16 rfl ?_
  refine x_topi (v' := nI v.length) (by rw [List.length_cons]; exact pk_sub (a := v.length + 1) (b := 1) (by omega)) ?_
  refine rOp_waits 20 C wf_X2_23 W.obj dX2_closeBracket_17 rfl ?_
  refine x_r_obj W (fun M_2 W o_2 => ?_)
  refine x_aload_0 21 C dX2_closeBracket_20 rfl ?_
  refine x_dup 22 C dX2_closeBracket_21 rfl rfl ?_
  refine rOg_open 25 C wf_X2_26 W.obj dX2_closeBracket_22 rfl ?_
  refine x_topi pr_1.2.2.1 ?_
  refine x_iconst (v := 1) 26 C dX2_closeBracket_25 rfl rfl ?_
  refine x_isub 27 C dX2_closeBracket_26 rfl ?_
  refine x_topi (v' := nI (op - 1)) (pk_sub (a := op) (b := 1) (by omega)) ?_
  refine rOp_open 30 C wf_X2_26 W.obj dX2_closeBracket_27 rfl ?_
  refine x_r_obj W (fun M_3 W o_3 => ?_)
  refine x_iload_1 31 C dX2_closeBracket_30 rfl ?_
  refine x_bipush (v := 40) 33 C dX2_closeBracket_31 rfl rfl ?_
  refine x_icmp_eq 36 45 C dX2_closeBracket_33 rfl rfl (fun c_33 => ?_) (fun c_33 => ?_)
  · refine x_aload_0 46 C dX2_closeBracket_45 rfl ?_
    refine x_iconst (v := 3) 47 C dX2_closeBracket_46 rfl rfl ?_
    refine rOp_next 50 C wf_X2_29 W.obj dX2_closeBracket_47 rfl ?_
    refine x_r_obj W (fun M_4 W o_4 => ?_)
    refine x_vreturn C Rt dX2_closeBracket_50 ⟨Nat.le_of_ble_eq_true rfl, Nat.le_of_ble_eq_true rfl⟩ ?_
    have h40 : x = 40 := (nI_c (k := 40) (by omega) (by decide)).mp c_33
    exact ⟨rfl, _, _, W, by rw [hclo, if_pos h40]; exact pr_nx (pr_op (pr_pop pr_1).1 (op - 1)) 3, ((((o_r).tr o_2).tr o_3).tr o_4)⟩
  · refine x_aload_0 37 C dX2_closeBracket_36 rfl ?_
    refine x_sipush (v := 10000) 40 C dX2_closeBracket_37 rfl rfl ?_
    refine x_iload_1 41 C dX2_closeBracket_40 rfl ?_
    refine x_iadd 42 C dX2_closeBracket_41 rfl ?_
    refine x_topi (v' := nI (cdS (x, 0))) (by rw [cdS_op (by omega)]; exact nI_add 10000 x) ?_
    refine x_callV 45 C (c_X2_addStep K _ W (pr_op (pr_pop pr_1).1 (op - 1)) (x, 0) (by omega)) W.obj wcl_X2 hy_X2_addStep wv_X2_addStep we_X2_addStep lk_X2_52 dX2_closeBracket_42 rfl ⟨Nat.le_of_ble_eq_true rfl, Nat.le_of_ble_eq_true rfl⟩ ⟨Nat.le_of_ble_eq_true rfl, Nat.le_of_ble_eq_true rfl⟩ (Nat.le_of_ble_eq_true rfl) rfl (k_0 rfl rfl (k_v (fun M_5 h_5 => ?_)))
    obtain ⟨z_2, F_2, W, pr_2, o_a⟩ := h_5
    refine x_aload_0 46 C dX2_closeBracket_45 rfl ?_
    refine x_iconst (v := 3) 47 C dX2_closeBracket_46 rfl rfl ?_
    refine rOp_next 50 C wf_X2_29 W.obj dX2_closeBracket_47 rfl ?_
    refine x_r_obj W (fun M_6 W o_6 => ?_)
    refine x_vreturn C Rt dX2_closeBracket_50 ⟨Nat.le_of_ble_eq_true rfl, Nat.le_of_ble_eq_true rfl⟩ ?_
    have h40 : ¬ x = 40 := fun q => c_33 ((nI_c (k := 40) (by omega) (by decide)).mpr q)
    exact ⟨rfl, _, _, W, by rw [hclo, if_neg h40]; exact pr_nx pr_2 3, (((((o_r).tr o_2).tr o_3).tr o_a).tr o_6)⟩
set_option maxHeartbeats 4000000 in
set_option maxRecDepth 100000 in
theorem c_X2_takesBehind (K : hKv) (M : hM) {A : Nat → Nat} {z : Nat → Int32} {F : Nat → Nat → Int32} (W : rW K A z F M) {st : List (Nat × Nat)} {wt : List Nat} {op nx : Nat} (pr : prM z F (st, wt, op, nx)) {i n : Nat} (hP : PI (st, wt, op, n) i) (hi : i ≤ 59) (hn : 2 ≤ n) (c : Nat) (hc : c < 256) : hC K Y_X2_takesBehind rm_X2_takesBehind [.ref (A 40), .int (nI c)] M (hPi fun r M' => (r = 1 ∧ ∃ p : hPs, bhd (st, wt, op, n) c = some p ∧ rQ K A M p M') ∨ (r = 0 ∧ bhd (st, wt, op, n) c = none ∧ M' = M)) := by
  refine hC.of [some (.ref (A 40)), some (.int (nI c)), none] (by decide) (Nat.le_of_ble_eq_true rfl) rfl rfl ?_
  intro E C Rt
  have C : hCx E K cX2_takesBehind 3 RX2 "takesBehind" rm_X2_takesBehind := C
  have hlen : st.length + wt.length ≤ i := hP.1
  have hw : ∀ x ∈ wt, isB x ∨ isO x := hP.2.2.1
  have hop60 : op ≤ 60 := PI_sm hP (by omega)
  have e41 : nI c = 41 ↔ c = 41 := (nI_c (k := 41) (by omega) (by decide))
  have hsl := strg_le (c := c)
  refine x_iload_1 1 C dX2_takesBehind_0 rfl ?_
  refine x_bipush (v := 41) 3 C dX2_takesBehind_1 rfl rfl ?_
  refine x_icmp_ne 6 19 C dX2_takesBehind_3 rfl rfl (fun c_3 => ?_) (fun c_3 => ?_)
  · have hno : ¬ (c = 41 ∧ 0 < op) := fun q => c_3 (e41.mpr q.1)
    refine x_iload_1 20 C dX2_takesBehind_19 rfl ?_
    refine x_callS 23 C (c_X2_strengthOf K _ c (by omega)) hy_X2_strengthOf ws_X2_strengthOf lk_X2_70 dX2_takesBehind_20 rfl ⟨Nat.le_of_ble_eq_true rfl, Nat.le_of_ble_eq_true rfl⟩ ⟨Nat.le_of_ble_eq_true rfl, Nat.le_of_ble_eq_true rfl⟩ (Nat.le_of_ble_eq_true rfl) rfl (k_0 rfl rfl (k_ip ?_))
    refine x_istore_2 24 C dX2_takesBehind_23 rfl rfl ?_
    refine x_iload_2 25 C dX2_takesBehind_24 rfl ?_
    refine x_if_ne 28 30 C dX2_takesBehind_25 rfl rfl (fun c_25 => ?_) (fun c_25 => ?_)
    · have h0 : ¬ strg c = 0 := fun q => c_25 (by rw [q]; rfl)
      obtain ⟨q1, q2, q3⟩ := rel_256 hP (show 1 ≤ strg c by omega) hn
      simp only [] at q1
      refine x_aload_0 31 C dX2_takesBehind_30 rfl ?_
      refine x_iload_2 32 C dX2_takesBehind_31 rfl ?_
      refine x_callV 35 C (c_X2_release K _ W pr (by omega) hw (strg c) (hsl)) W.obj wcl_X2 hy_X2_release wv_X2_release we_X2_release lk_X2_36 dX2_takesBehind_32 rfl ⟨Nat.le_of_ble_eq_true rfl, Nat.le_of_ble_eq_true rfl⟩ ⟨Nat.le_of_ble_eq_true rfl, Nat.le_of_ble_eq_true rfl⟩ (Nat.le_of_ble_eq_true rfl) rfl (k_0 rfl rfl (k_v (fun M_1 h_1 => ?_)))
      obtain ⟨z_1, F_1, W, pr_1, o_r⟩ := h_1
      refine x_aload_0 36 C dX2_takesBehind_35 rfl ?_
      refine x_iload_1 37 C dX2_takesBehind_36 rfl ?_
      refine x_callV 40 C (c_X2_push K _ W pr_1 c (by omega) (by omega)) W.obj wcl_X2 hy_X2_push wv_X2_push we_X2_push lk_X2_63 dX2_takesBehind_37 rfl ⟨Nat.le_of_ble_eq_true rfl, Nat.le_of_ble_eq_true rfl⟩ ⟨Nat.le_of_ble_eq_true rfl, Nat.le_of_ble_eq_true rfl⟩ (Nat.le_of_ble_eq_true rfl) rfl (k_0 rfl rfl (k_v (fun M_2 h_2 => ?_)))
      obtain ⟨z_2, F_2, W, pr_2, o_p⟩ := h_2
      refine x_aload_0 41 C dX2_takesBehind_40 rfl ?_
      refine x_iconst (v := 0) 42 C dX2_takesBehind_41 rfl rfl ?_
      refine rOp_next 45 C wf_X2_29 W.obj dX2_takesBehind_42 rfl ?_
      refine x_r_obj W (fun M_3 W o_3 => ?_)
      refine x_iconst (v := 1) 46 C dX2_takesBehind_45 rfl rfl ?_
      refine x_ireturn C Rt dX2_takesBehind_46 rfl ⟨Nat.le_of_ble_eq_true rfl, Nat.le_of_ble_eq_true rfl⟩ ?_
      exact ⟨_, rfl, Or.inl ⟨rfl, _, by rw [bhd, if_neg hno, if_neg h0], ⟨_, _, W, pr_nx pr_2 0, (((o_r).tr o_p).tr o_3)⟩⟩⟩
    · refine x_iconst (v := 0) 29 C dX2_takesBehind_28 rfl rfl ?_
      refine x_ireturn C Rt dX2_takesBehind_29 rfl ⟨Nat.le_of_ble_eq_true rfl, Nat.le_of_ble_eq_true rfl⟩ ?_
      have h0 : strg c = 0 := (nI_c (k := 0) (by omega) (by decide)).mp c_25
      exact ⟨_, rfl, Or.inr ⟨rfl, by rw [bhd, if_neg hno, if_pos h0], rfl⟩⟩
  · refine x_aload_0 7 C dX2_takesBehind_6 rfl ?_
    refine rOg_open 10 C wf_X2_26 W.obj dX2_takesBehind_7 rfl ?_
    refine x_topi (v' := nI op) pr.2.2.1 ?_
    refine x_if_le 13 19 C dX2_takesBehind_10 rfl rfl (fun c_10 => ?_) (fun c_10 => ?_)
    · have hno : ¬ (c = 41 ∧ 0 < op) := fun q => by have := (nI_leI (a := op) (b := 0) (by omega) (by decide)).mp c_10; omega
      refine x_iload_1 20 C dX2_takesBehind_19 rfl ?_
      refine x_callS 23 C (c_X2_strengthOf K _ c (by omega)) hy_X2_strengthOf ws_X2_strengthOf lk_X2_70 dX2_takesBehind_20 rfl ⟨Nat.le_of_ble_eq_true rfl, Nat.le_of_ble_eq_true rfl⟩ ⟨Nat.le_of_ble_eq_true rfl, Nat.le_of_ble_eq_true rfl⟩ (Nat.le_of_ble_eq_true rfl) rfl (k_0 rfl rfl (k_ip ?_))
      refine x_istore_2 24 C dX2_takesBehind_23 rfl rfl ?_
      refine x_iload_2 25 C dX2_takesBehind_24 rfl ?_
      refine x_if_ne 28 30 C dX2_takesBehind_25 rfl rfl (fun c_25 => ?_) (fun c_25 => ?_)
      · have h0 : ¬ strg c = 0 := fun q => c_25 (by rw [q]; rfl)
        obtain ⟨q1, q2, q3⟩ := rel_256 hP (show 1 ≤ strg c by omega) hn
        simp only [] at q1
        refine x_aload_0 31 C dX2_takesBehind_30 rfl ?_
        refine x_iload_2 32 C dX2_takesBehind_31 rfl ?_
        refine x_callV 35 C (c_X2_release K _ W pr (by omega) hw (strg c) (hsl)) W.obj wcl_X2 hy_X2_release wv_X2_release we_X2_release lk_X2_36 dX2_takesBehind_32 rfl ⟨Nat.le_of_ble_eq_true rfl, Nat.le_of_ble_eq_true rfl⟩ ⟨Nat.le_of_ble_eq_true rfl, Nat.le_of_ble_eq_true rfl⟩ (Nat.le_of_ble_eq_true rfl) rfl (k_0 rfl rfl (k_v (fun M_4 h_4 => ?_)))
        obtain ⟨z_1, F_1, W, pr_1, o_r⟩ := h_4
        refine x_aload_0 36 C dX2_takesBehind_35 rfl ?_
        refine x_iload_1 37 C dX2_takesBehind_36 rfl ?_
        refine x_callV 40 C (c_X2_push K _ W pr_1 c (by omega) (by omega)) W.obj wcl_X2 hy_X2_push wv_X2_push we_X2_push lk_X2_63 dX2_takesBehind_37 rfl ⟨Nat.le_of_ble_eq_true rfl, Nat.le_of_ble_eq_true rfl⟩ ⟨Nat.le_of_ble_eq_true rfl, Nat.le_of_ble_eq_true rfl⟩ (Nat.le_of_ble_eq_true rfl) rfl (k_0 rfl rfl (k_v (fun M_5 h_5 => ?_)))
        obtain ⟨z_2, F_2, W, pr_2, o_p⟩ := h_5
        refine x_aload_0 41 C dX2_takesBehind_40 rfl ?_
        refine x_iconst (v := 0) 42 C dX2_takesBehind_41 rfl rfl ?_
        refine rOp_next 45 C wf_X2_29 W.obj dX2_takesBehind_42 rfl ?_
        refine x_r_obj W (fun M_6 W o_6 => ?_)
        refine x_iconst (v := 1) 46 C dX2_takesBehind_45 rfl rfl ?_
        refine x_ireturn C Rt dX2_takesBehind_46 rfl ⟨Nat.le_of_ble_eq_true rfl, Nat.le_of_ble_eq_true rfl⟩ ?_
        exact ⟨_, rfl, Or.inl ⟨rfl, _, by rw [bhd, if_neg hno, if_neg h0], ⟨_, _, W, pr_nx pr_2 0, (((o_r).tr o_p).tr o_6)⟩⟩⟩
      · refine x_iconst (v := 0) 29 C dX2_takesBehind_28 rfl rfl ?_
        refine x_ireturn C Rt dX2_takesBehind_29 rfl ⟨Nat.le_of_ble_eq_true rfl, Nat.le_of_ble_eq_true rfl⟩ ?_
        have h0 : strg c = 0 := (nI_c (k := 0) (by omega) (by decide)).mp c_25
        exact ⟨_, rfl, Or.inr ⟨rfl, by rw [bhd, if_neg hno, if_pos h0], rfl⟩⟩
    · have h41 : c = 41 := e41.mp (by first | exact c_3 | exact Decidable.not_not.mp c_3)
      have hop : 0 < op := by
        rcases Nat.eq_zero_or_pos op with q | q
        · exact absurd (by rw [q]; decide) c_10
        · exact q
      obtain ⟨x, v, hr⟩ : ∃ x v, (rel 1 wt st).1 = x :: v := by
        obtain ⟨q1, q2, q3⟩ := rel_256 hP (Nat.le_refl 1) hn
        simp only [] at q1 q2
        cases hq : (rel 1 wt st).1 with
        | nil => rw [hq] at q2; rw [show nB [] = 0 from rfl] at q2; omega
        | cons x v => exact ⟨x, v, rfl⟩
      refine x_aload_0 14 C dX2_takesBehind_13 rfl ?_
      refine x_callV 17 C (c_X2_closeBracket K _ W pr hP hi hn hr hop) W.obj wcl_X2 hy_X2_closeBracket wv_X2_closeBracket we_X2_closeBracket lk_X2_67 dX2_takesBehind_14 rfl ⟨Nat.le_of_ble_eq_true rfl, Nat.le_of_ble_eq_true rfl⟩ ⟨Nat.le_of_ble_eq_true rfl, Nat.le_of_ble_eq_true rfl⟩ (Nat.le_of_ble_eq_true rfl) rfl (k_0 rfl rfl (k_v (fun M_7 h_cb => ?_)))
      refine x_iconst (v := 1) 18 C dX2_takesBehind_17 rfl rfl ?_
      refine x_ireturn C Rt dX2_takesBehind_18 rfl ⟨Nat.le_of_ble_eq_true rfl, Nat.le_of_ble_eq_true rfl⟩ ?_
      exact ⟨_, rfl, Or.inl ⟨rfl, _, by rw [h41, bhd, if_pos ⟨rfl, hop⟩], h_cb⟩⟩
set_option maxHeartbeats 4000000 in
set_option maxRecDepth 100000 in
theorem c_X2_takesDigit (K : hKv) (M : hM) {A : Nat → Nat} {z : Nat → Int32} {F : Nat → Nat → Int32} (W : rW K A z F M) {st : List (Nat × Nat)} {wt : List Nat} {op nx : Nat} {v : Nat} (pr : prM z F (st ++ [(0, v)], wt, op, nx)) (hnx : nx = 2) (hv : v ≤ 9999) (hs : st.length < 60) (c : Nat) (hc : 48 ≤ c ∧ c ≤ 57) : hC K Y_X2_takesDigit rm_X2_takesDigit [.ref (A 40), .int (nI c)] M (hPi fun r M' => (r = 1 ∧ ∃ p : hPs, dgt (st ++ [(0, v)], wt, op, nx) c = some p ∧ rQ K A M p M') ∨ (r = 0 ∧ dgt (st ++ [(0, v)], wt, op, nx) c = none ∧ M' = M)) := by
  refine hC.of [some (.ref (A 40)), some (.int (nI c)), none, none] (by decide) (Nat.le_of_ble_eq_true rfl) rfl rfl ?_
  intro E C Rt
  have C : hCx E K cX2_takesDigit 4 RX2 "takesDigit" rm_X2_takesDigit := C
  have p0 : z 0 = nI (st.length + 1) := pr.1.trans (by show nI (st ++ [(0, v)]).length = _; rw [List.length_append]; rfl)
  have pv : F 0 st.length = nI v := by
    have := pr.2.2.2.2.1 st.length (by show st.length < (st ++ [(0, v)]).length; rw [List.length_append]; simp)
    rw [this]
    show nI (cdS ((st ++ [(0, v)]).getD st.length (0, 0))) = nI v
    simp [cdS]
  have dn : (v = 0 ∨ 9999 < v * 10 + (c - 48)) → dgt (st ++ [(0, v)], wt, op, nx) c = none := fun q => by rw [dgt, if_pos (by rw [lst_app]; exact q)]
  refine x_aload_0 1 C dX2_takesDigit_0 rfl ?_
  refine rOg_size 4 C wf_X2_19 W.obj dX2_takesDigit_1 rfl ?_
  refine x_topi p0 ?_
  refine x_iconst (v := 1) 5 C dX2_takesDigit_4 rfl rfl ?_
  refine x_isub 6 C dX2_takesDigit_5 rfl ?_
  refine x_topi (v' := nI st.length) (pk_sub (a := st.length + 1) (b := 1) (by omega)) ?_
  refine x_istore_2 7 C dX2_takesDigit_6 rfl rfl ?_
  refine x_iload_2 8 C dX2_takesDigit_7 rfl ?_
  refine x_if_lt 11 29 C dX2_takesDigit_8 rfl rfl (fun z => absurd z (nI_n0 (by omega))) (fun _ => ?_)
  refine x_iload_2 12 C dX2_takesDigit_11 rfl ?_
  refine x_aload_0 13 C dX2_takesDigit_12 rfl ?_
  refine rOg_steps 16 C wf_X2_9 W.obj dX2_takesDigit_13 rfl ?_
  refine x_alenI 17 C W.steps dX2_takesDigit_16 rfl ?_
  refine x_icmp_ge 20 29 C dX2_takesDigit_17 rfl rfl (fun z => absurd z (nI_ge hs (by decide))) (fun _ => ?_)
  refine x_aload_0 21 C dX2_takesDigit_20 rfl ?_
  refine rOg_steps 24 C wf_X2_9 W.obj dX2_takesDigit_21 rfl ?_
  refine x_iload_2 25 C dX2_takesDigit_24 rfl ?_
  refine x_iald 26 (st.length) C W.steps (rfl) (by omega) (by decide) dX2_takesDigit_25 rfl ?_
  refine x_topi pv ?_
  refine x_if_ne 29 31 C dX2_takesDigit_26 rfl rfl (fun c_26 => ?_) (fun c_26 => ?_)
  · refine x_aload_0 32 C dX2_takesDigit_31 rfl ?_
    refine rOg_steps 35 C wf_X2_9 W.obj dX2_takesDigit_32 rfl ?_
    refine x_iload_2 36 C dX2_takesDigit_35 rfl ?_
    refine x_iald 37 (st.length) C W.steps (rfl) (by omega) (by decide) dX2_takesDigit_36 rfl ?_
    refine x_topi pv ?_
    refine x_bipush (v := 10) 39 C dX2_takesDigit_37 rfl rfl ?_
    refine x_imul 40 C dX2_takesDigit_39 rfl ?_
    refine x_topi (pk_mul v 10) ?_
    refine x_iload_1 41 C dX2_takesDigit_40 rfl ?_
    refine x_iadd 42 C dX2_takesDigit_41 rfl ?_
    refine x_topi (nI_add _ _) ?_
    refine x_bipush (v := 48) 44 C dX2_takesDigit_42 rfl rfl ?_
    refine x_isub 45 C dX2_takesDigit_44 rfl ?_
    refine x_topi (v' := nI (v * 10 + c - 48)) (pk_sub (a := v * 10 + c) (b := 48) (by omega)) ?_
    refine x_istore_3 46 C dX2_takesDigit_45 rfl rfl ?_
    refine x_iload_3 47 C dX2_takesDigit_46 rfl ?_
    refine x_sipush (v := 9999) 50 C dX2_takesDigit_47 rfl rfl ?_
    refine x_icmp_le 53 55 C dX2_takesDigit_50 rfl rfl (fun c_50 => ?_) (fun c_50 => ?_)
    · refine x_aload_0 56 C dX2_takesDigit_55 rfl ?_
      refine rOg_steps 59 C wf_X2_9 W.obj dX2_takesDigit_56 rfl ?_
      refine x_iload_2 60 C dX2_takesDigit_59 rfl ?_
      refine x_iload_3 61 C dX2_takesDigit_60 rfl ?_
      refine x_iast 62 (st.length) C W.steps (rfl) (by omega) (by decide) dX2_takesDigit_61 rfl ?_
      refine x_r_steps W (fun M_1 W o_1 => ?_)
      refine x_iconst (v := 1) 63 C dX2_takesDigit_62 rfl rfl ?_
      refine x_ireturn C Rt dX2_takesDigit_63 rfl ⟨Nat.le_of_ble_eq_true rfl, Nat.le_of_ble_eq_true rfl⟩ ?_
      have hle : v * 10 + c - 48 ≤ 9999 := (nI_leI (b := 9999) (by omega) (by decide)).mp c_50
      have h0 : ¬ v = 0 := fun q => c_26 (by rw [q]; rfl)
      have hd : dgt (st ++ [(0, v)], wt, op, nx) c = some (st ++ [(0, v * 10 + (c - 48))], wt, op, 2) := by
        rw [dgt, if_neg (by rw [lst_app]; omega)]
        show some ((st ++ [(0, v)]).dropLast ++ _, _, _, _) = _
        rw [List.dropLast_concat, lst_app]
      exact ⟨_, rfl, Or.inl ⟨rfl, _, hd, ⟨_, _, W, pr_dgt hnx pr (by rw [show v * 10 + (c - 48) = v * 10 + c - 48 by omega]), (o_1)⟩⟩⟩
    · refine x_iconst (v := 0) 54 C dX2_takesDigit_53 rfl rfl ?_
      refine x_ireturn C Rt dX2_takesDigit_54 rfl ⟨Nat.le_of_ble_eq_true rfl, Nat.le_of_ble_eq_true rfl⟩ ?_
      have hov : ¬ v * 10 + c - 48 ≤ 9999 := fun q => c_50 (nI_le q (by decide))
      exact ⟨_, rfl, Or.inr ⟨rfl, dn (Or.inr (by omega)), rfl⟩⟩
  · refine x_iconst (v := 0) 30 C dX2_takesDigit_29 rfl rfl ?_
    refine x_ireturn C Rt dX2_takesDigit_30 rfl ⟨Nat.le_of_ble_eq_true rfl, Nat.le_of_ble_eq_true rfl⟩ ?_
    have h0 : v = 0 := (nI_c (k := 0) (by omega) (by decide)).mp c_26
    exact ⟨_, rfl, Or.inr ⟨rfl, dn (Or.inl h0), rfl⟩⟩
