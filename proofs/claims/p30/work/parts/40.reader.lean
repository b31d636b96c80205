/-- a step, as the class writes it -/
def cdS (s : Nat × Nat) : Nat := if s.1 = 0 then s.2 else if s.1 = 1 then 10065 + s.2 else 10000 + s.1
def prM (z : Nat → Int32) (F : Nat → Nat → Int32) (p : hPs) : Prop := z 0 = nI p.1.length ∧ z 1 = nI p.2.1.length ∧ z 2 = nI p.2.2.1 ∧ z 3 = nI p.2.2.2 ∧ (∀ k, k < p.1.length → F 0 k = nI (cdS (p.1.getD k (0, 0)))) ∧ ∀ k, k < p.2.1.length → F 1 k = nI (p.2.1.getD (p.2.1.length - 1 - k) 0)
def rQ (K : hKv) (A : Nat → Nat) (M : hM) (p : hPs) (M' : hM) : Prop := ∃ z F, rW K A z F M' ∧ prM z F p ∧ hFr 41 44 M M'
theorem char_ok {c : Nat} (h : c < 65536) : vp_nar .char (nI c) = nI c := Value.int.inj (pk_charN h).1
theorem pr_step {z : Nat → Int32} {F : Nat → Nat → Int32} {st : List (Nat × Nat)} {wt : List Nat} {op nx : Nat} (h : prM z F (st, wt, op, nx)) (s : Nat × Nat) : prM (va_up z 0 (nI (st.length + 1))) (va_up F 0 (va_up (F 0) st.length (nI (cdS s)))) (st ++ [s], wt, op, nx) := by
  obtain ⟨h1, h2, h3, h4, h5, h6⟩ := h
  refine ⟨by rw [va_up_self, List.length_append]; rfl, h2, h3, h4, fun k hk => ?_, h6⟩
  show va_up (F 0) st.length (nI (cdS s)) k = nI (cdS ((st ++ [s]).getD k (0, 0)))
  have hk : k < (st ++ [s]).length := hk
  rw [List.length_append] at hk
  by_cases e : k = st.length
  · subst e
    rw [va_up_self]
    simp
  · have hk2 : k < st.length := by simp only [List.length_cons, List.length_nil] at hk; omega
    rw [va_up_ne _ _ e]
    simp only [List.getD_eq_getElem?_getD, List.getElem?_append_left hk2]
    have := h5 k hk2
    rw [List.getD_eq_getElem?_getD] at this
    exact this
theorem pr_push {z : Nat → Int32} {F : Nat → Nat → Int32} {st : List (Nat × Nat)} {wt : List Nat} {op nx : Nat} (h : prM z F (st, wt, op, nx)) (c : Nat) : prM (va_up z 1 (nI (wt.length + 1))) (va_up F 1 (va_up (F 1) wt.length (nI c))) (st, c :: wt, op, nx) := by
  obtain ⟨h1, h2, h3, h4, h5, h6⟩ := h
  refine ⟨h1, va_up_self _ _ _, h3, h4, h5, fun k hk => ?_⟩
  show va_up (F 1) wt.length (nI c) k = nI ((c :: wt).getD ((c :: wt).length - 1 - k) 0)
  have hk : k < (c :: wt).length := hk
  rw [List.length_cons] at hk ⊢
  by_cases e : k = wt.length
  · subst e
    rw [va_up_self, show wt.length + 1 - 1 - wt.length = 0 by omega]; rfl
  · rw [va_up_ne _ _ e, show wt.length + 1 - 1 - k = (wt.length - 1 - k) + 1 by omega, List.getD_cons_succ]
    exact h6 k (show k < wt.length by omega)
theorem pr_pop {z : Nat → Int32} {F : Nat → Nat → Int32} {st : List (Nat × Nat)} {wt : List Nat} {op nx c : Nat} (h : prM z F (st, c :: wt, op, nx)) : prM (va_up z 1 (nI wt.length)) F (st, wt, op, nx) ∧ F 1 wt.length = nI c := by
  obtain ⟨h1, h2, h3, h4, h5, h6⟩ := h
  have h6 : ∀ k, k < (c :: wt).length → F 1 k = nI ((c :: wt).getD ((c :: wt).length - 1 - k) 0) := h6
  refine ⟨⟨h1, va_up_self _ _ _, h3, h4, h5, fun k hk => ?_⟩, ?_⟩
  · have hk : k < wt.length := hk
    rw [h6 k (by rw [List.length_cons]; omega), List.length_cons, show wt.length + 1 - 1 - k = (wt.length - 1 - k) + 1 by omega, List.getD_cons_succ]
  · rw [h6 wt.length (by rw [List.length_cons]; omega), List.length_cons, show wt.length + 1 - 1 - wt.length = 0 by omega]; rfl
theorem pr_op {z : Nat → Int32} {F : Nat → Nat → Int32} {st : List (Nat × Nat)} {wt : List Nat} {op nx : Nat} (h : prM z F (st, wt, op, nx)) (o : Nat) : prM (va_up z 2 (nI o)) F (st, wt, o, nx) := ⟨h.1, h.2.1, va_up_self _ _ _, h.2.2.2.1, h.2.2.2.2⟩
theorem pr_nx {z : Nat → Int32} {F : Nat → Nat → Int32} {st : List (Nat × Nat)} {wt : List Nat} {op nx : Nat} (h : prM z F (st, wt, op, nx)) (n : Nat) : prM (va_up z 3 (nI n)) F (st, wt, op, n) := ⟨h.1, h.2.1, h.2.2.1, va_up_self _ _ _, h.2.2.2.2⟩
set_option maxHeartbeats 4000000 in
set_option maxRecDepth 100000 in
theorem c_X2_strengthOf (K : hKv) (M : hM) (c : Nat) (hc : c < 65536) : hC K Y_X2_strengthOf rm_X2_strengthOf [.int (nI c)] M (hPi fun r M' => r = nI (strg c) ∧ M' = M) := by
  refine hC.of [some (.int (nI c))] (by decide) (Nat.le_of_ble_eq_true rfl) rfl rfl ?_
  intro E C Rt
  have C : hCx E K cX2_strengthOf 1 RX2 "strengthOf" rm_X2_strengthOf := C
  have e1 : nI c = 42 ↔ c = 42 := (nI_c (k := 42) (by omega) (by decide))
  have e2 : nI c = 43 ↔ c = 43 := (nI_c (k := 43) (by omega) (by decide))
  have e3 : nI c = 45 ↔ c = 45 := (nI_c (k := 45) (by omega) (by decide))
  refine x_iload_0 1 C dX2_strengthOf_0 rfl ?_
  refine x_bipush (v := 42) 3 C dX2_strengthOf_1 rfl rfl ?_
  refine x_icmp_ne 6 8 C dX2_strengthOf_3 rfl rfl (fun c_3 => ?_) (fun c_3 => ?_)
  · refine x_iload_0 9 C dX2_strengthOf_8 rfl ?_
    refine x_bipush (v := 43) 11 C dX2_strengthOf_9 rfl rfl ?_
    refine x_icmp_eq 14 20 C dX2_strengthOf_11 rfl rfl (fun c_11 => ?_) (fun c_11 => ?_)
    · refine x_iconst (v := 1) 21 C dX2_strengthOf_20 rfl rfl ?_
      refine x_goto 25 C dX2_strengthOf_21 rfl ?_
      refine x_ireturn C Rt dX2_strengthOf_25 rfl ⟨Nat.le_of_ble_eq_true rfl, Nat.le_of_ble_eq_true rfl⟩ ?_
      exact ⟨_, rfl, by rw [strg, if_neg (fun q => c_3 (e1.mpr q)), if_pos (Or.inl (e2.mp c_11))]; rfl, rfl⟩
    · refine x_iload_0 15 C dX2_strengthOf_14 rfl ?_
      refine x_bipush (v := 45) 17 C dX2_strengthOf_15 rfl rfl ?_
      refine x_icmp_ne 20 24 C dX2_strengthOf_17 rfl rfl (fun c_17 => ?_) (fun c_17 => ?_)
      · refine x_iconst (v := 0) 25 C dX2_strengthOf_24 rfl rfl ?_
        refine x_ireturn C Rt dX2_strengthOf_25 rfl ⟨Nat.le_of_ble_eq_true rfl, Nat.le_of_ble_eq_true rfl⟩ ?_
        exact ⟨_, rfl, by rw [strg, if_neg (fun q => c_3 (e1.mpr q)), if_neg (fun q => q.elim (fun q => c_11 (e2.mpr q)) (fun q => c_17 (e3.mpr q)))]; rfl, rfl⟩
      · refine x_iconst (v := 1) 21 C dX2_strengthOf_20 rfl rfl ?_
        refine x_goto 25 C dX2_strengthOf_21 rfl ?_
        refine x_ireturn C Rt dX2_strengthOf_25 rfl ⟨Nat.le_of_ble_eq_true rfl, Nat.le_of_ble_eq_true rfl⟩ ?_
        exact ⟨_, rfl, by rw [strg, if_neg (fun q => c_3 (e1.mpr q)), if_pos (Or.inr (e3.mp c_17))]; rfl, rfl⟩
  · refine x_iconst (v := 2) 7 C dX2_strengthOf_6 rfl rfl ?_
    refine x_ireturn C Rt dX2_strengthOf_7 rfl ⟨Nat.le_of_ble_eq_true rfl, Nat.le_of_ble_eq_true rfl⟩ ?_
    exact ⟨_, rfl, by rw [strg, if_pos (e1.mp c_3)]; rfl, rfl⟩
set_option maxHeartbeats 4000000 in
set_option maxRecDepth 100000 in
theorem c_X2_isDigit (K : hKv) (M : hM) (c : Nat) (hc : c < 65536) : hC K Y_X2_isDigit rm_X2_isDigit [.int (nI c)] M (hPi fun r M' => r = hB (decide (48 ≤ c ∧ c ≤ 57)) ∧ M' = M) := by
  refine hC.of [some (.int (nI c))] (by decide) (Nat.le_of_ble_eq_true rfl) rfl rfl ?_
  intro E C Rt
  have C : hCx E K cX2_isDigit 1 RX2 "isDigit" rm_X2_isDigit := C
  have e1 : nI c < 48 ↔ c < 48 := nI_ltI (b := 48) (by omega) (by decide)
  have e2 : 57 < nI c ↔ 57 < c := nI_ltI (a := 57) (by decide) (by omega)
  refine x_iload_0 1 C dX2_isDigit_0 rfl ?_
  refine x_bipush (v := 48) 3 C dX2_isDigit_1 rfl rfl ?_
  refine x_icmp_lt 6 16 C dX2_isDigit_3 rfl rfl (fun c_3 => ?_) (fun c_3 => ?_)
  · refine x_iconst (v := 0) 17 C dX2_isDigit_16 rfl rfl ?_
    refine x_ireturn C Rt dX2_isDigit_17 rfl ⟨Nat.le_of_ble_eq_true rfl, Nat.le_of_ble_eq_true rfl⟩ ?_
    first | exact ⟨_, rfl, by rw [hB_ifn (by have := e1.mp c_3; omega)], rfl⟩ | exact ⟨_, rfl, by rw [hB_ifn (by have := e2.mp c_9; omega)], rfl⟩
  · refine x_iload_0 7 C dX2_isDigit_6 rfl ?_
    refine x_bipush (v := 57) 9 C dX2_isDigit_7 rfl rfl ?_
    refine x_icmp_gt 12 16 C dX2_isDigit_9 rfl rfl (fun c_9 => ?_) (fun c_9 => ?_)
    · refine x_iconst (v := 0) 17 C dX2_isDigit_16 rfl rfl ?_
      refine x_ireturn C Rt dX2_isDigit_17 rfl ⟨Nat.le_of_ble_eq_true rfl, Nat.le_of_ble_eq_true rfl⟩ ?_
      first | exact ⟨_, rfl, by rw [hB_ifn (by have := e1.mp c_3; omega)], rfl⟩ | exact ⟨_, rfl, by rw [hB_ifn (by have := e2.mp c_9; omega)], rfl⟩
    · refine x_iconst (v := 1) 13 C dX2_isDigit_12 rfl rfl ?_
      refine x_goto 17 C dX2_isDigit_13 rfl ?_
      refine x_ireturn C Rt dX2_isDigit_17 rfl ⟨Nat.le_of_ble_eq_true rfl, Nat.le_of_ble_eq_true rfl⟩ ?_
      exact ⟨_, rfl, by rw [hB_if ⟨Nat.not_lt.mp fun q => c_3 (e1.mpr q), Nat.not_lt.mp fun q => c_9 (e2.mpr q)⟩], rfl⟩
set_option maxHeartbeats 4000000 in
set_option maxRecDepth 100000 in
theorem c_X2_addStep (K : hKv) (M : hM) {A : Nat → Nat} {z : Nat → Int32} {F : Nat → Nat → Int32} (W : rW K A z F M) {st : List (Nat × Nat)} {wt : List Nat} {op nx : Nat} (pr : prM z F (st, wt, op, nx)) (s : Nat × Nat) (hs : st.length < 60) : hC K Y_X2_addStep rm_X2_addStep [.ref (A 40), .int (nI (cdS s))] M (hPv fun M' => rQ K A M (st ++ [s], wt, op, nx) M') := by
  refine hC.of [some (.ref (A 40)), some (.int (nI (cdS s)))] (by decide) (Nat.le_of_ble_eq_true rfl) rfl rfl ?_
  intro E C Rt
  have C : hCx E K cX2_addStep 2 RX2 "addStep" rm_X2_addStep := C
  have p0 : z 0 = nI st.length := pr.1
  refine x_aload_0 1 C dX2_addStep_0 rfl ?_
  refine rOg_size 4 C wf_X2_19 W.obj dX2_addStep_1 rfl ?_
  refine x_topi p0 ?_
  refine x_if_lt 7 39 C dX2_addStep_4 rfl rfl (fun z => absurd z (nI_n0 (by omega))) (fun _ => ?_)
  refine x_aload_0 8 C dX2_addStep_7 rfl ?_
  refine rOg_size 11 C wf_X2_19 W.obj dX2_addStep_8 rfl ?_
  refine x_topi p0 ?_
  refine x_aload_0 12 C dX2_addStep_11 rfl ?_
  refine rOg_steps 15 C wf_X2_9 W.obj dX2_addStep_12 rfl ?_
  refine x_alenI 16 C W.steps dX2_addStep_15 rfl ?_
  refine x_icmp_ge 19 39 C dX2_addStep_16 rfl rfl (fun z => absurd z (nI_ge hs (by decide))) (fun _ => ?_)
  refine x_aload_0 20 C dX2_addStep_19 rfl ?_
  refine rOg_steps 23 C wf_X2_9 W.obj dX2_addStep_20 rfl ?_
  refine x_aload_0 24 C dX2_addStep_23 rfl ?_
  refine rOg_size 27 C wf_X2_19 W.obj dX2_addStep_24 rfl ?_
  refine x_topi p0 ?_
  refine x_iload_1 28 C dX2_addStep_27 rfl ?_
  refine x_iast 29 (st.length) C W.steps (rfl) (hs) (by decide) dX2_addStep_28 rfl ?_
  refine x_r_steps W (fun M_1 W o_1 => ?_)
  refine x_aload_0 30 C dX2_addStep_29 rfl ?_
  refine x_dup 31 C dX2_addStep_30 rfl rfl ?_
  refine rOg_size 34 C wf_X2_19 W.obj dX2_addStep_31 rfl ?_
  refine x_topi p0 ?_
  refine x_iconst (v := 1) 35 C dX2_addStep_34 rfl rfl ?_
  refine x_iadd 36 C dX2_addStep_35 rfl ?_
  refine x_topi (nI_1 _) ?_
  refine rOp_size 39 C wf_X2_19 W.obj dX2_addStep_36 rfl ?_
  refine x_r_obj W (fun M_2 W o_2 => ?_)
  refine x_vreturn C Rt dX2_addStep_39 ⟨Nat.le_of_ble_eq_true rfl, Nat.le_of_ble_eq_true rfl⟩ ?_
  exact ⟨rfl, _, _, W, pr_step pr s, ((o_1).tr o_2)⟩
set_option maxHeartbeats 4000000 in
set_option maxRecDepth 100000 in
theorem c_X2_push (K : hKv) (M : hM) {A : Nat → Nat} {z : Nat → Int32} {F : Nat → Nat → Int32} (W : rW K A z F M) {st : List (Nat × Nat)} {wt : List Nat} {op nx : Nat} (pr : prM z F (st, wt, op, nx)) (c : Nat) (hc : c < 65536) (hs : wt.length < 60) : hC K Y_X2_push rm_X2_push [.ref (A 40), .int (nI c)] M (hPv fun M' => rQ K A M (st, c :: wt, op, nx) M') := by
  refine hC.of [some (.ref (A 40)), some (.int (nI c))] (by decide) (Nat.le_of_ble_eq_true rfl) rfl rfl ?_
  intro E C Rt
  have C : hCx E K cX2_push 2 RX2 "push" rm_X2_push := C
  have p0 : z 1 = nI wt.length := pr.2.1
  refine x_aload_0 1 C dX2_push_0 rfl ?_
  refine rOg_waits 4 C wf_X2_23 W.obj dX2_push_1 rfl ?_
  refine x_topi p0 ?_
  refine x_if_lt 7 39 C dX2_push_4 rfl rfl (fun z => absurd z (nI_n0 (by omega))) (fun _ => ?_)
  refine x_aload_0 8 C dX2_push_7 rfl ?_
  refine rOg_waits 11 C wf_X2_23 W.obj dX2_push_8 rfl ?_
  refine x_topi p0 ?_
  refine x_aload_0 12 C dX2_push_11 rfl ?_
  refine rOg_waiting 15 C wf_X2_15 W.obj dX2_push_12 rfl ?_
  refine x_alenC 16 C W.waiting dX2_push_15 rfl ?_
  refine x_icmp_ge 19 39 C dX2_push_16 rfl rfl (fun z => absurd z (nI_ge hs (by decide))) (fun _ => ?_)
  refine x_aload_0 20 C dX2_push_19 rfl ?_
  refine rOg_waiting 23 C wf_X2_15 W.obj dX2_push_20 rfl ?_
  refine x_aload_0 24 C dX2_push_23 rfl ?_
  refine rOg_waits 27 C wf_X2_23 W.obj dX2_push_24 rfl ?_
  refine x_topi p0 ?_
  refine x_iload_1 28 C dX2_push_27 rfl ?_
  refine x_cast 29 (wt.length) C W.waiting (rfl) (hs) (by decide) (char_ok hc) dX2_push_28 rfl ?_
  refine x_r_waiting W (fun M_1 W o_1 => ?_)
  refine x_aload_0 30 C dX2_push_29 rfl ?_
  refine x_dup 31 C dX2_push_30 rfl rfl ?_
  refine rOg_waits 34 C wf_X2_23 W.obj dX2_push_31 rfl ?_
  refine x_topi p0 ?_
  refine x_iconst (v := 1) 35 C dX2_push_34 rfl rfl ?_
  refine x_iadd 36 C dX2_push_35 rfl ?_
  refine x_topi (nI_1 _) ?_
  refine rOp_waits 39 C wf_X2_23 W.obj dX2_push_36 rfl ?_
  refine x_r_obj W (fun M_2 W o_2 => ?_)
  refine x_vreturn C Rt dX2_push_39 ⟨Nat.le_of_ble_eq_true rfl, Nat.le_of_ble_eq_true rfl⟩ ?_
  exact ⟨rfl, _, _, W, pr_push pr c, ((o_1).tr o_2)⟩
set_option maxHeartbeats 4000000 in
set_option maxRecDepth 100000 in
theorem c_X2_top (K : hKv) (M : hM) {A : Nat → Nat} {z : Nat → Int32} {F : Nat → Nat → Int32} (W : rW K A z F M) {st : List (Nat × Nat)} {wt : List Nat} {op nx : Nat} (pr : prM z F (st, wt, op, nx)) (hw : ∀ x ∈ wt, x < 256) (hs : wt.length ≤ 60) : hC K Y_X2_top rm_X2_top [.ref (A 40)] M (hPi fun r M' => r = nI (wt.getD 0 40) ∧ M' = M) := by
  refine hC.of [some (.ref (A 40)), none] (by decide) (Nat.le_of_ble_eq_true rfl) rfl rfl ?_
  intro E C Rt
  have C : hCx E K cX2_top 2 RX2 "top" rm_X2_top := C
  have p0 : z 1 = nI wt.length := pr.2.1
  refine x_aload_0 1 C dX2_top_0 rfl ?_
  refine rOg_waits 4 C wf_X2_23 W.obj dX2_top_1 rfl ?_
  refine x_topi p0 ?_
  refine x_iconst (v := 1) 5 C dX2_top_4 rfl rfl ?_
  refine x_isub 6 C dX2_top_5 rfl ?_
  rcases wt with _ | ⟨t, v⟩
  · skip
    refine x_istore_1 7 C dX2_top_6 rfl rfl ?_
    refine x_iload_1 8 C dX2_top_7 rfl ?_
    refine x_if_lt 11 29 C dX2_top_8 rfl rfl (fun _ => ?_) (fun z => absurd ((show (nI 0 - 1 : Int32) < 0 by decide)) z)
    refine x_bipush (v := 40) 31 C dX2_top_29 rfl rfl ?_
    refine x_ireturn C Rt dX2_top_31 rfl ⟨Nat.le_of_ble_eq_true rfl, Nat.le_of_ble_eq_true rfl⟩ ?_
    exact ⟨_, rfl, rfl, rfl⟩
  · skip
    rw [List.length_cons] at hs
    refine x_topi (show nI (v.length + 1) - 1 = nI v.length from pk_sub (a := v.length + 1) (b := 1) (by omega)) ?_
    refine x_istore_1 7 C dX2_top_6 rfl rfl ?_
    refine x_iload_1 8 C dX2_top_7 rfl ?_
    refine x_if_lt 11 29 C dX2_top_8 rfl rfl (fun z => absurd z (nI_n0 (by omega))) (fun _ => ?_)
    refine x_iload_1 12 C dX2_top_11 rfl ?_
    refine x_aload_0 13 C dX2_top_12 rfl ?_
    refine rOg_waiting 16 C wf_X2_15 W.obj dX2_top_13 rfl ?_
    refine x_alenC 17 C W.waiting dX2_top_16 rfl ?_
    refine x_icmp_ge 20 29 C dX2_top_17 rfl rfl (fun z => absurd z (nI_ge (by omega) (by decide))) (fun _ => ?_)
    refine x_aload_0 21 C dX2_top_20 rfl ?_
    refine rOg_waiting 24 C wf_X2_15 W.obj dX2_top_21 rfl ?_
    refine x_iload_1 25 C dX2_top_24 rfl ?_
    refine x_cald 26 (v.length) C W.waiting (rfl) (by omega) (by decide) dX2_top_25 rfl ?_
    refine x_topi (pr_pop pr).2 ?_
    refine x_goto 31 C dX2_top_26 rfl ?_
    refine x_ireturn C Rt dX2_top_31 (pk_charN (by have := hw t List.mem_cons_self; omega)).1 ⟨Nat.le_of_ble_eq_true rfl, Nat.le_of_ble_eq_true rfl⟩ ?_
    exact ⟨_, rfl, rfl, rfl⟩
