set_option maxHeartbeats 4000000 in
set_option maxRecDepth 100000 in
theorem c_X2_takesFactor (K : hKv) (M : hM) {A : Nat → Nat} {z : Nat → Int32} {F : Nat → Nat → Int32} (W : rW K A z F M) {st : List (Nat × Nat)} {wt : List Nat} {op nx : Nat} (pr : prM z F (st, wt, op, nx)) (hs : st.length + wt.length ≤ 59) (c : Nat) (hc : c < 256) : hC K Y_X2_takesFactor rm_X2_takesFactor [.ref (A 40), .int (nI c)] M (hPi fun r M' => (r = 1 ∧ ∃ p : hPs, fct (st, wt, op, nx) c = some p ∧ rQ K A M p M') ∨ (r = 0 ∧ fct (st, wt, op, nx) c = none ∧ M' = M)) := by
  refine hC.of [some (.ref (A 40)), some (.int (nI c))] (by decide) (Nat.le_of_ble_eq_true rfl) rfl rfl ?_
  intro E C Rt
  have C : hCx E K cX2_takesFactor 2 RX2 "takesFactor" rm_X2_takesFactor := C
  have m76 : ¬ (48 ≤ c ∧ c ≤ 57) → ¬ (65 ≤ c ∧ c ≤ 72) → (c = 40 ∨ c = 113 ∨ c = 107 ∨ c = 115) → hX E 0 0 76 [some (.ref (A 40)), some (.int (nI c))] [] M := by
    intro hd hl h4
    refine x_aload_0 77 C dX2_takesFactor_76 rfl ?_
    refine x_iload_1 78 C dX2_takesFactor_77 rfl ?_
    refine x_callV 81 C (c_X2_push K _ W pr c (by omega) (by omega)) W.obj wcl_X2 hy_X2_push wv_X2_push we_X2_push lk_X2_63 dX2_takesFactor_78 rfl ⟨Nat.le_of_ble_eq_true rfl, Nat.le_of_ble_eq_true rfl⟩ ⟨Nat.le_of_ble_eq_true rfl, Nat.le_of_ble_eq_true rfl⟩ (Nat.le_of_ble_eq_true rfl) rfl (k_0 rfl rfl (k_v (fun M_1 h_1 => ?_)))
    obtain ⟨z_2, F_2, W, pr_2, o_p⟩ := h_1
    refine x_aload_0 82 C dX2_takesFactor_81 rfl ?_
    refine x_dup 83 C dX2_takesFactor_82 rfl rfl ?_
    refine rOg_open 86 C wf_X2_26 W.obj dX2_takesFactor_83 rfl ?_
    refine x_topi (v' := nI op) pr_2.2.2.1 ?_
    refine x_iconst (v := 1) 87 C dX2_takesFactor_86 rfl rfl ?_
    refine x_iadd 88 C dX2_takesFactor_87 rfl ?_
    refine x_topi (nI_1 _) ?_
    refine rOp_open 91 C wf_X2_26 W.obj dX2_takesFactor_88 rfl ?_
    refine x_r_obj W (fun M_2 W o_2 => ?_)
    refine x_aload_0 92 C dX2_takesFactor_91 rfl ?_
    refine x_iload_1 93 C dX2_takesFactor_92 rfl ?_
    refine x_bipush (v := 40) 95 C dX2_takesFactor_93 rfl rfl ?_
    refine x_icmp_ne 98 102 C dX2_takesFactor_95 rfl rfl (fun c_95 => ?_) (fun c_95 => ?_)
    · refine x_iconst (v := 1) 103 C dX2_takesFactor_102 rfl rfl ?_
      refine rOp_next 106 C wf_X2_29 W.obj dX2_takesFactor_103 rfl ?_
      refine x_r_obj W (fun M_3 W o_3 => ?_)
      refine x_iconst (v := 1) 107 C dX2_takesFactor_106 rfl rfl ?_
      refine x_ireturn C Rt dX2_takesFactor_107 rfl ⟨Nat.le_of_ble_eq_true rfl, Nat.le_of_ble_eq_true rfl⟩ ?_
      have h40 : ¬ c = 40 := fun q => c_95 ((nI_c (k := 40) (by omega) (by decide)).mpr q)
      exact ⟨_, rfl, Or.inl ⟨rfl, _, by rw [fct, if_neg hd, if_neg hl, if_neg h40, if_pos (h4.resolve_left h40)], ⟨_, _, W, pr_nx (pr_op pr_2 (op + 1)) 1, (((o_p).tr o_2).tr o_3)⟩⟩⟩
    · refine x_iconst (v := 0) 99 C dX2_takesFactor_98 rfl rfl ?_
      refine x_goto 103 C dX2_takesFactor_99 rfl ?_
      refine rOp_next 106 C wf_X2_29 W.obj dX2_takesFactor_103 rfl ?_
      refine x_r_obj W (fun M_4 W o_4 => ?_)
      refine x_iconst (v := 1) 107 C dX2_takesFactor_106 rfl rfl ?_
      refine x_ireturn C Rt dX2_takesFactor_107 rfl ⟨Nat.le_of_ble_eq_true rfl, Nat.le_of_ble_eq_true rfl⟩ ?_
      have h40 : c = 40 := (nI_c (k := 40) (by omega) (by decide)).mp (by first | exact c_95 | exact Decidable.not_not.mp c_95)
      subst h40
      exact ⟨_, rfl, Or.inl ⟨rfl, _, by rw [fct, if_neg hd, if_neg hl, if_pos rfl], ⟨_, _, W, pr_nx (pr_op pr_2 (op + 1)) 0, (((o_p).tr o_2).tr o_4)⟩⟩⟩
  refine x_iload_1 1 C dX2_takesFactor_0 rfl ?_
  refine x_callS 4 C (c_X2_isDigit K _ c (by omega)) hy_X2_isDigit ws_X2_isDigit lk_X2_43 dX2_takesFactor_1 rfl ⟨Nat.le_of_ble_eq_true rfl, Nat.le_of_ble_eq_true rfl⟩ ⟨Nat.le_of_ble_eq_true rfl, Nat.le_of_ble_eq_true rfl⟩ (Nat.le_of_ble_eq_true rfl) rfl (k_0 rfl rfl (k_ip ?_))
  refine x_if_eq 7 22 C dX2_takesFactor_4 rfl rfl (fun c_4 => ?_) (fun c_4 => ?_)
  · refine x_iload_1 23 C dX2_takesFactor_22 rfl ?_
    refine x_i2l 24 C dX2_takesFactor_23 rfl ?_
    refine x_topl (nI_l (by omega)) ?_
    refine x_ldc2 (v := 65) 27 C dX2_takesFactor_24 rfl wq_X2_55 ?_
    refine x_ldc2 (v := 72) 30 C dX2_takesFactor_27 rfl wq_X2_57 ?_
    refine x_callS 33 C (c_X5_within K _ _ _ _) hy_X5_within ws_X5_within lk_X2_59 dX2_takesFactor_30 rfl ⟨Nat.le_of_ble_eq_true rfl, Nat.le_of_ble_eq_true rfl⟩ ⟨Nat.le_of_ble_eq_true rfl, Nat.le_of_ble_eq_true rfl⟩ (Nat.le_of_ble_eq_true rfl) rfl (k_0 rfl rfl (k_ip ?_))
    have hce : ((65 : Int64).toInt ≤ (lN c).toInt ∧ (lN c).toInt ≤ (72 : Int64).toInt) ↔ (65 ≤ c ∧ c ≤ 72) := by
      rw [lN_toI (by omega), show (65 : Int64).toInt = 65 from rfl, show (72 : Int64).toInt = 72 from rfl]; omega
    refine x_if_eq 36 52 C dX2_takesFactor_33 rfl rfl (fun c_33 => ?_) (fun c_33 => ?_)
    · have hl := fun q => hB_0p.mp c_33 (hce.mpr q)
      have hd := hB_0p.mp c_4
      refine x_iload_1 53 C dX2_takesFactor_52 rfl ?_
      refine x_bipush (v := 40) 55 C dX2_takesFactor_53 rfl rfl ?_
      refine x_icmp_eq 58 76 C dX2_takesFactor_55 rfl rfl (fun c_55 => ?_) (fun c_55 => ?_)
      · exact m76 hd hl (Or.inl ((nI_c (k := 40) (by omega) (by decide)).mp c_55))
      · refine x_iload_1 59 C dX2_takesFactor_58 rfl ?_
        refine x_bipush (v := 113) 61 C dX2_takesFactor_59 rfl rfl ?_
        refine x_icmp_eq 64 76 C dX2_takesFactor_61 rfl rfl (fun c_61 => ?_) (fun c_61 => ?_)
        · exact m76 hd hl (Or.inr (Or.inl ((nI_c (k := 113) (by omega) (by decide)).mp c_61)))
        · refine x_iload_1 65 C dX2_takesFactor_64 rfl ?_
          refine x_bipush (v := 107) 67 C dX2_takesFactor_65 rfl rfl ?_
          refine x_icmp_eq 70 76 C dX2_takesFactor_67 rfl rfl (fun c_67 => ?_) (fun c_67 => ?_)
          · exact m76 hd hl (Or.inr (Or.inr (Or.inl ((nI_c (k := 107) (by omega) (by decide)).mp c_67))))
          · refine x_iload_1 71 C dX2_takesFactor_70 rfl ?_
            refine x_bipush (v := 115) 73 C dX2_takesFactor_71 rfl rfl ?_
            refine x_icmp_ne 76 108 C dX2_takesFactor_73 rfl rfl (fun c_73 => ?_) (fun c_73 => ?_)
            · refine x_iconst (v := 0) 109 C dX2_takesFactor_108 rfl rfl ?_
              refine x_ireturn C Rt dX2_takesFactor_109 rfl ⟨Nat.le_of_ble_eq_true rfl, Nat.le_of_ble_eq_true rfl⟩ ?_
              have n1 : ¬ c = 40 := fun q => c_55 ((nI_c (k := 40) (by omega) (by decide)).mpr q)
              have n2 : ¬ (c = 113 ∨ c = 107 ∨ c = 115) := by
                rintro (q | q | q)
                · exact c_61 ((nI_c (k := 113) (by omega) (by decide)).mpr q)
                · exact c_67 ((nI_c (k := 107) (by omega) (by decide)).mpr q)
                · exact c_73 ((nI_c (k := 115) (by omega) (by decide)).mpr q)
              exact ⟨_, rfl, Or.inr ⟨rfl, by rw [fct, if_neg hd, if_neg hl, if_neg n1, if_neg n2], rfl⟩⟩
            · exact m76 hd hl (Or.inr (Or.inr (Or.inr ((nI_c (k := 115) (by omega) (by decide)).mp (by first | exact c_73 | exact Decidable.not_not.mp c_73)))))
    · have hl := hce.mp (hB_n0p.mp c_33)
      have hd := hB_0p.mp c_4
      refine x_aload_0 37 C dX2_takesFactor_36 rfl ?_
      refine x_sipush (v := 10000) 40 C dX2_takesFactor_37 rfl rfl ?_
      refine x_iload_1 41 C dX2_takesFactor_40 rfl ?_
      refine x_iadd 42 C dX2_takesFactor_41 rfl ?_
      refine x_topi (v' := nI (cdS (1, c - 65))) (by rw [show cdS (1, c - 65) = 10000 + c by show 10065 + (c - 65) = _; omega]; exact nI_add 10000 c) ?_
      refine x_callV 45 C (c_X2_addStep K _ W pr (1, c - 65) (by omega)) W.obj wcl_X2 hy_X2_addStep wv_X2_addStep we_X2_addStep lk_X2_52 dX2_takesFactor_42 rfl ⟨Nat.le_of_ble_eq_true rfl, Nat.le_of_ble_eq_true rfl⟩ ⟨Nat.le_of_ble_eq_true rfl, Nat.le_of_ble_eq_true rfl⟩ (Nat.le_of_ble_eq_true rfl) rfl (k_0 rfl rfl (k_v (fun M_1 h_1 => ?_)))
      obtain ⟨z_2, F_2, W, pr_2, o_a⟩ := h_1
      refine x_aload_0 46 C dX2_takesFactor_45 rfl ?_
      refine x_iconst (v := 3) 47 C dX2_takesFactor_46 rfl rfl ?_
      refine rOp_next 50 C wf_X2_29 W.obj dX2_takesFactor_47 rfl ?_
      refine x_r_obj W (fun M_2 W o_2 => ?_)
      refine x_iconst (v := 1) 51 C dX2_takesFactor_50 rfl rfl ?_
      refine x_ireturn C Rt dX2_takesFactor_51 rfl ⟨Nat.le_of_ble_eq_true rfl, Nat.le_of_ble_eq_true rfl⟩ ?_
      exact ⟨_, rfl, Or.inl ⟨rfl, _, by rw [fct, if_neg hd, if_pos hl], ⟨_, _, W, pr_nx pr_2 3, ((o_a).tr o_2)⟩⟩⟩
  · have hd := hB_n0p.mp c_4
    refine x_aload_0 8 C dX2_takesFactor_7 rfl ?_
    refine x_iload_1 9 C dX2_takesFactor_8 rfl ?_
    refine x_bipush (v := 48) 11 C dX2_takesFactor_9 rfl rfl ?_
    refine x_isub 12 C dX2_takesFactor_11 rfl ?_
    refine x_topi (v' := nI (cdS (0, c - 48))) (pk_sub (a := c) (b := 48) (by omega)) ?_
    refine x_callV 15 C (c_X2_addStep K _ W pr (0, c - 48) (by omega)) W.obj wcl_X2 hy_X2_addStep wv_X2_addStep we_X2_addStep lk_X2_52 dX2_takesFactor_12 rfl ⟨Nat.le_of_ble_eq_true rfl, Nat.le_of_ble_eq_true rfl⟩ ⟨Nat.le_of_ble_eq_true rfl, Nat.le_of_ble_eq_true rfl⟩ (Nat.le_of_ble_eq_true rfl) rfl (k_0 rfl rfl (k_v (fun M_3 h_3 => ?_)))
    obtain ⟨z_2, F_2, W, pr_2, o_a⟩ := h_3
    refine x_aload_0 16 C dX2_takesFactor_15 rfl ?_
    refine x_iconst (v := 2) 17 C dX2_takesFactor_16 rfl rfl ?_
    refine rOp_next 20 C wf_X2_29 W.obj dX2_takesFactor_17 rfl ?_
    refine x_r_obj W (fun M_4 W o_4 => ?_)
    refine x_iconst (v := 1) 21 C dX2_takesFactor_20 rfl rfl ?_
    refine x_ireturn C Rt dX2_takesFactor_21 rfl ⟨Nat.le_of_ble_eq_true rfl, Nat.le_of_ble_eq_true rfl⟩ ?_
    exact ⟨_, rfl, Or.inl ⟨rfl, _, by rw [fct, if_pos hd], ⟨_, _, W, pr_nx pr_2 2, ((o_a).tr o_4)⟩⟩⟩
set_option maxHeartbeats 4000000 in
set_option maxRecDepth 100000 in
theorem c_X2_takes (K : hKv) (M : hM) {A : Nat → Nat} {z : Nat → Int32} {F : Nat → Nat → Int32} (W : rW K A z F M) {st : List (Nat × Nat)} {wt : List Nat} {op nx : Nat} (pr : prM z F (st, wt, op, nx)) {i : Nat} (hP : PI (st, wt, op, nx) i) (hi : i ≤ 59) (c : Nat) (hc : c < 256) : hC K Y_X2_takes rm_X2_takes [.ref (A 40), .int (nI c)] M (hPi fun r M' => (r = 1 ∧ ∃ p : hPs, tk (st, wt, op, nx) c = some p ∧ rQ K A M p M') ∨ (r = 0 ∧ tk (st, wt, op, nx) c = none ∧ ∃ z F, rW K A z F M' ∧ hFr 41 44 M M')) := by
  refine hC.of [some (.ref (A 40)), some (.int (nI c))] (by decide) (Nat.le_of_ble_eq_true rfl) rfl rfl ?_
  intro E C Rt
  have C : hCx E K cX2_takes 2 RX2 "takes" rm_X2_takes := C
  have hlen : st.length + wt.length ≤ i := hP.1
  refine x_aload_0 1 C dX2_takes_0 rfl ?_
  refine rOg_next 4 C wf_X2_29 W.obj dX2_takes_1 rfl ?_
  have hnx : nx ≤ 3 := hP.2.2.2.2.2.2
  refine x_topi (v' := nI nx) pr.2.2.2.1 ?_
  rcases (show nx = 0 ∨ nx = 1 ∨ nx = 2 ∨ nx = 3 by omega) with rfl | rfl | rfl | rfl
  · refine x_tabIn 32 C dX2_takes_4 (by decide) (by decide) rfl rfl ?_
    refine x_aload_0 33 C dX2_takes_32 rfl ?_
    refine x_iload_1 34 C dX2_takes_33 rfl ?_
    refine x_callV 37 C (c_X2_takesFactor K _ W pr (by omega) c hc) W.obj wcl_X2 hy_X2_takesFactor wv_X2_takesFactor we_X2_takesFactor lk_X2_40 dX2_takes_34 rfl ⟨Nat.le_of_ble_eq_true rfl, Nat.le_of_ble_eq_true rfl⟩ ⟨Nat.le_of_ble_eq_true rfl, Nat.le_of_ble_eq_true rfl⟩ (Nat.le_of_ble_eq_true rfl) rfl (k_0 rfl rfl (k_i (fun r_1 M_1 h_1 => ?_)))
    rcases h_1 with ⟨rfl, p, hp, hq⟩ | ⟨rfl, hp, rfl⟩
    · skip
      refine x_ireturn C Rt dX2_takes_37 rfl ⟨Nat.le_of_ble_eq_true rfl, Nat.le_of_ble_eq_true rfl⟩ ?_
      exact ⟨_, rfl, Or.inl ⟨rfl, p, tk_0.trans hp, hq⟩⟩
    · skip
      refine x_ireturn C Rt dX2_takes_37 rfl ⟨Nat.le_of_ble_eq_true rfl, Nat.le_of_ble_eq_true rfl⟩ ?_
      exact ⟨_, rfl, Or.inr ⟨rfl, tk_0.trans hp, z, F, W, hFr.rf⟩⟩
  · refine x_tabIn 38 C dX2_takes_4 (by decide) (by decide) rfl rfl ?_
    refine x_aload_0 39 C dX2_takes_38 rfl ?_
    refine x_iconst (v := 0) 40 C dX2_takes_39 rfl rfl ?_
    refine rOp_next 43 C wf_X2_29 W.obj dX2_takes_40 rfl ?_
    refine x_r_obj W (fun M_1 W o_1 => ?_)
    refine x_iload_1 44 C dX2_takes_43 rfl ?_
    refine x_bipush (v := 40) 46 C dX2_takes_44 rfl rfl ?_
    refine x_icmp_ne 49 53 C dX2_takes_46 rfl rfl (fun c_46 => ?_) (fun c_46 => ?_)
    · refine x_iconst (v := 0) 54 C dX2_takes_53 rfl rfl ?_
      refine x_ireturn C Rt dX2_takes_54 rfl ⟨Nat.le_of_ble_eq_true rfl, Nat.le_of_ble_eq_true rfl⟩ ?_
      have h40 : ¬ c = 40 := fun q => c_46 ((nI_c (k := 40) (by omega) (by decide)).mpr q)
      exact ⟨_, rfl, Or.inr ⟨rfl, by rw [tk_1, if_neg h40], _, _, W, (o_1)⟩⟩
    · refine x_iconst (v := 1) 50 C dX2_takes_49 rfl rfl ?_
      refine x_goto 54 C dX2_takes_50 rfl ?_
      refine x_ireturn C Rt dX2_takes_54 rfl ⟨Nat.le_of_ble_eq_true rfl, Nat.le_of_ble_eq_true rfl⟩ ?_
      have h40 : c = 40 := (nI_c (k := 40) (by omega) (by decide)).mp (by first | exact c_46 | exact Decidable.not_not.mp c_46)
      exact ⟨_, rfl, Or.inl ⟨rfl, _, by rw [tk_1, if_pos h40], _, _, W, pr_nx pr 0, (o_1)⟩⟩
  · refine x_tabIn 55 C dX2_takes_4 (by decide) (by decide) rfl rfl ?_
    obtain ⟨l, v, hst, hv⟩ := hP.2.2.2.1 rfl
    have hst : st = l ++ [(0, v)] := hst
    subst hst
    refine x_iload_1 56 C dX2_takes_55 rfl ?_
    refine x_callS 59 C (c_X2_isDigit K _ c (by omega)) hy_X2_isDigit ws_X2_isDigit lk_X2_43 dX2_takes_56 rfl ⟨Nat.le_of_ble_eq_true rfl, Nat.le_of_ble_eq_true rfl⟩ ⟨Nat.le_of_ble_eq_true rfl, Nat.le_of_ble_eq_true rfl⟩ (Nat.le_of_ble_eq_true rfl) rfl (k_0 rfl rfl (k_ip ?_))
    refine x_if_eq 62 70 C dX2_takes_59 rfl rfl (fun c_59 => ?_) (fun c_59 => ?_)
    · have hd := hB_0p.mp c_59
      refine x_aload_0 71 C dX2_takes_70 rfl ?_
      refine x_iload_1 72 C dX2_takes_71 rfl ?_
      refine x_callV 75 C (c_X2_takesBehind K _ W pr hP (by omega) (Nat.le_refl 2) c hc) W.obj wcl_X2 hy_X2_takesBehind wv_X2_takesBehind we_X2_takesBehind lk_X2_49 dX2_takes_72 rfl ⟨Nat.le_of_ble_eq_true rfl, Nat.le_of_ble_eq_true rfl⟩ ⟨Nat.le_of_ble_eq_true rfl, Nat.le_of_ble_eq_true rfl⟩ (Nat.le_of_ble_eq_true rfl) rfl (k_0 rfl rfl (k_i (fun r_1 M_1 h_1 => ?_)))
      rcases h_1 with ⟨rfl, p, hp, hq⟩ | ⟨rfl, hp, rfl⟩
      · skip
        refine x_ireturn C Rt dX2_takes_75 rfl ⟨Nat.le_of_ble_eq_true rfl, Nat.le_of_ble_eq_true rfl⟩ ?_
        exact ⟨_, rfl, Or.inl ⟨rfl, p, (tk_2n hd).trans hp, hq⟩⟩
      · skip
        refine x_ireturn C Rt dX2_takes_75 rfl ⟨Nat.le_of_ble_eq_true rfl, Nat.le_of_ble_eq_true rfl⟩ ?_
        exact ⟨_, rfl, Or.inr ⟨rfl, (tk_2n hd).trans hp, z, F, W, hFr.rf⟩⟩
    · have hd := hB_n0p.mp c_59
      refine x_aload_0 63 C dX2_takes_62 rfl ?_
      refine x_iload_1 64 C dX2_takes_63 rfl ?_
      refine x_callV 67 C (c_X2_takesDigit K _ W pr rfl hv (by rw [List.length_append] at hlen; simp only [List.length_cons, List.length_nil] at hlen; omega) c hd) W.obj wcl_X2 hy_X2_takesDigit wv_X2_takesDigit we_X2_takesDigit lk_X2_46 dX2_takes_64 rfl ⟨Nat.le_of_ble_eq_true rfl, Nat.le_of_ble_eq_true rfl⟩ ⟨Nat.le_of_ble_eq_true rfl, Nat.le_of_ble_eq_true rfl⟩ (Nat.le_of_ble_eq_true rfl) rfl (k_0 rfl rfl (k_i (fun r_1 M_1 h_1 => ?_)))
      rcases h_1 with ⟨rfl, p, hp, hq⟩ | ⟨rfl, hp, rfl⟩
      · skip
        refine x_goto 75 C dX2_takes_67 rfl ?_
        refine x_ireturn C Rt dX2_takes_75 rfl ⟨Nat.le_of_ble_eq_true rfl, Nat.le_of_ble_eq_true rfl⟩ ?_
        exact ⟨_, rfl, Or.inl ⟨rfl, p, (tk_2d hd).trans hp, hq⟩⟩
      · skip
        refine x_goto 75 C dX2_takes_67 rfl ?_
        refine x_ireturn C Rt dX2_takes_75 rfl ⟨Nat.le_of_ble_eq_true rfl, Nat.le_of_ble_eq_true rfl⟩ ?_
        exact ⟨_, rfl, Or.inr ⟨rfl, (tk_2d hd).trans hp, z, F, W, hFr.rf⟩⟩
  · refine x_tabOut 76 C dX2_takes_4 (by decide) rfl ?_
    refine x_aload_0 77 C dX2_takes_76 rfl ?_
    refine x_iload_1 78 C dX2_takes_77 rfl ?_
    refine x_callV 81 C (c_X2_takesBehind K _ W pr hP (by omega) (by decide) c hc) W.obj wcl_X2 hy_X2_takesBehind wv_X2_takesBehind we_X2_takesBehind lk_X2_49 dX2_takes_78 rfl ⟨Nat.le_of_ble_eq_true rfl, Nat.le_of_ble_eq_true rfl⟩ ⟨Nat.le_of_ble_eq_true rfl, Nat.le_of_ble_eq_true rfl⟩ (Nat.le_of_ble_eq_true rfl) rfl (k_0 rfl rfl (k_i (fun r_1 M_1 h_1 => ?_)))
    rcases h_1 with ⟨rfl, p, hp, hq⟩ | ⟨rfl, hp, rfl⟩
    · skip
      refine x_ireturn C Rt dX2_takes_81 rfl ⟨Nat.le_of_ble_eq_true rfl, Nat.le_of_ble_eq_true rfl⟩ ?_
      exact ⟨_, rfl, Or.inl ⟨rfl, p, tk_3.trans hp, hq⟩⟩
    · skip
      refine x_ireturn C Rt dX2_takes_81 rfl ⟨Nat.le_of_ble_eq_true rfl, Nat.le_of_ble_eq_true rfl⟩ ?_
      exact ⟨_, rfl, Or.inr ⟨rfl, tk_3.trans hp, z, F, W, hFr.rf⟩⟩
