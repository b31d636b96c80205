/-! an act -/
theorem sp_set1 {σ : hSt} {y : Nat} (hy : y ≤ 2) : sp_set σ 0 (nI y) = (nI σ.1.1, recd σ (y, σ.1.2.1, σ.1.2.2)) := by
  rw [sp_set, spQ_t ⟨by decide, by rw [nI_toI (by omega), if_pos (by decide)]; omega⟩, if_pos (by decide), nI_toN (by omega)]
set_option maxHeartbeats 4000000 in
set_option maxRecDepth 100000 in
theorem c_L_isAct (K : hKv) (M : hM) {b L : Nat} {xs : Nat → Int32} (hL : L ≤ 260) {A : Nat → Nat} {σ : hSt} (X : cX K A σ M) (ho : okS σ) {V N : Nat} {fv : Nat → Int64} {fm : Nat → Int32} (HV : M V = some (100, eJ K 64 fv)) (HN : M N = some (101, eI K 5 fm)) (k : Nat) (hk : k ≤ 560) : hCs K b L xs Y_L_isAct rm_L_isAct [.ref (A 36), .ref b, .int (nI k), .ref V, .ref N] M (hPi fun r M' => r = 1 ∧ ∃ σ2 fv2 fm2, cX K A σ2 M' ∧ okS σ2 ∧ M' V = some (100, eJ K 64 fv2) ∧ M' N = some (101, eI K 5 fm2)) := by
  refine hCs.of [some (.ref (A 36)), some (.ref b), some (.int (nI k)), some (.ref V), some (.ref N), none, none, none] (by decide) (Nat.le_of_ble_eq_true rfl) rfl rfl ?_
  intro E C Rt S
  have C : hCx E K cL_isAct 8 RL "isAct" rm_L_isAct := C
  obtain ⟨z_o, hO⟩ := X.obj
  have hρ : σ.1.1 ≤ 2 := ho.1.1
  refine x_aload_1 1 C dL_isAct_0 rfl ?_
  refine x_iload_2 2 C dL_isAct_1 rfl ?_
  refine x_iconst (v := 1) 3 C dL_isAct_2 rfl rfl ?_
  refine x_iadd 4 C dL_isAct_3 rfl ?_
  refine x_topi (v' := nI (k + 1)) (nI_1 k) ?_
  refine x_bipush (v := 8) 6 C dL_isAct_4 rfl rfl ?_
  refine x_callSs 9 C S (c_L_cell K _ hL (k + 1) (8) (by omega) (by omega) (by omega)) hy_L_cell ws_L_cell lk_L_41 dL_isAct_6 rfl ⟨Nat.le_of_ble_eq_true rfl, Nat.le_of_ble_eq_true rfl⟩ ⟨Nat.le_of_ble_eq_true rfl, Nat.le_of_ble_eq_true rfl⟩ (Nat.le_of_ble_eq_true rfl) rfl (k_0 rfl rfl (k_iq (fun r_c ⟨c, hc, ec⟩ => ?_)))
  subst ec
  refine x_istore_5 11 C dL_isAct_9 rfl rfl ?_
  refine x_aload_1 12 C dL_isAct_11 rfl ?_
  refine x_iload_2 13 C dL_isAct_12 rfl ?_
  refine x_iconst (v := 2) 14 C dL_isAct_13 rfl rfl ?_
  refine x_iadd 15 C dL_isAct_14 rfl ?_
  refine x_topi (v' := nI (k + 2)) (nI_add k 2) ?_
  refine x_bipush (v := 6) 17 C dL_isAct_15 rfl rfl ?_
  refine x_callSs 20 C S (c_L_cell K _ hL (k + 2) (6) (by omega) (by omega) (by omega)) hy_L_cell ws_L_cell lk_L_41 dL_isAct_17 rfl ⟨Nat.le_of_ble_eq_true rfl, Nat.le_of_ble_eq_true rfl⟩ ⟨Nat.le_of_ble_eq_true rfl, Nat.le_of_ble_eq_true rfl⟩ (Nat.le_of_ble_eq_true rfl) rfl (k_0 rfl rfl (k_iq (fun r_f ⟨f, hf, ef⟩ => ?_)))
  subst ef
  refine x_istore_6 22 C dL_isAct_20 rfl rfl ?_
  refine x_aload_1 23 C dL_isAct_22 rfl ?_
  refine x_iload_2 24 C dL_isAct_23 rfl ?_
  refine x_bipush (v := 9) 26 C dL_isAct_24 rfl rfl ?_
  refine x_callSs 29 C S (c_L_cell K _ hL (k) (9) (by omega) (by omega) (by omega)) hy_L_cell ws_L_cell lk_L_41 dL_isAct_26 rfl ⟨Nat.le_of_ble_eq_true rfl, Nat.le_of_ble_eq_true rfl⟩ ⟨Nat.le_of_ble_eq_true rfl, Nat.le_of_ble_eq_true rfl⟩ (Nat.le_of_ble_eq_true rfl) rfl (k_0 rfl rfl (k_iq (fun r_q ⟨q, hq, eq⟩ => ?_)))
  subst eq
  rcases (show q = 0 ∨ q = 1 ∨ q = 2 ∨ q = 3 ∨ q = 4 ∨ q = 5 ∨ q = 6 ∨ q = 7 ∨ q = 8 by omega) with rfl | rfl | rfl | rfl | rfl | rfl | rfl | rfl | rfl
  · refine x_tabIn 72 C dL_isAct_29 (by decide) (by decide) rfl rfl ?_
    refine x_aload_0 73 C dL_isAct_72 rfl ?_
    refine x_iload_6 75 C dL_isAct_73 rfl ?_
    refine x_aload_1 76 C dL_isAct_75 rfl ?_
    refine x_iload_2 77 C dL_isAct_76 rfl ?_
    refine x_iconst (v := 3) 78 C dL_isAct_77 rfl rfl ?_
    refine x_iadd 79 C dL_isAct_78 rfl ?_
    refine x_topi (v' := nI (k + 3)) (nI_add k 3) ?_
    refine x_aload_3 80 C dL_isAct_79 rfl ?_
    refine x_aload_4 82 C dL_isAct_80 rfl ?_
    refine x_callSs 85 C S (c_L_isLoaded K _ hL X ho HV HN f (k + 3) hf (by omega)) hy_L_isLoaded ws_L_isLoaded lk_L_144 dL_isAct_82 rfl ⟨Nat.le_of_ble_eq_true rfl, Nat.le_of_ble_eq_true rfl⟩ ⟨Nat.le_of_ble_eq_true rfl, Nat.le_of_ble_eq_true rfl⟩ (Nat.le_of_ble_eq_true rfl) rfl (k_i (fun r_1 M_1 h_1 => ?_))
    obtain ⟨e_1, σ2, L2, fv2, fm2, X, ho, HV, HN, hL2, hw2, H, HB⟩ := h_1
    subst e_1
    refine x_if_eq 88 104 C dL_isAct_85 rfl rfl (fun z => absurd z ((by decide))) (fun _ => ?_)
    refine x_aload_0 89 C dL_isAct_88 rfl ?_
    refine x_iload_6 91 C dL_isAct_89 rfl ?_
    refine x_aload_3 92 C dL_isAct_91 rfl ?_
    refine x_aload_4 94 C dL_isAct_92 rfl ?_
    refine x_callS 97 C (c_L_isFormula K _ X ho HV HN f L2 hf hL2 hw2 H HB) hy_L_isFormula ws_L_isFormula lk_L_148 dL_isAct_94 rfl ⟨Nat.le_of_ble_eq_true rfl, Nat.le_of_ble_eq_true rfl⟩ ⟨Nat.le_of_ble_eq_true rfl, Nat.le_of_ble_eq_true rfl⟩ (Nat.le_of_ble_eq_true rfl) rfl (k_0 rfl rfl (k_i (fun r_2 M_2 h_2 => ?_)))
    obtain ⟨e_2, X, HV, HN⟩ := h_2
    subst e_2
    refine x_if_eq 100 104 C dL_isAct_97 rfl rfl (fun z => absurd z ((by decide))) (fun _ => ?_)
    refine x_iconst (v := 1) 101 C dL_isAct_100 rfl rfl ?_
    refine x_goto 105 C dL_isAct_101 rfl ?_
    refine x_ireturn C Rt dL_isAct_105 rfl ⟨Nat.le_of_ble_eq_true rfl, Nat.le_of_ble_eq_true rfl⟩ ?_
    exact ⟨_, rfl, rfl, _, _, _, X, ho, HV, HN⟩
  · refine x_tabIn 72 C dL_isAct_29 (by decide) (by decide) rfl rfl ?_
    refine x_aload_0 73 C dL_isAct_72 rfl ?_
    refine x_iload_6 75 C dL_isAct_73 rfl ?_
    refine x_aload_1 76 C dL_isAct_75 rfl ?_
    refine x_iload_2 77 C dL_isAct_76 rfl ?_
    refine x_iconst (v := 3) 78 C dL_isAct_77 rfl rfl ?_
    refine x_iadd 79 C dL_isAct_78 rfl ?_
    refine x_topi (v' := nI (k + 3)) (nI_add k 3) ?_
    refine x_aload_3 80 C dL_isAct_79 rfl ?_
    refine x_aload_4 82 C dL_isAct_80 rfl ?_
    refine x_callSs 85 C S (c_L_isLoaded K _ hL X ho HV HN f (k + 3) hf (by omega)) hy_L_isLoaded ws_L_isLoaded lk_L_144 dL_isAct_82 rfl ⟨Nat.le_of_ble_eq_true rfl, Nat.le_of_ble_eq_true rfl⟩ ⟨Nat.le_of_ble_eq_true rfl, Nat.le_of_ble_eq_true rfl⟩ (Nat.le_of_ble_eq_true rfl) rfl (k_i (fun r_1 M_1 h_1 => ?_))
    obtain ⟨e_1, σ2, L2, fv2, fm2, X, ho, HV, HN, hL2, hw2, H, HB⟩ := h_1
    subst e_1
    refine x_if_eq 88 104 C dL_isAct_85 rfl rfl (fun z => absurd z ((by decide))) (fun _ => ?_)
    refine x_aload_0 89 C dL_isAct_88 rfl ?_
    refine x_iload_6 91 C dL_isAct_89 rfl ?_
    refine x_aload_3 92 C dL_isAct_91 rfl ?_
    refine x_aload_4 94 C dL_isAct_92 rfl ?_
    refine x_callS 97 C (c_L_isFormula K _ X ho HV HN f L2 hf hL2 hw2 H HB) hy_L_isFormula ws_L_isFormula lk_L_148 dL_isAct_94 rfl ⟨Nat.le_of_ble_eq_true rfl, Nat.le_of_ble_eq_true rfl⟩ ⟨Nat.le_of_ble_eq_true rfl, Nat.le_of_ble_eq_true rfl⟩ (Nat.le_of_ble_eq_true rfl) rfl (k_0 rfl rfl (k_i (fun r_2 M_2 h_2 => ?_)))
    obtain ⟨e_2, X, HV, HN⟩ := h_2
    subst e_2
    refine x_if_eq 100 104 C dL_isAct_97 rfl rfl (fun z => absurd z ((by decide))) (fun _ => ?_)
    refine x_iconst (v := 1) 101 C dL_isAct_100 rfl rfl ?_
    refine x_goto 105 C dL_isAct_101 rfl ?_
    refine x_ireturn C Rt dL_isAct_105 rfl ⟨Nat.le_of_ble_eq_true rfl, Nat.le_of_ble_eq_true rfl⟩ ?_
    exact ⟨_, rfl, rfl, _, _, _, X, ho, HV, HN⟩
  · refine x_tabIn 72 C dL_isAct_29 (by decide) (by decide) rfl rfl ?_
    refine x_aload_0 73 C dL_isAct_72 rfl ?_
    refine x_iload_6 75 C dL_isAct_73 rfl ?_
    refine x_aload_1 76 C dL_isAct_75 rfl ?_
    refine x_iload_2 77 C dL_isAct_76 rfl ?_
    refine x_iconst (v := 3) 78 C dL_isAct_77 rfl rfl ?_
    refine x_iadd 79 C dL_isAct_78 rfl ?_
    refine x_topi (v' := nI (k + 3)) (nI_add k 3) ?_
    refine x_aload_3 80 C dL_isAct_79 rfl ?_
    refine x_aload_4 82 C dL_isAct_80 rfl ?_
    refine x_callSs 85 C S (c_L_isLoaded K _ hL X ho HV HN f (k + 3) hf (by omega)) hy_L_isLoaded ws_L_isLoaded lk_L_144 dL_isAct_82 rfl ⟨Nat.le_of_ble_eq_true rfl, Nat.le_of_ble_eq_true rfl⟩ ⟨Nat.le_of_ble_eq_true rfl, Nat.le_of_ble_eq_true rfl⟩ (Nat.le_of_ble_eq_true rfl) rfl (k_i (fun r_1 M_1 h_1 => ?_))
    obtain ⟨e_1, σ2, L2, fv2, fm2, X, ho, HV, HN, hL2, hw2, H, HB⟩ := h_1
    subst e_1
    refine x_if_eq 88 104 C dL_isAct_85 rfl rfl (fun z => absurd z ((by decide))) (fun _ => ?_)
    refine x_aload_0 89 C dL_isAct_88 rfl ?_
    refine x_iload_6 91 C dL_isAct_89 rfl ?_
    refine x_aload_3 92 C dL_isAct_91 rfl ?_
    refine x_aload_4 94 C dL_isAct_92 rfl ?_
    refine x_callS 97 C (c_L_isFormula K _ X ho HV HN f L2 hf hL2 hw2 H HB) hy_L_isFormula ws_L_isFormula lk_L_148 dL_isAct_94 rfl ⟨Nat.le_of_ble_eq_true rfl, Nat.le_of_ble_eq_true rfl⟩ ⟨Nat.le_of_ble_eq_true rfl, Nat.le_of_ble_eq_true rfl⟩ (Nat.le_of_ble_eq_true rfl) rfl (k_0 rfl rfl (k_i (fun r_2 M_2 h_2 => ?_)))
    obtain ⟨e_2, X, HV, HN⟩ := h_2
    subst e_2
    refine x_if_eq 100 104 C dL_isAct_97 rfl rfl (fun z => absurd z ((by decide))) (fun _ => ?_)
    refine x_iconst (v := 1) 101 C dL_isAct_100 rfl rfl ?_
    refine x_goto 105 C dL_isAct_101 rfl ?_
    refine x_ireturn C Rt dL_isAct_105 rfl ⟨Nat.le_of_ble_eq_true rfl, Nat.le_of_ble_eq_true rfl⟩ ?_
    exact ⟨_, rfl, rfl, _, _, _, X, ho, HV, HN⟩
  · refine x_tabIn 106 C dL_isAct_29 (by decide) (by decide) rfl rfl ?_
    refine x_aload_0 107 C dL_isAct_106 rfl ?_
    refine x_iload_5 109 C dL_isAct_107 rfl ?_
    refine x_iload_6 111 C dL_isAct_109 rfl ?_
    refine x_callS 114 C (c_L_isAssigned K _ X ho c f hc hf) hy_L_isAssigned ws_L_isAssigned lk_L_152 dL_isAct_111 rfl ⟨Nat.le_of_ble_eq_true rfl, Nat.le_of_ble_eq_true rfl⟩ ⟨Nat.le_of_ble_eq_true rfl, Nat.le_of_ble_eq_true rfl⟩ (Nat.le_of_ble_eq_true rfl) rfl (k_0 rfl rfl (k_i (fun r_1 M_1 h_1 => ?_)))
    obtain ⟨e_1, σ2, X, ho, g_1⟩ := h_1
    subst e_1
    have HV := g_1 _ _ _ (Or.inr (by decide)) HV
    have HN := g_1 _ _ _ (Or.inr (by decide)) HN
    refine x_ireturn C Rt dL_isAct_114 rfl ⟨Nat.le_of_ble_eq_true rfl, Nat.le_of_ble_eq_true rfl⟩ ?_
    exact ⟨_, rfl, rfl, _, _, _, X, ho, HV, HN⟩
  · refine x_tabIn 115 C dL_isAct_29 (by decide) (by decide) rfl rfl ?_
    refine x_aload_0 116 C dL_isAct_115 rfl ?_
    refine x_iload_5 118 C dL_isAct_116 rfl ?_
    refine x_iload_6 120 C dL_isAct_118 rfl ?_
    refine x_iconst (v := 1) 121 C dL_isAct_120 rfl rfl ?_
    refine x_aload_1 122 C dL_isAct_121 rfl ?_
    refine x_iload_2 123 C dL_isAct_122 rfl ?_
    refine x_iconst (v := 3) 124 C dL_isAct_123 rfl rfl ?_
    refine x_iadd 125 C dL_isAct_124 rfl ?_
    refine x_topi (v' := nI (k + 3)) (nI_add k 3) ?_
    refine x_bipush (v := 20) 127 C dL_isAct_125 rfl rfl ?_
    refine x_callSs 130 C S (c_L_cell K _ hL (k + 3) (20) (by omega) (by omega) (by omega)) hy_L_cell ws_L_cell lk_L_41 dL_isAct_127 rfl ⟨Nat.le_of_ble_eq_true rfl, Nat.le_of_ble_eq_true rfl⟩ ⟨Nat.le_of_ble_eq_true rfl, Nat.le_of_ble_eq_true rfl⟩ (Nat.le_of_ble_eq_true rfl) rfl (k_0 rfl rfl (k_iq (fun r_y ⟨y, hy, ey⟩ => ?_)))
    subst ey
    refine x_iadd 131 C dL_isAct_130 rfl ?_
    refine x_topi (v' := nI (1 + y)) (nI_add 1 y) ?_
    refine x_callS 134 C (c_L_isSettled K _ X ho c f (1 + y) hc hf (by omega) (by omega)) hy_L_isSettled ws_L_isSettled lk_L_156 dL_isAct_131 rfl ⟨Nat.le_of_ble_eq_true rfl, Nat.le_of_ble_eq_true rfl⟩ ⟨Nat.le_of_ble_eq_true rfl, Nat.le_of_ble_eq_true rfl⟩ (Nat.le_of_ble_eq_true rfl) rfl (k_i (fun r_2 M_2 h_2 => ?_))
    obtain ⟨e_2, σ2, X, ho, g_2⟩ := h_2
    subst e_2
    have HV := g_2 _ _ _ (Or.inr (by decide)) HV
    have HN := g_2 _ _ _ (Or.inr (by decide)) HN
    refine x_ireturn C Rt dL_isAct_134 rfl ⟨Nat.le_of_ble_eq_true rfl, Nat.le_of_ble_eq_true rfl⟩ ?_
    exact ⟨_, rfl, rfl, _, _, _, X, ho, HV, HN⟩
  · refine x_tabIn 135 C dL_isAct_29 (by decide) (by decide) rfl rfl ?_
    refine x_aload_1 136 C dL_isAct_135 rfl ?_
    refine x_iload_2 137 C dL_isAct_136 rfl ?_
    refine x_iconst (v := 3) 138 C dL_isAct_137 rfl rfl ?_
    refine x_iadd 139 C dL_isAct_138 rfl ?_
    refine x_topi (v' := nI (k + 3)) (nI_add k 3) ?_
    refine x_iconst (v := 3) 140 C dL_isAct_139 rfl rfl ?_
    refine x_callSs 143 C S (c_L_cell K _ hL (k + 3) (3) (by omega) (by omega) (by omega)) hy_L_cell ws_L_cell lk_L_41 dL_isAct_140 rfl ⟨Nat.le_of_ble_eq_true rfl, Nat.le_of_ble_eq_true rfl⟩ ⟨Nat.le_of_ble_eq_true rfl, Nat.le_of_ble_eq_true rfl⟩ (Nat.le_of_ble_eq_true rfl) rfl (k_0 rfl rfl (k_iq (fun r_y ⟨y, hy, ey⟩ => ?_)))
    subst ey
    refine x_istore_7 145 C dL_isAct_143 rfl rfl ?_
    refine x_aload_0 146 C dL_isAct_145 rfl ?_
    refine x_iconst (v := 0) 147 C dL_isAct_146 rfl rfl ?_
    refine x_iload_7 149 C dL_isAct_147 rfl ?_
    refine x_callV 152 C (c_X5_set K _ X ho 0 (nI y)) hO wcl_X5 hy_X5_set wv_X5_set we_X5_set lk_L_160 dL_isAct_149 rfl ⟨Nat.le_of_ble_eq_true rfl, Nat.le_of_ble_eq_true rfl⟩ ⟨Nat.le_of_ble_eq_true rfl, Nat.le_of_ble_eq_true rfl⟩ (Nat.le_of_ble_eq_true rfl) rfl (k_0 rfl rfl (k_i (fun r_2 M_2 h_2 => ?_)))
    obtain ⟨e_2, X, g_2⟩ := h_2
    have ho2 := okS_set ho 0 (nI y)
    rw [sp_set1 (by omega)] at e_2 X ho2
    dsimp only at e_2 X ho2
    subst e_2
    have HV := g_2 _ _ _ (Or.inr (by decide)) HV
    have HN := g_2 _ _ _ (Or.inr (by decide)) HN
    obtain ⟨z_o, hO⟩ := X.obj
    refine x_if_lt 155 169 C dL_isAct_152 rfl rfl (fun z => absurd z ((Int32.not_lt.mpr (nn_I (by omega))))) (fun _ => ?_)
    refine x_aload_0 156 C dL_isAct_155 rfl ?_
    refine x_iconst (v := 3) 157 C dL_isAct_156 rfl rfl ?_
    refine x_callV 160 C (c_X5_count K _ X ho2 3) hO wcl_X5 hy_X5_count wv_X5_count we_X5_count lk_L_74 dL_isAct_157 rfl ⟨Nat.le_of_ble_eq_true rfl, Nat.le_of_ble_eq_true rfl⟩ ⟨Nat.le_of_ble_eq_true rfl, Nat.le_of_ble_eq_true rfl⟩ (Nat.le_of_ble_eq_true rfl) rfl (k_0 rfl rfl (k_ip ?_))
    refine x_topi (v' := nI y) sp_count3 ?_
    refine x_iload_7 162 C dL_isAct_160 rfl ?_
    refine x_icmp_ne 165 169 C dL_isAct_162 rfl rfl (fun z => absurd (rfl) z) (fun _ => ?_)
    refine x_iconst (v := 1) 166 C dL_isAct_165 rfl rfl ?_
    refine x_goto 170 C dL_isAct_166 rfl ?_
    refine x_ireturn C Rt dL_isAct_170 rfl ⟨Nat.le_of_ble_eq_true rfl, Nat.le_of_ble_eq_true rfl⟩ ?_
    exact ⟨_, rfl, rfl, _, _, _, X, ho2, HV, HN⟩
  · refine x_tabIn 171 C dL_isAct_29 (by decide) (by decide) rfl rfl ?_
    refine x_aload_0 172 C dL_isAct_171 rfl ?_
    refine x_aload_1 173 C dL_isAct_172 rfl ?_
    refine x_iload_2 174 C dL_isAct_173 rfl ?_
    refine x_iconst (v := 3) 175 C dL_isAct_174 rfl rfl ?_
    refine x_iadd 176 C dL_isAct_175 rfl ?_
    refine x_topi (v' := nI (k + 3)) (nI_add k 3) ?_
    refine x_callSs 179 C S (c_L_value K _ hL (k + 3) (by omega)) hy_L_value ws_L_value lk_L_163 dL_isAct_176 rfl ⟨Nat.le_of_ble_eq_true rfl, Nat.le_of_ble_eq_true rfl⟩ ⟨Nat.le_of_ble_eq_true rfl, Nat.le_of_ble_eq_true rfl⟩ (Nat.le_of_ble_eq_true rfl) rfl (k_0 rfl rfl (k_lq (fun r_w ⟨w, hw, ew⟩ => ?_)))
    subst ew
    refine x_iconst (v := 2) 180 C dL_isAct_179 rfl rfl ?_
    refine x_aload_1 181 C dL_isAct_180 rfl ?_
    refine x_iload_2 182 C dL_isAct_181 rfl ?_
    refine x_iconst (v := 1) 183 C dL_isAct_182 rfl rfl ?_
    refine x_iadd 184 C dL_isAct_183 rfl ?_
    refine x_topi (v' := nI (k + 1)) (nI_1 k) ?_
    refine x_iconst (v := 2) 185 C dL_isAct_184 rfl rfl ?_
    refine x_callSs 188 C S (c_L_cell K _ hL (k + 1) (2) (by omega) (by omega) (by omega)) hy_L_cell ws_L_cell lk_L_41 dL_isAct_185 rfl ⟨Nat.le_of_ble_eq_true rfl, Nat.le_of_ble_eq_true rfl⟩ ⟨Nat.le_of_ble_eq_true rfl, Nat.le_of_ble_eq_true rfl⟩ (Nat.le_of_ble_eq_true rfl) rfl (k_0 rfl rfl (k_iq (fun r_y ⟨y, hy, ey⟩ => ?_)))
    subst ey
    refine x_iadd 189 C dL_isAct_188 rfl ?_
    refine x_topi (v' := nI (2 + y)) (nI_add 2 y) ?_
    refine x_callS 192 C (c_L_isRoot K _ X ho w (2 + y) (by omega) hw) hy_L_isRoot ws_L_isRoot lk_L_166 dL_isAct_189 rfl ⟨Nat.le_of_ble_eq_true rfl, Nat.le_of_ble_eq_true rfl⟩ ⟨Nat.le_of_ble_eq_true rfl, Nat.le_of_ble_eq_true rfl⟩ (Nat.le_of_ble_eq_true rfl) rfl (k_0 rfl rfl (k_ip ?_))
    refine x_ireturn C Rt dL_isAct_192 rfl ⟨Nat.le_of_ble_eq_true rfl, Nat.le_of_ble_eq_true rfl⟩ ?_
    exact ⟨_, rfl, rfl, _, _, _, X, ho, HV, HN⟩
  · refine x_tabOut 193 C dL_isAct_29 (by decide) rfl ?_
    refine x_aload_0 194 C dL_isAct_193 rfl ?_
    refine x_iload_5 196 C dL_isAct_194 rfl ?_
    refine x_aload_1 197 C dL_isAct_196 rfl ?_
    refine x_iload_2 198 C dL_isAct_197 rfl ?_
    refine x_iconst (v := 3) 199 C dL_isAct_198 rfl rfl ?_
    refine x_iadd 200 C dL_isAct_199 rfl ?_
    refine x_topi (v' := nI (k + 3)) (nI_add k 3) ?_
    refine x_callSs 203 C S (c_L_value K _ hL (k + 3) (by omega)) hy_L_value ws_L_value lk_L_163 dL_isAct_200 rfl ⟨Nat.le_of_ble_eq_true rfl, Nat.le_of_ble_eq_true rfl⟩ ⟨Nat.le_of_ble_eq_true rfl, Nat.le_of_ble_eq_true rfl⟩ (Nat.le_of_ble_eq_true rfl) rfl (k_0 rfl rfl (k_lq (fun r_w ⟨w, hw, ew⟩ => ?_)))
    subst ew
    refine x_callS 206 C (c_L_isCell K _ X ho c w hc hw) hy_L_isCell ws_L_isCell lk_L_170 dL_isAct_203 rfl ⟨Nat.le_of_ble_eq_true rfl, Nat.le_of_ble_eq_true rfl⟩ ⟨Nat.le_of_ble_eq_true rfl, Nat.le_of_ble_eq_true rfl⟩ (Nat.le_of_ble_eq_true rfl) rfl (k_0 rfl rfl (k_i (fun r_2 M_2 h_2 => ?_)))
    obtain ⟨e_2, σ2, X, ho, g_2⟩ := h_2
    subst e_2
    have HV := g_2 _ _ _ (Or.inr (by decide)) HV
    have HN := g_2 _ _ _ (Or.inr (by decide)) HN
    refine x_ireturn C Rt dL_isAct_206 rfl ⟨Nat.le_of_ble_eq_true rfl, Nat.le_of_ble_eq_true rfl⟩ ?_
    exact ⟨_, rfl, rfl, _, _, _, X, ho, HV, HN⟩
  · refine x_tabOut 193 C dL_isAct_29 (by decide) rfl ?_
    refine x_aload_0 194 C dL_isAct_193 rfl ?_
    refine x_iload_5 196 C dL_isAct_194 rfl ?_
    refine x_aload_1 197 C dL_isAct_196 rfl ?_
    refine x_iload_2 198 C dL_isAct_197 rfl ?_
    refine x_iconst (v := 3) 199 C dL_isAct_198 rfl rfl ?_
    refine x_iadd 200 C dL_isAct_199 rfl ?_
    refine x_topi (v' := nI (k + 3)) (nI_add k 3) ?_
    refine x_callSs 203 C S (c_L_value K _ hL (k + 3) (by omega)) hy_L_value ws_L_value lk_L_163 dL_isAct_200 rfl ⟨Nat.le_of_ble_eq_true rfl, Nat.le_of_ble_eq_true rfl⟩ ⟨Nat.le_of_ble_eq_true rfl, Nat.le_of_ble_eq_true rfl⟩ (Nat.le_of_ble_eq_true rfl) rfl (k_0 rfl rfl (k_lq (fun r_w ⟨w, hw, ew⟩ => ?_)))
    subst ew
    refine x_callS 206 C (c_L_isCell K _ X ho c w hc hw) hy_L_isCell ws_L_isCell lk_L_170 dL_isAct_203 rfl ⟨Nat.le_of_ble_eq_true rfl, Nat.le_of_ble_eq_true rfl⟩ ⟨Nat.le_of_ble_eq_true rfl, Nat.le_of_ble_eq_true rfl⟩ (Nat.le_of_ble_eq_true rfl) rfl (k_0 rfl rfl (k_i (fun r_2 M_2 h_2 => ?_)))
    obtain ⟨e_2, σ2, X, ho, g_2⟩ := h_2
    subst e_2
    have HV := g_2 _ _ _ (Or.inr (by decide)) HV
    have HN := g_2 _ _ _ (Or.inr (by decide)) HN
    refine x_ireturn C Rt dL_isAct_206 rfl ⟨Nat.le_of_ble_eq_true rfl, Nat.le_of_ble_eq_true rfl⟩ ?_
    exact ⟨_, rfl, rfl, _, _, _, X, ho, HV, HN⟩
