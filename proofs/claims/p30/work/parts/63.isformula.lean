/-! what there is of a formula -/
theorem f_is {σ : hSt} {f : Nat} {L : List (Nat × Nat)} (h6 : f < 6) (hL : σ.1.2.2.2 f = L) (hw : wfF L) : isF σ.1 (nI f) ∧ gF σ.1 (nI f) = L ∧ rF σ.1 (nI f) = (qV σ.1 L, qR σ.1 L) := by
  have e : gF σ.1 (nI f) = L := by unfold gF; rw [nI_toN (by omega), hL]
  refine ⟨⟨by rw [nI_toI (by omega)]; omega, by rw [nI_toN (by omega), hL]; exact wfF_ne hw⟩, e, ?_⟩
  unfold rF
  rw [e, qR_rk]
theorem sv_in {σ : hSt} {f : Nat} {L : List (Nat × Nat)} (h6 : f < 6) (hL : σ.1.2.2.2 f = L) (hw : wfF L) {j : Nat} (hj : j < L.length) : sp_stepValue σ (nI f) (nI j) = if j < (qV σ.1 L).length then lN ((qV σ.1 L).getD j 0) else -5 := by
  obtain ⟨h1, h2, h3⟩ := f_is h6 hL hw
  have h60 := hw.2.2
  rw [sp_stepValue, h2, h3, spQ_t ⟨h1, by rw [nI_toI (by omega)]; omega⟩, nI_toN (by omega)]
theorem sv_out {σ : hSt} {f : Nat} {L : List (Nat × Nat)} (h6 : f < 6) (hL : σ.1.2.2.2 f = L) (hw : wfF L) : sp_stepValue σ (nI f) (nI L.length) = -1 := by
  obtain ⟨h1, h2, h3⟩ := f_is h6 hL hw
  have h60 := hw.2.2
  rw [sp_stepValue, h2, spQ_f (fun q => by have := q.2.2; rw [nI_toI (by omega)] at this; omega)]
theorem sv_neg {σ : hSt} {a : Int32} : sp_stepValue σ a (-1) = -1 := by
  rw [sp_stepValue, spQ_f (fun q => by have := q.2.1; rw [show (-1 : Int32).toInt = -1 from rfl] at this; omega)]
theorem of_0 {σ : hSt} {f : Nat} {L : List (Nat × Nat)} (h6 : f < 6) (hL : σ.1.2.2.2 f = L) (hw : wfF L) : sp_ofFormula σ (nI f) 0 = nI L.length := by
  obtain ⟨h1, h2, h3⟩ := f_is h6 hL hw
  rw [sp_ofFormula, h2, spQ_t h1, if_pos (by decide)]
theorem of_1 {σ : hSt} {f : Nat} {L : List (Nat × Nat)} (h6 : f < 6) (hL : σ.1.2.2.2 f = L) (hw : wfF L) : sp_ofFormula σ (nI f) 1 = cOf L L.length := by
  obtain ⟨h1, h2, h3⟩ := f_is h6 hL hw
  rw [sp_ofFormula, h2, spQ_t h1, if_neg (by decide), if_pos (by decide)]
theorem of_2 {σ : hSt} {f : Nat} {L : List (Nat × Nat)} (h6 : f < 6) (hL : σ.1.2.2.2 f = L) (hw : wfF L) : sp_ofFormula σ (nI f) 2 = nI (qR σ.1 L) := by
  obtain ⟨h1, h2, h3⟩ := f_is h6 hL hw
  rw [sp_ofFormula, h2, h3, spQ_t h1, if_neg (by decide), if_neg (by decide), if_pos (by decide)]
theorem of_3 {σ : hSt} {f : Nat} {L : List (Nat × Nat)} (h6 : f < 6) (hL : σ.1.2.2.2 f = L) (hw : wfF L) : sp_ofFormula σ (nI f) 3 = if qR σ.1 L = 0 then -6 else nI (qV σ.1 L).length := by
  obtain ⟨h1, h2, h3⟩ := f_is h6 hL hw
  rw [sp_ofFormula, h2, h3, spQ_t h1, if_neg (by decide), if_neg (by decide), if_neg (by decide), if_pos (by decide)]
theorem of_4 {σ : hSt} {f : Nat} {L : List (Nat × Nat)} (h6 : f < 6) (hL : σ.1.2.2.2 f = L) (hw : wfF L) : sp_ofFormula σ (nI f) 4 = nI (rOf L L.length) := by
  obtain ⟨h1, h2, h3⟩ := f_is h6 hL hw
  rw [sp_ofFormula, h2, h3, spQ_t h1, if_neg (by decide), if_neg (by decide), if_neg (by decide), if_neg (by decide), if_pos (by decide)]
theorem va_0 {σ : hSt} {f : Nat} {L : List (Nat × Nat)} (h6 : f < 6) (hL : σ.1.2.2.2 f = L) (hw : wfF L) (h : qR σ.1 L = 0) : sp_value σ (nI f) = lN ((qV σ.1 L).getD (L.length - 1) 0) := by
  obtain ⟨h1, h2, h3⟩ := f_is h6 hL hw
  rw [sp_value, h3, spQ_t h1, if_pos h, ← qV_le.2.1 h]
  rfl
theorem va_1 {σ : hSt} {f : Nat} {L : List (Nat × Nat)} (h6 : f < 6) (hL : σ.1.2.2.2 f = L) (hw : wfF L) (h : ¬ qR σ.1 L = 0) : sp_value σ (nI f) = -5 := by
  obtain ⟨h1, h2, h3⟩ := f_is h6 hL hw
  rw [sp_value, h3, spQ_t h1, if_neg h]
set_option maxHeartbeats 4000000 in
set_option maxRecDepth 100000 in
theorem c_L_isFormula (K : hKv) (M : hM) {A : Nat → Nat} {σ : hSt} (X : cX K A σ M) (ho : okS σ) {V N : Nat} {fv : Nat → Int64} {fm : Nat → Int32} (HV : M V = some (100, eJ K 64 fv)) (HN : M N = some (101, eI K 5 fm)) (f : Nat) (L : List (Nat × Nat)) (h6 : f < 6) (hL : σ.1.2.2.2 f = L) (hw : wfF L) (H : lMa σ.1 L fv fm) (HB : lMb L fm) : hC K Y_L_isFormula rm_L_isFormula [.ref (A 36), .int (nI f), .ref V, .ref N] M (hPi fun r M' => r = 1 ∧ cX K A σ M' ∧ M' V = some (100, eJ K 64 fv) ∧ M' N = some (101, eI K 5 fm)) := by
  refine hC.of [some (.ref (A 36)), some (.int (nI f)), some (.ref V), some (.ref N), none, none] (by decide) (Nat.le_of_ble_eq_true rfl) rfl rfl ?_
  intro E C Rt
  have C : hCx E K cL_isFormula 6 RL "isFormula" rm_L_isFormula := C
  have h60 := hw.2.2
  have hpos : 1 ≤ L.length := by
    rcases Nat.eq_zero_or_pos L.length with q | q
    · exact absurd (List.length_eq_zero_iff.mp q) (wfF_ne hw)
    · exact q
  have hvl := (qV_le (τ := σ.1) (L := L)).1
  obtain ⟨z_o, hO⟩ := X.obj
  by_cases hR : qR σ.1 L = 0
  · have hql := qV_le.2.1 hR
    have m64 : ∀ (M1 : hM) (j : Nat), cX K A σ M1 → M1 V = some (100, eJ K 64 fv) → M1 N = some (101, eI K 5 fm) → hX E 0 0 64 [some (.ref (A 36)), some (.int (nI f)), some (.ref V), some (.ref N), some (.int (nI (qV σ.1 L).length)), some (.int (nI j))] [] M1 := by
      intro M1 j X HV HN
      obtain ⟨z_o, hO⟩ := X.obj
      refine x_aload_0 65 C dL_isFormula_64 rfl ?_
      refine x_iload_1 66 C dL_isFormula_65 rfl ?_
      refine x_iconst (v := 0) 67 C dL_isFormula_66 rfl rfl ?_
      refine x_callV 70 C (c_X5_ofFormula K _ X ho (nI f) 0) hO wcl_X5 hy_X5_ofFormula wv_X5_ofFormula we_X5_ofFormula lk_L_103 dL_isFormula_67 rfl ⟨Nat.le_of_ble_eq_true rfl, Nat.le_of_ble_eq_true rfl⟩ ⟨Nat.le_of_ble_eq_true rfl, Nat.le_of_ble_eq_true rfl⟩ (Nat.le_of_ble_eq_true rfl) rfl (k_0 rfl rfl (k_i (fun r_1 M_1 h_1 => ?_)))
      obtain ⟨e_1, X, g_1⟩ := h_1
      rw [of_0 h6 hL hw] at e_1
      subst e_1
      have HV := g_1 _ _ _ (Or.inr (by decide)) HV
      have HN := g_1 _ _ _ (Or.inr (by decide)) HN
      obtain ⟨z_o, hO⟩ := X.obj
      refine x_aload_3 71 C dL_isFormula_70 rfl ?_
      refine x_iconst (v := 0) 72 C dL_isFormula_71 rfl rfl ?_
      refine x_iald 73 (0) C HN (rfl) (by decide) (by decide) dL_isFormula_72 rfl ?_
      refine x_topi H.1 ?_
      refine x_icmp_ne 76 128 C dL_isFormula_73 rfl rfl (fun z => absurd (rfl) z) (fun _ => ?_)
      refine x_aload_0 77 C dL_isFormula_76 rfl ?_
      refine x_iload_1 78 C dL_isFormula_77 rfl ?_
      refine x_iconst (v := 1) 79 C dL_isFormula_78 rfl rfl ?_
      refine x_callV 82 C (c_X5_ofFormula K _ X ho (nI f) 1) hO wcl_X5 hy_X5_ofFormula wv_X5_ofFormula we_X5_ofFormula lk_L_103 dL_isFormula_79 rfl ⟨Nat.le_of_ble_eq_true rfl, Nat.le_of_ble_eq_true rfl⟩ ⟨Nat.le_of_ble_eq_true rfl, Nat.le_of_ble_eq_true rfl⟩ (Nat.le_of_ble_eq_true rfl) rfl (k_0 rfl rfl (k_i (fun r_2 M_2 h_2 => ?_)))
      obtain ⟨e_2, X, g_2⟩ := h_2
      rw [of_1 h6 hL hw] at e_2
      subst e_2
      have HV := g_2 _ _ _ (Or.inr (by decide)) HV
      have HN := g_2 _ _ _ (Or.inr (by decide)) HN
      obtain ⟨z_o, hO⟩ := X.obj
      refine x_aload_3 83 C dL_isFormula_82 rfl ?_
      refine x_iconst (v := 4) 84 C dL_isFormula_83 rfl rfl ?_
      refine x_iald 85 (4) C HN (rfl) (by decide) (by decide) dL_isFormula_84 rfl ?_
      refine x_topi HB.2 ?_
      refine x_icmp_ne 88 128 C dL_isFormula_85 rfl rfl (fun z => absurd (rfl) z) (fun _ => ?_)
      refine x_aload_0 89 C dL_isFormula_88 rfl ?_
      refine x_iload_1 90 C dL_isFormula_89 rfl ?_
      refine x_iconst (v := 2) 91 C dL_isFormula_90 rfl rfl ?_
      refine x_callV 94 C (c_X5_ofFormula K _ X ho (nI f) 2) hO wcl_X5 hy_X5_ofFormula wv_X5_ofFormula we_X5_ofFormula lk_L_103 dL_isFormula_91 rfl ⟨Nat.le_of_ble_eq_true rfl, Nat.le_of_ble_eq_true rfl⟩ ⟨Nat.le_of_ble_eq_true rfl, Nat.le_of_ble_eq_true rfl⟩ (Nat.le_of_ble_eq_true rfl) rfl (k_0 rfl rfl (k_i (fun r_3 M_3 h_3 => ?_)))
      obtain ⟨e_3, X, g_3⟩ := h_3
      rw [of_2 h6 hL hw] at e_3
      subst e_3
      have HV := g_3 _ _ _ (Or.inr (by decide)) HV
      have HN := g_3 _ _ _ (Or.inr (by decide)) HN
      obtain ⟨z_o, hO⟩ := X.obj
      refine x_aload_3 95 C dL_isFormula_94 rfl ?_
      refine x_iconst (v := 2) 96 C dL_isFormula_95 rfl rfl ?_
      refine x_iald 97 (2) C HN (rfl) (by decide) (by decide) dL_isFormula_96 rfl ?_
      refine x_topi (v' := nI (qR σ.1 L)) ((H.2.1 hR).2.trans (by rw [hR]; rfl)) ?_
      refine x_icmp_ne 100 128 C dL_isFormula_97 rfl rfl (fun z => absurd (rfl) z) (fun _ => ?_)
      refine x_aload_0 101 C dL_isFormula_100 rfl ?_
      refine x_iload_1 102 C dL_isFormula_101 rfl ?_
      refine x_iconst (v := 3) 103 C dL_isFormula_102 rfl rfl ?_
      refine x_callV 106 C (c_X5_ofFormula K _ X ho (nI f) 3) hO wcl_X5 hy_X5_ofFormula wv_X5_ofFormula we_X5_ofFormula lk_L_103 dL_isFormula_103 rfl ⟨Nat.le_of_ble_eq_true rfl, Nat.le_of_ble_eq_true rfl⟩ ⟨Nat.le_of_ble_eq_true rfl, Nat.le_of_ble_eq_true rfl⟩ (Nat.le_of_ble_eq_true rfl) rfl (k_0 rfl rfl (k_i (fun r_4 M_4 h_4 => ?_)))
      obtain ⟨e_4, X, g_4⟩ := h_4
      rw [of_3 h6 hL hw] at e_4
      subst e_4
      have HV := g_4 _ _ _ (Or.inr (by decide)) HV
      have HN := g_4 _ _ _ (Or.inr (by decide)) HN
      obtain ⟨z_o, hO⟩ := X.obj
      refine x_aload_3 107 C dL_isFormula_106 rfl ?_
      refine x_iconst (v := 1) 108 C dL_isFormula_107 rfl rfl ?_
      refine x_iald 109 (1) C HN (rfl) (by decide) (by decide) dL_isFormula_108 rfl ?_
      refine x_topi (H.2.1 hR).1 ?_
      refine x_icmp_ne 112 128 C dL_isFormula_109 rfl rfl (fun z => absurd ((if_pos hR)) z) (fun _ => ?_)
      refine x_aload_0 113 C dL_isFormula_112 rfl ?_
      refine x_iload_1 114 C dL_isFormula_113 rfl ?_
      refine x_iconst (v := 4) 115 C dL_isFormula_114 rfl rfl ?_
      refine x_callV 118 C (c_X5_ofFormula K _ X ho (nI f) 4) hO wcl_X5 hy_X5_ofFormula wv_X5_ofFormula we_X5_ofFormula lk_L_103 dL_isFormula_115 rfl ⟨Nat.le_of_ble_eq_true rfl, Nat.le_of_ble_eq_true rfl⟩ ⟨Nat.le_of_ble_eq_true rfl, Nat.le_of_ble_eq_true rfl⟩ (Nat.le_of_ble_eq_true rfl) rfl (k_0 rfl rfl (k_i (fun r_5 M_5 h_5 => ?_)))
      obtain ⟨e_5, X, g_5⟩ := h_5
      rw [of_4 h6 hL hw] at e_5
      subst e_5
      have HV := g_5 _ _ _ (Or.inr (by decide)) HV
      have HN := g_5 _ _ _ (Or.inr (by decide)) HN
      obtain ⟨z_o, hO⟩ := X.obj
      refine x_aload_3 119 C dL_isFormula_118 rfl ?_
      refine x_iconst (v := 3) 120 C dL_isFormula_119 rfl rfl ?_
      refine x_iald 121 (3) C HN (rfl) (by decide) (by decide) dL_isFormula_120 rfl ?_
      refine x_topi HB.1 ?_
      refine x_icmp_ne 124 128 C dL_isFormula_121 rfl rfl (fun z => absurd (rfl) z) (fun _ => ?_)
      refine x_iconst (v := 1) 125 C dL_isFormula_124 rfl rfl ?_
      refine x_goto 129 C dL_isFormula_125 rfl ?_
      refine x_istore_5 131 C dL_isFormula_129 rfl rfl ?_
      refine x_iload_5 133 C dL_isFormula_131 rfl ?_
      refine x_if_eq 136 196 C dL_isFormula_133 rfl rfl (fun z => absurd z ((by decide))) (fun _ => ?_)
      refine x_aload_0 137 C dL_isFormula_136 rfl ?_
      refine x_iload_1 138 C dL_isFormula_137 rfl ?_
      refine x_aload_3 139 C dL_isFormula_138 rfl ?_
      refine x_iconst (v := 0) 140 C dL_isFormula_139 rfl rfl ?_
      refine x_iald 141 (0) C HN (rfl) (by decide) (by decide) dL_isFormula_140 rfl ?_
      refine x_topi H.1 ?_
      refine x_callV 144 C (c_X5_stepValue K _ X ho (nI f) (nI L.length)) hO wcl_X5 hy_X5_stepValue wv_X5_stepValue we_X5_stepValue lk_L_97 dL_isFormula_141 rfl ⟨Nat.le_of_ble_eq_true rfl, Nat.le_of_ble_eq_true rfl⟩ ⟨Nat.le_of_ble_eq_true rfl, Nat.le_of_ble_eq_true rfl⟩ (Nat.le_of_ble_eq_true rfl) rfl (k_0 rfl rfl (k_l (fun r_6 M_6 h_6 => ?_)))
      obtain ⟨e_6, X, g_6⟩ := h_6
      rw [sv_out h6 hL hw] at e_6
      subst e_6
      have HV := g_6 _ _ _ (Or.inr (by decide)) HV
      have HN := g_6 _ _ _ (Or.inr (by decide)) HN
      obtain ⟨z_o, hO⟩ := X.obj
      refine x_ldc2 (v := (-1)) 147 C dL_isFormula_144 rfl wq_L_107 ?_
      refine x_lc_ne 151 196 C dL_isFormula_147 dL_isFormula_148 rfl rfl (fun z => absurd (rfl) z) (fun _ => ?_)
      refine x_aload_0 152 C dL_isFormula_151 rfl ?_
      refine x_iload_1 153 C dL_isFormula_152 rfl ?_
      refine x_iconst (v := (-1)) 154 C dL_isFormula_153 rfl rfl ?_
      refine x_callV 157 C (c_X5_stepValue K _ X ho (nI f) (-1)) hO wcl_X5 hy_X5_stepValue wv_X5_stepValue we_X5_stepValue lk_L_97 dL_isFormula_154 rfl ⟨Nat.le_of_ble_eq_true rfl, Nat.le_of_ble_eq_true rfl⟩ ⟨Nat.le_of_ble_eq_true rfl, Nat.le_of_ble_eq_true rfl⟩ (Nat.le_of_ble_eq_true rfl) rfl (k_0 rfl rfl (k_l (fun r_7 M_7 h_7 => ?_)))
      obtain ⟨e_7, X, g_7⟩ := h_7
      rw [sv_neg] at e_7
      subst e_7
      have HV := g_7 _ _ _ (Or.inr (by decide)) HV
      have HN := g_7 _ _ _ (Or.inr (by decide)) HN
      obtain ⟨z_o, hO⟩ := X.obj
      refine x_ldc2 (v := (-1)) 160 C dL_isFormula_157 rfl wq_L_107 ?_
      refine x_lc_ne 164 196 C dL_isFormula_160 dL_isFormula_161 rfl rfl (fun z => absurd (rfl) z) (fun _ => ?_)
      refine x_aload_0 165 C dL_isFormula_164 rfl ?_
      refine x_iload_1 166 C dL_isFormula_165 rfl ?_
      refine x_callV 169 C (c_X5_value K _ X ho (nI f)) hO wcl_X5 hy_X5_value wv_X5_value we_X5_value lk_L_109 dL_isFormula_166 rfl ⟨Nat.le_of_ble_eq_true rfl, Nat.le_of_ble_eq_true rfl⟩ ⟨Nat.le_of_ble_eq_true rfl, Nat.le_of_ble_eq_true rfl⟩ (Nat.le_of_ble_eq_true rfl) rfl (k_0 rfl rfl (k_l (fun r_8 M_8 h_8 => ?_)))
      obtain ⟨e_8, X, g_8⟩ := h_8
      rw [va_0 h6 hL hw hR] at e_8
      subst e_8
      have HV := g_8 _ _ _ (Or.inr (by decide)) HV
      have HN := g_8 _ _ _ (Or.inr (by decide)) HN
      obtain ⟨z_o, hO⟩ := X.obj
      refine x_aload_3 170 C dL_isFormula_169 rfl ?_
      refine x_iconst (v := 1) 171 C dL_isFormula_170 rfl rfl ?_
      refine x_iald 172 (1) C HN (rfl) (by decide) (by decide) dL_isFormula_171 rfl ?_
      refine x_topi (H.2.1 hR).1 ?_
      refine x_if_ge 175 185 C dL_isFormula_172 rfl rfl (fun z => absurd z ((by decide))) (fun _ => ?_)
      refine x_aload_2 176 C dL_isFormula_175 rfl ?_
      refine x_aload_3 177 C dL_isFormula_176 rfl ?_
      refine x_iconst (v := 0) 178 C dL_isFormula_177 rfl rfl ?_
      refine x_iald 179 (0) C HN (rfl) (by decide) (by decide) dL_isFormula_178 rfl ?_
      refine x_topi H.1 ?_
      refine x_iconst (v := 1) 180 C dL_isFormula_179 rfl rfl ?_
      refine x_isub 181 C dL_isFormula_180 rfl ?_
      refine x_topi (v' := nI (L.length - 1)) (pk_sub (b := 1) (by omega)) ?_
      refine x_lald 182 (L.length - 1) C HV (rfl) (by omega) (by decide) dL_isFormula_181 rfl ?_
      refine x_topl (H.2.2.2 _ (by omega)) ?_
      refine x_goto 188 C dL_isFormula_182 rfl ?_
      refine x_lc_ne 192 196 C dL_isFormula_188 dL_isFormula_189 rfl rfl (fun z => absurd (rfl) z) (fun _ => ?_)
      refine x_iconst (v := 1) 193 C dL_isFormula_192 rfl rfl ?_
      refine x_goto 197 C dL_isFormula_193 rfl ?_
      refine x_ireturn C Rt dL_isFormula_197 rfl ⟨Nat.le_of_ble_eq_true rfl, Nat.le_of_ble_eq_true rfl⟩ ?_
      exact ⟨_, rfl, rfl, X, HV, HN⟩
    have lp : ∀ (d j : Nat) (M1 : hM), j + d = L.length → cX K A σ M1 → M1 V = some (100, eJ K 64 fv) → M1 N = some (101, eI K 5 fm) → hX E 0 0 20 [some (.ref (A 36)), some (.int (nI f)), some (.ref V), some (.ref N), some (.int (nI (qV σ.1 L).length)), some (.int (nI j))] [] M1 := by
      intro d
      induction d with
      | zero =>
        intro j M1 hjd X HV HN
        refine x_iload_5 22 C dL_isFormula_20 rfl ?_
        refine x_aload_3 23 C dL_isFormula_22 rfl ?_
        refine x_iconst (v := 0) 24 C dL_isFormula_23 rfl rfl ?_
        refine x_iald 25 (0) C HN (rfl) (by decide) (by decide) dL_isFormula_24 rfl ?_
        refine x_topi H.1 ?_
        refine x_icmp_ge 28 64 C dL_isFormula_25 rfl rfl (fun _ => ?_) (fun z => absurd ((nI_le (by omega) (by omega))) z)
        exact m64 M1 j X HV HN
      | succ d ih =>
        intro j M1 hjd X HV HN
        have hjl : j < L.length := by omega
        obtain ⟨z_o, hO⟩ := X.obj
        rcases Nat.lt_or_ge j (qV σ.1 L).length with hj | hj
        · skip
          refine x_iload_5 22 C dL_isFormula_20 rfl ?_
          refine x_aload_3 23 C dL_isFormula_22 rfl ?_
          refine x_iconst (v := 0) 24 C dL_isFormula_23 rfl rfl ?_
          refine x_iald 25 (0) C HN (rfl) (by decide) (by decide) dL_isFormula_24 rfl ?_
          refine x_topi H.1 ?_
          refine x_icmp_ge 28 64 C dL_isFormula_25 rfl rfl (fun z => absurd z ((Int32.not_le.mpr ((nI_ltI (by omega) (by omega)).mpr hjl)))) (fun _ => ?_)
          refine x_aload_0 29 C dL_isFormula_28 rfl ?_
          refine x_iload_1 30 C dL_isFormula_29 rfl ?_
          refine x_iload_5 32 C dL_isFormula_30 rfl ?_
          refine x_callV 35 C (c_X5_stepValue K _ X ho (nI f) (nI j)) hO wcl_X5 hy_X5_stepValue wv_X5_stepValue we_X5_stepValue lk_L_97 dL_isFormula_32 rfl ⟨Nat.le_of_ble_eq_true rfl, Nat.le_of_ble_eq_true rfl⟩ ⟨Nat.le_of_ble_eq_true rfl, Nat.le_of_ble_eq_true rfl⟩ (Nat.le_of_ble_eq_true rfl) rfl (k_0 rfl rfl (k_l (fun r_1 M_1 h_1 => ?_)))
          obtain ⟨e_1, X, g_1⟩ := h_1
          rw [sv_in h6 hL hw hjl, if_pos hj] at e_1
          subst e_1
          have HV := g_1 _ _ _ (Or.inr (by decide)) HV
          have HN := g_1 _ _ _ (Or.inr (by decide)) HN
          obtain ⟨z_o, hO⟩ := X.obj
          refine x_iload_5 37 C dL_isFormula_35 rfl ?_
          refine x_iload_4 39 C dL_isFormula_37 rfl ?_
          refine x_icmp_ge 42 49 C dL_isFormula_39 rfl rfl (fun z => absurd z ((Int32.not_le.mpr ((nI_ltI (by omega) (by omega)).mpr hj)))) (fun _ => ?_)
          refine x_aload_2 43 C dL_isFormula_42 rfl ?_
          refine x_iload_5 45 C dL_isFormula_43 rfl ?_
          refine x_lald 46 (j) C HV (rfl) (by omega) (by decide) dL_isFormula_45 rfl ?_
          refine x_topl (H.2.2.2 j hj) ?_
          refine x_goto 52 C dL_isFormula_46 rfl ?_
          refine x_lc_eq 56 58 C dL_isFormula_52 dL_isFormula_53 rfl rfl (fun _ => ?_) (fun z => absurd (rfl) z)
          refine x_iinc_5 61 C dL_isFormula_58 rfl rfl (nI_inc _) ?_
          refine x_goto 20 C dL_isFormula_61 rfl ?_
          exact ih (j + 1) _ (by omega) X HV HN
        · skip
          refine x_iload_5 22 C dL_isFormula_20 rfl ?_
          refine x_aload_3 23 C dL_isFormula_22 rfl ?_
          refine x_iconst (v := 0) 24 C dL_isFormula_23 rfl rfl ?_
          refine x_iald 25 (0) C HN (rfl) (by decide) (by decide) dL_isFormula_24 rfl ?_
          refine x_topi H.1 ?_
          refine x_icmp_ge 28 64 C dL_isFormula_25 rfl rfl (fun z => absurd z ((Int32.not_le.mpr ((nI_ltI (by omega) (by omega)).mpr hjl)))) (fun _ => ?_)
          refine x_aload_0 29 C dL_isFormula_28 rfl ?_
          refine x_iload_1 30 C dL_isFormula_29 rfl ?_
          refine x_iload_5 32 C dL_isFormula_30 rfl ?_
          refine x_callV 35 C (c_X5_stepValue K _ X ho (nI f) (nI j)) hO wcl_X5 hy_X5_stepValue wv_X5_stepValue we_X5_stepValue lk_L_97 dL_isFormula_32 rfl ⟨Nat.le_of_ble_eq_true rfl, Nat.le_of_ble_eq_true rfl⟩ ⟨Nat.le_of_ble_eq_true rfl, Nat.le_of_ble_eq_true rfl⟩ (Nat.le_of_ble_eq_true rfl) rfl (k_0 rfl rfl (k_l (fun r_1 M_1 h_1 => ?_)))
          obtain ⟨e_1, X, g_1⟩ := h_1
          rw [sv_in h6 hL hw hjl, if_neg (Nat.not_lt.mpr hj)] at e_1
          subst e_1
          have HV := g_1 _ _ _ (Or.inr (by decide)) HV
          have HN := g_1 _ _ _ (Or.inr (by decide)) HN
          obtain ⟨z_o, hO⟩ := X.obj
          refine x_iload_5 37 C dL_isFormula_35 rfl ?_
          refine x_iload_4 39 C dL_isFormula_37 rfl ?_
          refine x_icmp_ge 42 49 C dL_isFormula_39 rfl rfl (fun _ => ?_) (fun z => absurd ((nI_le hj (by omega))) z)
          refine x_ldc2 (v := (-5)) 52 C dL_isFormula_49 rfl wq_L_101 ?_
          refine x_lc_eq 56 58 C dL_isFormula_52 dL_isFormula_53 rfl rfl (fun _ => ?_) (fun z => absurd (rfl) z)
          refine x_iinc_5 61 C dL_isFormula_58 rfl rfl (nI_inc _) ?_
          refine x_goto 20 C dL_isFormula_61 rfl ?_
          exact ih (j + 1) _ (by omega) X HV HN
    refine x_aload_3 1 C dL_isFormula_0 rfl ?_
    refine x_iconst (v := 1) 2 C dL_isFormula_1 rfl rfl ?_
    refine x_iald 3 (1) C HN (rfl) (by decide) (by decide) dL_isFormula_2 rfl ?_
    refine x_topi (H.2.1 hR).1 ?_
    refine x_if_ge 6 12 C dL_isFormula_3 rfl rfl (fun z => absurd z ((by decide))) (fun _ => ?_)
    refine x_aload_3 7 C dL_isFormula_6 rfl ?_
    refine x_iconst (v := 0) 8 C dL_isFormula_7 rfl rfl ?_
    refine x_iald 9 (0) C HN (rfl) (by decide) (by decide) dL_isFormula_8 rfl ?_
    refine x_goto 15 C dL_isFormula_9 rfl ?_
    refine x_topi (v' := nI (qV σ.1 L).length) (H.1.trans (by rw [hql])) ?_
    refine x_istore_4 17 C dL_isFormula_15 rfl rfl ?_
    refine x_iconst (v := 0) 18 C dL_isFormula_17 rfl rfl ?_
    refine x_istore_5 20 C dL_isFormula_18 rfl rfl ?_
    exact lp L.length 0 _ (by omega) X HV HN
  · skip
    have m64 : ∀ (M1 : hM) (j : Nat), cX K A σ M1 → M1 V = some (100, eJ K 64 fv) → M1 N = some (101, eI K 5 fm) → hX E 0 0 64 [some (.ref (A 36)), some (.int (nI f)), some (.ref V), some (.ref N), some (.int (nI (qV σ.1 L).length)), some (.int (nI j))] [] M1 := by
      intro M1 j X HV HN
      obtain ⟨z_o, hO⟩ := X.obj
      refine x_aload_0 65 C dL_isFormula_64 rfl ?_
      refine x_iload_1 66 C dL_isFormula_65 rfl ?_
      refine x_iconst (v := 0) 67 C dL_isFormula_66 rfl rfl ?_
      refine x_callV 70 C (c_X5_ofFormula K _ X ho (nI f) 0) hO wcl_X5 hy_X5_ofFormula wv_X5_ofFormula we_X5_ofFormula lk_L_103 dL_isFormula_67 rfl ⟨Nat.le_of_ble_eq_true rfl, Nat.le_of_ble_eq_true rfl⟩ ⟨Nat.le_of_ble_eq_true rfl, Nat.le_of_ble_eq_true rfl⟩ (Nat.le_of_ble_eq_true rfl) rfl (k_0 rfl rfl (k_i (fun r_1 M_1 h_1 => ?_)))
      obtain ⟨e_1, X, g_1⟩ := h_1
      rw [of_0 h6 hL hw] at e_1
      subst e_1
      have HV := g_1 _ _ _ (Or.inr (by decide)) HV
      have HN := g_1 _ _ _ (Or.inr (by decide)) HN
      obtain ⟨z_o, hO⟩ := X.obj
      refine x_aload_3 71 C dL_isFormula_70 rfl ?_
      refine x_iconst (v := 0) 72 C dL_isFormula_71 rfl rfl ?_
      refine x_iald 73 (0) C HN (rfl) (by decide) (by decide) dL_isFormula_72 rfl ?_
      refine x_topi H.1 ?_
      refine x_icmp_ne 76 128 C dL_isFormula_73 rfl rfl (fun z => absurd (rfl) z) (fun _ => ?_)
      refine x_aload_0 77 C dL_isFormula_76 rfl ?_
      refine x_iload_1 78 C dL_isFormula_77 rfl ?_
      refine x_iconst (v := 1) 79 C dL_isFormula_78 rfl rfl ?_
      refine x_callV 82 C (c_X5_ofFormula K _ X ho (nI f) 1) hO wcl_X5 hy_X5_ofFormula wv_X5_ofFormula we_X5_ofFormula lk_L_103 dL_isFormula_79 rfl ⟨Nat.le_of_ble_eq_true rfl, Nat.le_of_ble_eq_true rfl⟩ ⟨Nat.le_of_ble_eq_true rfl, Nat.le_of_ble_eq_true rfl⟩ (Nat.le_of_ble_eq_true rfl) rfl (k_0 rfl rfl (k_i (fun r_2 M_2 h_2 => ?_)))
      obtain ⟨e_2, X, g_2⟩ := h_2
      rw [of_1 h6 hL hw] at e_2
      subst e_2
      have HV := g_2 _ _ _ (Or.inr (by decide)) HV
      have HN := g_2 _ _ _ (Or.inr (by decide)) HN
      obtain ⟨z_o, hO⟩ := X.obj
      refine x_aload_3 83 C dL_isFormula_82 rfl ?_
      refine x_iconst (v := 4) 84 C dL_isFormula_83 rfl rfl ?_
      refine x_iald 85 (4) C HN (rfl) (by decide) (by decide) dL_isFormula_84 rfl ?_
      refine x_topi HB.2 ?_
      refine x_icmp_ne 88 128 C dL_isFormula_85 rfl rfl (fun z => absurd (rfl) z) (fun _ => ?_)
      refine x_aload_0 89 C dL_isFormula_88 rfl ?_
      refine x_iload_1 90 C dL_isFormula_89 rfl ?_
      refine x_iconst (v := 2) 91 C dL_isFormula_90 rfl rfl ?_
      refine x_callV 94 C (c_X5_ofFormula K _ X ho (nI f) 2) hO wcl_X5 hy_X5_ofFormula wv_X5_ofFormula we_X5_ofFormula lk_L_103 dL_isFormula_91 rfl ⟨Nat.le_of_ble_eq_true rfl, Nat.le_of_ble_eq_true rfl⟩ ⟨Nat.le_of_ble_eq_true rfl, Nat.le_of_ble_eq_true rfl⟩ (Nat.le_of_ble_eq_true rfl) rfl (k_0 rfl rfl (k_i (fun r_3 M_3 h_3 => ?_)))
      obtain ⟨e_3, X, g_3⟩ := h_3
      rw [of_2 h6 hL hw] at e_3
      subst e_3
      have HV := g_3 _ _ _ (Or.inr (by decide)) HV
      have HN := g_3 _ _ _ (Or.inr (by decide)) HN
      obtain ⟨z_o, hO⟩ := X.obj
      refine x_aload_3 95 C dL_isFormula_94 rfl ?_
      refine x_iconst (v := 2) 96 C dL_isFormula_95 rfl rfl ?_
      refine x_iald 97 (2) C HN (rfl) (by decide) (by decide) dL_isFormula_96 rfl ?_
      refine x_topi (v' := nI (qR σ.1 L)) (H.2.2.1 hR).2 ?_
      refine x_icmp_ne 100 128 C dL_isFormula_97 rfl rfl (fun z => absurd (rfl) z) (fun _ => ?_)
      refine x_aload_0 101 C dL_isFormula_100 rfl ?_
      refine x_iload_1 102 C dL_isFormula_101 rfl ?_
      refine x_iconst (v := 3) 103 C dL_isFormula_102 rfl rfl ?_
      refine x_callV 106 C (c_X5_ofFormula K _ X ho (nI f) 3) hO wcl_X5 hy_X5_ofFormula wv_X5_ofFormula we_X5_ofFormula lk_L_103 dL_isFormula_103 rfl ⟨Nat.le_of_ble_eq_true rfl, Nat.le_of_ble_eq_true rfl⟩ ⟨Nat.le_of_ble_eq_true rfl, Nat.le_of_ble_eq_true rfl⟩ (Nat.le_of_ble_eq_true rfl) rfl (k_0 rfl rfl (k_i (fun r_4 M_4 h_4 => ?_)))
      obtain ⟨e_4, X, g_4⟩ := h_4
      rw [of_3 h6 hL hw] at e_4
      subst e_4
      have HV := g_4 _ _ _ (Or.inr (by decide)) HV
      have HN := g_4 _ _ _ (Or.inr (by decide)) HN
      obtain ⟨z_o, hO⟩ := X.obj
      refine x_aload_3 107 C dL_isFormula_106 rfl ?_
      refine x_iconst (v := 1) 108 C dL_isFormula_107 rfl rfl ?_
      refine x_iald 109 (1) C HN (rfl) (by decide) (by decide) dL_isFormula_108 rfl ?_
      refine x_topi (H.2.2.1 hR).1 ?_
      refine x_icmp_ne 112 128 C dL_isFormula_109 rfl rfl (fun z => absurd ((if_neg hR)) z) (fun _ => ?_)
      refine x_aload_0 113 C dL_isFormula_112 rfl ?_
      refine x_iload_1 114 C dL_isFormula_113 rfl ?_
      refine x_iconst (v := 4) 115 C dL_isFormula_114 rfl rfl ?_
      refine x_callV 118 C (c_X5_ofFormula K _ X ho (nI f) 4) hO wcl_X5 hy_X5_ofFormula wv_X5_ofFormula we_X5_ofFormula lk_L_103 dL_isFormula_115 rfl ⟨Nat.le_of_ble_eq_true rfl, Nat.le_of_ble_eq_true rfl⟩ ⟨Nat.le_of_ble_eq_true rfl, Nat.le_of_ble_eq_true rfl⟩ (Nat.le_of_ble_eq_true rfl) rfl (k_0 rfl rfl (k_i (fun r_5 M_5 h_5 => ?_)))
      obtain ⟨e_5, X, g_5⟩ := h_5
      rw [of_4 h6 hL hw] at e_5
      subst e_5
      have HV := g_5 _ _ _ (Or.inr (by decide)) HV
      have HN := g_5 _ _ _ (Or.inr (by decide)) HN
      obtain ⟨z_o, hO⟩ := X.obj
      refine x_aload_3 119 C dL_isFormula_118 rfl ?_
      refine x_iconst (v := 3) 120 C dL_isFormula_119 rfl rfl ?_
      refine x_iald 121 (3) C HN (rfl) (by decide) (by decide) dL_isFormula_120 rfl ?_
      refine x_topi HB.1 ?_
      refine x_icmp_ne 124 128 C dL_isFormula_121 rfl rfl (fun z => absurd (rfl) z) (fun _ => ?_)
      refine x_iconst (v := 1) 125 C dL_isFormula_124 rfl rfl ?_
      refine x_goto 129 C dL_isFormula_125 rfl ?_
      refine x_istore_5 131 C dL_isFormula_129 rfl rfl ?_
      refine x_iload_5 133 C dL_isFormula_131 rfl ?_
      refine x_if_eq 136 196 C dL_isFormula_133 rfl rfl (fun z => absurd z ((by decide))) (fun _ => ?_)
      refine x_aload_0 137 C dL_isFormula_136 rfl ?_
      refine x_iload_1 138 C dL_isFormula_137 rfl ?_
      refine x_aload_3 139 C dL_isFormula_138 rfl ?_
      refine x_iconst (v := 0) 140 C dL_isFormula_139 rfl rfl ?_
      refine x_iald 141 (0) C HN (rfl) (by decide) (by decide) dL_isFormula_140 rfl ?_
      refine x_topi H.1 ?_
      refine x_callV 144 C (c_X5_stepValue K _ X ho (nI f) (nI L.length)) hO wcl_X5 hy_X5_stepValue wv_X5_stepValue we_X5_stepValue lk_L_97 dL_isFormula_141 rfl ⟨Nat.le_of_ble_eq_true rfl, Nat.le_of_ble_eq_true rfl⟩ ⟨Nat.le_of_ble_eq_true rfl, Nat.le_of_ble_eq_true rfl⟩ (Nat.le_of_ble_eq_true rfl) rfl (k_0 rfl rfl (k_l (fun r_6 M_6 h_6 => ?_)))
      obtain ⟨e_6, X, g_6⟩ := h_6
      rw [sv_out h6 hL hw] at e_6
      subst e_6
      have HV := g_6 _ _ _ (Or.inr (by decide)) HV
      have HN := g_6 _ _ _ (Or.inr (by decide)) HN
      obtain ⟨z_o, hO⟩ := X.obj
      refine x_ldc2 (v := (-1)) 147 C dL_isFormula_144 rfl wq_L_107 ?_
      refine x_lc_ne 151 196 C dL_isFormula_147 dL_isFormula_148 rfl rfl (fun z => absurd (rfl) z) (fun _ => ?_)
      refine x_aload_0 152 C dL_isFormula_151 rfl ?_
      refine x_iload_1 153 C dL_isFormula_152 rfl ?_
      refine x_iconst (v := (-1)) 154 C dL_isFormula_153 rfl rfl ?_
      refine x_callV 157 C (c_X5_stepValue K _ X ho (nI f) (-1)) hO wcl_X5 hy_X5_stepValue wv_X5_stepValue we_X5_stepValue lk_L_97 dL_isFormula_154 rfl ⟨Nat.le_of_ble_eq_true rfl, Nat.le_of_ble_eq_true rfl⟩ ⟨Nat.le_of_ble_eq_true rfl, Nat.le_of_ble_eq_true rfl⟩ (Nat.le_of_ble_eq_true rfl) rfl (k_0 rfl rfl (k_l (fun r_7 M_7 h_7 => ?_)))
      obtain ⟨e_7, X, g_7⟩ := h_7
      rw [sv_neg] at e_7
      subst e_7
      have HV := g_7 _ _ _ (Or.inr (by decide)) HV
      have HN := g_7 _ _ _ (Or.inr (by decide)) HN
      obtain ⟨z_o, hO⟩ := X.obj
      refine x_ldc2 (v := (-1)) 160 C dL_isFormula_157 rfl wq_L_107 ?_
      refine x_lc_ne 164 196 C dL_isFormula_160 dL_isFormula_161 rfl rfl (fun z => absurd (rfl) z) (fun _ => ?_)
      refine x_aload_0 165 C dL_isFormula_164 rfl ?_
      refine x_iload_1 166 C dL_isFormula_165 rfl ?_
      refine x_callV 169 C (c_X5_value K _ X ho (nI f)) hO wcl_X5 hy_X5_value wv_X5_value we_X5_value lk_L_109 dL_isFormula_166 rfl ⟨Nat.le_of_ble_eq_true rfl, Nat.le_of_ble_eq_true rfl⟩ ⟨Nat.le_of_ble_eq_true rfl, Nat.le_of_ble_eq_true rfl⟩ (Nat.le_of_ble_eq_true rfl) rfl (k_0 rfl rfl (k_l (fun r_8 M_8 h_8 => ?_)))
      obtain ⟨e_8, X, g_8⟩ := h_8
      rw [va_1 h6 hL hw hR] at e_8
      subst e_8
      have HV := g_8 _ _ _ (Or.inr (by decide)) HV
      have HN := g_8 _ _ _ (Or.inr (by decide)) HN
      obtain ⟨z_o, hO⟩ := X.obj
      refine x_aload_3 170 C dL_isFormula_169 rfl ?_
      refine x_iconst (v := 1) 171 C dL_isFormula_170 rfl rfl ?_
      refine x_iald 172 (1) C HN (rfl) (by decide) (by decide) dL_isFormula_171 rfl ?_
      refine x_topi (H.2.2.1 hR).1 ?_
      refine x_if_ge 175 185 C dL_isFormula_172 rfl rfl (fun _ => ?_) (fun z => absurd ((nn_I (by omega))) z)
      refine x_ldc2 (v := (-5)) 188 C dL_isFormula_185 rfl wq_L_101 ?_
      refine x_lc_ne 192 196 C dL_isFormula_188 dL_isFormula_189 rfl rfl (fun z => absurd (rfl) z) (fun _ => ?_)
      refine x_iconst (v := 1) 193 C dL_isFormula_192 rfl rfl ?_
      refine x_goto 197 C dL_isFormula_193 rfl ?_
      refine x_ireturn C Rt dL_isFormula_197 rfl ⟨Nat.le_of_ble_eq_true rfl, Nat.le_of_ble_eq_true rfl⟩ ?_
      exact ⟨_, rfl, rfl, X, HV, HN⟩
    have lp : ∀ (d j : Nat) (M1 : hM), j + d = L.length → cX K A σ M1 → M1 V = some (100, eJ K 64 fv) → M1 N = some (101, eI K 5 fm) → hX E 0 0 20 [some (.ref (A 36)), some (.int (nI f)), some (.ref V), some (.ref N), some (.int (nI (qV σ.1 L).length)), some (.int (nI j))] [] M1 := by
      intro d
      induction d with
      | zero =>
        intro j M1 hjd X HV HN
        refine x_iload_5 22 C dL_isFormula_20 rfl ?_
        refine x_aload_3 23 C dL_isFormula_22 rfl ?_
        refine x_iconst (v := 0) 24 C dL_isFormula_23 rfl rfl ?_
        refine x_iald 25 (0) C HN (rfl) (by decide) (by decide) dL_isFormula_24 rfl ?_
        refine x_topi H.1 ?_
        refine x_icmp_ge 28 64 C dL_isFormula_25 rfl rfl (fun _ => ?_) (fun z => absurd ((nI_le (by omega) (by omega))) z)
        exact m64 M1 j X HV HN
      | succ d ih =>
        intro j M1 hjd X HV HN
        have hjl : j < L.length := by omega
        obtain ⟨z_o, hO⟩ := X.obj
        rcases Nat.lt_or_ge j (qV σ.1 L).length with hj | hj
        · skip
          refine x_iload_5 22 C dL_isFormula_20 rfl ?_
          refine x_aload_3 23 C dL_isFormula_22 rfl ?_
          refine x_iconst (v := 0) 24 C dL_isFormula_23 rfl rfl ?_
          refine x_iald 25 (0) C HN (rfl) (by decide) (by decide) dL_isFormula_24 rfl ?_
          refine x_topi H.1 ?_
          refine x_icmp_ge 28 64 C dL_isFormula_25 rfl rfl (fun z => absurd z ((Int32.not_le.mpr ((nI_ltI (by omega) (by omega)).mpr hjl)))) (fun _ => ?_)
          refine x_aload_0 29 C dL_isFormula_28 rfl ?_
          refine x_iload_1 30 C dL_isFormula_29 rfl ?_
          refine x_iload_5 32 C dL_isFormula_30 rfl ?_
          refine x_callV 35 C (c_X5_stepValue K _ X ho (nI f) (nI j)) hO wcl_X5 hy_X5_stepValue wv_X5_stepValue we_X5_stepValue lk_L_97 dL_isFormula_32 rfl ⟨Nat.le_of_ble_eq_true rfl, Nat.le_of_ble_eq_true rfl⟩ ⟨Nat.le_of_ble_eq_true rfl, Nat.le_of_ble_eq_true rfl⟩ (Nat.le_of_ble_eq_true rfl) rfl (k_0 rfl rfl (k_l (fun r_1 M_1 h_1 => ?_)))
          obtain ⟨e_1, X, g_1⟩ := h_1
          rw [sv_in h6 hL hw hjl, if_pos hj] at e_1
          subst e_1
          have HV := g_1 _ _ _ (Or.inr (by decide)) HV
          have HN := g_1 _ _ _ (Or.inr (by decide)) HN
          obtain ⟨z_o, hO⟩ := X.obj
          refine x_iload_5 37 C dL_isFormula_35 rfl ?_
          refine x_iload_4 39 C dL_isFormula_37 rfl ?_
          refine x_icmp_ge 42 49 C dL_isFormula_39 rfl rfl (fun z => absurd z ((Int32.not_le.mpr ((nI_ltI (by omega) (by omega)).mpr hj)))) (fun _ => ?_)
          refine x_aload_2 43 C dL_isFormula_42 rfl ?_
          refine x_iload_5 45 C dL_isFormula_43 rfl ?_
          refine x_lald 46 (j) C HV (rfl) (by omega) (by decide) dL_isFormula_45 rfl ?_
          refine x_topl (H.2.2.2 j hj) ?_
          refine x_goto 52 C dL_isFormula_46 rfl ?_
          refine x_lc_eq 56 58 C dL_isFormula_52 dL_isFormula_53 rfl rfl (fun _ => ?_) (fun z => absurd (rfl) z)
          refine x_iinc_5 61 C dL_isFormula_58 rfl rfl (nI_inc _) ?_
          refine x_goto 20 C dL_isFormula_61 rfl ?_
          exact ih (j + 1) _ (by omega) X HV HN
        · skip
          refine x_iload_5 22 C dL_isFormula_20 rfl ?_
          refine x_aload_3 23 C dL_isFormula_22 rfl ?_
          refine x_iconst (v := 0) 24 C dL_isFormula_23 rfl rfl ?_
          refine x_iald 25 (0) C HN (rfl) (by decide) (by decide) dL_isFormula_24 rfl ?_
          refine x_topi H.1 ?_
          refine x_icmp_ge 28 64 C dL_isFormula_25 rfl rfl (fun z => absurd z ((Int32.not_le.mpr ((nI_ltI (by omega) (by omega)).mpr hjl)))) (fun _ => ?_)
          refine x_aload_0 29 C dL_isFormula_28 rfl ?_
          refine x_iload_1 30 C dL_isFormula_29 rfl ?_
          refine x_iload_5 32 C dL_isFormula_30 rfl ?_
          refine x_callV 35 C (c_X5_stepValue K _ X ho (nI f) (nI j)) hO wcl_X5 hy_X5_stepValue wv_X5_stepValue we_X5_stepValue lk_L_97 dL_isFormula_32 rfl ⟨Nat.le_of_ble_eq_true rfl, Nat.le_of_ble_eq_true rfl⟩ ⟨Nat.le_of_ble_eq_true rfl, Nat.le_of_ble_eq_true rfl⟩ (Nat.le_of_ble_eq_true rfl) rfl (k_0 rfl rfl (k_l (fun r_1 M_1 h_1 => ?_)))
          obtain ⟨e_1, X, g_1⟩ := h_1
          rw [sv_in h6 hL hw hjl, if_neg (Nat.not_lt.mpr hj)] at e_1
          subst e_1
          have HV := g_1 _ _ _ (Or.inr (by decide)) HV
          have HN := g_1 _ _ _ (Or.inr (by decide)) HN
          obtain ⟨z_o, hO⟩ := X.obj
          refine x_iload_5 37 C dL_isFormula_35 rfl ?_
          refine x_iload_4 39 C dL_isFormula_37 rfl ?_
          refine x_icmp_ge 42 49 C dL_isFormula_39 rfl rfl (fun _ => ?_) (fun z => absurd ((nI_le hj (by omega))) z)
          refine x_ldc2 (v := (-5)) 52 C dL_isFormula_49 rfl wq_L_101 ?_
          refine x_lc_eq 56 58 C dL_isFormula_52 dL_isFormula_53 rfl rfl (fun _ => ?_) (fun z => absurd (rfl) z)
          refine x_iinc_5 61 C dL_isFormula_58 rfl rfl (nI_inc _) ?_
          refine x_goto 20 C dL_isFormula_61 rfl ?_
          exact ih (j + 1) _ (by omega) X HV HN
    refine x_aload_3 1 C dL_isFormula_0 rfl ?_
    refine x_iconst (v := 1) 2 C dL_isFormula_1 rfl rfl ?_
    refine x_iald 3 (1) C HN (rfl) (by decide) (by decide) dL_isFormula_2 rfl ?_
    refine x_topi (H.2.2.1 hR).1 ?_
    refine x_if_ge 6 12 C dL_isFormula_3 rfl rfl (fun _ => ?_) (fun z => absurd ((nn_I (by omega))) z)
    refine x_aload_3 13 C dL_isFormula_12 rfl ?_
    refine x_iconst (v := 1) 14 C dL_isFormula_13 rfl rfl ?_
    refine x_iald 15 (1) C HN (rfl) (by decide) (by decide) dL_isFormula_14 rfl ?_
    refine x_topi (v' := nI (qV σ.1 L).length) (H.2.2.1 hR).1 ?_
    refine x_istore_4 17 C dL_isFormula_15 rfl rfl ?_
    refine x_iconst (v := 0) 18 C dL_isFormula_17 rfl rfl ?_
    refine x_istore_5 20 C dL_isFormula_18 rfl rfl ?_
    exact lp L.length 0 _ (by omega) X HV HN
