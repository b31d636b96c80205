/-! the law's steps, numbers and cells -/
theorem lI_lN {x : Int} (h : 0 ≤ x) : lI x = lN x.toNat := by rw [lN_lI, Int.toNat_of_nonneg h]
theorem nn_I {n : Nat} (h : n < 2 ^ 31) : (0 : Int32) ≤ nI n := nI_le (a := 0) (Nat.zero_le _) h
/-- the pad with more characters -/
def pA (σ : hSt) (T : List Nat) : hSt := (σ.1, σ.2.1, σ.2.2.1, σ.2.2.2 ++ T)
theorem pA_pA {σ : hSt} {T U : List Nat} : pA (pA σ T) U = pA σ (T ++ U) := by unfold pA; rw [← List.append_assoc]
theorem pA_nil {σ : hSt} : pA σ [] = σ := by unfold pA; rw [List.append_nil]
theorem pA_len {σ : hSt} {T : List Nat} : (pA σ T).2.2.2.length = σ.2.2.2.length + T.length := List.length_append
theorem chars_1 {c : Nat} (h : 33 ≤ c ∧ c ≤ 126) : chars (lN c) = some [c] := by
  have e : chs 8 c = some [c] := by
    rw [chs, if_neg (by omega), Nat.mod_eq_of_lt (by omega), if_pos h, Nat.div_eq_of_lt (by omega)]
    rfl
  unfold chars
  rw [l_bits (by omega), e]
theorem sp_put1 {σ : hSt} {c : Nat} (h : 33 ≤ c ∧ c ≤ 126) (hl : σ.2.2.2.length + 1 ≤ 60) : sp_put σ (lN c) = (nI (σ.2.2.2.length + 1), pA σ [c]) := by
  unfold sp_put
  rw [chars_1 h]
  exact spQ_f (Nat.not_lt.mpr hl)
theorem c_put1 (K : hKv) (M : hM) {A : Nat → Nat} {σ : hSt} (X : cX K A σ M) (ho : okS σ) (c : Nat) (h : 33 ≤ c ∧ c ≤ 126) (hl : σ.2.2.2.length + 1 ≤ 60) : hC K Y_X5_put rm_X5_put [.ref (A 36), .long (lN c)] M (hPi fun r M' => cX K A (pA σ [c]) M' ∧ okS (pA σ [c]) ∧ hFr 1 100 M M') := by
  refine hC.post (c_X5_put K M X ho (lN c)) ?_
  rintro v M' ⟨r, hv, -, X2, g⟩
  have h2 := okS_put ho (lN c)
  rw [sp_put1 h hl] at X2 h2
  exact ⟨r, hv, X2, h2, g⟩
set_option maxHeartbeats 4000000 in
set_option maxRecDepth 100000 in
theorem c_L_step (K : hKv) (M : hM) {V N : Nat} {fv : Nat → Int64} {fm : Nat → Int32} (HV : M V = some (100, eJ K 64 fv)) (HN : M N = some (101, eI K 5 fm)) (τ : hS1) (L : List (Nat × Nat)) (s : Nat × Nat) (hl : L.length < 60) (H : lMa τ L fv fm) (x : Int) (hx0 : -2 ^ 62 < x ∧ x < 2 ^ 62) (hx : qR τ L = 0 → x = rkv τ s (qP τ L)) : hC K Y_L_step rm_L_step [.ref V, .ref N, .long (lI x)] M (hPl fun r M' => r = lN (rvN τ (L ++ [s])) ∧ ∃ fv2 fm2, M' V = some (100, eJ K 64 fv2) ∧ M' N = some (101, eI K 5 fm2) ∧ lMa τ (L ++ [s]) fv2 fm2 ∧ fm2 3 = fm 3 ∧ fm2 4 = fm 4 ∧ hFr 100 102 M M') := by
  refine hC.of [some (.ref V), some (.ref N), some (.long (lI x)), none] (by decide) (Nat.le_of_ble_eq_true rfl) rfl rfl ?_
  intro E C Rt
  have C : hCx E K cL_step 4 RL "step" rm_L_step := C
  have fr : hFr 100 102 M M := hFr.rf
  by_cases hR : qR τ L = 0
  · obtain ⟨h1, h2⟩ := H.2.1 hR
    have hx := hx hR
    refine x_aload_1 1 C dL_step_0 rfl ?_
    refine x_iconst (v := 1) 2 C dL_step_1 rfl rfl ?_
    refine x_iald 3 (1) C HN (rfl) (by decide) (by decide) dL_step_2 rfl ?_
    refine x_topi (v' := -6) h1 ?_
    refine x_if_ge 6 40 C dL_step_3 rfl rfl (fun z => absurd z ((by decide))) (fun _ => ?_)
    refine x_lload_2 7 C dL_step_6 rfl ?_
    refine x_ldc2 (v := 1000000000000) 10 C dL_step_7 rfl wq_L_27 ?_
    refine x_lc_gt 14 20 C dL_step_10 dL_step_11 rfl rfl (fun c_10 => ?_) (fun c_10 => ?_)
    · have h3 : (LG : Int) < x := by
        rw [Int64.lt_iff_toInt_lt, tl_LG, lI_toI (by omega) (by omega)] at c_10; exact c_10
      have h5 : ¬ lI x < 0 := by
        rw [Int64.lt_iff_toInt_lt, tl_0, lI_toI (by omega) (by omega)]; unfold LG at h3; omega
      refine x_aload_1 21 C dL_step_20 rfl ?_
      refine x_iconst (v := 1) 22 C dL_step_21 rfl rfl ?_
      refine x_aload_1 23 C dL_step_22 rfl ?_
      refine x_iconst (v := 0) 24 C dL_step_23 rfl rfl ?_
      refine x_iald 25 (0) C HN (rfl) (by decide) (by decide) dL_step_24 rfl ?_
      refine x_topi (v' := nI L.length) H.1 ?_
      refine x_iast 26 (1) C HN (rfl) (by decide) (by decide) dL_step_25 rfl ?_
      refine x_up (fun M_1 g_1 o_1 e_1 => ?_)
      have fr := fr.tr (M2 := M_1) (by rw [e_1]; exact hFr.put HN (by omega))
      have HV := (o_1 _ (hT_ne HV HN (by omega))).trans HV
      have HN := g_1
      refine x_aload_1 27 C dL_step_26 rfl ?_
      refine x_iconst (v := 2) 28 C dL_step_27 rfl rfl ?_
      refine x_lload_2 29 C dL_step_28 rfl ?_
      refine x_lconst (v := 0) 30 C dL_step_29 rfl rfl ?_
      refine x_lc_ge 34 38 C dL_step_30 dL_step_31 rfl rfl (fun _ => ?_) (fun z => absurd ((Int64.not_lt.mp h5)) z)
      refine x_iconst (v := 1) 39 C dL_step_38 rfl rfl ?_
      refine x_iast 40 (2) C HN (rfl) (by decide) (by decide) dL_step_39 rfl ?_
      refine x_up (fun M_2 g_2 o_2 e_2 => ?_)
      have fr := fr.tr (M2 := M_2) (by rw [e_2]; exact hFr.put HN (by omega))
      have HV := (o_2 _ (hT_ne HV HN (by omega))).trans HV
      have HN := g_2
      refine x_aload_0 41 C dL_step_40 rfl ?_
      refine x_aload_1 42 C dL_step_41 rfl ?_
      refine x_iconst (v := 0) 43 C dL_step_42 rfl rfl ?_
      refine x_iald 44 (0) C HN (rfl) (by decide) (by decide) dL_step_43 rfl ?_
      refine x_topi (v' := nI L.length) (by simp [va_up, H.1]) ?_
      refine x_lload_2 45 C dL_step_44 rfl ?_
      refine x_last 46 (L.length) C HV (rfl) (by omega) (by decide) dL_step_45 rfl ?_
      refine x_up (fun M_3 g_3 o_3 e_3 => ?_)
      have fr := fr.tr (M2 := M_3) (by rw [e_3]; exact hFr.put HV (by omega))
      have HN := (o_3 _ (hT_ne HN HV (by omega))).trans HN
      have HV := g_3
      refine x_aload_1 47 C dL_step_46 rfl ?_
      refine x_iconst (v := 0) 48 C dL_step_47 rfl rfl ?_
      refine x_dup2 49 C dL_step_48 rfl rfl rfl ?_
      refine x_iald 50 (0) C HN (rfl) (by decide) (by decide) dL_step_49 rfl ?_
      refine x_topi (v' := nI L.length) (by simp [va_up, H.1]) ?_
      refine x_iconst (v := 1) 51 C dL_step_50 rfl rfl ?_
      refine x_iadd 52 C dL_step_51 rfl ?_
      refine x_topi (v' := nI (L.length + 1)) (nI_1 _) ?_
      refine x_iast 53 (0) C HN (rfl) (by decide) (by decide) dL_step_52 rfl ?_
      refine x_up (fun M_4 g_4 o_4 e_4 => ?_)
      have fr := fr.tr (M2 := M_4) (by rw [e_4]; exact hFr.put HN (by omega))
      have HV := (o_4 _ (hT_ne HV HN (by omega))).trans HV
      have HN := g_4
      refine x_aload_1 54 C dL_step_53 rfl ?_
      refine x_iconst (v := 1) 55 C dL_step_54 rfl rfl ?_
      refine x_iald 56 (1) C HN (rfl) (by decide) (by decide) dL_step_55 rfl ?_
      refine x_topi (v' := nI L.length) (by simp [va_up]) ?_
      refine x_if_ge 59 63 C dL_step_56 rfl rfl (fun _ => ?_) (fun z => absurd ((nn_I (by omega))) z)
      refine x_lconst (v := 0) 64 C dL_step_63 rfl rfl ?_
      refine x_lreturn C Rt dL_step_64 ⟨Nat.le_of_ble_eq_true rfl, Nat.le_of_ble_eq_true rfl⟩ ?_
      have Q := lM_s1 (s := s) (fv2 := va_up fv L.length (lI x)) (fm2 := va_up (va_up (va_up fm 1 (nI L.length)) 2 1) 0 (nI (L.length + 1))) H hR (by rw [← hx]; exact h3) (by simp [va_up]) (by simp [va_up]) (by simp [va_up]) (fun k hk => va_up_ne _ _ hk)
      exact ⟨_, rfl, by rw [Q.2]; rfl, _, _, HV, HN, Q.1, by simp [va_up], by simp [va_up], fr⟩
    · have h3 : ¬ (LG : Int) < x := fun z => c_10 (by rw [Int64.lt_iff_toInt_lt, tl_LG, lI_toI (by omega) (by omega)]; exact z)
      refine x_lload_2 15 C dL_step_14 rfl ?_
      refine x_lconst (v := 0) 16 C dL_step_15 rfl rfl ?_
      refine x_lc_ge 20 40 C dL_step_16 dL_step_17 rfl rfl (fun c_16 => ?_) (fun c_16 => ?_)
      · have h4 : 0 ≤ x := by
          rw [Int64.le_iff_toInt_le, tl_0, lI_toI (by omega) (by omega)] at c_16; exact c_16
        refine x_aload_0 41 C dL_step_40 rfl ?_
        refine x_aload_1 42 C dL_step_41 rfl ?_
        refine x_iconst (v := 0) 43 C dL_step_42 rfl rfl ?_
        refine x_iald 44 (0) C HN (rfl) (by decide) (by decide) dL_step_43 rfl ?_
        refine x_topi (v' := nI L.length) (by simp [va_up, H.1]) ?_
        refine x_lload_2 45 C dL_step_44 rfl ?_
        refine x_last 46 (L.length) C HV (rfl) (by omega) (by decide) dL_step_45 rfl ?_
        refine x_up (fun M_5 g_5 o_5 e_5 => ?_)
        have fr := fr.tr (M2 := M_5) (by rw [e_5]; exact hFr.put HV (by omega))
        have HN := (o_5 _ (hT_ne HN HV (by omega))).trans HN
        have HV := g_5
        refine x_aload_1 47 C dL_step_46 rfl ?_
        refine x_iconst (v := 0) 48 C dL_step_47 rfl rfl ?_
        refine x_dup2 49 C dL_step_48 rfl rfl rfl ?_
        refine x_iald 50 (0) C HN (rfl) (by decide) (by decide) dL_step_49 rfl ?_
        refine x_topi (v' := nI L.length) (by simp [va_up, H.1]) ?_
        refine x_iconst (v := 1) 51 C dL_step_50 rfl rfl ?_
        refine x_iadd 52 C dL_step_51 rfl ?_
        refine x_topi (v' := nI (L.length + 1)) (nI_1 _) ?_
        refine x_iast 53 (0) C HN (rfl) (by decide) (by decide) dL_step_52 rfl ?_
        refine x_up (fun M_6 g_6 o_6 e_6 => ?_)
        have fr := fr.tr (M2 := M_6) (by rw [e_6]; exact hFr.put HN (by omega))
        have HV := (o_6 _ (hT_ne HV HN (by omega))).trans HV
        have HN := g_6
        refine x_aload_1 54 C dL_step_53 rfl ?_
        refine x_iconst (v := 1) 55 C dL_step_54 rfl rfl ?_
        refine x_iald 56 (1) C HN (rfl) (by decide) (by decide) dL_step_55 rfl ?_
        refine x_topi (v' := -6) (by simp [va_up, h1]) ?_
        refine x_if_ge 59 63 C dL_step_56 rfl rfl (fun z => absurd z ((by decide))) (fun _ => ?_)
        refine x_lload_2 60 C dL_step_59 rfl ?_
        refine x_goto 64 C dL_step_60 rfl ?_
        refine x_lreturn C Rt dL_step_64 ⟨Nat.le_of_ble_eq_true rfl, Nat.le_of_ble_eq_true rfl⟩ ?_
        have Q := lM_s0 (s := s) (fv2 := va_up fv L.length (lI x)) (fm2 := va_up fm 0 (nI (L.length + 1))) H hR (by rw [← hx]; exact h4) (by rw [← hx]; omega) (by simp [va_up]) (by simp [va_up]) (by simp [va_up]) (fun k hk => va_up_ne _ _ hk) (by rw [va_up_self, ← hx]; exact lI_lN h4)
        exact ⟨_, rfl, by rw [Q.2, ← hx]; exact lI_lN h4, _, _, HV, HN, Q.1, by simp [va_up], by simp [va_up], fr⟩
      · have h4 : ¬ 0 ≤ x := fun z => c_16 (by rw [Int64.le_iff_toInt_le, tl_0, lI_toI (by omega) (by omega)]; exact z)
        have h5 : lI x < 0 := by
          rw [Int64.lt_iff_toInt_lt, tl_0, lI_toI (by omega) (by omega)]; omega
        refine x_aload_1 21 C dL_step_20 rfl ?_
        refine x_iconst (v := 1) 22 C dL_step_21 rfl rfl ?_
        refine x_aload_1 23 C dL_step_22 rfl ?_
        refine x_iconst (v := 0) 24 C dL_step_23 rfl rfl ?_
        refine x_iald 25 (0) C HN (rfl) (by decide) (by decide) dL_step_24 rfl ?_
        refine x_topi (v' := nI L.length) H.1 ?_
        refine x_iast 26 (1) C HN (rfl) (by decide) (by decide) dL_step_25 rfl ?_
        refine x_up (fun M_7 g_7 o_7 e_7 => ?_)
        have fr := fr.tr (M2 := M_7) (by rw [e_7]; exact hFr.put HN (by omega))
        have HV := (o_7 _ (hT_ne HV HN (by omega))).trans HV
        have HN := g_7
        refine x_aload_1 27 C dL_step_26 rfl ?_
        refine x_iconst (v := 2) 28 C dL_step_27 rfl rfl ?_
        refine x_lload_2 29 C dL_step_28 rfl ?_
        refine x_lconst (v := 0) 30 C dL_step_29 rfl rfl ?_
        refine x_lc_ge 34 38 C dL_step_30 dL_step_31 rfl rfl (fun z => absurd z ((Int64.not_le.mpr h5))) (fun _ => ?_)
        refine x_iconst (v := 2) 35 C dL_step_34 rfl rfl ?_
        refine x_goto 39 C dL_step_35 rfl ?_
        refine x_iast 40 (2) C HN (rfl) (by decide) (by decide) dL_step_39 rfl ?_
        refine x_up (fun M_8 g_8 o_8 e_8 => ?_)
        have fr := fr.tr (M2 := M_8) (by rw [e_8]; exact hFr.put HN (by omega))
        have HV := (o_8 _ (hT_ne HV HN (by omega))).trans HV
        have HN := g_8
        refine x_aload_0 41 C dL_step_40 rfl ?_
        refine x_aload_1 42 C dL_step_41 rfl ?_
        refine x_iconst (v := 0) 43 C dL_step_42 rfl rfl ?_
        refine x_iald 44 (0) C HN (rfl) (by decide) (by decide) dL_step_43 rfl ?_
        refine x_topi (v' := nI L.length) (by simp [va_up, H.1]) ?_
        refine x_lload_2 45 C dL_step_44 rfl ?_
        refine x_last 46 (L.length) C HV (rfl) (by omega) (by decide) dL_step_45 rfl ?_
        refine x_up (fun M_9 g_9 o_9 e_9 => ?_)
        have fr := fr.tr (M2 := M_9) (by rw [e_9]; exact hFr.put HV (by omega))
        have HN := (o_9 _ (hT_ne HN HV (by omega))).trans HN
        have HV := g_9
        refine x_aload_1 47 C dL_step_46 rfl ?_
        refine x_iconst (v := 0) 48 C dL_step_47 rfl rfl ?_
        refine x_dup2 49 C dL_step_48 rfl rfl rfl ?_
        refine x_iald 50 (0) C HN (rfl) (by decide) (by decide) dL_step_49 rfl ?_
        refine x_topi (v' := nI L.length) (by simp [va_up, H.1]) ?_
        refine x_iconst (v := 1) 51 C dL_step_50 rfl rfl ?_
        refine x_iadd 52 C dL_step_51 rfl ?_
        refine x_topi (v' := nI (L.length + 1)) (nI_1 _) ?_
        refine x_iast 53 (0) C HN (rfl) (by decide) (by decide) dL_step_52 rfl ?_
        refine x_up (fun M_10 g_10 o_10 e_10 => ?_)
        have fr := fr.tr (M2 := M_10) (by rw [e_10]; exact hFr.put HN (by omega))
        have HV := (o_10 _ (hT_ne HV HN (by omega))).trans HV
        have HN := g_10
        refine x_aload_1 54 C dL_step_53 rfl ?_
        refine x_iconst (v := 1) 55 C dL_step_54 rfl rfl ?_
        refine x_iald 56 (1) C HN (rfl) (by decide) (by decide) dL_step_55 rfl ?_
        refine x_topi (v' := nI L.length) (by simp [va_up]) ?_
        refine x_if_ge 59 63 C dL_step_56 rfl rfl (fun _ => ?_) (fun z => absurd ((nn_I (by omega))) z)
        refine x_lconst (v := 0) 64 C dL_step_63 rfl rfl ?_
        refine x_lreturn C Rt dL_step_64 ⟨Nat.le_of_ble_eq_true rfl, Nat.le_of_ble_eq_true rfl⟩ ?_
        have Q := lM_s2 (s := s) (fv2 := va_up fv L.length (lI x)) (fm2 := va_up (va_up (va_up fm 1 (nI L.length)) 2 2) 0 (nI (L.length + 1))) H hR (by rw [← hx]; omega) (by simp [va_up]) (by simp [va_up]) (by simp [va_up]) (fun k hk => va_up_ne _ _ hk)
        exact ⟨_, rfl, by rw [Q.2]; rfl, _, _, HV, HN, Q.1, by simp [va_up], by simp [va_up], fr⟩
  · obtain ⟨h1, h2⟩ := H.2.2.1 hR
    have hl2 : (qV τ L).length < 2 ^ 31 := by
      have := (qV_le (τ := τ) (L := L)).1
      omega
    refine x_aload_1 1 C dL_step_0 rfl ?_
    refine x_iconst (v := 1) 2 C dL_step_1 rfl rfl ?_
    refine x_iald 3 (1) C HN (rfl) (by decide) (by decide) dL_step_2 rfl ?_
    refine x_topi (v' := nI (qV τ L).length) h1 ?_
    refine x_if_ge 6 40 C dL_step_3 rfl rfl (fun _ => ?_) (fun z => absurd ((nn_I hl2)) z)
    refine x_aload_0 41 C dL_step_40 rfl ?_
    refine x_aload_1 42 C dL_step_41 rfl ?_
    refine x_iconst (v := 0) 43 C dL_step_42 rfl rfl ?_
    refine x_iald 44 (0) C HN (rfl) (by decide) (by decide) dL_step_43 rfl ?_
    refine x_topi (v' := nI L.length) (by simp [va_up, H.1]) ?_
    refine x_lload_2 45 C dL_step_44 rfl ?_
    refine x_last 46 (L.length) C HV (rfl) (by omega) (by decide) dL_step_45 rfl ?_
    refine x_up (fun M_1 g_1 o_1 e_1 => ?_)
    have fr := fr.tr (M2 := M_1) (by rw [e_1]; exact hFr.put HV (by omega))
    have HN := (o_1 _ (hT_ne HN HV (by omega))).trans HN
    have HV := g_1
    refine x_aload_1 47 C dL_step_46 rfl ?_
    refine x_iconst (v := 0) 48 C dL_step_47 rfl rfl ?_
    refine x_dup2 49 C dL_step_48 rfl rfl rfl ?_
    refine x_iald 50 (0) C HN (rfl) (by decide) (by decide) dL_step_49 rfl ?_
    refine x_topi (v' := nI L.length) (by simp [va_up, H.1]) ?_
    refine x_iconst (v := 1) 51 C dL_step_50 rfl rfl ?_
    refine x_iadd 52 C dL_step_51 rfl ?_
    refine x_topi (v' := nI (L.length + 1)) (nI_1 _) ?_
    refine x_iast 53 (0) C HN (rfl) (by decide) (by decide) dL_step_52 rfl ?_
    refine x_up (fun M_2 g_2 o_2 e_2 => ?_)
    have fr := fr.tr (M2 := M_2) (by rw [e_2]; exact hFr.put HN (by omega))
    have HV := (o_2 _ (hT_ne HV HN (by omega))).trans HV
    have HN := g_2
    refine x_aload_1 54 C dL_step_53 rfl ?_
    refine x_iconst (v := 1) 55 C dL_step_54 rfl rfl ?_
    refine x_iald 56 (1) C HN (rfl) (by decide) (by decide) dL_step_55 rfl ?_
    refine x_topi (v' := nI (qV τ L).length) (by simp [va_up, h1]) ?_
    refine x_if_ge 59 63 C dL_step_56 rfl rfl (fun _ => ?_) (fun z => absurd ((nn_I hl2)) z)
    refine x_lconst (v := 0) 64 C dL_step_63 rfl rfl ?_
    refine x_lreturn C Rt dL_step_64 ⟨Nat.le_of_ble_eq_true rfl, Nat.le_of_ble_eq_true rfl⟩ ?_
    have Q := lM_bad (s := s) (fv2 := va_up fv L.length (lI x)) (fm2 := va_up fm 0 (nI (L.length + 1))) H hR (by simp [va_up]) (by simp [va_up]) (by simp [va_up]) (fun k hk => va_up_ne _ _ hk)
    exact ⟨_, rfl, by rw [Q.2]; rfl, _, _, HV, HN, Q.1, by simp [va_up], by simp [va_up], fr⟩
theorem rkv_43 {τ : hS1} {a b : Nat} {p : List Nat} : rkv τ (43, 0) (b :: a :: p) = (a : Int) + b := rfl
theorem rkv_45 {τ : hS1} {a b : Nat} {p : List Nat} : rkv τ (45, 0) (b :: a :: p) = (a : Int) - b := rfl
theorem rkv_42 {τ : hS1} {a b : Nat} {p : List Nat} : rkv τ (42, 0) (b :: a :: p) = (tmn a b : Int) := rfl
theorem lN_subI (a b : Nat) : lN a - lN b = lI ((a : Int) - b) := by rw [lN_lI, lN_lI, lI_sub]
theorem lN_addI (a b : Nat) : lN a + lN b = lI ((a : Int) + b) := by rw [lN_lI, lN_lI, lI_add]
set_option maxHeartbeats 4000000 in
set_option maxRecDepth 100000 in
theorem c_L_apply (K : hKv) (M : hM) {V N : Nat} {fv : Nat → Int64} {fm : Nat → Int32} (HV : M V = some (100, eJ K 64 fv)) (HN : M N = some (101, eI K 5 fm)) (τ : hS1) (L : List (Nat × Nat)) (c : Nat) (hc : isO c) (hl : L.length < 60) (H : lMa τ L fv fm) (x y : Nat) (hx : x ≤ LG) (hy : y ≤ LG) (hp : qR τ L = 0 → ∃ p, qP τ L = y :: x :: p) : hC K Y_L_apply rm_L_apply [.ref V, .ref N, .int (nI c), .long (lN x), .long (lN y)] M (hPl fun r M' => r = lN (rvN τ (L ++ [(c, 0)])) ∧ ∃ fv2 fm2, M' V = some (100, eJ K 64 fv2) ∧ M' N = some (101, eI K 5 fm2) ∧ lMa τ (L ++ [(c, 0)]) fv2 fm2 ∧ fm2 3 = fm 3 ∧ fm2 4 = fm 4 ∧ hFr 100 102 M M') := by
  refine hC.of [some (.ref V), some (.ref N), some (.int (nI c)), some (.long (lN x)), none, some (.long (lN y)), none] (by decide) (Nat.le_of_ble_eq_true rfl) rfl rfl ?_
  intro E C Rt
  have C : hCx E K cL_apply 7 RL "apply" rm_L_apply := C
  have ht := tmn_le (a := x) (b := y)
  have hx9 := hx
  have hy9 := hy
  unfold LG at hx9 hy9 ht
  rcases hc with rfl | rfl | rfl
  · skip
    refine x_aload_0 1 C dL_apply_0 rfl ?_
    refine x_aload_1 2 C dL_apply_1 rfl ?_
    refine x_iload_2 3 C dL_apply_2 rfl ?_
    refine x_bipush (v := 43) 5 C dL_apply_3 rfl rfl ?_
    refine x_icmp_ne 8 15 C dL_apply_5 rfl rfl (fun z => absurd (rfl) z) (fun _ => ?_)
    refine x_lload_3 9 C dL_apply_8 rfl ?_
    refine x_lload_5 11 C dL_apply_9 rfl ?_
    refine x_ladd 12 C dL_apply_11 rfl ?_
    refine x_topl (v' := lI ((x : Int) + y)) (lN_addI x y) ?_
    refine x_goto 34 C dL_apply_12 rfl ?_
    refine x_callS 37 C (c_L_step K _ HV HN τ L (43, 0) hl H ((x : Int) + y) ⟨by omega, by omega⟩ (fun q => by obtain ⟨p, hp⟩ := hp q; rw [hp]; exact rkv_43.symm)) hy_L_step ws_L_step lk_L_37 dL_apply_34 rfl ⟨Nat.le_of_ble_eq_true rfl, Nat.le_of_ble_eq_true rfl⟩ ⟨Nat.le_of_ble_eq_true rfl, Nat.le_of_ble_eq_true rfl⟩ (Nat.le_of_ble_eq_true rfl) rfl (k_0 rfl rfl (k_l (fun r_1 M_1 h_1 => ?_)))
    obtain ⟨e_1, fv, fm, HV, HN, H, h3, h4, fr⟩ := h_1
    subst e_1
    refine x_lreturn C Rt dL_apply_37 ⟨Nat.le_of_ble_eq_true rfl, Nat.le_of_ble_eq_true rfl⟩ ?_
    exact ⟨_, rfl, rfl, fv, fm, HV, HN, H, h3, h4, fr⟩
  · skip
    refine x_aload_0 1 C dL_apply_0 rfl ?_
    refine x_aload_1 2 C dL_apply_1 rfl ?_
    refine x_iload_2 3 C dL_apply_2 rfl ?_
    refine x_bipush (v := 43) 5 C dL_apply_3 rfl rfl ?_
    refine x_icmp_ne 8 15 C dL_apply_5 rfl rfl (fun _ => ?_) (fun z => absurd z ((by decide)))
    refine x_iload_2 16 C dL_apply_15 rfl ?_
    refine x_bipush (v := 45) 18 C dL_apply_16 rfl rfl ?_
    refine x_icmp_ne 21 28 C dL_apply_18 rfl rfl (fun z => absurd (rfl) z) (fun _ => ?_)
    refine x_lload_3 22 C dL_apply_21 rfl ?_
    refine x_lload_5 24 C dL_apply_22 rfl ?_
    refine x_lsub 25 C dL_apply_24 rfl ?_
    refine x_topl (v' := lI ((x : Int) - y)) (lN_subI x y) ?_
    refine x_goto 34 C dL_apply_25 rfl ?_
    refine x_callS 37 C (c_L_step K _ HV HN τ L (45, 0) hl H ((x : Int) - y) ⟨by omega, by omega⟩ (fun q => by obtain ⟨p, hp⟩ := hp q; rw [hp]; exact rkv_45.symm)) hy_L_step ws_L_step lk_L_37 dL_apply_34 rfl ⟨Nat.le_of_ble_eq_true rfl, Nat.le_of_ble_eq_true rfl⟩ ⟨Nat.le_of_ble_eq_true rfl, Nat.le_of_ble_eq_true rfl⟩ (Nat.le_of_ble_eq_true rfl) rfl (k_0 rfl rfl (k_l (fun r_1 M_1 h_1 => ?_)))
    obtain ⟨e_1, fv, fm, HV, HN, H, h3, h4, fr⟩ := h_1
    subst e_1
    refine x_lreturn C Rt dL_apply_37 ⟨Nat.le_of_ble_eq_true rfl, Nat.le_of_ble_eq_true rfl⟩ ?_
    exact ⟨_, rfl, rfl, fv, fm, HV, HN, H, h3, h4, fr⟩
  · skip
    refine x_aload_0 1 C dL_apply_0 rfl ?_
    refine x_aload_1 2 C dL_apply_1 rfl ?_
    refine x_iload_2 3 C dL_apply_2 rfl ?_
    refine x_bipush (v := 43) 5 C dL_apply_3 rfl rfl ?_
    refine x_icmp_ne 8 15 C dL_apply_5 rfl rfl (fun _ => ?_) (fun z => absurd z ((by decide)))
    refine x_iload_2 16 C dL_apply_15 rfl ?_
    refine x_bipush (v := 45) 18 C dL_apply_16 rfl rfl ?_
    refine x_icmp_ne 21 28 C dL_apply_18 rfl rfl (fun _ => ?_) (fun z => absurd z ((by decide)))
    refine x_lload_3 29 C dL_apply_28 rfl ?_
    refine x_lload_5 31 C dL_apply_29 rfl ?_
    refine x_callS 34 C (c_L_times K _ x y hx hy) hy_L_times ws_L_times lk_L_52 dL_apply_31 rfl ⟨Nat.le_of_ble_eq_true rfl, Nat.le_of_ble_eq_true rfl⟩ ⟨Nat.le_of_ble_eq_true rfl, Nat.le_of_ble_eq_true rfl⟩ (Nat.le_of_ble_eq_true rfl) rfl (k_0 rfl rfl (k_lp ?_))
    refine x_topl (v' := lI (tmn x y : Int)) (lN_lI _) ?_
    refine x_callS 37 C (c_L_step K _ HV HN τ L (42, 0) hl H ((tmn x y : Int)) ⟨by omega, by omega⟩ (fun q => by obtain ⟨p, hp⟩ := hp q; rw [hp]; exact rkv_42.symm)) hy_L_step ws_L_step lk_L_37 dL_apply_34 rfl ⟨Nat.le_of_ble_eq_true rfl, Nat.le_of_ble_eq_true rfl⟩ ⟨Nat.le_of_ble_eq_true rfl, Nat.le_of_ble_eq_true rfl⟩ (Nat.le_of_ble_eq_true rfl) rfl (k_0 rfl rfl (k_l (fun r_1 M_1 h_1 => ?_)))
    obtain ⟨e_1, fv, fm, HV, HN, H, h3, h4, fr⟩ := h_1
    subst e_1
    refine x_lreturn C Rt dL_apply_37 ⟨Nat.le_of_ble_eq_true rfl, Nat.le_of_ble_eq_true rfl⟩ ?_
    exact ⟨_, rfl, rfl, fv, fm, HV, HN, H, h3, h4, fr⟩
def bt : Nat → Nat
  | 0 => 0
  | j + 1 => 10 ^ j
def dgr (x : Nat) : Nat → List Nat
  | 0 => []
  | j + 1 => dgs x j
theorem dgs_c (x : Nat) : ∀ j, dgs x j = (48 + x / 10 ^ j % 10) :: dgr x j
  | 0 => by rw [dgs, dgr, Nat.pow_zero, Nat.div_one]
  | j + 1 => rfl
theorem bt_d : ∀ j, 10 ^ j / 10 = bt j
  | 0 => rfl
  | j + 1 => by rw [bt, Nat.pow_succ, Nat.mul_div_cancel _ (by decide)]
theorem rkv_0 {τ : hS1} {x : Nat} {p : List Nat} : rkv τ (0, x) p = (x : Int) := rfl
theorem p10 {j : Nat} (h : j ≤ 3) : 0 < 10 ^ j ∧ 10 ^ j ≤ 1000 := ⟨Nat.pow_pos (by decide), Nat.pow_le_pow_right (n := 10) (by decide) h⟩
set_option maxHeartbeats 4000000 in
set_option maxRecDepth 100000 in
theorem c_L_number (K : hKv) (M : hM) {A : Nat → Nat} {σ : hSt} (X : cX K A σ M) (ho : okS σ) {V N : Nat} {fv : Nat → Int64} {fm : Nat → Int32} (HV : M V = some (100, eJ K 64 fv)) (HN : M N = some (101, eI K 5 fm)) (L : List (Nat × Nat)) (hl : L.length < 60) (H : lMa σ.1 L fv fm) (x w : Nat) (hx : x ≤ 9999) (hw : w = 4 ∨ w = 2 ∧ x < 100) (hpd : σ.2.2.2.length + w ≤ 60) : hC K Y_L_number rm_L_number [.ref (A 36), .ref V, .ref N, .int (nI x)] M (hPl fun r M' => r = lN (rvN σ.1 (L ++ [(0, x)])) ∧ ∃ T fv2 fm2, T.length ≤ w ∧ pz [(0, x)] T ∧ cX K A (pA σ T) M' ∧ okS (pA σ T) ∧ M' V = some (100, eJ K 64 fv2) ∧ M' N = some (101, eI K 5 fm2) ∧ lMa σ.1 (L ++ [(0, x)]) fv2 fm2 ∧ fm2 3 = fm 3 ∧ fm2 4 = fm 4) := by
  refine hC.of [some (.ref (A 36)), some (.ref V), some (.ref N), some (.int (nI x)), none] (by decide) (Nat.le_of_ble_eq_true rfl) rfl rfl ?_
  intro E C Rt
  have C : hCx E K cL_number 5 RL "number" rm_L_number := C
  have lp : ∀ (t : Nat) (T0 : List Nat) (M1 : hM), pz [(0, x)] (T0 ++ dgr x t) → T0.length + t ≤ w → cX K A (pA σ T0) M1 → okS (pA σ T0) → M1 V = some (100, eJ K 64 fv) → M1 N = some (101, eI K 5 fm) → hX E 0 0 38 [some (.ref (A 36)), some (.ref V), some (.ref N), some (.int (nI x)), some (.int (nI (bt t)))] [] M1 := by
    intro t
    induction t with
    | zero =>
      intro T0 M1 hz ht X ho HV HN
      rw [dgr, List.append_nil] at hz
      obtain ⟨z_o, hO⟩ := X.obj
      have fr : hFr 100 102 M1 M1 := hFr.rf
      refine x_iload_4 40 C dL_number_38 rfl ?_
      refine x_if_le 43 69 C dL_number_40 rfl rfl (fun _ => ?_) (fun z => absurd ((by decide)) z)
      refine x_aload_1 70 C dL_number_69 rfl ?_
      refine x_aload_2 71 C dL_number_70 rfl ?_
      refine x_iload_3 72 C dL_number_71 rfl ?_
      refine x_i2l 73 C dL_number_72 rfl ?_
      refine x_topl (v' := lI (x : Int)) ((nI_l (by omega)).trans (lN_lI x)) ?_
      refine x_callS 76 C (c_L_step K _ HV HN σ.1 L (0, x) hl H (x : Int) ⟨by omega, by omega⟩ (fun _ => rkv_0.symm)) hy_L_step ws_L_step lk_L_37 dL_number_73 rfl ⟨Nat.le_of_ble_eq_true rfl, Nat.le_of_ble_eq_true rfl⟩ ⟨Nat.le_of_ble_eq_true rfl, Nat.le_of_ble_eq_true rfl⟩ (Nat.le_of_ble_eq_true rfl) rfl (k_0 rfl rfl (k_l (fun r_1 M_1 h_1 => ?_)))
      obtain ⟨e_1, fv, fm, HV, HN, H, h3, h4, fr⟩ := h_1
      subst e_1
      refine x_lreturn C Rt dL_number_76 ⟨Nat.le_of_ble_eq_true rfl, Nat.le_of_ble_eq_true rfl⟩ ?_
      exact ⟨_, rfl, rfl, T0, fv, fm, by omega, hz, X.kept (fr.mono (by decide) (by decide)), ho, HV, HN, H, h3, h4⟩
    | succ j ih =>
      intro T0 M1 hz ht X ho HV HN
      rw [dgr, dgs_c, ← List.singleton_append] at hz
      rw [show bt (j + 1) = 10 ^ j from rfl]
      obtain ⟨z_o, hO⟩ := X.obj
      have h10 := p10 (j := j) (by omega)
      have hdv : x / 10 ^ j ≤ x := Nat.div_le_self _ _
      have hdg : x / 10 ^ j % 10 < 10 := Nat.mod_lt _ (by decide)
      have hpl : (pA σ T0).2.2.2.length = σ.2.2.2.length + T0.length := pA_len
      refine x_iload_4 40 C dL_number_38 rfl ?_
      refine x_if_le 43 69 C dL_number_40 rfl rfl (fun z => absurd z ((nI_nle h10.1 (by omega)))) (fun _ => ?_)
      refine x_aload_0 44 C dL_number_43 rfl ?_
      refine x_bipush (v := 48) 46 C dL_number_44 rfl rfl ?_
      refine x_iload_3 47 C dL_number_46 rfl ?_
      refine x_iload_4 49 C dL_number_47 rfl ?_
      refine x_idiv 50 C dL_number_49 rfl (fun z => absurd ((nI_eq (b := 0) (by omega) (by decide)).mp z) (by omega)) ?_
      refine x_topi (v' := nI (x / 10 ^ j)) (pk_div (by omega) h10.1 (by omega)) ?_
      refine x_bipush (v := 10) 52 C dL_number_50 rfl rfl ?_
      refine x_irem 53 C dL_number_52 rfl (by decide) ?_
      refine x_topi (v' := nI (x / 10 ^ j % 10)) (pk_rem (d := 10) (by omega) (by decide) (by decide)) ?_
      refine x_iadd 54 C dL_number_53 rfl ?_
      refine x_topi (v' := nI (48 + x / 10 ^ j % 10)) (nI_add 48 _) ?_
      refine x_i2l 55 C dL_number_54 rfl ?_
      refine x_topl (v' := lN (48 + x / 10 ^ j % 10)) (nI_l (by omega)) ?_
      refine x_callV 58 C (c_put1 K _ X ho (48 + x / 10 ^ j % 10) (⟨by omega, by omega⟩) (by rw [pA_len]; omega)) hO wcl_X5 hy_X5_put wv_X5_put we_X5_put lk_L_31 dL_number_55 rfl ⟨Nat.le_of_ble_eq_true rfl, Nat.le_of_ble_eq_true rfl⟩ ⟨Nat.le_of_ble_eq_true rfl, Nat.le_of_ble_eq_true rfl⟩ (Nat.le_of_ble_eq_true rfl) rfl (k_0 rfl rfl (k_i (fun r_1 M_1 h_1 => ?_)))
      obtain ⟨X, ho, g_1⟩ := h_1
      obtain ⟨z_o, hO⟩ := X.obj
      have HV := g_1 _ _ _ (Or.inr (by decide)) HV
      have HN := g_1 _ _ _ (Or.inr (by decide)) HN
      have fr : hFr 100 102 M_1 M_1 := hFr.rf
      rw [pA_pA] at X ho
      refine x_pop 59 C dL_number_58 rfl rfl ?_
      refine x_iload_4 61 C dL_number_59 rfl ?_
      refine x_bipush (v := 10) 63 C dL_number_61 rfl rfl ?_
      refine x_idiv 64 C dL_number_63 rfl (by decide) ?_
      refine x_topi (v' := nI (bt j)) ((pk_div (d := 10) (by omega) (by decide) (by decide)).trans (by rw [bt_d])) ?_
      refine x_istore_4 66 C dL_number_64 rfl rfl ?_
      refine x_goto 38 C dL_number_66 rfl ?_
      exact ih (T0 ++ [48 + x / 10 ^ j % 10]) _ (by rw [List.append_assoc]; exact hz) (by rw [List.length_append, List.length_singleton]; omega) X ho HV HN
  refine x_iload_3 1 C dL_number_0 rfl ?_
  refine x_sipush (v := 999) 4 C dL_number_1 rfl rfl ?_
  refine x_icmp_le 7 13 C dL_number_4 rfl rfl (fun c_4 => ?_) (fun c_4 => ?_)
  · have h_4 : x ≤ 999 := (nI_leI (b := 999) (by omega) (by decide)).mp c_4
    refine x_iload_3 14 C dL_number_13 rfl ?_
    refine x_bipush (v := 99) 16 C dL_number_14 rfl rfl ?_
    refine x_icmp_le 19 24 C dL_number_16 rfl rfl (fun c_16 => ?_) (fun c_16 => ?_)
    · have h_16 : x ≤ 99 := (nI_leI (b := 99) (by omega) (by decide)).mp c_16
      refine x_iload_3 25 C dL_number_24 rfl ?_
      refine x_bipush (v := 9) 27 C dL_number_25 rfl rfl ?_
      refine x_icmp_le 30 35 C dL_number_27 rfl rfl (fun c_27 => ?_) (fun c_27 => ?_)
      · have h_27 : x ≤ 9 := (nI_leI (b := 9) (by omega) (by decide)).mp c_27
        refine x_iconst (v := 1) 36 C dL_number_35 rfl rfl ?_
        refine x_topi (v' := nI (bt 1)) rfl ?_
        refine x_istore_4 38 C dL_number_36 rfl rfl ?_
        exact lp 1 [] M (pz_num (j := 0) hx (by omega) (by omega)) (by show 0 + 1 ≤ w; omega) (by rw [pA_nil]; exact X) (by rw [pA_nil]; exact ho) HV HN
      · have h_27 : ¬ x ≤ 9 := fun z => c_27 ((nI_leI (b := 9) (by omega) (by decide)).mpr z)
        refine x_bipush (v := 10) 32 C dL_number_30 rfl rfl ?_
        refine x_goto 36 C dL_number_32 rfl ?_
        refine x_topi (v' := nI (bt 2)) rfl ?_
        refine x_istore_4 38 C dL_number_36 rfl rfl ?_
        exact lp 2 [] M (pz_num (j := 1) hx (by omega) (by omega)) (by show 0 + 2 ≤ w; omega) (by rw [pA_nil]; exact X) (by rw [pA_nil]; exact ho) HV HN
    · have h_16 : ¬ x ≤ 99 := fun z => c_16 ((nI_leI (b := 99) (by omega) (by decide)).mpr z)
      refine x_bipush (v := 100) 21 C dL_number_19 rfl rfl ?_
      refine x_goto 36 C dL_number_21 rfl ?_
      refine x_topi (v' := nI (bt 3)) rfl ?_
      refine x_istore_4 38 C dL_number_36 rfl rfl ?_
      exact lp 3 [] M (pz_num (j := 2) hx (by omega) (by omega)) (by show 0 + 3 ≤ w; omega) (by rw [pA_nil]; exact X) (by rw [pA_nil]; exact ho) HV HN
  · have h_4 : ¬ x ≤ 999 := fun z => c_4 ((nI_leI (b := 999) (by omega) (by decide)).mpr z)
    refine x_sipush (v := 1000) 10 C dL_number_7 rfl rfl ?_
    refine x_goto 36 C dL_number_10 rfl ?_
    refine x_topi (v' := nI (bt 4)) rfl ?_
    refine x_istore_4 38 C dL_number_36 rfl rfl ?_
    exact lp 4 [] M (pz_num (j := 3) hx (by omega) (by omega)) (by show 0 + 4 ≤ w; omega) (by rw [pA_nil]; exact X) (by rw [pA_nil]; exact ho) HV HN
theorem rkv_1 {τ : hS1} {x : Nat} {p : List Nat} : rkv τ (1, x) p = (τ.2.2.1 x : Int) := rfl
theorem sp_cell_ok {σ : hSt} {c : Nat} (hc : c < 8) : sp_cell σ (nI c) = lN (σ.1.2.2.1 c) := by rw [sp_cell, spQ_t (by rw [nI_toI (by omega)]; omega), nI_toN (by omega)]
theorem lMa_4 {τ : hS1} {L : List (Nat × Nat)} {fv : Nat → Int64} {fm : Nat → Int32} (H : lMa τ L fv fm) (v : Int32) : lMa τ L fv (va_up fm 4 v) := by
  refine ⟨by rw [va_up_ne _ _ (by decide)]; exact H.1, fun q => ?_, fun q => ?_, H.2.2.2⟩
  · rw [va_up_ne _ _ (by decide), va_up_ne _ _ (by decide)]; exact H.2.1 q
  · rw [va_up_ne _ _ (by decide), va_up_ne _ _ (by decide)]; exact H.2.2.1 q
theorem lMb_c {L : List (Nat × Nat)} {fm fm2 : Nat → Int32} {c : Nat} (h : lMb L fm) (h3 : fm2 3 = va_up fm 4 (fm 4 ||| 1 <<< (nI c &&& 31)) 3) (h4 : fm2 4 = va_up fm 4 (fm 4 ||| 1 <<< (nI c &&& 31)) 4) : lMb (L ++ [(1, c)]) fm2 := by
  refine ⟨?_, ?_⟩
  · rw [h3, va_up_ne _ _ (by decide), h.1, rO_1, if_neg (by show ¬ (1 = 113 ∨ 1 = 107); decide)]; rfl
  · rw [h4, va_up_self, h.2, cO_1, if_pos rfl]
set_option maxHeartbeats 4000000 in
set_option maxRecDepth 100000 in
theorem c_L_atom (K : hKv) (M : hM) {b L : Nat} {xs : Nat → Int32} (hL : L ≤ 260) {A : Nat → Nat} {σ : hSt} (X : cX K A σ M) (ho : okS σ) {V N : Nat} {fv : Nat → Int64} {fm : Nat → Int32} (HV : M V = some (100, eJ K 64 fv)) (HN : M N = some (101, eI K 5 fm)) (L1 : List (Nat × Nat)) (H : lMa σ.1 L1 fv fm) (HB : lMb L1 fm) (hl : L1.length < 60) (k n w : Nat) (hk : k ≤ 800) (hw : w = 4 ∧ n = 10000 ∨ w = 2 ∧ n = 100) (hpd : σ.2.2.2.length + w ≤ 60) : hCs K b L xs Y_L_atom rm_L_atom [.ref (A 36), .ref V, .ref N, .ref b, .int (nI k), .int (nI n)] M (hPl fun r M' => ∃ X1 T fv2 fm2, X1.length ≤ 1 ∧ T.length ≤ w ∧ on X1 ∧ pz X1 T ∧ cX K A (pA σ T) M' ∧ okS (pA σ T) ∧ M' V = some (100, eJ K 64 fv2) ∧ M' N = some (101, eI K 5 fm2) ∧ lMa σ.1 (L1 ++ X1) fv2 fm2 ∧ lMb (L1 ++ X1) fm2 ∧ r = lN (rvN σ.1 (L1 ++ X1))) := by
  refine hCs.of [some (.ref (A 36)), some (.ref V), some (.ref N), some (.ref b), some (.int (nI k)), some (.int (nI n)), none] (by decide) (Nat.le_of_ble_eq_true rfl) rfl rfl ?_
  intro E C Rt S
  have C : hCx E K cL_atom 7 RL "atom" rm_L_atom := C
  obtain ⟨z_o, hO⟩ := X.obj
  have fr : hFr 100 102 M M := hFr.rf
  refine x_aload_3 1 C dL_atom_0 rfl ?_
  refine x_iload_4 3 C dL_atom_1 rfl ?_
  refine x_iconst (v := 3) 4 C dL_atom_3 rfl rfl ?_
  refine x_callSs 7 C S (c_L_cell K _ hL (k) (3) (by omega) (by omega) (by omega)) hy_L_cell ws_L_cell lk_L_41 dL_atom_4 rfl ⟨Nat.le_of_ble_eq_true rfl, Nat.le_of_ble_eq_true rfl⟩ ⟨Nat.le_of_ble_eq_true rfl, Nat.le_of_ble_eq_true rfl⟩ (Nat.le_of_ble_eq_true rfl) rfl (k_0 rfl rfl (k_iq (fun r_u ⟨u, hu, eu⟩ => ?_)))
  subst eu
  refine x_if_ne 10 27 C dL_atom_7 rfl rfl (fun c_7 => ?_) (fun c_7 => ?_)
  · refine x_aload_3 28 C dL_atom_27 rfl ?_
    refine x_iload_4 30 C dL_atom_28 rfl ?_
    refine x_iconst (v := 1) 31 C dL_atom_30 rfl rfl ?_
    refine x_iadd 32 C dL_atom_31 rfl ?_
    refine x_topi (v' := nI (k + 1)) (nI_1 k) ?_
    refine x_bipush (v := 8) 34 C dL_atom_32 rfl rfl ?_
    refine x_callSs 37 C S (c_L_cell K _ hL (k + 1) (8) (by omega) (by omega) (by omega)) hy_L_cell ws_L_cell lk_L_41 dL_atom_34 rfl ⟨Nat.le_of_ble_eq_true rfl, Nat.le_of_ble_eq_true rfl⟩ ⟨Nat.le_of_ble_eq_true rfl, Nat.le_of_ble_eq_true rfl⟩ (Nat.le_of_ble_eq_true rfl) rfl (k_0 rfl rfl (k_iq (fun r_c ⟨c, hc, ec⟩ => ?_)))
    subst ec
    refine x_istore_6 39 C dL_atom_37 rfl rfl ?_
    have hcl : σ.1.2.2.1 c ≤ LG := ho.1.2.2.1 c hc
    unfold LG at hcl
    refine x_aload_0 40 C dL_atom_39 rfl ?_
    refine x_bipush (v := 65) 42 C dL_atom_40 rfl rfl ?_
    refine x_iload_6 44 C dL_atom_42 rfl ?_
    refine x_iadd 45 C dL_atom_44 rfl ?_
    refine x_topi (v' := nI (65 + c)) (nI_add 65 c) ?_
    refine x_i2l 46 C dL_atom_45 rfl ?_
    refine x_topl (v' := lN (65 + c)) (nI_l (by omega)) ?_
    refine x_callV 49 C (c_put1 K _ X ho (65 + c) (⟨by omega, by omega⟩) (by omega)) hO wcl_X5 hy_X5_put wv_X5_put we_X5_put lk_L_31 dL_atom_46 rfl ⟨Nat.le_of_ble_eq_true rfl, Nat.le_of_ble_eq_true rfl⟩ ⟨Nat.le_of_ble_eq_true rfl, Nat.le_of_ble_eq_true rfl⟩ (Nat.le_of_ble_eq_true rfl) rfl (k_0 rfl rfl (k_i (fun r_3 M_3 h_3 => ?_)))
    obtain ⟨X, ho, g_3⟩ := h_3
    obtain ⟨z_o, hO⟩ := X.obj
    have HV := g_3 _ _ _ (Or.inr (by decide)) HV
    have HN := g_3 _ _ _ (Or.inr (by decide)) HN
    have fr : hFr 100 102 M_3 M_3 := hFr.rf
    refine x_pop 50 C dL_atom_49 rfl rfl ?_
    refine x_aload_2 51 C dL_atom_50 rfl ?_
    refine x_iconst (v := 4) 52 C dL_atom_51 rfl rfl ?_
    refine x_dup2 53 C dL_atom_52 rfl rfl rfl ?_
    refine x_iald 54 (4) C HN (rfl) (by decide) (by decide) dL_atom_53 rfl ?_
    refine x_iconst (v := 1) 55 C dL_atom_54 rfl rfl ?_
    refine x_iload_6 57 C dL_atom_55 rfl ?_
    refine x_ishl 58 C dL_atom_57 rfl ?_
    refine x_ior 59 C dL_atom_58 rfl ?_
    refine x_iast 60 (4) C HN (rfl) (by decide) (by decide) dL_atom_59 rfl ?_
    refine x_up (fun M_4 g_4 o_4 e_4 => ?_)
    have fr := fr.tr (M2 := M_4) (by rw [e_4]; exact hFr.put HN (by omega))
    have hO := (o_4 _ (hT_ne hO HN (by omega))).trans hO
    have HV := (o_4 _ (hT_ne HV HN (by omega))).trans HV
    have HN := g_4
    refine x_aload_1 61 C dL_atom_60 rfl ?_
    refine x_aload_2 62 C dL_atom_61 rfl ?_
    refine x_aload_0 63 C dL_atom_62 rfl ?_
    refine x_iload_6 65 C dL_atom_63 rfl ?_
    refine x_callV 68 C (c_X5_cell K _ (X.kept (fr.mono (by decide) (by decide))) ho (nI c)) hO wcl_X5 hy_X5_cell wv_X5_cell we_X5_cell lk_L_49 dL_atom_65 rfl ⟨Nat.le_of_ble_eq_true rfl, Nat.le_of_ble_eq_true rfl⟩ ⟨Nat.le_of_ble_eq_true rfl, Nat.le_of_ble_eq_true rfl⟩ (Nat.le_of_ble_eq_true rfl) rfl (k_0 rfl rfl (k_lp ?_))
    refine x_topl (v' := lI (σ.1.2.2.1 c : Int)) ((sp_cell_ok hc).trans (lN_lI _)) ?_
    refine x_callS 71 C (c_L_step K _ HV HN σ.1 L1 (1, c) hl (lMa_4 H _) (σ.1.2.2.1 c : Int) ⟨by omega, by omega⟩ (fun _ => rkv_1.symm)) hy_L_step ws_L_step lk_L_37 dL_atom_68 rfl ⟨Nat.le_of_ble_eq_true rfl, Nat.le_of_ble_eq_true rfl⟩ ⟨Nat.le_of_ble_eq_true rfl, Nat.le_of_ble_eq_true rfl⟩ (Nat.le_of_ble_eq_true rfl) rfl (k_0 rfl rfl (k_l (fun r_5 M_5 h_5 => ?_)))
    obtain ⟨e_5, fv2, fm2, HV, HN, H, h3, h4, f_s⟩ := h_5
    subst e_5
    refine x_lreturn C Rt dL_atom_71 ⟨Nat.le_of_ble_eq_true rfl, Nat.le_of_ble_eq_true rfl⟩ ?_
    exact ⟨_, rfl, [(1, c)], [65 + c], fv2, fm2, Nat.le_refl _, (by show 1 ≤ w; omega), on_leaf (by decide), pz_cell hc, X.kept ((fr.tr f_s).mono (by decide) (by decide)), ho, HV, HN, H, lMb_c HB h3 h4, rfl⟩
  · refine x_aload_0 11 C dL_atom_10 rfl ?_
    refine x_aload_1 12 C dL_atom_11 rfl ?_
    refine x_aload_2 13 C dL_atom_12 rfl ?_
    refine x_aload_3 14 C dL_atom_13 rfl ?_
    refine x_iload_4 16 C dL_atom_14 rfl ?_
    refine x_iconst (v := 1) 17 C dL_atom_16 rfl rfl ?_
    refine x_iadd 18 C dL_atom_17 rfl ?_
    refine x_topi (v' := nI (k + 1)) (nI_1 k) ?_
    refine x_iload_5 20 C dL_atom_18 rfl ?_
    refine x_callSs 23 C S (c_L_cell K _ hL (k + 1) (n) (by omega) (by omega) (by omega)) hy_L_cell ws_L_cell lk_L_41 dL_atom_20 rfl ⟨Nat.le_of_ble_eq_true rfl, Nat.le_of_ble_eq_true rfl⟩ ⟨Nat.le_of_ble_eq_true rfl, Nat.le_of_ble_eq_true rfl⟩ (Nat.le_of_ble_eq_true rfl) rfl (k_0 rfl rfl (k_iq (fun r_x ⟨x, hx, ex⟩ => ?_)))
    subst ex
    refine x_callS 26 C (c_L_number K _ X ho HV HN L1 hl H x w (by omega) (by omega) hpd) hy_L_number ws_L_number lk_L_45 dL_atom_23 rfl ⟨Nat.le_of_ble_eq_true rfl, Nat.le_of_ble_eq_true rfl⟩ ⟨Nat.le_of_ble_eq_true rfl, Nat.le_of_ble_eq_true rfl⟩ (Nat.le_of_ble_eq_true rfl) rfl (k_0 rfl rfl (k_l (fun r_7 M_7 h_7 => ?_)))
    obtain ⟨e_7, T, fv, fm2, hT, hz, X, ho, HV, HN, H, h3, h4⟩ := h_7
    subst e_7
    refine x_lreturn C Rt dL_atom_26 ⟨Nat.le_of_ble_eq_true rfl, Nat.le_of_ble_eq_true rfl⟩ ?_
    exact ⟨_, rfl, [(0, x)], T, fv, fm2, Nat.le_refl _, hT, on_leaf (by decide), hz, X, ho, HV, HN, H, lMb_o HB (by decide) h3 h4, rfl⟩
