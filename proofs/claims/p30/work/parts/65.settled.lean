/-! a formula is settled, beside the same assignments one by one -/
theorem stl_a {c d : Nat} {L : List (Nat × Nat)} {τ : hS1} (h : ¬ (rkR τ L).2 = 0) : stl c L (d + 1) τ = (0, τ) := by rw [stl, if_pos h]
theorem stl_b {c d : Nat} {L : List (Nat × Nat)} {τ : hS1} (h : (rkR τ L).2 = 0) (h2 : lastV (rkR τ L) = τ.2.2.1 c) : stl c L (d + 1) τ = (1, τ) := by rw [stl, if_neg (fun q => q h), if_pos h2]
theorem stl_c {c d : Nat} {L : List (Nat × Nat)} {τ : hS1} (h : (rkR τ L).2 = 0) (h2 : ¬ lastV (rkR τ L) = τ.2.2.1 c) : stl c L (d + 1) τ = ((stl c L d (τ.1, τ.2.1, va_up τ.2.2.1 c (lastV (rkR τ L)), τ.2.2.2)).1 + 1, (stl c L d (τ.1, τ.2.1, va_up τ.2.2.1 c (lastV (rkR τ L)), τ.2.2.2)).2) := by rw [stl, if_neg (fun q => q h), if_neg h2]
theorem stl_le {c : Nat} {L : List (Nat × Nat)} : ∀ (d : Nat) (τ : hS1), (stl c L d τ).1 ≤ d
  | 0, _ => Nat.le_refl _
  | d + 1, τ => by
    by_cases h : (rkR τ L).2 = 0
    · by_cases h2 : lastV (rkR τ L) = τ.2.2.1 c
      · rw [stl_b h h2]; show 1 ≤ d + 1; omega
      · rw [stl_c h h2]; exact Nat.succ_le_succ (stl_le d _)
    · rw [stl_a h]; exact Nat.zero_le _
theorem st_n {σ : hSt} {c f n : Nat} (h6 : f < 6) (hL : σ.1.2.2.2 f = []) : sp_settle σ (nI c) (nI f) (nI n) = (-1, σ) := by rw [sp_settle, spQ_f (fun q => f_no h6 hL q.2)]
theorem st_y {σ : hSt} {c f n : Nat} {L : List (Nat × Nat)} (hc : c < 8) (h6 : f < 6) (hn : 1 ≤ n ∧ n ≤ 100) (hL : σ.1.2.2.2 f = L) (hne : L ≠ []) : sp_settle σ (nI c) (nI f) (nI n) = (nI (stl c L n σ.1).1, recd σ (stl c L n σ.1).2) := by
  obtain ⟨h1, h2, h3⟩ := f_ok h6 hL hne
  rw [sp_settle, spQ_t ⟨by rw [nI_toI (by omega)]; omega, h1⟩, spQ_t (by rw [nI_toI (by omega)]; omega), h2, nI_toN (by omega), nI_toN (by omega)]
def sV (σ : hSt) : hSt := (σ.1, σ.2.1, va_up σ.2.2.1 0 (some σ.1), σ.2.2.2)
theorem sv_1 {σ : hSt} : sp_save σ 0 = (fset σ.1, sV σ) := by rw [sp_save, spQ_t (by decide)]; rfl
theorem rs_1 {σ : hSt} {τ : hS1} (h : σ.2.2.1 0 = some τ) : sp_restore σ 0 = (fset τ, recd σ τ) := by
  rw [sp_restore, spQ_t (by decide), show (0 : Int32).toInt.toNat = 0 from rfl, h]
set_option maxHeartbeats 4000000 in
set_option maxRecDepth 100000 in
theorem c_L_isSettled (K : hKv) (M : hM) {A : Nat → Nat} {σ : hSt} (X : cX K A σ M) (ho : okS σ) (c f n : Nat) (hc : c < 8) (h6 : f < 6) (h1n : 1 ≤ n) (hn20 : n ≤ 20) : hC K Y_L_isSettled rm_L_isSettled [.ref (A 36), .int (nI c), .int (nI f), .int (nI n)] M (hPi fun r M' => r = 1 ∧ ∃ σ2, cX K A σ2 M' ∧ okS σ2 ∧ hFr 1 100 M M') := by
  refine hC.of [some (.ref (A 36)), some (.int (nI c)), some (.int (nI f)), some (.int (nI n)), none, none, none, none, none, none, none, none, none] (by decide) (Nat.le_of_ble_eq_true rfl) rfl rfl ?_
  intro E C Rt
  have C : hCx E K cL_isSettled 13 RL "isSettled" rm_L_isSettled := C
  obtain ⟨z_o, hO⟩ := X.obj
  have fr : hFr 1 100 M M := hFr.rf
  by_cases hL : σ.1.2.2.2 f = []
  · skip
    refine x_aload_0 1 C dL_isSettled_0 rfl ?_
    refine x_iconst (v := 0) 2 C dL_isSettled_1 rfl rfl ?_
    refine x_callV 5 C (c_X5_count K _ X ho 0) hO wcl_X5 hy_X5_count wv_X5_count we_X5_count lk_L_74 dL_isSettled_2 rfl ⟨Nat.le_of_ble_eq_true rfl, Nat.le_of_ble_eq_true rfl⟩ ⟨Nat.le_of_ble_eq_true rfl, Nat.le_of_ble_eq_true rfl⟩ (Nat.le_of_ble_eq_true rfl) rfl (k_0 rfl rfl (k_ip ?_))
    refine x_topi (v' := fset σ.1) sp_count0 ?_
    refine x_iload_2 6 C dL_isSettled_5 rfl ?_
    refine x_ishr 7 C dL_isSettled_6 rfl ?_
    refine x_iconst (v := 1) 8 C dL_isSettled_7 rfl rfl ?_
    refine x_iand 9 C dL_isSettled_8 rfl ?_
    refine x_topi (fb_n h6 hL) ?_
    refine x_if_ne 12 29 C dL_isSettled_9 rfl rfl (fun z => absurd (rfl) z) (fun _ => ?_)
    refine x_aload_0 13 C dL_isSettled_12 rfl ?_
    refine x_iload_1 14 C dL_isSettled_13 rfl ?_
    refine x_iload_2 15 C dL_isSettled_14 rfl ?_
    refine x_iload_3 16 C dL_isSettled_15 rfl ?_
    refine x_callV 19 C (c_X5_settle K _ X ho (nI c) (nI f) (nI n)) hO wcl_X5 hy_X5_settle wv_X5_settle we_X5_settle lk_L_115 dL_isSettled_16 rfl ⟨Nat.le_of_ble_eq_true rfl, Nat.le_of_ble_eq_true rfl⟩ ⟨Nat.le_of_ble_eq_true rfl, Nat.le_of_ble_eq_true rfl⟩ (Nat.le_of_ble_eq_true rfl) rfl (k_0 rfl rfl (k_i (fun r_1 M_1 h_1 => ?_)))
    obtain ⟨e_1, X, g_1⟩ := h_1
    have ho := okS_settle ho (nI c) (nI f) (nI n)
    rw [st_n h6 hL] at e_1 X ho
    dsimp only at e_1 X ho
    subst e_1
    have fr := fr.tr g_1
    obtain ⟨z_o, hO⟩ := X.obj
    refine x_iconst (v := (-1)) 20 C dL_isSettled_19 rfl rfl ?_
    refine x_icmp_ne 23 27 C dL_isSettled_20 rfl rfl (fun z => absurd (rfl) z) (fun _ => ?_)
    refine x_iconst (v := 1) 24 C dL_isSettled_23 rfl rfl ?_
    refine x_goto 28 C dL_isSettled_24 rfl ?_
    refine x_ireturn C Rt dL_isSettled_28 rfl ⟨Nat.le_of_ble_eq_true rfl, Nat.le_of_ble_eq_true rfl⟩ ?_
    exact ⟨_, rfl, rfl, _, X, ho, fr⟩
  · have hne := hL
    have e140 : ∀ (j : Nat) (σj : hSt) (M1 : hM) (m8 m9 m11 : Option Value), cX K A σj M1 → okS σj → hFr 1 100 M M1 → (stl c (σ.1.2.2.2 f) n σ.1).1 = j → σj.1.2.2.1 c = (stl c (σ.1.2.2.2 f) n σ.1).2.2.2.1 c → hX E (0 + rm_X5_save.cells) (0 + rm_X5_save.slots) 140 [some (.ref (A 36)), some (.int (nI c)), some (.int (nI f)), some (.int (nI n)), some (.int (nI (stl c (σ.1.2.2.2 f) n σ.1).1)), some (.long (lN ((stl c (σ.1.2.2.2 f) n σ.1).2.2.2.1 c))), none, some (.int (nI j)), m8, m9, none, m11, none] [] M1 := by
      intro j σj M1 m8 m9 m11 X ho fr hj hcl
      obtain ⟨z_o, hO⟩ := X.obj
      refine x_iload_7 142 C dL_isSettled_140 rfl ?_
      refine x_iload_4 144 C dL_isSettled_142 rfl ?_
      refine x_icmp_ne 147 162 C dL_isSettled_144 rfl rfl (fun z => absurd ((by rw [hj])) z) (fun _ => ?_)
      refine x_aload_0 148 C dL_isSettled_147 rfl ?_
      refine x_iload_1 149 C dL_isSettled_148 rfl ?_
      refine x_callV 152 C (c_X5_cell K _ X ho (nI c)) hO wcl_X5 hy_X5_cell wv_X5_cell we_X5_cell lk_L_49 dL_isSettled_149 rfl ⟨Nat.le_of_ble_eq_true rfl, Nat.le_of_ble_eq_true rfl⟩ ⟨Nat.le_of_ble_eq_true rfl, Nat.le_of_ble_eq_true rfl⟩ (Nat.le_of_ble_eq_true rfl) rfl (k_0 rfl rfl (k_lp ?_))
      refine x_topl (v' := lN (σj.1.2.2.1 c)) ((sp_cell_ok hc).trans (rfl)) ?_
      refine x_lload_5 154 C dL_isSettled_152 rfl ?_
      refine x_lc_ne 158 162 C dL_isSettled_154 dL_isSettled_155 rfl rfl (fun z => absurd ((by rw [hcl])) z) (fun _ => ?_)
      refine x_iconst (v := 1) 159 C dL_isSettled_158 rfl rfl ?_
      refine x_goto 163 C dL_isSettled_159 rfl ?_
      refine x_ireturn C Rt dL_isSettled_163 rfl ⟨Nat.le_of_ble_eq_true rfl, Nat.le_of_ble_eq_true rfl⟩ ?_
      exact ⟨_, rfl, rfl, _, X, ho, fr⟩
    have lp : ∀ (d j : Nat) (σj : hSt) (M1 : hM) (m9 m11 : Option Value), j + d = n → cX K A σj M1 → okS σj → hFr 1 100 M M1 → σj.1.2.2.2 f = σ.1.2.2.2 f → (stl c (σ.1.2.2.2 f) n σ.1).1 = j + (stl c (σ.1.2.2.2 f) d σj.1).1 → (stl c (σ.1.2.2.2 f) n σ.1).2 = (stl c (σ.1.2.2.2 f) d σj.1).2 → hX E (0 + rm_X5_save.cells) (0 + rm_X5_save.slots) 72 [some (.ref (A 36)), some (.int (nI c)), some (.int (nI f)), some (.int (nI n)), some (.int (nI (stl c (σ.1.2.2.2 f) n σ.1).1)), some (.long (lN ((stl c (σ.1.2.2.2 f) n σ.1).2.2.2.1 c))), none, some (.int (nI j)), (some (.int 1)), m9, none, m11, none] [] M1 := by
      intro d
      induction d with
      | zero =>
        intro j σj M1 m9 m11 hjd X ho fr hLj h1 h2
        refine x_iload_8 74 C dL_isSettled_72 rfl ?_
        refine x_if_eq 77 140 C dL_isSettled_74 rfl rfl (fun z => absurd z ((by decide))) (fun _ => ?_)
        refine x_iload_7 79 C dL_isSettled_77 rfl ?_
        refine x_iload_3 80 C dL_isSettled_79 rfl ?_
        refine x_icmp_ge 83 140 C dL_isSettled_80 rfl rfl (fun _ => ?_) (fun z => absurd ((nI_le (by omega) (by omega))) z)
        exact e140 j σj M1 _ _ _ X ho fr h1 (by rw [h2]; rfl)
      | succ d ih =>
        intro j σj M1 m9 m11 hjd X ho fr hLj h1 h2
        have hjn : j < n := by omega
        have ho0 := ho
        obtain ⟨z_o, hO⟩ := X.obj
        by_cases hR : (rkR σj.1 (σ.1.2.2.2 f)).2 = 0
        · by_cases hv : lastV (rkR σj.1 (σ.1.2.2.2 f)) = σj.1.2.2.1 c
          · skip
            refine x_iload_8 74 C dL_isSettled_72 rfl ?_
            refine x_if_eq 77 140 C dL_isSettled_74 rfl rfl (fun z => absurd z ((by decide))) (fun _ => ?_)
            refine x_iload_7 79 C dL_isSettled_77 rfl ?_
            refine x_iload_3 80 C dL_isSettled_79 rfl ?_
            refine x_icmp_ge 83 140 C dL_isSettled_80 rfl rfl (fun z => absurd z ((Int32.not_le.mpr ((nI_ltI (by omega) (by omega)).mpr hjn)))) (fun _ => ?_)
            refine x_aload_0 84 C dL_isSettled_83 rfl ?_
            refine x_iload_1 85 C dL_isSettled_84 rfl ?_
            refine x_callV 88 C (c_X5_cell K _ X ho (nI c)) hO wcl_X5 hy_X5_cell wv_X5_cell we_X5_cell lk_L_49 dL_isSettled_85 rfl ⟨Nat.le_of_ble_eq_true rfl, Nat.le_of_ble_eq_true rfl⟩ ⟨Nat.le_of_ble_eq_true rfl, Nat.le_of_ble_eq_true rfl⟩ (Nat.le_of_ble_eq_true rfl) rfl (k_0 rfl rfl (k_lp ?_))
            refine x_topl (v' := lN (σj.1.2.2.1 c)) ((sp_cell_ok hc).trans (rfl)) ?_
            refine x_lstore_9 90 C dL_isSettled_88 rfl rfl ?_
            refine x_aload_0 91 C dL_isSettled_90 rfl ?_
            refine x_iload_1 92 C dL_isSettled_91 rfl ?_
            refine x_iload_2 93 C dL_isSettled_92 rfl ?_
            refine x_callV 96 C (c_X5_assign K _ X ho (nI c) (nI f)) hO wcl_X5 hy_X5_assign wv_X5_assign we_X5_assign lk_L_112 dL_isSettled_93 rfl ⟨Nat.le_of_ble_eq_true rfl, Nat.le_of_ble_eq_true rfl⟩ ⟨Nat.le_of_ble_eq_true rfl, Nat.le_of_ble_eq_true rfl⟩ (Nat.le_of_ble_eq_true rfl) rfl (k_0 rfl rfl (k_l (fun r_1 M_1 h_1 => ?_)))
            obtain ⟨e_1, X, g_1⟩ := h_1
            have ho := okS_assign ho (nI c) (nI f)
            rw [as_0 hc h6 hLj hne hR] at e_1 X ho
            dsimp only at e_1 X ho
            subst e_1
            have fr := fr.tr g_1
            obtain ⟨z_o, hO⟩ := X.obj
            refine x_lstore_11 98 C dL_isSettled_96 rfl rfl ?_
            refine x_iload_7 100 C dL_isSettled_98 rfl ?_
            refine x_lload_11 102 C dL_isSettled_100 rfl ?_
            refine x_lconst (v := 0) 103 C dL_isSettled_102 rfl rfl ?_
            refine x_lc_ge 107 111 C dL_isSettled_103 dL_isSettled_104 rfl rfl (fun _ => ?_) (fun z => absurd ((nn_L lastV_bd)) z)
            refine x_iconst (v := 1) 112 C dL_isSettled_111 rfl rfl ?_
            refine x_iadd 113 C dL_isSettled_112 rfl ?_
            refine x_topi (v' := nI (j + 1)) (nI_1 j) ?_
            refine x_istore_7 115 C dL_isSettled_113 rfl rfl ?_
            refine x_lload_11 117 C dL_isSettled_115 rfl ?_
            refine x_lconst (v := 0) 118 C dL_isSettled_117 rfl rfl ?_
            refine x_lc_lt 122 134 C dL_isSettled_118 dL_isSettled_119 rfl rfl (fun z => absurd z ((Int64.not_lt.mpr (nn_L lastV_bd)))) (fun _ => ?_)
            refine x_lload_11 124 C dL_isSettled_122 rfl ?_
            refine x_lload_9 126 C dL_isSettled_124 rfl ?_
            refine x_lc_eq 130 134 C dL_isSettled_126 dL_isSettled_127 rfl rfl (fun _ => ?_) (fun z => absurd ((congrArg lN hv)) z)
            refine x_iconst (v := 0) 135 C dL_isSettled_134 rfl rfl ?_
            refine x_istore_8 137 C dL_isSettled_135 rfl rfl ?_
            refine x_goto 72 C dL_isSettled_137 rfl ?_
            refine x_iload_8 74 C dL_isSettled_72 rfl ?_
            refine x_if_eq 77 140 C dL_isSettled_74 rfl rfl (fun _ => ?_) (fun z => absurd (rfl) z)
            exact e140 (j + 1) _ _ _ _ _ X ho fr (by rw [stl_b hR hv] at h1; exact h1) (by rw [stl_b hR hv] at h2; rw [h2]; exact (va_up_self _ _ _).trans hv)
          · skip
            refine x_iload_8 74 C dL_isSettled_72 rfl ?_
            refine x_if_eq 77 140 C dL_isSettled_74 rfl rfl (fun z => absurd z ((by decide))) (fun _ => ?_)
            refine x_iload_7 79 C dL_isSettled_77 rfl ?_
            refine x_iload_3 80 C dL_isSettled_79 rfl ?_
            refine x_icmp_ge 83 140 C dL_isSettled_80 rfl rfl (fun z => absurd z ((Int32.not_le.mpr ((nI_ltI (by omega) (by omega)).mpr hjn)))) (fun _ => ?_)
            refine x_aload_0 84 C dL_isSettled_83 rfl ?_
            refine x_iload_1 85 C dL_isSettled_84 rfl ?_
            refine x_callV 88 C (c_X5_cell K _ X ho (nI c)) hO wcl_X5 hy_X5_cell wv_X5_cell we_X5_cell lk_L_49 dL_isSettled_85 rfl ⟨Nat.le_of_ble_eq_true rfl, Nat.le_of_ble_eq_true rfl⟩ ⟨Nat.le_of_ble_eq_true rfl, Nat.le_of_ble_eq_true rfl⟩ (Nat.le_of_ble_eq_true rfl) rfl (k_0 rfl rfl (k_lp ?_))
            refine x_topl (v' := lN (σj.1.2.2.1 c)) ((sp_cell_ok hc).trans (rfl)) ?_
            refine x_lstore_9 90 C dL_isSettled_88 rfl rfl ?_
            refine x_aload_0 91 C dL_isSettled_90 rfl ?_
            refine x_iload_1 92 C dL_isSettled_91 rfl ?_
            refine x_iload_2 93 C dL_isSettled_92 rfl ?_
            refine x_callV 96 C (c_X5_assign K _ X ho (nI c) (nI f)) hO wcl_X5 hy_X5_assign wv_X5_assign we_X5_assign lk_L_112 dL_isSettled_93 rfl ⟨Nat.le_of_ble_eq_true rfl, Nat.le_of_ble_eq_true rfl⟩ ⟨Nat.le_of_ble_eq_true rfl, Nat.le_of_ble_eq_true rfl⟩ (Nat.le_of_ble_eq_true rfl) rfl (k_0 rfl rfl (k_l (fun r_1 M_1 h_1 => ?_)))
            obtain ⟨e_1, X, g_1⟩ := h_1
            have ho := okS_assign ho (nI c) (nI f)
            rw [as_0 hc h6 hLj hne hR] at e_1 X ho
            dsimp only at e_1 X ho
            subst e_1
            have fr := fr.tr g_1
            obtain ⟨z_o, hO⟩ := X.obj
            refine x_lstore_11 98 C dL_isSettled_96 rfl rfl ?_
            refine x_iload_7 100 C dL_isSettled_98 rfl ?_
            refine x_lload_11 102 C dL_isSettled_100 rfl ?_
            refine x_lconst (v := 0) 103 C dL_isSettled_102 rfl rfl ?_
            refine x_lc_ge 107 111 C dL_isSettled_103 dL_isSettled_104 rfl rfl (fun _ => ?_) (fun z => absurd ((nn_L lastV_bd)) z)
            refine x_iconst (v := 1) 112 C dL_isSettled_111 rfl rfl ?_
            refine x_iadd 113 C dL_isSettled_112 rfl ?_
            refine x_topi (v' := nI (j + 1)) (nI_1 j) ?_
            refine x_istore_7 115 C dL_isSettled_113 rfl rfl ?_
            refine x_lload_11 117 C dL_isSettled_115 rfl ?_
            refine x_lconst (v := 0) 118 C dL_isSettled_117 rfl rfl ?_
            refine x_lc_lt 122 134 C dL_isSettled_118 dL_isSettled_119 rfl rfl (fun z => absurd z ((Int64.not_lt.mpr (nn_L lastV_bd)))) (fun _ => ?_)
            refine x_lload_11 124 C dL_isSettled_122 rfl ?_
            refine x_lload_9 126 C dL_isSettled_124 rfl ?_
            refine x_lc_eq 130 134 C dL_isSettled_126 dL_isSettled_127 rfl rfl (fun z => absurd z ((fun z => hv ((lN_eq' (by have := lastV_bd (τ := σj.1) (L := σ.1.2.2.2 f); unfold LG at this; omega) (by have := ho0.1.2.2.1 c hc; unfold LG at this; omega)).mp z)))) (fun _ => ?_)
            refine x_iconst (v := 1) 131 C dL_isSettled_130 rfl rfl ?_
            refine x_goto 135 C dL_isSettled_131 rfl ?_
            refine x_istore_8 137 C dL_isSettled_135 rfl rfl ?_
            refine x_goto 72 C dL_isSettled_137 rfl ?_
            exact ih (j + 1) _ _ _ _ (by omega) X ho fr hLj (by rw [stl_c hR hv] at h1; rw [h1]; show j + (_ + 1) = j + 1 + _; rw [Nat.add_assoc, Nat.add_comm 1]; rfl) (by rw [stl_c hR hv] at h2; exact h2)
        · skip
          refine x_iload_8 74 C dL_isSettled_72 rfl ?_
          refine x_if_eq 77 140 C dL_isSettled_74 rfl rfl (fun z => absurd z ((by decide))) (fun _ => ?_)
          refine x_iload_7 79 C dL_isSettled_77 rfl ?_
          refine x_iload_3 80 C dL_isSettled_79 rfl ?_
          refine x_icmp_ge 83 140 C dL_isSettled_80 rfl rfl (fun z => absurd z ((Int32.not_le.mpr ((nI_ltI (by omega) (by omega)).mpr hjn)))) (fun _ => ?_)
          refine x_aload_0 84 C dL_isSettled_83 rfl ?_
          refine x_iload_1 85 C dL_isSettled_84 rfl ?_
          refine x_callV 88 C (c_X5_cell K _ X ho (nI c)) hO wcl_X5 hy_X5_cell wv_X5_cell we_X5_cell lk_L_49 dL_isSettled_85 rfl ⟨Nat.le_of_ble_eq_true rfl, Nat.le_of_ble_eq_true rfl⟩ ⟨Nat.le_of_ble_eq_true rfl, Nat.le_of_ble_eq_true rfl⟩ (Nat.le_of_ble_eq_true rfl) rfl (k_0 rfl rfl (k_lp ?_))
          refine x_topl (v' := lN (σj.1.2.2.1 c)) ((sp_cell_ok hc).trans (rfl)) ?_
          refine x_lstore_9 90 C dL_isSettled_88 rfl rfl ?_
          refine x_aload_0 91 C dL_isSettled_90 rfl ?_
          refine x_iload_1 92 C dL_isSettled_91 rfl ?_
          refine x_iload_2 93 C dL_isSettled_92 rfl ?_
          refine x_callV 96 C (c_X5_assign K _ X ho (nI c) (nI f)) hO wcl_X5 hy_X5_assign wv_X5_assign we_X5_assign lk_L_112 dL_isSettled_93 rfl ⟨Nat.le_of_ble_eq_true rfl, Nat.le_of_ble_eq_true rfl⟩ ⟨Nat.le_of_ble_eq_true rfl, Nat.le_of_ble_eq_true rfl⟩ (Nat.le_of_ble_eq_true rfl) rfl (k_0 rfl rfl (k_l (fun r_1 M_1 h_1 => ?_)))
          obtain ⟨e_1, X, g_1⟩ := h_1
          have ho := okS_assign ho (nI c) (nI f)
          rw [as_1 hc h6 hLj hne hR] at e_1 X ho
          dsimp only at e_1 X ho
          subst e_1
          have fr := fr.tr g_1
          obtain ⟨z_o, hO⟩ := X.obj
          refine x_lstore_11 98 C dL_isSettled_96 rfl rfl ?_
          refine x_iload_7 100 C dL_isSettled_98 rfl ?_
          refine x_lload_11 102 C dL_isSettled_100 rfl ?_
          refine x_lconst (v := 0) 103 C dL_isSettled_102 rfl rfl ?_
          refine x_lc_ge 107 111 C dL_isSettled_103 dL_isSettled_104 rfl rfl (fun z => absurd z ((by decide))) (fun _ => ?_)
          refine x_iconst (v := 0) 108 C dL_isSettled_107 rfl rfl ?_
          refine x_goto 112 C dL_isSettled_108 rfl ?_
          refine x_iadd 113 C dL_isSettled_112 rfl ?_
          refine x_topi (v' := nI j) (Int32.add_zero _) ?_
          refine x_istore_7 115 C dL_isSettled_113 rfl rfl ?_
          refine x_lload_11 117 C dL_isSettled_115 rfl ?_
          refine x_lconst (v := 0) 118 C dL_isSettled_117 rfl rfl ?_
          refine x_lc_lt 122 134 C dL_isSettled_118 dL_isSettled_119 rfl rfl (fun _ => ?_) (fun z => absurd ((by decide)) z)
          refine x_iconst (v := 0) 135 C dL_isSettled_134 rfl rfl ?_
          refine x_istore_8 137 C dL_isSettled_135 rfl rfl ?_
          refine x_goto 72 C dL_isSettled_137 rfl ?_
          refine x_iload_8 74 C dL_isSettled_72 rfl ?_
          refine x_if_eq 77 140 C dL_isSettled_74 rfl rfl (fun _ => ?_) (fun z => absurd (rfl) z)
          exact e140 j _ _ _ _ _ X ho fr (by rw [stl_a hR] at h1; exact h1) (by rw [stl_a hR] at h2; rw [h2])
    refine x_aload_0 1 C dL_isSettled_0 rfl ?_
    refine x_iconst (v := 0) 2 C dL_isSettled_1 rfl rfl ?_
    refine x_callV 5 C (c_X5_count K _ X ho 0) hO wcl_X5 hy_X5_count wv_X5_count we_X5_count lk_L_74 dL_isSettled_2 rfl ⟨Nat.le_of_ble_eq_true rfl, Nat.le_of_ble_eq_true rfl⟩ ⟨Nat.le_of_ble_eq_true rfl, Nat.le_of_ble_eq_true rfl⟩ (Nat.le_of_ble_eq_true rfl) rfl (k_0 rfl rfl (k_ip ?_))
    refine x_topi (v' := fset σ.1) sp_count0 ?_
    refine x_iload_2 6 C dL_isSettled_5 rfl ?_
    refine x_ishr 7 C dL_isSettled_6 rfl ?_
    refine x_iconst (v := 1) 8 C dL_isSettled_7 rfl rfl ?_
    refine x_iand 9 C dL_isSettled_8 rfl ?_
    refine x_topi (fb_y h6 rfl hL) ?_
    refine x_if_ne 12 29 C dL_isSettled_9 rfl rfl (fun _ => ?_) (fun z => absurd z ((by decide)))
    refine x_aload_0 30 C dL_isSettled_29 rfl ?_
    refine x_iconst (v := 0) 31 C dL_isSettled_30 rfl rfl ?_
    refine x_callV 34 C (c_X5_save K _ X ho 0) hO wcl_X5 hy_X5_save wv_X5_save we_X5_save lk_L_119 dL_isSettled_31 rfl ⟨Nat.le_of_ble_eq_true rfl, Nat.le_of_ble_eq_true rfl⟩ ⟨Nat.le_of_ble_eq_true rfl, Nat.le_of_ble_eq_true rfl⟩ (Nat.le_of_ble_eq_true rfl) rfl (k_i (fun r_1 M_1 h_1 => ?_))
    obtain ⟨e_1, X, g_1⟩ := h_1
    have ho := okS_save ho 0
    rw [sv_1] at e_1 X ho
    dsimp only at e_1 X ho
    subst e_1
    have fr := fr.tr g_1
    obtain ⟨z_o, hO⟩ := X.obj
    refine x_pop 35 C dL_isSettled_34 rfl rfl ?_
    refine x_aload_0 36 C dL_isSettled_35 rfl ?_
    refine x_iload_1 37 C dL_isSettled_36 rfl ?_
    refine x_iload_2 38 C dL_isSettled_37 rfl ?_
    refine x_iload_3 39 C dL_isSettled_38 rfl ?_
    refine x_callV 42 C (c_X5_settle K _ X ho (nI c) (nI f) (nI n)) hO wcl_X5 hy_X5_settle wv_X5_settle we_X5_settle lk_L_115 dL_isSettled_39 rfl ⟨Nat.le_of_ble_eq_true rfl, Nat.le_of_ble_eq_true rfl⟩ ⟨Nat.le_of_ble_eq_true rfl, Nat.le_of_ble_eq_true rfl⟩ (Nat.le_of_ble_eq_true rfl) rfl (k_0 rfl rfl (k_i (fun r_2 M_2 h_2 => ?_)))
    obtain ⟨e_2, X, g_2⟩ := h_2
    have ho := okS_settle ho (nI c) (nI f) (nI n)
    rw [st_y (σ := sV σ) (L := σ.1.2.2.2 f) hc h6 ⟨h1n, by omega⟩ rfl hL] at e_2 X ho
    dsimp only at e_2 X ho
    subst e_2
    have fr := fr.tr g_2
    obtain ⟨z_o, hO⟩ := X.obj
    refine x_istore_4 44 C dL_isSettled_42 rfl rfl ?_
    refine x_aload_0 45 C dL_isSettled_44 rfl ?_
    refine x_iload_1 46 C dL_isSettled_45 rfl ?_
    refine x_callV 49 C (c_X5_cell K _ X ho (nI c)) hO wcl_X5 hy_X5_cell wv_X5_cell we_X5_cell lk_L_49 dL_isSettled_46 rfl ⟨Nat.le_of_ble_eq_true rfl, Nat.le_of_ble_eq_true rfl⟩ ⟨Nat.le_of_ble_eq_true rfl, Nat.le_of_ble_eq_true rfl⟩ (Nat.le_of_ble_eq_true rfl) rfl (k_0 rfl rfl (k_lp ?_))
    refine x_topl (v' := lN ((stl c (σ.1.2.2.2 f) n σ.1).2.2.2.1 c)) ((sp_cell_ok hc).trans (rfl)) ?_
    refine x_lstore_5 51 C dL_isSettled_49 rfl rfl ?_
    refine x_aload_0 52 C dL_isSettled_51 rfl ?_
    refine x_iconst (v := 0) 53 C dL_isSettled_52 rfl rfl ?_
    refine x_callV 56 C (c_X5_restore K _ X ho 0) hO wcl_X5 hy_X5_restore wv_X5_restore we_X5_restore lk_L_122 dL_isSettled_53 rfl ⟨Nat.le_of_ble_eq_true rfl, Nat.le_of_ble_eq_true rfl⟩ ⟨Nat.le_of_ble_eq_true rfl, Nat.le_of_ble_eq_true rfl⟩ (Nat.le_of_ble_eq_true rfl) rfl (k_0 rfl rfl (k_i (fun r_3 M_3 h_3 => ?_)))
    obtain ⟨e_3, X, g_3⟩ := h_3
    have ho := okS_restore ho 0
    rw [rs_1 (σ := recd (sV σ) (stl c (σ.1.2.2.2 f) n (sV σ).1).2) (τ := σ.1) rfl] at e_3 X ho
    dsimp only at e_3 X ho
    subst e_3
    have fr := fr.tr g_3
    obtain ⟨z_o, hO⟩ := X.obj
    refine x_aload_0 57 C dL_isSettled_56 rfl ?_
    refine x_iconst (v := 0) 58 C dL_isSettled_57 rfl rfl ?_
    refine x_callV 61 C (c_X5_count K _ X ho 0) hO wcl_X5 hy_X5_count wv_X5_count we_X5_count lk_L_74 dL_isSettled_58 rfl ⟨Nat.le_of_ble_eq_true rfl, Nat.le_of_ble_eq_true rfl⟩ ⟨Nat.le_of_ble_eq_true rfl, Nat.le_of_ble_eq_true rfl⟩ (Nat.le_of_ble_eq_true rfl) rfl (k_0 rfl rfl (k_ip ?_))
    refine x_topi (v' := fset σ.1) sp_count0 ?_
    refine x_icmp_eq 64 66 C dL_isSettled_61 rfl rfl (fun _ => ?_) (fun z => absurd (rfl) z)
    refine x_iconst (v := 0) 67 C dL_isSettled_66 rfl rfl ?_
    refine x_istore_7 69 C dL_isSettled_67 rfl rfl ?_
    refine x_iconst (v := 1) 70 C dL_isSettled_69 rfl rfl ?_
    refine x_istore_8 72 C dL_isSettled_70 rfl rfl ?_
    exact lp n 0 _ _ _ _ (by omega) X ho fr rfl (by show _ = 0 + _; rw [Nat.zero_add]; rfl) rfl
