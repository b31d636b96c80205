set_option maxHeartbeats 4000000 in
set_option maxRecDepth 100000 in
theorem c_X3_numberOf (K : hKv) (M : hM) {A : Nat → Nat} {z : Nat → Int32} {G : Nat → Nat → Int64} (W : kW K A z G M) {τ : hS1} {p : List Nat} {s : Nat × Nat} (hok : okP s) (h0 : z 0 = nI p.length) (hpl : p.length ≤ 60) (hpi : pilM (G 1) p) (hpb : ∀ x ∈ p, x ≤ LG) (hu : ¬ s.1 < 2 → 1 ≤ p.length) (hb : s.1 = 43 ∨ s.1 = 45 ∨ s.1 = 42 → 2 ≤ p.length) (hρ : τ.1 ≤ 2) {S a1 a2 a3 tS t1 t2 : Nat} {f : Nat → Int32} {g : Nat → Int64} (hS : M S = some (tS, eO 4 [.ref a1, .ref a2, .ref a3])) (hS1 : M a1 = some (t1, eI K 2 f)) (hS2 : M a2 = some (t2, eJ K 8 g)) (hf : f 0 = nI τ.1) (hg : ∀ i, i < 8 → g i = lN (τ.2.2.1 i)) (htS : tS < 44 ∨ 47 ≤ tS) (ht1 : t1 < 44 ∨ 47 ≤ t1) : hC K Y_X3_numberOf rm_X3_numberOf [.ref (A 43), .int (nI (cdS s)), .ref S] M (hPl fun r M' => r = lI (rkv τ s p) ∧ ∃ z2, kW K A z2 G M' ∧ z2 0 = nI (rkp s p).length ∧ z2 1 = z 1 ∧ z2 2 = z 2 ∧ hFr 44 47 M M') := by
  refine hC.of [some (.ref (A 43)), some (.int (nI (cdS s))), some (.ref S), none, none, none] (by decide) (Nat.le_of_ble_eq_true rfl) rfl rfl ?_
  intro E C Rt
  have C : hCx E K cX3_numberOf 6 RX3 "numberOf" rm_X3_numberOf := C
  obtain ⟨k, v⟩ := s
  rcases hok with ⟨hk, hv⟩ | ⟨hk, hv⟩ | ⟨hk, hv⟩
  · have hk : k = 0 := hk
    have hv : v ≤ 9999 := hv
    subst hk
    rw [show cdS (0, v) = v from rfl]
    refine x_iload_1 1 C dX3_numberOf_0 rfl ?_
    refine x_sipush (v := 10000) 4 C dX3_numberOf_1 rfl rfl ?_
    refine x_icmp_ge 7 10 C dX3_numberOf_4 rfl rfl (fun z => absurd z (nI_ge (show v < 10000 by omega) (by decide))) (fun _ => ?_)
    refine x_iload_1 8 C dX3_numberOf_7 rfl ?_
    refine x_i2l 9 C dX3_numberOf_8 rfl ?_
    refine x_topl ((nI_l (by omega)).trans (lN_lI v)) ?_
    refine x_lreturn C Rt dX3_numberOf_9 ⟨Nat.le_of_ble_eq_true rfl, Nat.le_of_ble_eq_true rfl⟩ ?_
    exact ⟨_, rfl, by rw [rkv, if_pos rfl], z, W, by rw [h0]; rfl, rfl, rfl, hFr.rf⟩
  · have hk : k = 1 := hk
    have hv : v < 8 := hv
    subst hk
    rw [show cdS (1, v) = 10065 + v from rfl]
    refine x_iload_1 1 C dX3_numberOf_0 rfl ?_
    refine x_sipush (v := 10000) 4 C dX3_numberOf_1 rfl rfl ?_
    refine x_icmp_ge 7 10 C dX3_numberOf_4 rfl rfl (fun _ => ?_) (fun z => absurd (nI_le (show 10000 ≤ 10065 + v by omega) (by omega)) z)
    refine x_iload_1 11 C dX3_numberOf_10 rfl ?_
    refine x_sipush (v := 10000) 14 C dX3_numberOf_11 rfl rfl ?_
    refine x_isub 15 C dX3_numberOf_14 rfl ?_
    refine x_topi (v' := nI (65 + v)) ((pk_sub (a := 10065 + v) (b := 10000) (by omega)).trans (by congr 1; omega)) ?_
    refine x_bipush (v := 65) 17 C dX3_numberOf_15 rfl rfl ?_
    refine x_isub 18 C dX3_numberOf_17 rfl ?_
    refine x_topi (v' := nI v) ((pk_sub (a := 65 + v) (b := 65) (by omega)).trans (by congr 1; omega)) ?_
    refine x_istore_3 19 C dX3_numberOf_18 rfl rfl ?_
    refine x_iload_3 20 C dX3_numberOf_19 rfl ?_
    refine x_i2l 21 C dX3_numberOf_20 rfl ?_
    refine x_topl (nI_l (by omega)) ?_
    refine x_lconst (v := 0) 22 C dX3_numberOf_21 rfl rfl ?_
    refine x_ldc2 (v := 7) 25 C dX3_numberOf_22 rfl wq_X3_44 ?_
    refine x_callS 28 C (c_X5_within K _ _ _ _) hy_X5_within ws_X5_within lk_X3_46 dX3_numberOf_25 rfl ⟨Nat.le_of_ble_eq_true rfl, Nat.le_of_ble_eq_true rfl⟩ ⟨Nat.le_of_ble_eq_true rfl, Nat.le_of_ble_eq_true rfl⟩ (Nat.le_of_ble_eq_true rfl) rfl (k_0 rfl rfl (k_ip ?_))
    refine x_if_eq 31 37 C dX3_numberOf_28 rfl rfl (fun z => absurd z (hB_n0p.mpr ⟨by rw [lN_toI (by omega)]; exact Int.natCast_nonneg _, by rw [lN_toI (by omega), show (7 : Int64).toInt = 7 from rfl]; omega⟩)) (fun _ => ?_)
    refine x_aload_2 32 C dX3_numberOf_31 rfl ?_
    refine x_iload_3 33 C dX3_numberOf_32 rfl ?_
    refine x_callV 36 C (c_X4_cellValue K _ hS hS2 v hv) hS wcl_X4 hy_X4_cellValue wv_X4_cellValue we_X4_cellValue lk_X3_50 dX3_numberOf_33 rfl ⟨Nat.le_of_ble_eq_true rfl, Nat.le_of_ble_eq_true rfl⟩ ⟨Nat.le_of_ble_eq_true rfl, Nat.le_of_ble_eq_true rfl⟩ (Nat.le_of_ble_eq_true rfl) rfl (k_0 rfl rfl (k_lp ?_))
    refine x_topl ((hg v hv).trans (lN_lI _)) ?_
    refine x_lreturn C Rt dX3_numberOf_36 ⟨Nat.le_of_ble_eq_true rfl, Nat.le_of_ble_eq_true rfl⟩ ?_
    exact ⟨_, rfl, by simp [rkv], z, W, by rw [h0]; rfl, rfl, rfl, hFr.rf⟩
  · have hv : v = 0 := hv
    subst hv
    have hp0 := getD_bd hpb 0
    have hp1 := getD_bd hpb 1
    have hLG : LG = 1000000000000 := rfl
    rcases hk with hc | hc | hc | hc | hc | hc <;> have hc : k = _ := hc
    · subst hc
      have h1 : 1 ≤ p.length := hu (by decide)
      have h2 : 2 ≤ p.length := hb (by decide)
      have f2 := hpi (p.length - 2) (by omega)
      rw [show p.length - 1 - (p.length - 2) = 1 by omega] at f2
      have f1 := hpi (p.length - 1) (by omega)
      rw [show p.length - 1 - (p.length - 1) = 0 by omega] at f1
      rw [show cdS (43, 0) = 10043 from rfl]
      refine x_iload_1 1 C dX3_numberOf_0 rfl ?_
      refine x_sipush (v := 10000) 4 C dX3_numberOf_1 rfl rfl ?_
      refine x_icmp_ge 7 10 C dX3_numberOf_4 rfl rfl (fun _ => ?_) (fun z => absurd (by decide) z)
      refine x_iload_1 11 C dX3_numberOf_10 rfl ?_
      refine x_sipush (v := 10000) 14 C dX3_numberOf_11 rfl rfl ?_
      refine x_isub 15 C dX3_numberOf_14 rfl ?_
      refine x_topi (v' := nI 43) (by decide) ?_
      refine x_bipush (v := 65) 17 C dX3_numberOf_15 rfl rfl ?_
      refine x_isub 18 C dX3_numberOf_17 rfl ?_
      refine x_topi (v' := iI (-22)) (by decide) ?_
      refine x_istore_3 19 C dX3_numberOf_18 rfl rfl ?_
      refine x_iload_3 20 C dX3_numberOf_19 rfl ?_
      refine x_i2l 21 C dX3_numberOf_20 rfl ?_
      refine x_lconst (v := 0) 22 C dX3_numberOf_21 rfl rfl ?_
      refine x_ldc2 (v := 7) 25 C dX3_numberOf_22 rfl wq_X3_44 ?_
      refine x_callS 28 C (c_X5_within K _ _ _ _) hy_X5_within ws_X5_within lk_X3_46 dX3_numberOf_25 rfl ⟨Nat.le_of_ble_eq_true rfl, Nat.le_of_ble_eq_true rfl⟩ ⟨Nat.le_of_ble_eq_true rfl, Nat.le_of_ble_eq_true rfl⟩ (Nat.le_of_ble_eq_true rfl) rfl (k_0 rfl rfl (k_ip ?_))
      refine x_if_eq 31 37 C dX3_numberOf_28 rfl rfl (fun _ => ?_) (fun z => absurd (by decide) z)
      refine x_aload_0 38 C dX3_numberOf_37 rfl ?_
      refine x_callV 41 C (c_X3_pop K _ W (p.length - 1) (by rw [show p.length - 1 + 1 = p.length by omega]; exact h0) (by omega)) W.obj wcl_X3 hy_X3_pop wv_X3_pop we_X3_pop lk_X3_56 dX3_numberOf_38 rfl ⟨Nat.le_of_ble_eq_true rfl, Nat.le_of_ble_eq_true rfl⟩ ⟨Nat.le_of_ble_eq_true rfl, Nat.le_of_ble_eq_true rfl⟩ (Nat.le_of_ble_eq_true rfl) rfl (k_0 rfl rfl (k_l (fun r_P M_P h_P => ?_)))
      obtain ⟨rfl, W, o_p⟩ := h_P
      refine x_topl f1 ?_
      refine x_lstore_4 43 C dX3_numberOf_41 rfl rfl ?_
      refine x_iload_1 44 C dX3_numberOf_43 rfl ?_
      refine x_sipush (v := 10000) 47 C dX3_numberOf_44 rfl rfl ?_
      refine x_isub 48 C dX3_numberOf_47 rfl ?_
      refine x_topi (v' := nI 43) (by decide) ?_
      refine x_lookup (off := 94) 142 C dX3_numberOf_48 (by decide) (by decide) (by decide) ?_
      refine x_aload_0 143 C dX3_numberOf_142 rfl ?_
      refine x_callV 146 C (c_X3_pop K _ W (p.length - 2) (show nI (p.length - 1) = nI (p.length - 2 + 1) by congr 1; omega) (by omega)) W.obj wcl_X3 hy_X3_pop wv_X3_pop we_X3_pop lk_X3_56 dX3_numberOf_143 rfl ⟨Nat.le_of_ble_eq_true rfl, Nat.le_of_ble_eq_true rfl⟩ ⟨Nat.le_of_ble_eq_true rfl, Nat.le_of_ble_eq_true rfl⟩ (Nat.le_of_ble_eq_true rfl) rfl (k_0 rfl rfl (k_l (fun r_1 M_1 h_1 => ?_)))
      obtain ⟨rfl, W, o_q⟩ := h_1
      refine x_topl f2 ?_
      refine x_lload_4 148 C dX3_numberOf_146 rfl ?_
      refine x_ladd 149 C dX3_numberOf_148 rfl ?_
      refine x_topl (by rw [lN_lI, lN_lI, lI_add]) ?_
      refine x_lreturn C Rt dX3_numberOf_149 ⟨Nat.le_of_ble_eq_true rfl, Nat.le_of_ble_eq_true rfl⟩ ?_
      exact ⟨_, rfl, by simp [rkv], _, W, (show nI (p.length - 2) = nI (rkp (43, 0) p).length by rw [show rkp (43, 0) p = p.drop 2 from rfl, List.length_drop]), rfl, rfl, o_p.tr o_q⟩
    · subst hc
      have h1 : 1 ≤ p.length := hu (by decide)
      have h2 : 2 ≤ p.length := hb (by decide)
      have f2 := hpi (p.length - 2) (by omega)
      rw [show p.length - 1 - (p.length - 2) = 1 by omega] at f2
      have f1 := hpi (p.length - 1) (by omega)
      rw [show p.length - 1 - (p.length - 1) = 0 by omega] at f1
      rw [show cdS (45, 0) = 10045 from rfl]
      refine x_iload_1 1 C dX3_numberOf_0 rfl ?_
      refine x_sipush (v := 10000) 4 C dX3_numberOf_1 rfl rfl ?_
      refine x_icmp_ge 7 10 C dX3_numberOf_4 rfl rfl (fun _ => ?_) (fun z => absurd (by decide) z)
      refine x_iload_1 11 C dX3_numberOf_10 rfl ?_
      refine x_sipush (v := 10000) 14 C dX3_numberOf_11 rfl rfl ?_
      refine x_isub 15 C dX3_numberOf_14 rfl ?_
      refine x_topi (v' := nI 45) (by decide) ?_
      refine x_bipush (v := 65) 17 C dX3_numberOf_15 rfl rfl ?_
      refine x_isub 18 C dX3_numberOf_17 rfl ?_
      refine x_topi (v' := iI (-20)) (by decide) ?_
      refine x_istore_3 19 C dX3_numberOf_18 rfl rfl ?_
      refine x_iload_3 20 C dX3_numberOf_19 rfl ?_
      refine x_i2l 21 C dX3_numberOf_20 rfl ?_
      refine x_lconst (v := 0) 22 C dX3_numberOf_21 rfl rfl ?_
      refine x_ldc2 (v := 7) 25 C dX3_numberOf_22 rfl wq_X3_44 ?_
      refine x_callS 28 C (c_X5_within K _ _ _ _) hy_X5_within ws_X5_within lk_X3_46 dX3_numberOf_25 rfl ⟨Nat.le_of_ble_eq_true rfl, Nat.le_of_ble_eq_true rfl⟩ ⟨Nat.le_of_ble_eq_true rfl, Nat.le_of_ble_eq_true rfl⟩ (Nat.le_of_ble_eq_true rfl) rfl (k_0 rfl rfl (k_ip ?_))
      refine x_if_eq 31 37 C dX3_numberOf_28 rfl rfl (fun _ => ?_) (fun z => absurd (by decide) z)
      refine x_aload_0 38 C dX3_numberOf_37 rfl ?_
      refine x_callV 41 C (c_X3_pop K _ W (p.length - 1) (by rw [show p.length - 1 + 1 = p.length by omega]; exact h0) (by omega)) W.obj wcl_X3 hy_X3_pop wv_X3_pop we_X3_pop lk_X3_56 dX3_numberOf_38 rfl ⟨Nat.le_of_ble_eq_true rfl, Nat.le_of_ble_eq_true rfl⟩ ⟨Nat.le_of_ble_eq_true rfl, Nat.le_of_ble_eq_true rfl⟩ (Nat.le_of_ble_eq_true rfl) rfl (k_0 rfl rfl (k_l (fun r_P M_P h_P => ?_)))
      obtain ⟨rfl, W, o_p⟩ := h_P
      refine x_topl f1 ?_
      refine x_lstore_4 43 C dX3_numberOf_41 rfl rfl ?_
      refine x_iload_1 44 C dX3_numberOf_43 rfl ?_
      refine x_sipush (v := 10000) 47 C dX3_numberOf_44 rfl rfl ?_
      refine x_isub 48 C dX3_numberOf_47 rfl ?_
      refine x_topi (v' := nI 45) (by decide) ?_
      refine x_lookup (off := 102) 150 C dX3_numberOf_48 (by decide) (by decide) (by decide) ?_
      refine x_aload_0 151 C dX3_numberOf_150 rfl ?_
      refine x_callV 154 C (c_X3_pop K _ W (p.length - 2) (show nI (p.length - 1) = nI (p.length - 2 + 1) by congr 1; omega) (by omega)) W.obj wcl_X3 hy_X3_pop wv_X3_pop we_X3_pop lk_X3_56 dX3_numberOf_151 rfl ⟨Nat.le_of_ble_eq_true rfl, Nat.le_of_ble_eq_true rfl⟩ ⟨Nat.le_of_ble_eq_true rfl, Nat.le_of_ble_eq_true rfl⟩ (Nat.le_of_ble_eq_true rfl) rfl (k_0 rfl rfl (k_l (fun r_1 M_1 h_1 => ?_)))
      obtain ⟨rfl, W, o_q⟩ := h_1
      refine x_topl f2 ?_
      refine x_lload_4 156 C dX3_numberOf_154 rfl ?_
      refine x_lsub 157 C dX3_numberOf_156 rfl ?_
      refine x_topl (by rw [lN_lI, lN_lI, lI_sub]) ?_
      refine x_lreturn C Rt dX3_numberOf_157 ⟨Nat.le_of_ble_eq_true rfl, Nat.le_of_ble_eq_true rfl⟩ ?_
      exact ⟨_, rfl, by simp [rkv], _, W, (show nI (p.length - 2) = nI (rkp (45, 0) p).length by rw [show rkp (45, 0) p = p.drop 2 from rfl, List.length_drop]), rfl, rfl, o_p.tr o_q⟩
    · subst hc
      have h1 : 1 ≤ p.length := hu (by decide)
      have h2 : 2 ≤ p.length := hb (by decide)
      have f2 := hpi (p.length - 2) (by omega)
      rw [show p.length - 1 - (p.length - 2) = 1 by omega] at f2
      have f1 := hpi (p.length - 1) (by omega)
      rw [show p.length - 1 - (p.length - 1) = 0 by omega] at f1
      rw [show cdS (42, 0) = 10042 from rfl]
      refine x_iload_1 1 C dX3_numberOf_0 rfl ?_
      refine x_sipush (v := 10000) 4 C dX3_numberOf_1 rfl rfl ?_
      refine x_icmp_ge 7 10 C dX3_numberOf_4 rfl rfl (fun _ => ?_) (fun z => absurd (by decide) z)
      refine x_iload_1 11 C dX3_numberOf_10 rfl ?_
      refine x_sipush (v := 10000) 14 C dX3_numberOf_11 rfl rfl ?_
      refine x_isub 15 C dX3_numberOf_14 rfl ?_
      refine x_topi (v' := nI 42) (by decide) ?_
      refine x_bipush (v := 65) 17 C dX3_numberOf_15 rfl rfl ?_
      refine x_isub 18 C dX3_numberOf_17 rfl ?_
      refine x_topi (v' := iI (-23)) (by decide) ?_
      refine x_istore_3 19 C dX3_numberOf_18 rfl rfl ?_
      refine x_iload_3 20 C dX3_numberOf_19 rfl ?_
      refine x_i2l 21 C dX3_numberOf_20 rfl ?_
      refine x_lconst (v := 0) 22 C dX3_numberOf_21 rfl rfl ?_
      refine x_ldc2 (v := 7) 25 C dX3_numberOf_22 rfl wq_X3_44 ?_
      refine x_callS 28 C (c_X5_within K _ _ _ _) hy_X5_within ws_X5_within lk_X3_46 dX3_numberOf_25 rfl ⟨Nat.le_of_ble_eq_true rfl, Nat.le_of_ble_eq_true rfl⟩ ⟨Nat.le_of_ble_eq_true rfl, Nat.le_of_ble_eq_true rfl⟩ (Nat.le_of_ble_eq_true rfl) rfl (k_0 rfl rfl (k_ip ?_))
      refine x_if_eq 31 37 C dX3_numberOf_28 rfl rfl (fun _ => ?_) (fun z => absurd (by decide) z)
      refine x_aload_0 38 C dX3_numberOf_37 rfl ?_
      refine x_callV 41 C (c_X3_pop K _ W (p.length - 1) (by rw [show p.length - 1 + 1 = p.length by omega]; exact h0) (by omega)) W.obj wcl_X3 hy_X3_pop wv_X3_pop we_X3_pop lk_X3_56 dX3_numberOf_38 rfl ⟨Nat.le_of_ble_eq_true rfl, Nat.le_of_ble_eq_true rfl⟩ ⟨Nat.le_of_ble_eq_true rfl, Nat.le_of_ble_eq_true rfl⟩ (Nat.le_of_ble_eq_true rfl) rfl (k_0 rfl rfl (k_l (fun r_P M_P h_P => ?_)))
      obtain ⟨rfl, W, o_p⟩ := h_P
      refine x_topl f1 ?_
      refine x_lstore_4 43 C dX3_numberOf_41 rfl rfl ?_
      refine x_iload_1 44 C dX3_numberOf_43 rfl ?_
      refine x_sipush (v := 10000) 47 C dX3_numberOf_44 rfl rfl ?_
      refine x_isub 48 C dX3_numberOf_47 rfl ?_
      refine x_topi (v' := nI 42) (by decide) ?_
      refine x_lookup (off := 84) 132 C dX3_numberOf_48 (by decide) (by decide) (by decide) ?_
      refine x_aload_0 133 C dX3_numberOf_132 rfl ?_
      refine x_callV 136 C (c_X3_pop K _ W (p.length - 2) (show nI (p.length - 1) = nI (p.length - 2 + 1) by congr 1; omega) (by omega)) W.obj wcl_X3 hy_X3_pop wv_X3_pop we_X3_pop lk_X3_56 dX3_numberOf_133 rfl ⟨Nat.le_of_ble_eq_true rfl, Nat.le_of_ble_eq_true rfl⟩ ⟨Nat.le_of_ble_eq_true rfl, Nat.le_of_ble_eq_true rfl⟩ (Nat.le_of_ble_eq_true rfl) rfl (k_0 rfl rfl (k_l (fun r_1 M_1 h_1 => ?_)))
      obtain ⟨rfl, W, o_q⟩ := h_1
      refine x_topl f2 ?_
      refine x_lload_4 138 C dX3_numberOf_136 rfl ?_
      refine x_callS 141 C (c_X3_product K _ (p.getD 1 0) (p.getD 0 0) hp1 hp0) hy_X3_product ws_X3_product lk_X3_68 dX3_numberOf_138 rfl ⟨Nat.le_of_ble_eq_true rfl, Nat.le_of_ble_eq_true rfl⟩ ⟨Nat.le_of_ble_eq_true rfl, Nat.le_of_ble_eq_true rfl⟩ (Nat.le_of_ble_eq_true rfl) rfl (k_0 rfl rfl (k_lp ?_))
      refine x_topl (lN_lI _) ?_
      refine x_lreturn C Rt dX3_numberOf_141 ⟨Nat.le_of_ble_eq_true rfl, Nat.le_of_ble_eq_true rfl⟩ ?_
      exact ⟨_, rfl, by simp [rkv], _, W, (show nI (p.length - 2) = nI (rkp (42, 0) p).length by rw [show rkp (42, 0) p = p.drop 2 from rfl, List.length_drop]), rfl, rfl, o_p.tr o_q⟩
    · subst hc
      have h1 : 1 ≤ p.length := hu (by decide)
      have f1 := hpi (p.length - 1) (by omega)
      rw [show p.length - 1 - (p.length - 1) = 0 by omega] at f1
      rw [show cdS (113, 0) = 10113 from rfl]
      refine x_iload_1 1 C dX3_numberOf_0 rfl ?_
      refine x_sipush (v := 10000) 4 C dX3_numberOf_1 rfl rfl ?_
      refine x_icmp_ge 7 10 C dX3_numberOf_4 rfl rfl (fun _ => ?_) (fun z => absurd (by decide) z)
      refine x_iload_1 11 C dX3_numberOf_10 rfl ?_
      refine x_sipush (v := 10000) 14 C dX3_numberOf_11 rfl rfl ?_
      refine x_isub 15 C dX3_numberOf_14 rfl ?_
      refine x_topi (v' := nI 113) (by decide) ?_
      refine x_bipush (v := 65) 17 C dX3_numberOf_15 rfl rfl ?_
      refine x_isub 18 C dX3_numberOf_17 rfl ?_
      refine x_topi (v' := iI (48)) (by decide) ?_
      refine x_istore_3 19 C dX3_numberOf_18 rfl rfl ?_
      refine x_iload_3 20 C dX3_numberOf_19 rfl ?_
      refine x_i2l 21 C dX3_numberOf_20 rfl ?_
      refine x_lconst (v := 0) 22 C dX3_numberOf_21 rfl rfl ?_
      refine x_ldc2 (v := 7) 25 C dX3_numberOf_22 rfl wq_X3_44 ?_
      refine x_callS 28 C (c_X5_within K _ _ _ _) hy_X5_within ws_X5_within lk_X3_46 dX3_numberOf_25 rfl ⟨Nat.le_of_ble_eq_true rfl, Nat.le_of_ble_eq_true rfl⟩ ⟨Nat.le_of_ble_eq_true rfl, Nat.le_of_ble_eq_true rfl⟩ (Nat.le_of_ble_eq_true rfl) rfl (k_0 rfl rfl (k_ip ?_))
      refine x_if_eq 31 37 C dX3_numberOf_28 rfl rfl (fun _ => ?_) (fun z => absurd (by decide) z)
      refine x_aload_0 38 C dX3_numberOf_37 rfl ?_
      refine x_callV 41 C (c_X3_pop K _ W (p.length - 1) (by rw [show p.length - 1 + 1 = p.length by omega]; exact h0) (by omega)) W.obj wcl_X3 hy_X3_pop wv_X3_pop we_X3_pop lk_X3_56 dX3_numberOf_38 rfl ⟨Nat.le_of_ble_eq_true rfl, Nat.le_of_ble_eq_true rfl⟩ ⟨Nat.le_of_ble_eq_true rfl, Nat.le_of_ble_eq_true rfl⟩ (Nat.le_of_ble_eq_true rfl) rfl (k_0 rfl rfl (k_l (fun r_P M_P h_P => ?_)))
      obtain ⟨rfl, W, o_p⟩ := h_P
      refine x_topl f1 ?_
      refine x_lstore_4 43 C dX3_numberOf_41 rfl rfl ?_
      refine x_iload_1 44 C dX3_numberOf_43 rfl ?_
      refine x_sipush (v := 10000) 47 C dX3_numberOf_44 rfl rfl ?_
      refine x_isub 48 C dX3_numberOf_47 rfl ?_
      refine x_topi (v' := nI 113) (by decide) ?_
      refine x_lookup (off := 52) 100 C dX3_numberOf_48 (by decide) (by decide) (by decide) ?_
      refine x_lload_4 102 C dX3_numberOf_100 rfl ?_
      refine x_iconst (v := 2) 103 C dX3_numberOf_102 rfl rfl ?_
      refine x_topi (v' := nI 2) rfl ?_
      refine x_aload_2 104 C dX3_numberOf_103 rfl ?_
      refine x_iconst (v := 0) 105 C dX3_numberOf_104 rfl rfl ?_
      refine x_callV 108 C (c_X4_setting K _ (o_p _ _ _ htS hS) (o_p _ _ _ ht1 hS1) 0 (by decide)) (o_p _ _ _ htS hS) wcl_X4 hy_X4_setting wv_X4_setting we_X4_setting lk_X3_60 dX3_numberOf_105 rfl ⟨Nat.le_of_ble_eq_true rfl, Nat.le_of_ble_eq_true rfl⟩ ⟨Nat.le_of_ble_eq_true rfl, Nat.le_of_ble_eq_true rfl⟩ (Nat.le_of_ble_eq_true rfl) rfl (k_0 rfl rfl (k_ip ?_))
      refine x_topi hf ?_
      refine x_callS 111 C (c_X5_rootRounded K _ (p.getD 0 0) 2 τ.1 (by decide) (by omega) hρ) hy_X5_rootRounded ws_X5_rootRounded lk_X3_64 dX3_numberOf_108 rfl ⟨Nat.le_of_ble_eq_true rfl, Nat.le_of_ble_eq_true rfl⟩ ⟨Nat.le_of_ble_eq_true rfl, Nat.le_of_ble_eq_true rfl⟩ (Nat.le_of_ble_eq_true rfl) rfl (k_0 rfl rfl (k_lp ?_))
      refine x_topl (lN_lI _) ?_
      refine x_lreturn C Rt dX3_numberOf_111 ⟨Nat.le_of_ble_eq_true rfl, Nat.le_of_ble_eq_true rfl⟩ ?_
      exact ⟨_, rfl, by simp [rkv], _, W, (show nI (p.length - 1) = nI (rkp (113, 0) p).length by rw [show rkp (113, 0) p = p.drop 1 from rfl, List.length_drop]), rfl, rfl, o_p⟩
    · subst hc
      have h1 : 1 ≤ p.length := hu (by decide)
      have f1 := hpi (p.length - 1) (by omega)
      rw [show p.length - 1 - (p.length - 1) = 0 by omega] at f1
      rw [show cdS (107, 0) = 10107 from rfl]
      refine x_iload_1 1 C dX3_numberOf_0 rfl ?_
      refine x_sipush (v := 10000) 4 C dX3_numberOf_1 rfl rfl ?_
      refine x_icmp_ge 7 10 C dX3_numberOf_4 rfl rfl (fun _ => ?_) (fun z => absurd (by decide) z)
      refine x_iload_1 11 C dX3_numberOf_10 rfl ?_
      refine x_sipush (v := 10000) 14 C dX3_numberOf_11 rfl rfl ?_
      refine x_isub 15 C dX3_numberOf_14 rfl ?_
      refine x_topi (v' := nI 107) (by decide) ?_
      refine x_bipush (v := 65) 17 C dX3_numberOf_15 rfl rfl ?_
      refine x_isub 18 C dX3_numberOf_17 rfl ?_
      refine x_topi (v' := iI (42)) (by decide) ?_
      refine x_istore_3 19 C dX3_numberOf_18 rfl rfl ?_
      refine x_iload_3 20 C dX3_numberOf_19 rfl ?_
      refine x_i2l 21 C dX3_numberOf_20 rfl ?_
      refine x_lconst (v := 0) 22 C dX3_numberOf_21 rfl rfl ?_
      refine x_ldc2 (v := 7) 25 C dX3_numberOf_22 rfl wq_X3_44 ?_
      refine x_callS 28 C (c_X5_within K _ _ _ _) hy_X5_within ws_X5_within lk_X3_46 dX3_numberOf_25 rfl ⟨Nat.le_of_ble_eq_true rfl, Nat.le_of_ble_eq_true rfl⟩ ⟨Nat.le_of_ble_eq_true rfl, Nat.le_of_ble_eq_true rfl⟩ (Nat.le_of_ble_eq_true rfl) rfl (k_0 rfl rfl (k_ip ?_))
      refine x_if_eq 31 37 C dX3_numberOf_28 rfl rfl (fun _ => ?_) (fun z => absurd (by decide) z)
      refine x_aload_0 38 C dX3_numberOf_37 rfl ?_
      refine x_callV 41 C (c_X3_pop K _ W (p.length - 1) (by rw [show p.length - 1 + 1 = p.length by omega]; exact h0) (by omega)) W.obj wcl_X3 hy_X3_pop wv_X3_pop we_X3_pop lk_X3_56 dX3_numberOf_38 rfl ⟨Nat.le_of_ble_eq_true rfl, Nat.le_of_ble_eq_true rfl⟩ ⟨Nat.le_of_ble_eq_true rfl, Nat.le_of_ble_eq_true rfl⟩ (Nat.le_of_ble_eq_true rfl) rfl (k_0 rfl rfl (k_l (fun r_P M_P h_P => ?_)))
      obtain ⟨rfl, W, o_p⟩ := h_P
      refine x_topl f1 ?_
      refine x_lstore_4 43 C dX3_numberOf_41 rfl rfl ?_
      refine x_iload_1 44 C dX3_numberOf_43 rfl ?_
      refine x_sipush (v := 10000) 47 C dX3_numberOf_44 rfl rfl ?_
      refine x_isub 48 C dX3_numberOf_47 rfl ?_
      refine x_topi (v' := nI 107) (by decide) ?_
      refine x_lookup (off := 64) 112 C dX3_numberOf_48 (by decide) (by decide) (by decide) ?_
      refine x_lload_4 114 C dX3_numberOf_112 rfl ?_
      refine x_iconst (v := 3) 115 C dX3_numberOf_114 rfl rfl ?_
      refine x_topi (v' := nI 3) rfl ?_
      refine x_aload_2 116 C dX3_numberOf_115 rfl ?_
      refine x_iconst (v := 0) 117 C dX3_numberOf_116 rfl rfl ?_
      refine x_callV 120 C (c_X4_setting K _ (o_p _ _ _ htS hS) (o_p _ _ _ ht1 hS1) 0 (by decide)) (o_p _ _ _ htS hS) wcl_X4 hy_X4_setting wv_X4_setting we_X4_setting lk_X3_60 dX3_numberOf_117 rfl ⟨Nat.le_of_ble_eq_true rfl, Nat.le_of_ble_eq_true rfl⟩ ⟨Nat.le_of_ble_eq_true rfl, Nat.le_of_ble_eq_true rfl⟩ (Nat.le_of_ble_eq_true rfl) rfl (k_0 rfl rfl (k_ip ?_))
      refine x_topi hf ?_
      refine x_callS 123 C (c_X5_rootRounded K _ (p.getD 0 0) 3 τ.1 (by decide) (by omega) hρ) hy_X5_rootRounded ws_X5_rootRounded lk_X3_64 dX3_numberOf_120 rfl ⟨Nat.le_of_ble_eq_true rfl, Nat.le_of_ble_eq_true rfl⟩ ⟨Nat.le_of_ble_eq_true rfl, Nat.le_of_ble_eq_true rfl⟩ (Nat.le_of_ble_eq_true rfl) rfl (k_0 rfl rfl (k_lp ?_))
      refine x_topl (lN_lI _) ?_
      refine x_lreturn C Rt dX3_numberOf_123 ⟨Nat.le_of_ble_eq_true rfl, Nat.le_of_ble_eq_true rfl⟩ ?_
      exact ⟨_, rfl, by simp [rkv], _, W, (show nI (p.length - 1) = nI (rkp (107, 0) p).length by rw [show rkp (107, 0) p = p.drop 1 from rfl, List.length_drop]), rfl, rfl, o_p⟩
    · subst hc
      have h1 : 1 ≤ p.length := hu (by decide)
      have f1 := hpi (p.length - 1) (by omega)
      rw [show p.length - 1 - (p.length - 1) = 0 by omega] at f1
      rw [show cdS (115, 0) = 10115 from rfl]
      refine x_iload_1 1 C dX3_numberOf_0 rfl ?_
      refine x_sipush (v := 10000) 4 C dX3_numberOf_1 rfl rfl ?_
      refine x_icmp_ge 7 10 C dX3_numberOf_4 rfl rfl (fun _ => ?_) (fun z => absurd (by decide) z)
      refine x_iload_1 11 C dX3_numberOf_10 rfl ?_
      refine x_sipush (v := 10000) 14 C dX3_numberOf_11 rfl rfl ?_
      refine x_isub 15 C dX3_numberOf_14 rfl ?_
      refine x_topi (v' := nI 115) (by decide) ?_
      refine x_bipush (v := 65) 17 C dX3_numberOf_15 rfl rfl ?_
      refine x_isub 18 C dX3_numberOf_17 rfl ?_
      refine x_topi (v' := iI (50)) (by decide) ?_
      refine x_istore_3 19 C dX3_numberOf_18 rfl rfl ?_
      refine x_iload_3 20 C dX3_numberOf_19 rfl ?_
      refine x_i2l 21 C dX3_numberOf_20 rfl ?_
      refine x_lconst (v := 0) 22 C dX3_numberOf_21 rfl rfl ?_
      refine x_ldc2 (v := 7) 25 C dX3_numberOf_22 rfl wq_X3_44 ?_
      refine x_callS 28 C (c_X5_within K _ _ _ _) hy_X5_within ws_X5_within lk_X3_46 dX3_numberOf_25 rfl ⟨Nat.le_of_ble_eq_true rfl, Nat.le_of_ble_eq_true rfl⟩ ⟨Nat.le_of_ble_eq_true rfl, Nat.le_of_ble_eq_true rfl⟩ (Nat.le_of_ble_eq_true rfl) rfl (k_0 rfl rfl (k_ip ?_))
      refine x_if_eq 31 37 C dX3_numberOf_28 rfl rfl (fun _ => ?_) (fun z => absurd (by decide) z)
      refine x_aload_0 38 C dX3_numberOf_37 rfl ?_
      refine x_callV 41 C (c_X3_pop K _ W (p.length - 1) (by rw [show p.length - 1 + 1 = p.length by omega]; exact h0) (by omega)) W.obj wcl_X3 hy_X3_pop wv_X3_pop we_X3_pop lk_X3_56 dX3_numberOf_38 rfl ⟨Nat.le_of_ble_eq_true rfl, Nat.le_of_ble_eq_true rfl⟩ ⟨Nat.le_of_ble_eq_true rfl, Nat.le_of_ble_eq_true rfl⟩ (Nat.le_of_ble_eq_true rfl) rfl (k_0 rfl rfl (k_l (fun r_P M_P h_P => ?_)))
      obtain ⟨rfl, W, o_p⟩ := h_P
      refine x_topl f1 ?_
      refine x_lstore_4 43 C dX3_numberOf_41 rfl rfl ?_
      refine x_iload_1 44 C dX3_numberOf_43 rfl ?_
      refine x_sipush (v := 10000) 47 C dX3_numberOf_44 rfl rfl ?_
      refine x_isub 48 C dX3_numberOf_47 rfl ?_
      refine x_topi (v' := nI 115) (by decide) ?_
      refine x_lookup (off := 76) 124 C dX3_numberOf_48 (by decide) (by decide) (by decide) ?_
      refine x_lload_4 126 C dX3_numberOf_124 rfl ?_
      refine x_lload_4 128 C dX3_numberOf_126 rfl ?_
      refine x_callS 131 C (c_X3_product K _ (p.getD 0 0) (p.getD 0 0) hp0 hp0) hy_X3_product ws_X3_product lk_X3_68 dX3_numberOf_128 rfl ⟨Nat.le_of_ble_eq_true rfl, Nat.le_of_ble_eq_true rfl⟩ ⟨Nat.le_of_ble_eq_true rfl, Nat.le_of_ble_eq_true rfl⟩ (Nat.le_of_ble_eq_true rfl) rfl (k_0 rfl rfl (k_lp ?_))
      refine x_topl (lN_lI _) ?_
      refine x_lreturn C Rt dX3_numberOf_131 ⟨Nat.le_of_ble_eq_true rfl, Nat.le_of_ble_eq_true rfl⟩ ?_
      exact ⟨_, rfl, by simp [rkv], _, W, (show nI (p.length - 1) = nI (rkp (115, 0) p).length by rw [show rkp (115, 0) p = p.drop 1 from rfl, List.length_drop]), rfl, rfl, o_p⟩
