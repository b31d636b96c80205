/-- the class's world without its fraction -/
def cO (K : hKv) (A : Nat → Nat) (σ : hSt) (M : hM) : Prop := ∃ z pd sl h, cW K A z pd sl M ∧ cRl z pd h σ ∧ stW K M 9 (A 0) σ.1 ∧ cH K A M h ∧ cSl K M sl σ.2.2.1 ∧ cIR K A M ∧ cIK K A M
theorem cO.cx {K : hKv} {A : Nat → Nat} {σ : hSt} {M : hM} {z : Nat → Int32} {y : Nat → Int64} (O : cO K A σ M) (WG : gW A z y M) : cX K A σ M := by
  obtain ⟨z, pd, sl, h, W, hc, N, H, SL, IR, IK⟩ := O
  exact ⟨z, pd, sl, h, W, hc, N, H, SL, IR, IK, _, _, WG⟩
theorem nsq_no {n : Nat} (hn : n ≤ 100000) (h : ¬ sq 2 n * sq 2 n = n) : nsq n := ⟨hn, by have := (cf_w hn).2.1; omega⟩
set_option maxHeartbeats 4000000 in
set_option maxRecDepth 100000 in
theorem c_X5_period (K : hKv) (M : hM) {A : Nat → Nat} {σ : hSt} (X : cX K A σ M) (ho : okS σ) (n : Int32) : hC K Y_X5_period rm_X5_period [.ref (A 36), .int n] M (hPi fun r M' => r = sp_period n ∧ cP K A M σ M') := by
  refine hC.of [some (.ref (A 36)), some (.int n), none] (by decide) (Nat.le_of_ble_eq_true rfl) rfl rfl ?_
  intro E C Rt
  have C : hCx E K cX5_period 3 RX5 "period" rm_X5_period := C
  obtain ⟨z, pd, sl, h, W, hc, N, H, SL, IR, IK, ⟨zg, yg, WG⟩⟩ := X
  obtain ⟨M0, hM0⟩ : ∃ M0 : hM, M0 = M := ⟨_, rfl⟩
  rw [← hM0] at Rt
  have lp : ∀ (NN : Nat), nsq NN → (∀ (M : hM), cX K A σ M → hFr 1 100 M0 M → hPi (fun r M' => r = sp_period n ∧ cP K A M0 σ M') (some (.int (nI (perN NN)))) M) → ∀ (d i : Nat), i + 1 + d = perN NN → ∀ (z1 : Nat → Int32) (y1 : Nat → Int64) (M : hM), cO K A σ M → gW A z1 y1 M → gfM z1 NN i → hFr 1 100 M0 M → hX E 0 0 25 [some (.ref (A 36)), some (.int (nI NN)), some (.int (nI (i + 1)))] [] M := by
    intro NN hq hfin d
    obtain ⟨⟨pe1, pe2, pe3⟩, pe4⟩ := perN_is hq.1 hq.2
    induction d with
    | zero =>
      intro i hi z1 y1 M O WG cf fr
      obtain ⟨z, pd, sl, h, W, hc, N, H, SL, IR, IK⟩ := O
      have hi : i + 1 = perN NN := by omega
      refine x_iload_2 26 C dX5_period_25 rfl ?_
      refine x_ldc (v := 1000000) 28 C dX5_period_26 rfl wq_X5_200 ?_
      refine x_icmp_gt 31 63 C dX5_period_28 rfl rfl (fun z => absurd z ((fun q => by have := (nI_ltI (a := 1000000) (by decide) (by omega)).mp q; omega))) (fun _ => ?_)
      refine x_aload_0 32 C dX5_period_31 rfl ?_
      refine xOg_fraction 35 C wf_X5_44 W.obj dX5_period_32 rfl ?_
      refine x_callV 38 C (c_X1_goesOn K _ WG NN i cf hq) WG.obj wcl_X1 hy_X1_goesOn wv_X1_goesOn we_X1_goesOn lk_X5_201 dX5_period_35 rfl ⟨Nat.le_of_ble_eq_true rfl, Nat.le_of_ble_eq_true rfl⟩ ⟨Nat.le_of_ble_eq_true rfl, Nat.le_of_ble_eq_true rfl⟩ (Nat.le_of_ble_eq_true rfl) rfl (k_0 rfl rfl (k_i (fun r_g M_1 h_1 => ?_)))
      obtain ⟨rfl, z_g, WG, cf, o_g⟩ := h_1
      have W := W.kept o_g (by decide)
      have N := N.kept o_g (by decide) (by decide)
      have H := H.kept o_g (by decide) (by decide)
      have SL := SL.kept o_g (by decide) (by decide)
      have IR := IR.kept o_g (by decide)
      have IK := IK.kept o_g (by decide)
      refine x_if_ne 41 44 C dX5_period_38 rfl rfl (fun _ => ?_) (fun z => absurd z (by decide))
      refine x_aload_0 45 C dX5_period_44 rfl ?_
      refine xOg_fraction 48 C wf_X5_44 W.obj dX5_period_45 rfl ?_
      refine gOg_divisor 51 C wf_X5_205 WG.obj dX5_period_48 rfl ?_
      refine x_topi (cf.2.2.2.1.trans (by rw [hi, pe3])) ?_
      refine x_iconst (v := 1) 52 C dX5_period_51 rfl rfl ?_
      refine x_icmp_ne 55 57 C dX5_period_52 rfl rfl (fun z => absurd (rfl) z) (fun _ => ?_)
      refine x_iload_2 56 C dX5_period_55 rfl ?_
      refine x_ireturn C Rt dX5_period_56 rfl ⟨Nat.le_of_ble_eq_true rfl, Nat.le_of_ble_eq_true rfl⟩ ?_
      rw [hi]
      exact hfin _ (cO.cx ⟨_, _, _, _, W, hc, N, H, SL, IR, IK⟩ WG) (fr.tr ((cfr o_g (by decide))))
    | succ d ih =>
      intro i hi z1 y1 M O WG cf fr
      obtain ⟨z, pd, sl, h, W, hc, N, H, SL, IR, IK⟩ := O
      have hne := pe4 (i + 1) (by omega) (by omega)
      have hcd := (nsq_all hq (i + 1)).2.2.2.2.2.2.1
      refine x_iload_2 26 C dX5_period_25 rfl ?_
      refine x_ldc (v := 1000000) 28 C dX5_period_26 rfl wq_X5_200 ?_
      refine x_icmp_gt 31 63 C dX5_period_28 rfl rfl (fun z => absurd z ((fun q => by have := (nI_ltI (a := 1000000) (by decide) (by omega)).mp q; omega))) (fun _ => ?_)
      refine x_aload_0 32 C dX5_period_31 rfl ?_
      refine xOg_fraction 35 C wf_X5_44 W.obj dX5_period_32 rfl ?_
      refine x_callV 38 C (c_X1_goesOn K _ WG NN i cf hq) WG.obj wcl_X1 hy_X1_goesOn wv_X1_goesOn we_X1_goesOn lk_X5_201 dX5_period_35 rfl ⟨Nat.le_of_ble_eq_true rfl, Nat.le_of_ble_eq_true rfl⟩ ⟨Nat.le_of_ble_eq_true rfl, Nat.le_of_ble_eq_true rfl⟩ (Nat.le_of_ble_eq_true rfl) rfl (k_0 rfl rfl (k_i (fun r_g M_1 h_1 => ?_)))
      obtain ⟨rfl, z_g, WG, cf, o_g⟩ := h_1
      have W := W.kept o_g (by decide)
      have N := N.kept o_g (by decide) (by decide)
      have H := H.kept o_g (by decide) (by decide)
      have SL := SL.kept o_g (by decide) (by decide)
      have IR := IR.kept o_g (by decide)
      have IK := IK.kept o_g (by decide)
      refine x_if_ne 41 44 C dX5_period_38 rfl rfl (fun _ => ?_) (fun z => absurd z (by decide))
      refine x_aload_0 45 C dX5_period_44 rfl ?_
      refine xOg_fraction 48 C wf_X5_44 W.obj dX5_period_45 rfl ?_
      refine gOg_divisor 51 C wf_X5_205 WG.obj dX5_period_48 rfl ?_
      refine x_topi cf.2.2.2.1 ?_
      refine x_iconst (v := 1) 52 C dX5_period_51 rfl rfl ?_
      refine x_icmp_ne 55 57 C dX5_period_52 rfl rfl (fun _ => ?_) (fun z => absurd z ((fun q => hne ((nI_eq (b := 1) (by omega) (by decide)).mp q))))
      refine x_iinc_2 60 C dX5_period_57 rfl rfl (nI_inc _) ?_
      refine x_goto 25 C dX5_period_60 rfl ?_
      exact ih (i + 1) (by omega) _ _ _ ⟨_, _, _, _, W, hc, N, H, SL, IR, IK⟩ WG cf (fr.tr ((cfr o_g (by decide))))
  refine x_iload_1 1 C dX5_period_0 rfl ?_
  refine x_i2l 2 C dX5_period_1 rfl ?_
  refine x_lconst (v := 0) 3 C dX5_period_2 rfl rfl ?_
  refine x_ldc2 (v := 100000) 6 C dX5_period_3 rfl wq_X5_194 ?_
  refine x_callS 9 C (c_X5_within K _ _ _ _) hy_X5_within ws_X5_within lk_X5_48 dX5_period_6 rfl ⟨Nat.le_of_ble_eq_true rfl, Nat.le_of_ble_eq_true rfl⟩ ⟨Nat.le_of_ble_eq_true rfl, Nat.le_of_ble_eq_true rfl⟩ (Nat.le_of_ble_eq_true rfl) rfl (k_0 rfl rfl (k_ip ?_))
  refine x_if_ne 12 15 C dX5_period_9 rfl rfl (fun c_9 => ?_) (fun c_9 => ?_)
  · simp only [Classical.not_not, hB_0p, hB_n0p, Int32.toInt_toInt64, tl_LG, ti_m1, Int32.lt_iff_toInt_lt, Int32.le_iff_toInt_le, Int64.lt_iff_toInt_lt, Int64.le_iff_toInt_le, tl_0, ti_0, tl_1, ti_1, tl_2, ti_2, tl_3, ti_3, tl_4, ti_4, tl_5, ti_5, tl_6, ti_6, tl_7, ti_7, tl_8, ti_8, tl_9, ti_9, tl_10, ti_10, tl_33, ti_33, tl_60, ti_60, tl_100, ti_100, tl_126, ti_126, tl_255, ti_255, tl_500, ti_500, tl_9999, ti_9999, tl_10000, ti_10000, tl_100000, ti_100000, tl_1000000, ti_1000000, tl_1000000000, ti_1000000000] at c_9
    obtain ⟨NN, hN, rfl⟩ := in_nI (b := 100000) c_9
    refine x_aload_0 16 C dX5_period_15 rfl ?_
    refine xOg_fraction 19 C wf_X5_44 W.obj dX5_period_16 rfl ?_
    refine x_iload_1 20 C dX5_period_19 rfl ?_
    refine x_callV 23 C (c_X1_start K _ WG NN hN) WG.obj wcl_X1 hy_X1_start wv_X1_start we_X1_start lk_X5_196 dX5_period_20 rfl ⟨Nat.le_of_ble_eq_true rfl, Nat.le_of_ble_eq_true rfl⟩ ⟨Nat.le_of_ble_eq_true rfl, Nat.le_of_ble_eq_true rfl⟩ (Nat.le_of_ble_eq_true rfl) rfl (k_0 rfl rfl (k_v (fun M_1 h_1 => ?_)))
    obtain ⟨z_g, y_g, WG, cf, cv, o_g⟩ := h_1
    have W := W.kept o_g (by decide)
    have N := N.kept o_g (by decide) (by decide)
    have H := H.kept o_g (by decide) (by decide)
    have SL := SL.kept o_g (by decide) (by decide)
    have IR := IR.kept o_g (by decide)
    have IK := IK.kept o_g (by decide)
    refine x_iconst (v := 1) 24 C dX5_period_23 rfl rfl ?_
    refine x_topi (v' := nI (0 + 1)) rfl ?_
    refine x_istore_2 25 C dX5_period_24 rfl rfl ?_
    by_cases hs : sq 2 NN * sq 2 NN = NN
    · skip
      refine x_iload_2 26 C dX5_period_25 rfl ?_
      refine x_ldc (v := 1000000) 28 C dX5_period_26 rfl wq_X5_200 ?_
      refine x_icmp_gt 31 63 C dX5_period_28 rfl rfl (fun z => absurd z (by decide)) (fun _ => ?_)
      refine x_aload_0 32 C dX5_period_31 rfl ?_
      refine xOg_fraction 35 C wf_X5_44 W.obj dX5_period_32 rfl ?_
      refine x_callV 38 C (c_X1_goesOn0 K _ WG NN 0 cf hs) WG.obj wcl_X1 hy_X1_goesOn wv_X1_goesOn we_X1_goesOn lk_X5_201 dX5_period_35 rfl ⟨Nat.le_of_ble_eq_true rfl, Nat.le_of_ble_eq_true rfl⟩ ⟨Nat.le_of_ble_eq_true rfl, Nat.le_of_ble_eq_true rfl⟩ (Nat.le_of_ble_eq_true rfl) rfl (k_0 rfl rfl (k_ip ?_))
      refine x_if_ne 41 44 C dX5_period_38 rfl rfl (fun z => absurd (rfl) z) (fun _ => ?_)
      refine x_bipush (v := (-6)) 43 C dX5_period_41 rfl rfl ?_
      refine x_ireturn C Rt dX5_period_43 rfl ⟨Nat.le_of_ble_eq_true rfl, Nat.le_of_ble_eq_true rfl⟩ ?_
      exact ⟨_, rfl, by rw [sp_period, spQ_t c_9, nI_toN (by omega), spQ_t hs], by rw [hM0]; exact ⟨⟨_, _, _, _, W, hc, N, H, SL, IR, IK, _, _, WG⟩, cfr o_g (by decide)⟩⟩
    · have hq := nsq_no hN hs
      exact lp NN hq (fun M X fr => ⟨_, rfl, by rw [sp_period, spQ_t c_9, nI_toN (by omega), spQ_f hs], ⟨X, fr⟩⟩) (perN NN - 1) 0 (by have := (perN_is hq.1 hq.2).1.1; omega) _ _ _ ⟨_, _, _, _, W, hc, N, H, SL, IR, IK⟩ WG cf (by rw [hM0]; exact ((cfr o_g (by decide))))
  · refine x_bipush (v := (-2)) 14 C dX5_period_12 rfl rfl ?_
    refine x_ireturn C Rt dX5_period_14 rfl ⟨Nat.le_of_ble_eq_true rfl, Nat.le_of_ble_eq_true rfl⟩ ?_
    simp only [Classical.not_not, hB_0p, hB_n0p, Int32.toInt_toInt64, tl_LG, ti_m1, Int32.lt_iff_toInt_lt, Int32.le_iff_toInt_le, Int64.lt_iff_toInt_lt, Int64.le_iff_toInt_le, tl_0, ti_0, tl_1, ti_1, tl_2, ti_2, tl_3, ti_3, tl_4, ti_4, tl_5, ti_5, tl_6, ti_6, tl_7, ti_7, tl_8, ti_8, tl_9, ti_9, tl_10, ti_10, tl_33, ti_33, tl_60, ti_60, tl_100, ti_100, tl_126, ti_126, tl_255, ti_255, tl_500, ti_500, tl_9999, ti_9999, tl_10000, ti_10000, tl_100000, ti_100000, tl_1000000, ti_1000000, tl_1000000000, ti_1000000000] at c_9
    exact ⟨_, rfl, by rw [sp_period, spQ_f (by omega)], ⟨⟨_, _, _, _, W, hc, N, H, SL, IR, IK, _, _, WG⟩, (by rw [hM0]; exact hFr.rf)⟩⟩
set_option maxHeartbeats 4000000 in
set_option maxRecDepth 100000 in
theorem c_X5_term (K : hKv) (M : hM) {A : Nat → Nat} {σ : hSt} (X : cX K A σ M) (ho : okS σ) (n k : Int32) : hC K Y_X5_term rm_X5_term [.ref (A 36), .int n, .int k] M (hPi fun r M' => r = sp_term n k ∧ cP K A M σ M') := by
  refine hC.of [some (.ref (A 36)), some (.int n), some (.int k), none] (by decide) (Nat.le_of_ble_eq_true rfl) rfl rfl ?_
  intro E C Rt
  have C : hCx E K cX5_term 4 RX5 "term" rm_X5_term := C
  obtain ⟨z, pd, sl, h, W, hc, N, H, SL, IR, IK, ⟨zg, yg, WG⟩⟩ := X
  obtain ⟨M0, hM0⟩ : ∃ M0 : hM, M0 = M := ⟨_, rfl⟩
  rw [← hM0] at Rt
  have lp : ∀ (NN kk : Nat), kk ≤ 500 → (0 < kk → nsq NN) → (∀ (M : hM), cX K A σ M → hFr 1 100 M0 M → hPi (fun r M' => r = sp_term n k ∧ cP K A M0 σ M') (some (.int (nI (ct NN kk)))) M) → ∀ (d i : Nat), i + d = kk → ∀ (z1 : Nat → Int32) (y1 : Nat → Int64) (M : hM), cO K A σ M → gW A z1 y1 M → gfM z1 NN i → hFr 1 100 M0 M → hX E 0 0 37 [some (.ref (A 36)), some (.int (nI NN)), some (.int (nI kk)), some (.int (nI i))] [] M := by
    intro NN kk hk hq0 hfin d
    induction d with
    | zero =>
      intro i hi z1 y1 M O WG cf fr
      obtain ⟨z, pd, sl, h, W, hc, N, H, SL, IR, IK⟩ := O
      have hi : i = kk := by omega
      subst hi
      refine x_iload_3 38 C dX5_term_37 rfl ?_
      refine x_iload_2 39 C dX5_term_38 rfl ?_
      refine x_icmp_ge 42 61 C dX5_term_39 rfl rfl (fun _ => ?_) (fun z => absurd (nI_le (Nat.le_refl _) (by omega)) z)
      refine x_aload_0 62 C dX5_term_61 rfl ?_
      refine xOg_fraction 65 C wf_X5_44 W.obj dX5_term_62 rfl ?_
      refine gOg_quotient 68 C wf_X5_210 WG.obj dX5_term_65 rfl ?_
      refine x_topi cf.2.2.2.2 ?_
      refine x_ireturn C Rt dX5_term_68 rfl ⟨Nat.le_of_ble_eq_true rfl, Nat.le_of_ble_eq_true rfl⟩ ?_
      exact hfin _ (cO.cx ⟨_, _, _, _, W, hc, N, H, SL, IR, IK⟩ WG) fr
    | succ d ih =>
      intro i hi z1 y1 M O WG cf fr
      obtain ⟨z, pd, sl, h, W, hc, N, H, SL, IR, IK⟩ := O
      have hq := hq0 (by omega)
      refine x_iload_3 38 C dX5_term_37 rfl ?_
      refine x_iload_2 39 C dX5_term_38 rfl ?_
      refine x_icmp_ge 42 61 C dX5_term_39 rfl rfl (fun z => absurd z (nI_ge (by omega) (by omega))) (fun _ => ?_)
      refine x_aload_0 43 C dX5_term_42 rfl ?_
      refine xOg_fraction 46 C wf_X5_44 W.obj dX5_term_43 rfl ?_
      refine x_callV 49 C (c_X1_goesOn K _ WG NN i cf hq) WG.obj wcl_X1 hy_X1_goesOn wv_X1_goesOn we_X1_goesOn lk_X5_201 dX5_term_46 rfl ⟨Nat.le_of_ble_eq_true rfl, Nat.le_of_ble_eq_true rfl⟩ ⟨Nat.le_of_ble_eq_true rfl, Nat.le_of_ble_eq_true rfl⟩ (Nat.le_of_ble_eq_true rfl) rfl (k_0 rfl rfl (k_i (fun r_g M_1 h_1 => ?_)))
      obtain ⟨rfl, z_g, WG, cf, o_g⟩ := h_1
      have W := W.kept o_g (by decide)
      have N := N.kept o_g (by decide) (by decide)
      have H := H.kept o_g (by decide) (by decide)
      have SL := SL.kept o_g (by decide) (by decide)
      have IR := IR.kept o_g (by decide)
      have IK := IK.kept o_g (by decide)
      refine x_if_ne 52 55 C dX5_term_49 rfl rfl (fun _ => ?_) (fun z => absurd z (by decide))
      refine x_iinc_3 58 C dX5_term_55 rfl rfl (nI_inc _) ?_
      refine x_goto 37 C dX5_term_58 rfl ?_
      exact ih (i + 1) (by omega) _ _ _ ⟨_, _, _, _, W, hc, N, H, SL, IR, IK⟩ WG cf (fr.tr ((cfr o_g (by decide))))
  refine x_iload_1 1 C dX5_term_0 rfl ?_
  refine x_i2l 2 C dX5_term_1 rfl ?_
  refine x_lconst (v := 0) 3 C dX5_term_2 rfl rfl ?_
  refine x_ldc2 (v := 100000) 6 C dX5_term_3 rfl wq_X5_194 ?_
  refine x_callS 9 C (c_X5_within K _ _ _ _) hy_X5_within ws_X5_within lk_X5_48 dX5_term_6 rfl ⟨Nat.le_of_ble_eq_true rfl, Nat.le_of_ble_eq_true rfl⟩ ⟨Nat.le_of_ble_eq_true rfl, Nat.le_of_ble_eq_true rfl⟩ (Nat.le_of_ble_eq_true rfl) rfl (k_0 rfl rfl (k_ip ?_))
  refine x_if_eq 12 24 C dX5_term_9 rfl rfl (fun c_9 => ?_) (fun c_9 => ?_)
  · refine x_bipush (v := (-2)) 26 C dX5_term_24 rfl rfl ?_
    refine x_ireturn C Rt dX5_term_26 rfl ⟨Nat.le_of_ble_eq_true rfl, Nat.le_of_ble_eq_true rfl⟩ ?_
    simp only [Classical.not_not, hB_0p, hB_n0p, Int32.toInt_toInt64, tl_LG, ti_m1, Int32.lt_iff_toInt_lt, Int32.le_iff_toInt_le, Int64.lt_iff_toInt_lt, Int64.le_iff_toInt_le, tl_0, ti_0, tl_1, ti_1, tl_2, ti_2, tl_3, ti_3, tl_4, ti_4, tl_5, ti_5, tl_6, ti_6, tl_7, ti_7, tl_8, ti_8, tl_9, ti_9, tl_10, ti_10, tl_33, ti_33, tl_60, ti_60, tl_100, ti_100, tl_126, ti_126, tl_255, ti_255, tl_500, ti_500, tl_9999, ti_9999, tl_10000, ti_10000, tl_100000, ti_100000, tl_1000000, ti_1000000, tl_1000000000, ti_1000000000] at c_9
    exact ⟨_, rfl, by rw [sp_term, spQ_f (by omega)], ⟨⟨_, _, _, _, W, hc, N, H, SL, IR, IK, _, _, WG⟩, (by rw [hM0]; exact hFr.rf)⟩⟩
  · refine x_iload_2 13 C dX5_term_12 rfl ?_
    refine x_i2l 14 C dX5_term_13 rfl ?_
    refine x_lconst (v := 0) 15 C dX5_term_14 rfl rfl ?_
    refine x_ldc2 (v := 500) 18 C dX5_term_15 rfl wq_X5_208 ?_
    refine x_callS 21 C (c_X5_within K _ _ _ _) hy_X5_within ws_X5_within lk_X5_48 dX5_term_18 rfl ⟨Nat.le_of_ble_eq_true rfl, Nat.le_of_ble_eq_true rfl⟩ ⟨Nat.le_of_ble_eq_true rfl, Nat.le_of_ble_eq_true rfl⟩ (Nat.le_of_ble_eq_true rfl) rfl (k_0 rfl rfl (k_ip ?_))
    refine x_if_ne 24 27 C dX5_term_21 rfl rfl (fun c_21 => ?_) (fun c_21 => ?_)
    · simp only [Classical.not_not, hB_0p, hB_n0p, Int32.toInt_toInt64, tl_LG, ti_m1, Int32.lt_iff_toInt_lt, Int32.le_iff_toInt_le, Int64.lt_iff_toInt_lt, Int64.le_iff_toInt_le, tl_0, ti_0, tl_1, ti_1, tl_2, ti_2, tl_3, ti_3, tl_4, ti_4, tl_5, ti_5, tl_6, ti_6, tl_7, ti_7, tl_8, ti_8, tl_9, ti_9, tl_10, ti_10, tl_33, ti_33, tl_60, ti_60, tl_100, ti_100, tl_126, ti_126, tl_255, ti_255, tl_500, ti_500, tl_9999, ti_9999, tl_10000, ti_10000, tl_100000, ti_100000, tl_1000000, ti_1000000, tl_1000000000, ti_1000000000] at c_9 c_21
      obtain ⟨NN, hN, rfl⟩ := in_nI (b := 100000) c_9
      obtain ⟨kk, hk, rfl⟩ := in_nI (b := 500) c_21
      refine x_aload_0 28 C dX5_term_27 rfl ?_
      refine xOg_fraction 31 C wf_X5_44 W.obj dX5_term_28 rfl ?_
      refine x_iload_1 32 C dX5_term_31 rfl ?_
      refine x_callV 35 C (c_X1_start K _ WG NN hN) WG.obj wcl_X1 hy_X1_start wv_X1_start we_X1_start lk_X5_196 dX5_term_32 rfl ⟨Nat.le_of_ble_eq_true rfl, Nat.le_of_ble_eq_true rfl⟩ ⟨Nat.le_of_ble_eq_true rfl, Nat.le_of_ble_eq_true rfl⟩ (Nat.le_of_ble_eq_true rfl) rfl (k_0 rfl rfl (k_v (fun M_1 h_1 => ?_)))
      obtain ⟨z_g, y_g, WG, cf, cv, o_g⟩ := h_1
      have W := W.kept o_g (by decide)
      have N := N.kept o_g (by decide) (by decide)
      have H := H.kept o_g (by decide) (by decide)
      have SL := SL.kept o_g (by decide) (by decide)
      have IR := IR.kept o_g (by decide)
      have IK := IK.kept o_g (by decide)
      refine x_iconst (v := 0) 36 C dX5_term_35 rfl rfl ?_
      refine x_topi (v' := nI 0) rfl ?_
      refine x_istore_3 37 C dX5_term_36 rfl rfl ?_
      by_cases hsk : sq 2 NN * sq 2 NN = NN ∧ 0 < kk
      · obtain ⟨hs, hs2⟩ := hsk
        refine x_iload_3 38 C dX5_term_37 rfl ?_
        refine x_iload_2 39 C dX5_term_38 rfl ?_
        refine x_icmp_ge 42 61 C dX5_term_39 rfl rfl (fun z => absurd z (nI_ge hs2 (by omega))) (fun _ => ?_)
        refine x_aload_0 43 C dX5_term_42 rfl ?_
        refine xOg_fraction 46 C wf_X5_44 W.obj dX5_term_43 rfl ?_
        refine x_callV 49 C (c_X1_goesOn0 K _ WG NN 0 cf hs) WG.obj wcl_X1 hy_X1_goesOn wv_X1_goesOn we_X1_goesOn lk_X5_201 dX5_term_46 rfl ⟨Nat.le_of_ble_eq_true rfl, Nat.le_of_ble_eq_true rfl⟩ ⟨Nat.le_of_ble_eq_true rfl, Nat.le_of_ble_eq_true rfl⟩ (Nat.le_of_ble_eq_true rfl) rfl (k_0 rfl rfl (k_ip ?_))
        refine x_if_ne 52 55 C dX5_term_49 rfl rfl (fun z => absurd (rfl) z) (fun _ => ?_)
        refine x_bipush (v := (-6)) 54 C dX5_term_52 rfl rfl ?_
        refine x_ireturn C Rt dX5_term_54 rfl ⟨Nat.le_of_ble_eq_true rfl, Nat.le_of_ble_eq_true rfl⟩ ?_
        exact ⟨_, rfl, by rw [sp_term, spQ_t ⟨c_9, c_21⟩, nI_toN (by omega), spQ_t ⟨by rw [nI_toI (by omega)]; omega, hs⟩], by rw [hM0]; exact ⟨⟨_, _, _, _, W, hc, N, H, SL, IR, IK, _, _, WG⟩, cfr o_g (by decide)⟩⟩
      · exact lp NN kk hk (fun q => nsq_no hN (fun z => hsk ⟨z, q⟩)) (fun M X fr => ⟨_, rfl, by rw [sp_term, spQ_t ⟨c_9, c_21⟩, nI_toN (by omega), spQ_f (by rw [nI_toI (by omega)]; exact fun q => hsk ⟨q.2, by omega⟩), nI_toN (by omega)], ⟨X, fr⟩⟩) kk 0 (Nat.zero_add _) _ _ _ ⟨_, _, _, _, W, hc, N, H, SL, IR, IK⟩ WG cf (by rw [hM0]; exact ((cfr o_g (by decide))))
    · refine x_bipush (v := (-2)) 26 C dX5_term_24 rfl rfl ?_
      refine x_ireturn C Rt dX5_term_26 rfl ⟨Nat.le_of_ble_eq_true rfl, Nat.le_of_ble_eq_true rfl⟩ ?_
      simp only [Classical.not_not, hB_0p, hB_n0p, Int32.toInt_toInt64, tl_LG, ti_m1, Int32.lt_iff_toInt_lt, Int32.le_iff_toInt_le, Int64.lt_iff_toInt_lt, Int64.le_iff_toInt_le, tl_0, ti_0, tl_1, ti_1, tl_2, ti_2, tl_3, ti_3, tl_4, ti_4, tl_5, ti_5, tl_6, ti_6, tl_7, ti_7, tl_8, ti_8, tl_9, ti_9, tl_10, ti_10, tl_33, ti_33, tl_60, ti_60, tl_100, ti_100, tl_126, ti_126, tl_255, ti_255, tl_500, ti_500, tl_9999, ti_9999, tl_10000, ti_10000, tl_100000, ti_100000, tl_1000000, ti_1000000, tl_1000000000, ti_1000000000] at c_9 c_21
      exact ⟨_, rfl, by rw [sp_term, spQ_f (by omega)], ⟨⟨_, _, _, _, W, hc, N, H, SL, IR, IK, _, _, WG⟩, (by rw [hM0]; exact hFr.rf)⟩⟩
set_option maxHeartbeats 4000000 in
set_option maxRecDepth 100000 in
theorem c_X5_convergent (K : hKv) (M : hM) {A : Nat → Nat} {σ : hSt} (X : cX K A σ M) (ho : okS σ) (n k p : Int32) : hC K Y_X5_convergent rm_X5_convergent [.ref (A 36), .int n, .int k, .int p] M (hPl fun r M' => r = sp_convergent n k p ∧ cP K A M σ M') := by
  refine hC.of [some (.ref (A 36)), some (.int n), some (.int k), some (.int p), none] (by decide) (Nat.le_of_ble_eq_true rfl) rfl rfl ?_
  intro E C Rt
  have C : hCx E K cX5_convergent 5 RX5 "convergent" rm_X5_convergent := C
  obtain ⟨z, pd, sl, h, W, hc, N, H, SL, IR, IK, ⟨zg, yg, WG⟩⟩ := X
  obtain ⟨M0, hM0⟩ : ∃ M0 : hM, M0 = M := ⟨_, rfl⟩
  rw [← hM0] at Rt
  have lp : ∀ (NN kk pp : Nat), NN ≤ 100000 → kk ≤ 500 → pp ≤ 1 → (0 < kk → nsq NN) → (∀ (M : hM), cX K A σ M → hFr 1 100 M0 M → ((∀ i, i ≤ kk → cvB NN i) → hPl (fun r M' => r = sp_convergent n k p ∧ cP K A M0 σ M') (some (.long (lN (if pp = 0 then (cvS NN kk).1.1 else (cvS NN kk).1.2)))) M) ∧ (¬ (∀ i, i ≤ kk → cvB NN i) → hPl (fun r M' => r = sp_convergent n k p ∧ cP K A M0 σ M') (some (.long (-6))) M)) → ∀ (d i : Nat), i + d = kk → ∀ (z1 : Nat → Int32) (y1 : Nat → Int64) (M : hM), cO K A σ M → gW A z1 y1 M → gfM z1 NN i → gvM y1 NN i → (∀ j, j ≤ i → cvB NN j) → hFr 1 100 M0 M → hX E 0 0 49 [some (.ref (A 36)), some (.int (nI NN)), some (.int (nI kk)), some (.int (nI pp)), some (.int (nI i))] [] M := by
    intro NN kk pp hN hk hp hq0 hfin d
    have hLG : LG = 1000000000000 := rfl
    induction d with
    | zero =>
      intro i hi z1 y1 M O WG cf cv hB fr
      obtain ⟨z, pd, sl, h, W, hc, N, H, SL, IR, IK⟩ := O
      have hi : i = kk := by omega
      subst hi
      have hf := (hfin _ (cO.cx ⟨_, _, _, _, W, hc, N, H, SL, IR, IK⟩ WG) fr).1 hB
      refine x_iload_4 51 C dX5_convergent_49 rfl ?_
      refine x_iload_2 52 C dX5_convergent_51 rfl ?_
      refine x_icmp_ge 55 114 C dX5_convergent_52 rfl rfl (fun _ => ?_) (fun z => absurd (nI_le (Nat.le_refl _) (by omega)) z)
      refine x_iload_3 115 C dX5_convergent_114 rfl ?_
      refine x_if_ne 118 128 C dX5_convergent_115 rfl rfl (fun c_115 => ?_) (fun c_115 => ?_)
      · refine x_aload_0 129 C dX5_convergent_128 rfl ?_
        refine xOg_fraction 132 C wf_X5_44 W.obj dX5_convergent_129 rfl ?_
        refine gOg_lower 135 C wf_X5_222 WG.obj dX5_convergent_132 rfl ?_
        refine x_topl cv.2.1 ?_
        refine x_lreturn C Rt dX5_convergent_135 ⟨Nat.le_of_ble_eq_true rfl, Nat.le_of_ble_eq_true rfl⟩ ?_
        have h0 : ¬ pp = 0 := fun q => c_115 (by rw [q]; rfl)
        rw [if_neg h0] at hf
        exact hf
      · refine x_aload_0 119 C dX5_convergent_118 rfl ?_
        refine xOg_fraction 122 C wf_X5_44 W.obj dX5_convergent_119 rfl ?_
        refine gOg_upper 125 C wf_X5_218 WG.obj dX5_convergent_122 rfl ?_
        refine x_topl cv.1 ?_
        refine x_goto 135 C dX5_convergent_125 rfl ?_
        refine x_lreturn C Rt dX5_convergent_135 ⟨Nat.le_of_ble_eq_true rfl, Nat.le_of_ble_eq_true rfl⟩ ?_
        have h0 : pp = 0 := (nI_eq (b := 0) (by omega) (by decide)).mp (by first | exact c_115 | exact Decidable.not_not.mp c_115)
        rw [if_pos h0] at hf
        exact hf
    | succ d ih =>
      intro i hi z1 y1 M O WG cf cv hB fr
      obtain ⟨z, pd, sl, h, W, hc, N, H, SL, IR, IK⟩ := O
      have hq := hq0 (by omega)
      have ht := (nsq_all hq (i + 1)).2.2.2.2.2.2.2.1
      obtain ⟨b1, b2⟩ := cv_new hB ht
      refine x_iload_4 51 C dX5_convergent_49 rfl ?_
      refine x_iload_2 52 C dX5_convergent_51 rfl ?_
      refine x_icmp_ge 55 114 C dX5_convergent_52 rfl rfl (fun z => absurd z (nI_ge (by omega) (by omega))) (fun _ => ?_)
      refine x_aload_0 56 C dX5_convergent_55 rfl ?_
      refine xOg_fraction 59 C wf_X5_44 W.obj dX5_convergent_56 rfl ?_
      refine x_callV 62 C (c_X1_goesOn K _ WG NN i cf hq) WG.obj wcl_X1 hy_X1_goesOn wv_X1_goesOn we_X1_goesOn lk_X5_201 dX5_convergent_59 rfl ⟨Nat.le_of_ble_eq_true rfl, Nat.le_of_ble_eq_true rfl⟩ ⟨Nat.le_of_ble_eq_true rfl, Nat.le_of_ble_eq_true rfl⟩ (Nat.le_of_ble_eq_true rfl) rfl (k_0 rfl rfl (k_i (fun r_g M_1 h_1 => ?_)))
      obtain ⟨rfl, z_g, WG, cf, o_g⟩ := h_1
      have W := W.kept o_g (by decide)
      have N := N.kept o_g (by decide) (by decide)
      have H := H.kept o_g (by decide) (by decide)
      have SL := SL.kept o_g (by decide) (by decide)
      have IR := IR.kept o_g (by decide)
      have IK := IK.kept o_g (by decide)
      refine x_if_ne 65 69 C dX5_convergent_62 rfl rfl (fun _ => ?_) (fun z => absurd z (by decide))
      refine x_aload_0 70 C dX5_convergent_69 rfl ?_
      refine xOg_fraction 73 C wf_X5_44 W.obj dX5_convergent_70 rfl ?_
      refine x_callV 76 C (c_X1_extend K _ WG NN i cf.2.2.2.2 ht cv) WG.obj wcl_X1 hy_X1_extend wv_X1_extend we_X1_extend lk_X5_215 dX5_convergent_73 rfl ⟨Nat.le_of_ble_eq_true rfl, Nat.le_of_ble_eq_true rfl⟩ ⟨Nat.le_of_ble_eq_true rfl, Nat.le_of_ble_eq_true rfl⟩ (Nat.le_of_ble_eq_true rfl) rfl (k_0 rfl rfl (k_v (fun M_2 h_2 => ?_)))
      obtain ⟨y_g, WG, cv, o_e⟩ := h_2
      have W := W.kept o_e (by decide)
      have N := N.kept o_e (by decide) (by decide)
      have H := H.kept o_e (by decide) (by decide)
      have SL := SL.kept o_e (by decide) (by decide)
      have IR := IR.kept o_e (by decide)
      have IK := IK.kept o_e (by decide)
      refine x_aload_0 77 C dX5_convergent_76 rfl ?_
      refine xOg_fraction 80 C wf_X5_44 W.obj dX5_convergent_77 rfl ?_
      refine gOg_upper 83 C wf_X5_218 WG.obj dX5_convergent_80 rfl ?_
      refine x_topl cv.1 ?_
      refine x_ldc2 (v := 1000000000000) 86 C dX5_convergent_83 rfl wq_X5_71 ?_
      refine x_lc_gt 90 104 C dX5_convergent_86 dX5_convergent_87 rfl rfl (fun c_86 => ?_) (fun c_86 => ?_)
      · refine x_ldc2 (v := (-6)) 107 C dX5_convergent_104 rfl wq_X5_213 ?_
        refine x_lreturn C Rt dX5_convergent_107 ⟨Nat.le_of_ble_eq_true rfl, Nat.le_of_ble_eq_true rfl⟩ ?_
        have hno : ¬ cvB NN (i + 1) := fun q => by have h1 := (lN_lt' (a := 1000000000000) (by decide) (by omega)).mp c_86; have h2 := q.1; omega
        exact (hfin _ (cO.cx ⟨_, _, _, _, W, hc, N, H, SL, IR, IK⟩ WG) (fr.tr (((cfr o_g (by decide))).tr (cfr o_e (by decide))))).2 (fun q => hno (q (i + 1) (by omega)))
      · refine x_aload_0 91 C dX5_convergent_90 rfl ?_
        refine xOg_fraction 94 C wf_X5_44 W.obj dX5_convergent_91 rfl ?_
        refine gOg_lower 97 C wf_X5_222 WG.obj dX5_convergent_94 rfl ?_
        refine x_topl cv.2.1 ?_
        refine x_ldc2 (v := 1000000000000) 100 C dX5_convergent_97 rfl wq_X5_71 ?_
        refine x_lc_le 104 108 C dX5_convergent_100 dX5_convergent_101 rfl rfl (fun c_100 => ?_) (fun c_100 => ?_)
        · refine x_iinc_4 111 C dX5_convergent_108 rfl rfl (nI_inc _) ?_
          refine x_goto 49 C dX5_convergent_111 rfl ?_
          have hy : cvB NN (i + 1) := ⟨Nat.not_lt.mp fun q => c_86 ((lN_lt' (a := 1000000000000) (by decide) (by omega)).mpr (by omega)), by have h1 := (lN_le' (b := 1000000000000) (by omega) (by decide)).mp c_100; omega⟩
          exact ih (i + 1) (by omega) _ _ _ ⟨_, _, _, _, W, hc, N, H, SL, IR, IK⟩ WG cf cv (cvB_s hB hy) (fr.tr (((cfr o_g (by decide))).tr (cfr o_e (by decide))))
        · refine x_ldc2 (v := (-6)) 107 C dX5_convergent_104 rfl wq_X5_213 ?_
          refine x_lreturn C Rt dX5_convergent_107 ⟨Nat.le_of_ble_eq_true rfl, Nat.le_of_ble_eq_true rfl⟩ ?_
          have hno : ¬ cvB NN (i + 1) := fun q => c_100 ((lN_le' (b := 1000000000000) (by omega) (by decide)).mpr (by have h2 := q.2; omega))
          exact (hfin _ (cO.cx ⟨_, _, _, _, W, hc, N, H, SL, IR, IK⟩ WG) (fr.tr (((cfr o_g (by decide))).tr (cfr o_e (by decide))))).2 (fun q => hno (q (i + 1) (by omega)))
  refine x_iload_1 1 C dX5_convergent_0 rfl ?_
  refine x_i2l 2 C dX5_convergent_1 rfl ?_
  refine x_lconst (v := 0) 3 C dX5_convergent_2 rfl rfl ?_
  refine x_ldc2 (v := 100000) 6 C dX5_convergent_3 rfl wq_X5_194 ?_
  refine x_callS 9 C (c_X5_within K _ _ _ _) hy_X5_within ws_X5_within lk_X5_48 dX5_convergent_6 rfl ⟨Nat.le_of_ble_eq_true rfl, Nat.le_of_ble_eq_true rfl⟩ ⟨Nat.le_of_ble_eq_true rfl, Nat.le_of_ble_eq_true rfl⟩ (Nat.le_of_ble_eq_true rfl) rfl (k_0 rfl rfl (k_ip ?_))
  refine x_if_eq 12 34 C dX5_convergent_9 rfl rfl (fun c_9 => ?_) (fun c_9 => ?_)
  · refine x_ldc2 (v := (-2)) 37 C dX5_convergent_34 rfl wq_X5_73 ?_
    refine x_lreturn C Rt dX5_convergent_37 ⟨Nat.le_of_ble_eq_true rfl, Nat.le_of_ble_eq_true rfl⟩ ?_
    simp only [Classical.not_not, hB_0p, hB_n0p, Int32.toInt_toInt64, tl_LG, ti_m1, Int32.lt_iff_toInt_lt, Int32.le_iff_toInt_le, Int64.lt_iff_toInt_lt, Int64.le_iff_toInt_le, tl_0, ti_0, tl_1, ti_1, tl_2, ti_2, tl_3, ti_3, tl_4, ti_4, tl_5, ti_5, tl_6, ti_6, tl_7, ti_7, tl_8, ti_8, tl_9, ti_9, tl_10, ti_10, tl_33, ti_33, tl_60, ti_60, tl_100, ti_100, tl_126, ti_126, tl_255, ti_255, tl_500, ti_500, tl_9999, ti_9999, tl_10000, ti_10000, tl_100000, ti_100000, tl_1000000, ti_1000000, tl_1000000000, ti_1000000000] at c_9
    exact ⟨_, rfl, by rw [sp_convergent, spQ_f (by omega)], ⟨⟨_, _, _, _, W, hc, N, H, SL, IR, IK, _, _, WG⟩, (by rw [hM0]; exact hFr.rf)⟩⟩
  · refine x_iload_2 13 C dX5_convergent_12 rfl ?_
    refine x_i2l 14 C dX5_convergent_13 rfl ?_
    refine x_lconst (v := 0) 15 C dX5_convergent_14 rfl rfl ?_
    refine x_ldc2 (v := 500) 18 C dX5_convergent_15 rfl wq_X5_208 ?_
    refine x_callS 21 C (c_X5_within K _ _ _ _) hy_X5_within ws_X5_within lk_X5_48 dX5_convergent_18 rfl ⟨Nat.le_of_ble_eq_true rfl, Nat.le_of_ble_eq_true rfl⟩ ⟨Nat.le_of_ble_eq_true rfl, Nat.le_of_ble_eq_true rfl⟩ (Nat.le_of_ble_eq_true rfl) rfl (k_0 rfl rfl (k_ip ?_))
    refine x_if_eq 24 34 C dX5_convergent_21 rfl rfl (fun c_21 => ?_) (fun c_21 => ?_)
    · refine x_ldc2 (v := (-2)) 37 C dX5_convergent_34 rfl wq_X5_73 ?_
      refine x_lreturn C Rt dX5_convergent_37 ⟨Nat.le_of_ble_eq_true rfl, Nat.le_of_ble_eq_true rfl⟩ ?_
      simp only [Classical.not_not, hB_0p, hB_n0p, Int32.toInt_toInt64, tl_LG, ti_m1, Int32.lt_iff_toInt_lt, Int32.le_iff_toInt_le, Int64.lt_iff_toInt_lt, Int64.le_iff_toInt_le, tl_0, ti_0, tl_1, ti_1, tl_2, ti_2, tl_3, ti_3, tl_4, ti_4, tl_5, ti_5, tl_6, ti_6, tl_7, ti_7, tl_8, ti_8, tl_9, ti_9, tl_10, ti_10, tl_33, ti_33, tl_60, ti_60, tl_100, ti_100, tl_126, ti_126, tl_255, ti_255, tl_500, ti_500, tl_9999, ti_9999, tl_10000, ti_10000, tl_100000, ti_100000, tl_1000000, ti_1000000, tl_1000000000, ti_1000000000] at c_9 c_21
      exact ⟨_, rfl, by rw [sp_convergent, spQ_f (by omega)], ⟨⟨_, _, _, _, W, hc, N, H, SL, IR, IK, _, _, WG⟩, (by rw [hM0]; exact hFr.rf)⟩⟩
    · refine x_iload_3 25 C dX5_convergent_24 rfl ?_
      refine x_i2l 26 C dX5_convergent_25 rfl ?_
      refine x_lconst (v := 0) 27 C dX5_convergent_26 rfl rfl ?_
      refine x_lconst (v := 1) 28 C dX5_convergent_27 rfl rfl ?_
      refine x_callS 31 C (c_X5_within K _ _ _ _) hy_X5_within ws_X5_within lk_X5_48 dX5_convergent_28 rfl ⟨Nat.le_of_ble_eq_true rfl, Nat.le_of_ble_eq_true rfl⟩ ⟨Nat.le_of_ble_eq_true rfl, Nat.le_of_ble_eq_true rfl⟩ (Nat.le_of_ble_eq_true rfl) rfl (k_0 rfl rfl (k_ip ?_))
      refine x_if_ne 34 38 C dX5_convergent_31 rfl rfl (fun c_31 => ?_) (fun c_31 => ?_)
      · simp only [Classical.not_not, hB_0p, hB_n0p, Int32.toInt_toInt64, tl_LG, ti_m1, Int32.lt_iff_toInt_lt, Int32.le_iff_toInt_le, Int64.lt_iff_toInt_lt, Int64.le_iff_toInt_le, tl_0, ti_0, tl_1, ti_1, tl_2, ti_2, tl_3, ti_3, tl_4, ti_4, tl_5, ti_5, tl_6, ti_6, tl_7, ti_7, tl_8, ti_8, tl_9, ti_9, tl_10, ti_10, tl_33, ti_33, tl_60, ti_60, tl_100, ti_100, tl_126, ti_126, tl_255, ti_255, tl_500, ti_500, tl_9999, ti_9999, tl_10000, ti_10000, tl_100000, ti_100000, tl_1000000, ti_1000000, tl_1000000000, ti_1000000000] at c_9 c_21 c_31
        obtain ⟨NN, hN, rfl⟩ := in_nI (b := 100000) c_9
        obtain ⟨kk, hk, rfl⟩ := in_nI (b := 500) c_21
        obtain ⟨pp, hp, rfl⟩ := in_nI (b := 1) c_31
        refine x_aload_0 39 C dX5_convergent_38 rfl ?_
        refine xOg_fraction 42 C wf_X5_44 W.obj dX5_convergent_39 rfl ?_
        refine x_iload_1 43 C dX5_convergent_42 rfl ?_
        refine x_callV 46 C (c_X1_start K _ WG NN hN) WG.obj wcl_X1 hy_X1_start wv_X1_start we_X1_start lk_X5_196 dX5_convergent_43 rfl ⟨Nat.le_of_ble_eq_true rfl, Nat.le_of_ble_eq_true rfl⟩ ⟨Nat.le_of_ble_eq_true rfl, Nat.le_of_ble_eq_true rfl⟩ (Nat.le_of_ble_eq_true rfl) rfl (k_0 rfl rfl (k_v (fun M_1 h_1 => ?_)))
        obtain ⟨z_g, y_g, WG, cf, cv, o_g⟩ := h_1
        have W := W.kept o_g (by decide)
        have N := N.kept o_g (by decide) (by decide)
        have H := H.kept o_g (by decide) (by decide)
        have SL := SL.kept o_g (by decide) (by decide)
        have IR := IR.kept o_g (by decide)
        have IK := IK.kept o_g (by decide)
        refine x_iconst (v := 0) 47 C dX5_convergent_46 rfl rfl ?_
        refine x_topi (v' := nI 0) rfl ?_
        refine x_istore_4 49 C dX5_convergent_47 rfl rfl ?_
        by_cases hsk : sq 2 NN * sq 2 NN = NN ∧ 0 < kk
        · obtain ⟨hs, hs2⟩ := hsk
          refine x_iload_4 51 C dX5_convergent_49 rfl ?_
          refine x_iload_2 52 C dX5_convergent_51 rfl ?_
          refine x_icmp_ge 55 114 C dX5_convergent_52 rfl rfl (fun z => absurd z (nI_ge hs2 (by omega))) (fun _ => ?_)
          refine x_aload_0 56 C dX5_convergent_55 rfl ?_
          refine xOg_fraction 59 C wf_X5_44 W.obj dX5_convergent_56 rfl ?_
          refine x_callV 62 C (c_X1_goesOn0 K _ WG NN 0 cf hs) WG.obj wcl_X1 hy_X1_goesOn wv_X1_goesOn we_X1_goesOn lk_X5_201 dX5_convergent_59 rfl ⟨Nat.le_of_ble_eq_true rfl, Nat.le_of_ble_eq_true rfl⟩ ⟨Nat.le_of_ble_eq_true rfl, Nat.le_of_ble_eq_true rfl⟩ (Nat.le_of_ble_eq_true rfl) rfl (k_0 rfl rfl (k_ip ?_))
          refine x_if_ne 65 69 C dX5_convergent_62 rfl rfl (fun z => absurd (rfl) z) (fun _ => ?_)
          refine x_ldc2 (v := (-6)) 68 C dX5_convergent_65 rfl wq_X5_213 ?_
          refine x_lreturn C Rt dX5_convergent_68 ⟨Nat.le_of_ble_eq_true rfl, Nat.le_of_ble_eq_true rfl⟩ ?_
          exact ⟨_, rfl, by rw [sp_convergent, spQ_t ⟨c_9, c_21, c_31⟩, nI_toN (by omega), spQ_t ⟨by rw [nI_toI (by omega)]; omega, hs⟩], by rw [hM0]; exact ⟨⟨_, _, _, _, W, hc, N, H, SL, IR, IK, _, _, WG⟩, cfr o_g (by decide)⟩⟩
        · exact lp NN kk pp hN hk hp (fun q => nsq_no hN (fun z => hsk ⟨z, q⟩)) (fun M X fr => ⟨fun q => ⟨_, rfl, by rw [sp_convergent, spQ_t ⟨c_9, c_21, c_31⟩, nI_toN (by omega), spQ_f (by rw [nI_toI (by omega)]; exact fun z => hsk ⟨z.2, by omega⟩), nI_toN (by omega), spQ_t q, cv_sel hp], ⟨X, fr⟩⟩, fun q => ⟨_, rfl, by rw [sp_convergent, spQ_t ⟨c_9, c_21, c_31⟩, nI_toN (by omega), spQ_f (by rw [nI_toI (by omega)]; exact fun z => hsk ⟨z.2, by omega⟩), nI_toN (by omega), spQ_f q], ⟨X, fr⟩⟩⟩) kk 0 (Nat.zero_add _) _ _ _ ⟨_, _, _, _, W, hc, N, H, SL, IR, IK⟩ WG cf cv (cvB_0 (cf_w hN).1) (by rw [hM0]; exact ((cfr o_g (by decide))))
      · refine x_ldc2 (v := (-2)) 37 C dX5_convergent_34 rfl wq_X5_73 ?_
        refine x_lreturn C Rt dX5_convergent_37 ⟨Nat.le_of_ble_eq_true rfl, Nat.le_of_ble_eq_true rfl⟩ ?_
        simp only [Classical.not_not, hB_0p, hB_n0p, Int32.toInt_toInt64, tl_LG, ti_m1, Int32.lt_iff_toInt_lt, Int32.le_iff_toInt_le, Int64.lt_iff_toInt_lt, Int64.le_iff_toInt_le, tl_0, ti_0, tl_1, ti_1, tl_2, ti_2, tl_3, ti_3, tl_4, ti_4, tl_5, ti_5, tl_6, ti_6, tl_7, ti_7, tl_8, ti_8, tl_9, ti_9, tl_10, ti_10, tl_33, ti_33, tl_60, ti_60, tl_100, ti_100, tl_126, ti_126, tl_255, ti_255, tl_500, ti_500, tl_9999, ti_9999, tl_10000, ti_10000, tl_100000, ti_100000, tl_1000000, ti_1000000, tl_1000000000, ti_1000000000] at c_9 c_21 c_31
        exact ⟨_, rfl, by rw [sp_convergent, spQ_f (by omega)], ⟨⟨_, _, _, _, W, hc, N, H, SL, IR, IK, _, _, WG⟩, (by rw [hM0]; exact hFr.rf)⟩⟩
