set_option maxHeartbeats 4000000 in
set_option maxRecDepth 100000 in
theorem c_X5_fault (K : hKv) (M : hM) {A : Nat → Nat} {σ : hSt} (X : cX K A σ M) (ho : okS σ) : hC K Y_X5_fault rm_X5_fault [.ref (A 36)] M (hPi fun r M' => r = (match fltN σ.2.2.2 with | some i => nI i | none => -6) ∧ cP K A M σ M') := by
  refine hC.of [some (.ref (A 36))] (by decide) (Nat.le_of_ble_eq_true rfl) rfl rfl ?_
  intro E C Rt
  have C : hCx E K cX5_fault 1 RX5 "fault" rm_X5_fault := C
  obtain ⟨z, pd, sl, h, W, hc, N, H, SL, IR, IK, IG⟩ := X
  obtain ⟨zr, Fr, WR⟩ := IR
  have IR : cIR K A M := ⟨_, _, WR⟩
  obtain ⟨c0, c1, crest⟩ := hc
  refine x_aload_0 1 C dX5_fault_0 rfl ?_
  refine xOg_reader 4 C wf_X5_30 W.obj dX5_fault_1 rfl ?_
  refine x_aload_0 5 C dX5_fault_4 rfl ?_
  refine xOg_pad 8 C wf_X5_23 W.obj dX5_fault_5 rfl ?_
  refine x_aload_0 9 C dX5_fault_8 rfl ?_
  refine xOg_padLength 12 C wf_X5_87 W.obj dX5_fault_9 rfl ?_
  refine x_topi c0 ?_
  refine x_callV 15 C (c_X2_faultOf K _ WR W.pad (Or.inl (by decide)) c1 ho.2.2.2.2.1 ho.2.2.2.2.2) WR.obj wcl_X2 hy_X2_faultOf wv_X2_faultOf we_X2_faultOf lk_X5_97 dX5_fault_12 rfl ⟨Nat.le_of_ble_eq_true rfl, Nat.le_of_ble_eq_true rfl⟩ ⟨Nat.le_of_ble_eq_true rfl, Nat.le_of_ble_eq_true rfl⟩ (Nat.le_of_ble_eq_true rfl) rfl (k_0 rfl rfl (k_i (fun r_f M_1 h_1 => ?_)))
  obtain ⟨z_r, F_r, WR, o_f, hf1, hf2⟩ := h_1
  have IR : cIR K A M_1 := ⟨_, _, WR⟩
  have W := W.kept o_f (by decide)
  have N := N.kept o_f (by decide) (by decide)
  have H := H.kept o_f (by decide) (by decide)
  have SL := SL.kept o_f (by decide) (by decide)
  have IK := IK.kept o_f (by decide)
  have IG := IG.kept o_f (by decide)
  refine x_ireturn C Rt dX5_fault_15 rfl ⟨Nat.le_of_ble_eq_true rfl, Nat.le_of_ble_eq_true rfl⟩ ?_
  refine ⟨_, rfl, ?_, ⟨⟨_, _, _, _, W, ⟨c0, c1, crest⟩, N, H, SL, IR, IK, IG⟩, ((cfr o_f (by decide)))⟩⟩
  cases hq : fltN σ.2.2.2 with
  | some i => exact hf1 i hq
  | none => exact (hf2 hq).1
set_option maxHeartbeats 4000000 in
set_option maxRecDepth 100000 in
theorem c_X5_load (K : hKv) (M : hM) {A : Nat → Nat} {σ : hSt} (X : cX K A σ M) (ho : okS σ) (a : Int32) : hC K Y_X5_load rm_X5_load [.ref (A 36), .int a] M (hPi fun r M' => r = (sp_load σ a).1 ∧ cP K A M (sp_load σ a).2 M') := by
  refine hC.of [some (.ref (A 36)), some (.int a), none] (by decide) (Nat.le_of_ble_eq_true rfl) rfl rfl ?_
  intro E C Rt
  have C : hCx E K cX5_load 3 RX5 "load" rm_X5_load := C
  obtain ⟨z, pd, sl, h, W, hc, N, H, SL, IR, IK, IG⟩ := X
  obtain ⟨zr, Fr, WR⟩ := IR
  have IR : cIR K A M := ⟨_, _, WR⟩
  obtain ⟨c0, c1, crest⟩ := hc
  have hc : cRl z pd h σ := ⟨c0, c1, crest⟩
  refine x_iload_1 1 C dX5_load_0 rfl ?_
  refine x_i2l 2 C dX5_load_1 rfl ?_
  refine x_lconst (v := 0) 3 C dX5_load_2 rfl rfl ?_
  refine x_ldc2 (v := 5) 6 C dX5_load_3 rfl wq_X5_101 ?_
  refine x_callS 9 C (c_X5_within K _ _ _ _) hy_X5_within ws_X5_within lk_X5_48 dX5_load_6 rfl ⟨Nat.le_of_ble_eq_true rfl, Nat.le_of_ble_eq_true rfl⟩ ⟨Nat.le_of_ble_eq_true rfl, Nat.le_of_ble_eq_true rfl⟩ (Nat.le_of_ble_eq_true rfl) rfl (k_0 rfl rfl (k_ip ?_))
  refine x_if_ne 12 14 C dX5_load_9 rfl rfl (fun c_9 => ?_) (fun c_9 => ?_)
  · simp only [Classical.not_not, hB_0p, hB_n0p, Int32.toInt_toInt64, tl_LG, ti_m1, Int32.lt_iff_toInt_lt, Int32.le_iff_toInt_le, Int64.lt_iff_toInt_lt, Int64.le_iff_toInt_le, tl_0, ti_0, tl_1, ti_1, tl_2, ti_2, tl_3, ti_3, tl_4, ti_4, tl_5, ti_5, tl_6, ti_6, tl_7, ti_7, tl_8, ti_8, tl_9, ti_9, tl_10, ti_10, tl_33, ti_33, tl_60, ti_60, tl_100, ti_100, tl_126, ti_126, tl_255, ti_255, tl_500, ti_500, tl_9999, ti_9999, tl_10000, ti_10000, tl_100000, ti_100000, tl_1000000, ti_1000000, tl_1000000000, ti_1000000000] at c_9
    obtain ⟨j, hj, rfl⟩ := in_nI (b := 5) c_9
    refine x_aload_0 15 C dX5_load_14 rfl ?_
    refine xOg_reader 18 C wf_X5_30 W.obj dX5_load_15 rfl ?_
    refine x_aload_0 19 C dX5_load_18 rfl ?_
    refine xOg_pad 22 C wf_X5_23 W.obj dX5_load_19 rfl ?_
    refine x_aload_0 23 C dX5_load_22 rfl ?_
    refine xOg_padLength 26 C wf_X5_87 W.obj dX5_load_23 rfl ?_
    refine x_topi c0 ?_
    refine x_callV 29 C (c_X2_faultOf K _ WR W.pad (Or.inl (by decide)) c1 ho.2.2.2.2.1 ho.2.2.2.2.2) WR.obj wcl_X2 hy_X2_faultOf wv_X2_faultOf we_X2_faultOf lk_X5_97 dX5_load_26 rfl ⟨Nat.le_of_ble_eq_true rfl, Nat.le_of_ble_eq_true rfl⟩ ⟨Nat.le_of_ble_eq_true rfl, Nat.le_of_ble_eq_true rfl⟩ (Nat.le_of_ble_eq_true rfl) rfl (k_0 rfl rfl (k_i (fun r_f M_1 h_1 => ?_)))
    obtain ⟨z_r, F_r, WR, o_f, hf1, hf2⟩ := h_1
    have IR : cIR K A M_1 := ⟨_, _, WR⟩
    have W := W.kept o_f (by decide)
    have N := N.kept o_f (by decide) (by decide)
    have H := H.kept o_f (by decide) (by decide)
    have SL := SL.kept o_f (by decide) (by decide)
    have IK := IK.kept o_f (by decide)
    have IG := IG.kept o_f (by decide)
    refine x_bipush (v := (-6)) 31 C dX5_load_29 rfl rfl ?_
    refine x_icmp_eq 34 37 C dX5_load_31 rfl rfl (fun c_31 => ?_) (fun c_31 => ?_)
    · have hf : fltN σ.2.2.2 = none := by
        cases hf : fltN σ.2.2.2 with
        | none => rfl
        | some i =>
          exfalso
          have h1 := fltN_le hf
          have h2 := hf1 i hf
          have h3 := ho.2.2.2.2.1
          have h4 : nI i = -6 := by rw [← h2]; first | exact c_31 | exact Decidable.not_not.mp c_31
          have h5 := congrArg Int32.toInt h4
          rw [nI_toI (by omega), show (-6 : Int32).toInt = -6 from rfl] at h5
          omega
      obtain ⟨-, hz0, hrow⟩ := hf2 hf
      have hwf := stp_wf ho.2.2.2.2.1 hf
      have hl60 := hwf.2.2
      have hsp : sp_load σ (nI j) = (nI (stpN σ.2.2.2).length, ((σ.1.1, σ.1.2.1, σ.1.2.2.1, va_up σ.1.2.2.2 j (stpN σ.2.2.2)), psh σ.2.1 σ.1, σ.2.2.1, [])) := by rw [sp_load, spQ_t c_9, hf, nI_toN (by omega)]
      refine x_aload_0 38 C dX5_load_37 rfl ?_
      refine x_callV 41 C (c_X5_keepState K _ W hc N H ho.2.1) W.obj wcl_X5 hy_X5_keepState wv_X5_keepState we_X5_keepState lk_X5_56 dX5_load_38 rfl ⟨Nat.le_of_ble_eq_true rfl, Nat.le_of_ble_eq_true rfl⟩ ⟨Nat.le_of_ble_eq_true rfl, Nat.le_of_ble_eq_true rfl⟩ (Nat.le_of_ble_eq_true rfl) rfl (k_0 rfl rfl (k_v (fun M_2 h_2 => ?_)))
      obtain ⟨z_2, h_2, W, hc2, H, o_q⟩ := h_2
      have N := N.kept o_q (by decide) (by decide)
      have SL := SL.kept o_q (by decide) (by decide)
      have IR := IR.kept o_q (by decide)
      have IK := IK.kept o_q (by decide)
      have IG := IG.kept o_q (by decide)
      have WR := WR.kept o_q (by decide)
      refine x_new (fs := [.null]) 44 0 C wu_X0 wcl_X0 tyX0 tyX0_ok wk_X5_103 wn_X0 wi_X0 (by decide) ⟨Nat.le_of_ble_eq_true rfl, Nat.le_of_ble_eq_true rfl⟩ dX5_load_41 rfl (fun y f_y => ?_)
      refine x_up (fun M_y g_y o_y e_y => ?_)
      have o_n := hFr.new (lo := 99) (hi := 100) (e := eO 0 [.null]) (u := 0) f_y
      rw [← e_y] at o_n
      have W0 := W
      have W := W.kept o_n (by decide)
      have WR := WR.kept o_n (by decide)
      refine x_dup 45 C dX5_load_44 rfl rfl ?_
      refine x_aload_0 46 C dX5_load_45 rfl ?_
      refine xOg_reader 49 C wf_X5_30 W.obj dX5_load_46 rfl ?_
      refine rOg_steps 52 C wf_X5_105 WR.obj dX5_load_49 rfl ?_
      refine x_aload_0 53 C dX5_load_52 rfl ?_
      refine xOg_reader 56 C wf_X5_30 W.obj dX5_load_53 rfl ?_
      refine rOg_size 59 C wf_X5_109 WR.obj dX5_load_56 rfl ?_
      refine x_topi hz0 ?_
      refine x_callI 62 C (c_X0_init K _ y (A 41) (stpN σ.2.2.2).length (F_r 0) g_y WR.steps hl60) rfl rfl hy_X0_init wv_X0_init lk_X5_112 dX5_load_59 rfl ⟨Nat.le_of_ble_eq_true rfl, Nat.le_of_ble_eq_true rfl⟩ ⟨Nat.le_of_ble_eq_true rfl, Nat.le_of_ble_eq_true rfl⟩ (Nat.le_of_ble_eq_true rfl) rfl (k_v (fun M_3 h_3 => ?_))
      obtain ⟨b_y, g_b, hy1, hy2, hy3, hy4⟩ := h_3
      have o_i : hFr 99 100 _ M_3 := fun c t e ht q => hy4 c t e (hT_new q f_y) (o_n c t e ht q)
      have W := W0.kept o_i (by decide)
      have N := N.kept o_i (by decide) (by decide)
      have H := H.kept o_i (by decide) (by decide)
      have SL := SL.kept o_i (by decide) (by decide)
      have IR := IR.kept o_i (by decide)
      have IK := IK.kept o_i (by decide)
      have IG := IG.kept o_i (by decide)
      refine x_astore_2 63 C dX5_load_62 rfl rfl ?_
      refine x_aload_0 64 C dX5_load_63 rfl ?_
      refine xOg_now 67 C wf_X5_10 W.obj dX5_load_64 rfl ?_
      refine x_iload_1 68 C dX5_load_67 rfl ?_
      refine x_aload_2 69 C dX5_load_68 rfl ?_
      have N0 := N
      obtain ⟨n1, n2, n3, f_n, g_n, q_n, n0, s1, s2, s3, e1, e2, e3, e4⟩ := N0
      have hL : frW K _ (some y) (stpN σ.2.2.2) := Or.inr ⟨y, b_y, g_b, rfl, wfF_ne hwf, hy1, hy2, fun k hk => (hy3 k hk).trans (hrow k hk)⟩
      refine x_callV 72 C (c_X4_changeFormula K _ n0 s3 j (by omega) y hy1) n0 wcl_X4 hy_X4_changeFormula wv_X4_changeFormula we_X4_changeFormula lk_X5_115 dX5_load_69 rfl ⟨Nat.le_of_ble_eq_true rfl, Nat.le_of_ble_eq_true rfl⟩ ⟨Nat.le_of_ble_eq_true rfl, Nat.le_of_ble_eq_true rfl⟩ (Nat.le_of_ble_eq_true rfl) rfl (k_0 rfl rfl (k_v (fun M_4 h_4 => ?_)))
      subst h_4
      obtain ⟨N, o_s⟩ := stO.frm ⟨n0, s1, s2, s3, e1, e2, e3, e4⟩ (by decide) j y hL
      have W := W.kept o_s (by decide)
      have H := H.kept o_s (by decide) (by decide)
      have SL := SL.kept o_s (by decide) (by decide)
      have IR := IR.kept o_s (by decide)
      have IK := IK.kept o_s (by decide)
      have IG := IG.kept o_s (by decide)
      have hy1 := o_s _ _ _ (Or.inl (by decide)) hy1
      have hy2 := o_s _ _ _ (Or.inl (by decide)) hy2
      refine x_aload_0 73 C dX5_load_72 rfl ?_
      refine x_iconst (v := 0) 74 C dX5_load_73 rfl rfl ?_
      refine xOp_padLength 77 C wf_X5_87 W.obj dX5_load_74 rfl ?_
      refine x_c_obj W (fun M_5 W o_5 => ?_)
      have N := N.kept o_5 (by decide) (by decide)
      have H := H.kept o_5 (by decide) (by decide)
      have SL := SL.kept o_5 (by decide) (by decide)
      have IR := IR.kept o_5 (by decide)
      have IK := IK.kept o_5 (by decide)
      have IG := IG.kept o_5 (by decide)
      have hy1 := o_5 _ _ _ (Or.inl (by decide)) hy1
      have hy2 := o_5 _ _ _ (Or.inl (by decide)) hy2
      refine x_aload_2 78 C dX5_load_77 rfl ?_
      refine xg_X0_steps 81 C wf_X5_119 hy1 dX5_load_78 rfl ?_
      refine x_alenI 82 C hy2 dX5_load_81 rfl ?_
      refine x_ireturn C Rt dX5_load_82 rfl ⟨Nat.le_of_ble_eq_true rfl, Nat.le_of_ble_eq_true rfl⟩ ?_
      exact ⟨_, rfl, by rw [hsp], by rw [hsp]; exact ⟨⟨_, _, _, _, W, ⟨rfl, fun k hk => absurd hk (Nat.not_lt_zero _), hc2.2.2⟩, N, H, SL, IR, IK, IG⟩, ((((((cfr o_f (by decide))).tr (cfr o_q (by decide))).tr (cfr o_i (by decide))).tr (cfr o_s (by decide))).tr (cfr o_5 (by decide)))⟩⟩
    · refine x_bipush (v := (-3)) 36 C dX5_load_34 rfl rfl ?_
      refine x_ireturn C Rt dX5_load_36 rfl ⟨Nat.le_of_ble_eq_true rfl, Nat.le_of_ble_eq_true rfl⟩ ?_
      cases hf : fltN σ.2.2.2 with
      | none => exact absurd (hf2 hf).1 c_31
      | some i =>
        have hsp : sp_load σ (nI j) = (-3, σ) := by rw [sp_load, spQ_t c_9, hf]
        exact ⟨_, rfl, by rw [hsp], by rw [hsp]; exact ⟨⟨_, _, _, _, W, hc, N, H, SL, IR, IK, IG⟩, ((cfr o_f (by decide)))⟩⟩
  · refine x_iconst (v := (-1)) 13 C dX5_load_12 rfl rfl ?_
    refine x_ireturn C Rt dX5_load_13 rfl ⟨Nat.le_of_ble_eq_true rfl, Nat.le_of_ble_eq_true rfl⟩ ?_
    simp only [Classical.not_not, hB_0p, hB_n0p, Int32.toInt_toInt64, tl_LG, ti_m1, Int32.lt_iff_toInt_lt, Int32.le_iff_toInt_le, Int64.lt_iff_toInt_lt, Int64.le_iff_toInt_le, tl_0, ti_0, tl_1, ti_1, tl_2, ti_2, tl_3, ti_3, tl_4, ti_4, tl_5, ti_5, tl_6, ti_6, tl_7, ti_7, tl_8, ti_8, tl_9, ti_9, tl_10, ti_10, tl_33, ti_33, tl_60, ti_60, tl_100, ti_100, tl_126, ti_126, tl_255, ti_255, tl_500, ti_500, tl_9999, ti_9999, tl_10000, ti_10000, tl_100000, ti_100000, tl_1000000, ti_1000000, tl_1000000000, ti_1000000000] at c_9
    have hn : ¬ (0 ≤ a.toInt ∧ a.toInt ≤ 5) := by omega
    exact ⟨_, rfl, by rw [sp_load, spQ_f hn], by rw [sp_load, spQ_f hn]; exact ⟨⟨z, pd, sl, h, W, hc, N, H, SL, IR, IK, IG⟩, hFr.rf⟩⟩
