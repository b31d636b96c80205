set_option maxHeartbeats 4000000 in
set_option maxRecDepth 100000 in
theorem c_X5_save (K : hKv) (M : hM) {A : Nat → Nat} {σ : hSt} (X : cX K A σ M) (ho : okS σ) (a : Int32) : hC K Y_X5_save rm_X5_save [.ref (A 36), .int a] M (hPi fun r M' => r = (sp_save σ a).1 ∧ cP K A M (sp_save σ a).2 M') := by
  refine hC.of [some (.ref (A 36)), some (.int a)] (by decide) (Nat.le_of_ble_eq_true rfl) rfl rfl ?_
  intro E C Rt
  have C : hCx E K cX5_save 2 RX5 "save" rm_X5_save := C
  obtain ⟨z, pd, sl, h, W, hc, N, H, SL, IR, IK, IG⟩ := X
  refine x_iload_1 1 C dX5_save_0 rfl ?_
  refine x_i2l 2 C dX5_save_1 rfl ?_
  refine x_lconst (v := 0) 3 C dX5_save_2 rfl rfl ?_
  refine x_aload_0 4 C dX5_save_3 rfl ?_
  refine xOg_slots 7 C wf_X5_20 W.obj dX5_save_4 rfl ?_
  refine x_alenS 8 C W.slots dX5_save_7 rfl ?_
  refine x_iconst (v := 1) 9 C dX5_save_8 rfl rfl ?_
  refine x_topi (v' := nI 1) (pk_sub (a := 2) (b := 1) (by decide)) ?_
  refine x_isub 10 C dX5_save_9 rfl ?_
  refine x_i2l 11 C dX5_save_10 rfl ?_
  refine x_topl (v' := (1 : Int64)) (by decide) ?_
  refine x_callS 14 C (c_X5_within K _ _ _ _) hy_X5_within ws_X5_within lk_X5_48 dX5_save_11 rfl ⟨Nat.le_of_ble_eq_true rfl, Nat.le_of_ble_eq_true rfl⟩ ⟨Nat.le_of_ble_eq_true rfl, Nat.le_of_ble_eq_true rfl⟩ (Nat.le_of_ble_eq_true rfl) rfl (k_0 rfl rfl (k_ip ?_))
  refine x_if_ne 17 20 C dX5_save_14 rfl rfl (fun c_14 => ?_) (fun c_14 => ?_)
  · simp only [Classical.not_not, hB_0p, hB_n0p, Int32.toInt_toInt64, tl_LG, ti_m1, Int32.lt_iff_toInt_lt, Int32.le_iff_toInt_le, Int64.lt_iff_toInt_lt, Int64.le_iff_toInt_le, tl_0, ti_0, tl_1, ti_1, tl_2, ti_2, tl_3, ti_3, tl_4, ti_4, tl_5, ti_5, tl_6, ti_6, tl_7, ti_7, tl_8, ti_8, tl_9, ti_9, tl_10, ti_10, tl_33, ti_33, tl_60, ti_60, tl_100, ti_100, tl_126, ti_126, tl_255, ti_255, tl_500, ti_500, tl_9999, ti_9999, tl_10000, ti_10000, tl_100000, ti_100000, tl_1000000, ti_1000000, tl_1000000000, ti_1000000000] at c_14
    obtain ⟨s, hs, rfl⟩ := in_nI (b := 1) c_14
    have hs2 : s < 2 := by omega
    refine x_aload_0 21 C dX5_save_20 rfl ?_
    refine xOg_slots 24 C wf_X5_20 W.obj dX5_save_21 rfl ?_
    refine x_iload_1 25 C dX5_save_24 rfl ?_
    refine x_sald 26 (s) C W.slots (rfl) (by omega) (by decide) dX5_save_25 rfl ?_
    rcases hq : σ.2.2.1 s with _ | τ
    · have hl := (SL s (by omega)).1 hq
      have SX := SL.out s
      rw [hl]
      refine x_ifnonnull 29 42 C dX5_save_26 rfl rfl ((fun _ z => by cases z)) (fun c_26 => ?_)
      refine x_aload_0 30 C dX5_save_29 rfl ?_
      refine xOg_slots 33 C wf_X5_20 W.obj dX5_save_30 rfl ?_
      refine x_iload_1 34 C dX5_save_33 rfl ?_
      refine x_new (fs := [.null, .null, .null]) 37 (4 * s + 1) C wu_X4 wcl_X4 tyX4 tyX4_ok wk_X5_7 wn_X4 wi_X4 (by decide) ⟨Nat.le_of_ble_eq_true rfl, Nat.le_of_ble_eq_true rfl⟩ dX5_save_34 rfl (fun y f_y => ?_)
      refine x_up (fun M_y g_y o_y e_y => ?_)
      have o_n := hFr.eqn (lo := 99) (hi := 100) f_y e_y
      have W := W.kept o_n (by omega)
      have N := N.kept o_n (by omega) (by omega)
      have H := H.kept o_n (by omega) (by omega)
      have IR := IR.kept o_n (by omega)
      have IK := IK.kept o_n (by omega)
      have IG := IG.kept o_n (by omega)
      have SX := SX.kept o_n (by omega) (by omega) (by omega)
      refine x_dup 38 C dX5_save_37 rfl rfl ?_
      refine x_callI 41 C (c_X4_init K _ y g_y) rfl rfl hy_X4_init wv_X4_init lk_X5_9 dX5_save_38 rfl ⟨Nat.le_of_ble_eq_true rfl, Nat.le_of_ble_eq_true rfl⟩ ⟨Nat.le_of_ble_eq_true rfl, Nat.le_of_ble_eq_true rfl⟩ (Nat.le_of_ble_eq_true rfl) rfl (k_v (fun M_1 h_1 => ?_))
      obtain ⟨b1, b2, b3, hy0, hy1, hy2, hy3, o_i⟩ := h_1
      have W := W.kept o_i (by omega)
      have N := N.kept o_i (by omega) (by omega)
      have H := H.kept o_i (by omega) (by omega)
      have IR := IR.kept o_i (by omega)
      have IK := IK.kept o_i (by omega)
      have IG := IG.kept o_i (by omega)
      have SX := SX.kept o_i (by omega) (by omega) (by omega)
      have Sy : stW K M_1 (4 * s + 1) y (0, 3, fun _ => 0, fun _ => []) := ⟨b1, b2, b3, _, _, _, hy0, hy1, hy2, hy3, rfl, rfl, fun i _ => rfl, fun i _ => Or.inl ⟨rfl, rfl⟩⟩
      refine x_sast 42 (s) C W.slots (hy0) (rfl) (by omega) (by decide) dX5_save_41 rfl ?_
      refine x_c_slots W (fun M_2 W o_2 => ?_)
      have N := N.kept o_2 (by omega) (by omega)
      have H := H.kept o_2 (by omega) (by omega)
      have IR := IR.kept o_2 (by omega)
      have IK := IK.kept o_2 (by omega)
      have IG := IG.kept o_2 (by omega)
      have SX := SX.kept o_2 (by omega) (by omega) (by omega)
      have Sy := Sy.kept o_2 (by omega) (by omega)
      refine x_aload_0 43 C dX5_save_42 rfl ?_
      refine xOg_slots 46 C wf_X5_20 W.obj dX5_save_43 rfl ?_
      refine x_iload_1 47 C dX5_save_46 rfl ?_
      refine x_sald 48 (s) C W.slots (rfl) (by omega) (by decide) dX5_save_47 rfl ?_
      refine x_top (v' := .ref y) (by rw [va_up_self]; rfl) ?_
      refine x_aload_0 49 C dX5_save_48 rfl ?_
      refine xOg_now 52 C wf_X5_10 W.obj dX5_save_49 rfl ?_
      have Sd := Sy
      obtain ⟨d1, d2, d3, f_d, g_d, q_d, d0, -⟩ := Sd
      have N0 := N
      obtain ⟨n1, n2, n3, f_n, g_n, q_n, n0, s1, s2, s3, e1, e2, e3, e4⟩ := N0
      refine x_callV 55 C (c_become K _ Sy N (by omega) (by omega)) d0 wcl_X4 hy_X4_become wv_X4_become we_X4_become lk_X5_238 dX5_save_52 rfl ⟨Nat.le_of_ble_eq_true rfl, Nat.le_of_ble_eq_true rfl⟩ ⟨Nat.le_of_ble_eq_true rfl, Nat.le_of_ble_eq_true rfl⟩ (Nat.le_of_ble_eq_true rfl) rfl (k_0 rfl rfl (k_v (fun M_3 h_3 => ?_)))
      obtain ⟨Sy, o_b⟩ := h_3
      have W := W.kept o_b (by omega)
      have N := N.kept o_b (by omega) (by omega)
      have H := H.kept o_b (by omega) (by omega)
      have IR := IR.kept o_b (by omega)
      have IK := IK.kept o_b (by omega)
      have IG := IG.kept o_b (by omega)
      have SX := SX.kept o_b (by omega) (by omega) (by omega)
      refine x_aload_0 56 C dX5_save_55 rfl ?_
      refine xOg_now 59 C wf_X5_10 W.obj dX5_save_56 rfl ?_
      have N0 := N
      obtain ⟨n1, n2, n3, f_n, g_n, q_n, n0, s1, s2, s3, e1, e2, e3, e4⟩ := N0
      refine x_callV 62 C (c_X4_formulasThere K _ n0 s3) n0 wcl_X4 hy_X4_formulasThere wv_X4_formulasThere we_X4_formulasThere lk_X5_152 dX5_save_59 rfl ⟨Nat.le_of_ble_eq_true rfl, Nat.le_of_ble_eq_true rfl⟩ ⟨Nat.le_of_ble_eq_true rfl, Nat.le_of_ble_eq_true rfl⟩ (Nat.le_of_ble_eq_true rfl) rfl (k_0 rfl rfl (k_ip ?_))
      refine x_topi (show _ = fset σ.1 from fbv_congr 6 (fun i hi => (e4 i hi).some)) ?_
      refine x_ireturn C Rt dX5_save_62 rfl ⟨Nat.le_of_ble_eq_true rfl, Nat.le_of_ble_eq_true rfl⟩ ?_
      have hsp : sp_save σ (nI s) = (fset σ.1, (σ.1, σ.2.1, va_up σ.2.2.1 s (some σ.1), σ.2.2.2)) := by rw [sp_save, spQ_t c_14, nI_toN (by omega)]
      exact ⟨_, rfl, by rw [hsp], by rw [hsp]; exact ⟨⟨_, _, _, _, W, hc, N, H, SX.put Sy, IR, IK, IG⟩, ((cfr o_n (by decide)).tr ((((cfr o_i (by omega))).tr (cfr o_2 (by decide))).tr (cfr o_b (by omega))))⟩⟩
    · obtain ⟨b, hl, S2⟩ := (SL s (by omega)).2 τ hq
      have SX := SL.out s
      rw [hl]
      refine x_ifnonnull 29 42 C dX5_save_26 rfl rfl (fun y_26 c_26 => ?_) ((fun z => by cases z))
      refine x_aload_0 43 C dX5_save_42 rfl ?_
      refine xOg_slots 46 C wf_X5_20 W.obj dX5_save_43 rfl ?_
      refine x_iload_1 47 C dX5_save_46 rfl ?_
      refine x_sald 48 (s) C W.slots (rfl) (by omega) (by decide) dX5_save_47 rfl ?_
      refine x_top (v' := .ref b) (by rw [hl]; rfl) ?_
      refine x_aload_0 49 C dX5_save_48 rfl ?_
      refine xOg_now 52 C wf_X5_10 W.obj dX5_save_49 rfl ?_
      have Sd := S2
      obtain ⟨d1, d2, d3, f_d, g_d, q_d, d0, -⟩ := Sd
      have N0 := N
      obtain ⟨n1, n2, n3, f_n, g_n, q_n, n0, s1, s2, s3, e1, e2, e3, e4⟩ := N0
      refine x_callV 55 C (c_become K _ S2 N (by omega) (by omega)) d0 wcl_X4 hy_X4_become wv_X4_become we_X4_become lk_X5_238 dX5_save_52 rfl ⟨Nat.le_of_ble_eq_true rfl, Nat.le_of_ble_eq_true rfl⟩ ⟨Nat.le_of_ble_eq_true rfl, Nat.le_of_ble_eq_true rfl⟩ (Nat.le_of_ble_eq_true rfl) rfl (k_0 rfl rfl (k_v (fun M_1 h_1 => ?_)))
      obtain ⟨Sy, o_b⟩ := h_1
      have W := W.kept o_b (by omega)
      have N := N.kept o_b (by omega) (by omega)
      have H := H.kept o_b (by omega) (by omega)
      have IR := IR.kept o_b (by omega)
      have IK := IK.kept o_b (by omega)
      have IG := IG.kept o_b (by omega)
      have SX := SX.kept o_b (by omega) (by omega) (by omega)
      refine x_aload_0 56 C dX5_save_55 rfl ?_
      refine xOg_now 59 C wf_X5_10 W.obj dX5_save_56 rfl ?_
      have N0 := N
      obtain ⟨n1, n2, n3, f_n, g_n, q_n, n0, s1, s2, s3, e1, e2, e3, e4⟩ := N0
      refine x_callV 62 C (c_X4_formulasThere K _ n0 s3) n0 wcl_X4 hy_X4_formulasThere wv_X4_formulasThere we_X4_formulasThere lk_X5_152 dX5_save_59 rfl ⟨Nat.le_of_ble_eq_true rfl, Nat.le_of_ble_eq_true rfl⟩ ⟨Nat.le_of_ble_eq_true rfl, Nat.le_of_ble_eq_true rfl⟩ (Nat.le_of_ble_eq_true rfl) rfl (k_0 rfl rfl (k_ip ?_))
      refine x_topi (show _ = fset σ.1 from fbv_congr 6 (fun i hi => (e4 i hi).some)) ?_
      refine x_ireturn C Rt dX5_save_62 rfl ⟨Nat.le_of_ble_eq_true rfl, Nat.le_of_ble_eq_true rfl⟩ ?_
      have hsp : sp_save σ (nI s) = (fset σ.1, (σ.1, σ.2.1, va_up σ.2.2.1 s (some σ.1), σ.2.2.2)) := by rw [sp_save, spQ_t c_14, nI_toN (by omega)]
      have hsl : va_up sl s (some b) = sl := by rw [← hl]; exact va_id
      exact ⟨_, rfl, by rw [hsp], by rw [hsp]; exact ⟨⟨_, _, _, _, W, hc, N, H, (by rw [← hsl]; exact SX.put Sy), IR, IK, IG⟩, ((cfr o_b (by omega)))⟩⟩
  · refine x_bipush (v := (-2)) 19 C dX5_save_17 rfl rfl ?_
    refine x_ireturn C Rt dX5_save_19 rfl ⟨Nat.le_of_ble_eq_true rfl, Nat.le_of_ble_eq_true rfl⟩ ?_
    simp only [Classical.not_not, hB_0p, hB_n0p, Int32.toInt_toInt64, tl_LG, ti_m1, Int32.lt_iff_toInt_lt, Int32.le_iff_toInt_le, Int64.lt_iff_toInt_lt, Int64.le_iff_toInt_le, tl_0, ti_0, tl_1, ti_1, tl_2, ti_2, tl_3, ti_3, tl_4, ti_4, tl_5, ti_5, tl_6, ti_6, tl_7, ti_7, tl_8, ti_8, tl_9, ti_9, tl_10, ti_10, tl_33, ti_33, tl_60, ti_60, tl_100, ti_100, tl_126, ti_126, tl_255, ti_255, tl_500, ti_500, tl_9999, ti_9999, tl_10000, ti_10000, tl_100000, ti_100000, tl_1000000, ti_1000000, tl_1000000000, ti_1000000000] at c_14
    have hn : ¬ (0 ≤ a.toInt ∧ a.toInt ≤ 1) := by omega
    exact ⟨_, rfl, by rw [sp_save, spQ_f hn], by rw [sp_save, spQ_f hn]; exact ⟨⟨z, pd, sl, h, W, hc, N, H, SL, IR, IK, IG⟩, hFr.rf⟩⟩
theorem hs_build {A : Nat → Nat} : va_up (va_up (va_up (va_up (va_up (va_up (fun _ => none) 0 (some (A 1))) 1 (some (A 2))) 2 (some (A 3))) 3 (some (A 4))) 4 (some (A 5))) 5 (some (A 6)) = hsA A := by
  funext i
  by_cases h : i < 6
  · rw [hsA_in h]
    rcases (show i = 0 ∨ i = 1 ∨ i = 2 ∨ i = 3 ∨ i = 4 ∨ i = 5 by omega) with rfl | rfl | rfl | rfl | rfl | rfl <;> rfl
  · rw [va_up_ne _ _ (by omega), va_up_ne _ _ (by omega), va_up_ne _ _ (by omega), va_up_ne _ _ (by omega), va_up_ne _ _ (by omega), va_up_ne _ _ (by omega), hsA, if_neg h]
def vz5 : List Value := [.null, .null, .null, .null, .null, .null, .null, .int 0, .int 0, .int 0]
set_option maxHeartbeats 4000000 in
set_option maxRecDepth 100000 in
theorem c_X5_init (K : hKv) (M : hM) (h : Nat) (Hh : M h = some (37, eO 5 vz5)) : hC K Y_X5_init rm_X5_init [.ref h] M (hPv fun M' => ∃ A : Nat → Nat, A 36 = h ∧ cX K A st0 M' ∧ hFr 1 100 M M') := by
  refine hC.of [some (.ref h), none] (by decide) (Nat.le_of_ble_eq_true rfl) rfl rfl ?_
  intro E C Rt
  have C : hCx E K cX5_init 2 RX5 "<init>" rm_X5_init := C
  have fr : hFr 1 100 M M := hFr.rf
  refine x_aload_0 1 C dX5_init_0 rfl ?_
  refine x_objInit 4 C wl_X5_1 dX5_init_1 ⟨Nat.le_of_ble_eq_true rfl, Nat.le_of_ble_eq_true rfl⟩ (Nat.le_of_ble_eq_true rfl) rfl ?_
  refine x_aload_0 5 C dX5_init_4 rfl ?_
  refine x_new (fs := [.null, .null, .null]) 8 9 C wu_X4 wcl_X4 tyX4 tyX4_ok wk_X5_7 wn_X4 wi_X4 (by decide) ⟨Nat.le_of_ble_eq_true rfl, Nat.le_of_ble_eq_true rfl⟩ dX5_init_5 rfl (fun y0 f_y0 => ?_)
  refine x_up (fun M_1 g_1 o_1 e_1 => ?_)
  have f_1 := hFr.eqn (lo := 99) (hi := 100) f_y0 e_1
  have Hh := f_1 _ _ _ (by decide) Hh
  have fr := fr.tr (cfr f_1 (by decide))
  have H_y0 := g_1
  refine x_dup 9 C dX5_init_8 rfl rfl ?_
  refine x_callI 12 C (c_X4_init K _ y0 H_y0) rfl rfl hy_X4_init wv_X4_init lk_X5_9 dX5_init_9 rfl ⟨Nat.le_of_ble_eq_true rfl, Nat.le_of_ble_eq_true rfl⟩ ⟨Nat.le_of_ble_eq_true rfl, Nat.le_of_ble_eq_true rfl⟩ (Nat.le_of_ble_eq_true rfl) rfl (k_v (fun M_2 h_2 => ?_))
  obtain ⟨x1, x2, x3, hy0, hy1, hy2, hy3, o_i⟩ := h_2
  have Hh := o_i _ _ _ (by decide) Hh
  have S_y0 : stW K M_2 9 y0 (0, 3, fun _ => 0, fun _ => []) := ⟨x1, x2, x3, _, _, _, hy0, hy1, hy2, hy3, rfl, rfl, fun i _ => rfl, fun i _ => Or.inl ⟨rfl, rfl⟩⟩
  have fr := fr.tr (cfr o_i (by decide))
  refine xp_X5_now 15 C wf_X5_10 rfl rfl wf0_X5_10 Hh rfl rfl dX5_init_12 rfl ?_
  refine x_up (fun M_3 g_3 o_3 e_3 => ?_)
  have f_3 := hFr.eqp (lo := 37) (hi := 38) Hh e_3 (by decide)
  have Hh := g_3
  have S_y0 := S_y0.kept f_3 (by decide) (by decide)
  have fr := fr.tr (cfr f_3 (by decide))
  refine x_aload_0 16 C dX5_init_15 rfl ?_
  refine x_bipush (v := 6) 18 C dX5_init_16 rfl rfl ?_
  refine x_newS 21 (6) 38 C rfl (by decide) ⟨Nat.le_of_ble_eq_true rfl, Nat.le_of_ble_eq_true rfl⟩ wk_X5_7 dX5_init_18 rfl (fun hist f_hist => ?_)
  refine x_up (fun M_4 g_4 o_4 e_4 => ?_)
  have f_4 := hFr.eqn (lo := 99) (hi := 100) f_hist e_4
  have Hh := f_4 _ _ _ (by decide) Hh
  have S_y0 := S_y0.kept f_4 (by decide) (by decide)
  have fr := fr.tr (cfr f_4 (by decide))
  have H_hist := g_4
  refine xp_X5_history 24 C wf_X5_16 rfl rfl wf0_X5_16 Hh rfl rfl dX5_init_21 rfl ?_
  refine x_up (fun M_5 g_5 o_5 e_5 => ?_)
  have f_5 := hFr.eqp (lo := 37) (hi := 38) Hh e_5 (by decide)
  have Hh := g_5
  have S_y0 := S_y0.kept f_5 (by decide) (by decide)
  have H_hist := f_5 _ _ _ (by decide) H_hist
  have fr := fr.tr (cfr f_5 (by decide))
  refine x_aload_0 25 C dX5_init_24 rfl ?_
  refine x_iconst (v := 2) 26 C dX5_init_25 rfl rfl ?_
  refine x_newS 29 (2) 39 C rfl (by decide) ⟨Nat.le_of_ble_eq_true rfl, Nat.le_of_ble_eq_true rfl⟩ wk_X5_7 dX5_init_26 rfl (fun slots f_slots => ?_)
  refine x_up (fun M_6 g_6 o_6 e_6 => ?_)
  have f_6 := hFr.eqn (lo := 99) (hi := 100) f_slots e_6
  have Hh := f_6 _ _ _ (by decide) Hh
  have S_y0 := S_y0.kept f_6 (by decide) (by decide)
  have H_hist := f_6 _ _ _ (by decide) H_hist
  have fr := fr.tr (cfr f_6 (by decide))
  have H_slots := g_6
  refine xp_X5_slots 32 C wf_X5_20 rfl rfl wf0_X5_20 Hh rfl rfl dX5_init_29 rfl ?_
  refine x_up (fun M_7 g_7 o_7 e_7 => ?_)
  have f_7 := hFr.eqp (lo := 37) (hi := 38) Hh e_7 (by decide)
  have Hh := g_7
  have S_y0 := S_y0.kept f_7 (by decide) (by decide)
  have H_hist := f_7 _ _ _ (by decide) H_hist
  have H_slots := f_7 _ _ _ (by decide) H_slots
  have fr := fr.tr (cfr f_7 (by decide))
  refine x_aload_0 33 C dX5_init_32 rfl ?_
  refine x_bipush (v := 60) 35 C dX5_init_33 rfl rfl ?_
  refine x_newaC 37 (60) 40 C rfl (by decide) ⟨Nat.le_of_ble_eq_true rfl, Nat.le_of_ble_eq_true rfl⟩ dX5_init_35 rfl (fun pad f_pad => ?_)
  refine x_up (fun M_8 g_8 o_8 e_8 => ?_)
  have f_8 := hFr.eqn (lo := 99) (hi := 100) f_pad e_8
  have Hh := f_8 _ _ _ (by decide) Hh
  have S_y0 := S_y0.kept f_8 (by decide) (by decide)
  have H_hist := f_8 _ _ _ (by decide) H_hist
  have H_slots := f_8 _ _ _ (by decide) H_slots
  have fr := fr.tr (cfr f_8 (by decide))
  have H_pad := g_8
  refine xp_X5_pad 40 C wf_X5_23 rfl rfl wf0_X5_23 Hh rfl rfl dX5_init_37 rfl ?_
  refine x_up (fun M_9 g_9 o_9 e_9 => ?_)
  have f_9 := hFr.eqp (lo := 37) (hi := 38) Hh e_9 (by decide)
  have Hh := g_9
  have S_y0 := S_y0.kept f_9 (by decide) (by decide)
  have H_hist := f_9 _ _ _ (by decide) H_hist
  have H_slots := f_9 _ _ _ (by decide) H_slots
  have H_pad := f_9 _ _ _ (by decide) H_pad
  have fr := fr.tr (cfr f_9 (by decide))
  refine x_aload_0 41 C dX5_init_40 rfl ?_
  refine x_new (fs := [.null, .null, .int 0, .int 0, .int 0, .int 0]) 44 41 C wu_X2 wcl_X2 tyX2 tyX2_ok wk_X5_27 wn_X2 wi_X2 (by decide) ⟨Nat.le_of_ble_eq_true rfl, Nat.le_of_ble_eq_true rfl⟩ dX5_init_41 rfl (fun r f_r => ?_)
  refine x_up (fun M_10 g_10 o_10 e_10 => ?_)
  have f_10 := hFr.eqn (lo := 99) (hi := 100) f_r e_10
  have Hh := f_10 _ _ _ (by decide) Hh
  have S_y0 := S_y0.kept f_10 (by decide) (by decide)
  have H_hist := f_10 _ _ _ (by decide) H_hist
  have H_slots := f_10 _ _ _ (by decide) H_slots
  have H_pad := f_10 _ _ _ (by decide) H_pad
  have fr := fr.tr (cfr f_10 (by decide))
  have H_r := g_10
  refine x_dup 45 C dX5_init_44 rfl rfl ?_
  refine x_callI 48 C (c_X2_init K _ r H_r) rfl rfl hy_X2_init wv_X2_init lk_X5_29 dX5_init_45 rfl ⟨Nat.le_of_ble_eq_true rfl, Nat.le_of_ble_eq_true rfl⟩ ⟨Nat.le_of_ble_eq_true rfl, Nat.le_of_ble_eq_true rfl⟩ (Nat.le_of_ble_eq_true rfl) rfl (k_v (fun M_11 h_11 => ?_))
  obtain ⟨r1, r2, H_r, H_r1, H_r2, o_i⟩ := h_11
  have Hh := o_i _ _ _ (by decide) Hh
  have S_y0 := S_y0.kept o_i (by decide) (by decide)
  have H_hist := o_i _ _ _ (by decide) H_hist
  have H_slots := o_i _ _ _ (by decide) H_slots
  have H_pad := o_i _ _ _ (by decide) H_pad
  have fr := fr.tr (cfr o_i (by decide))
  refine xp_X5_reader 51 C wf_X5_30 rfl rfl wf0_X5_30 Hh rfl rfl dX5_init_48 rfl ?_
  refine x_up (fun M_12 g_12 o_12 e_12 => ?_)
  have f_12 := hFr.eqp (lo := 37) (hi := 38) Hh e_12 (by decide)
  have Hh := g_12
  have S_y0 := S_y0.kept f_12 (by decide) (by decide)
  have H_hist := f_12 _ _ _ (by decide) H_hist
  have H_slots := f_12 _ _ _ (by decide) H_slots
  have H_pad := f_12 _ _ _ (by decide) H_pad
  have H_r := f_12 _ _ _ (by decide) H_r
  have H_r1 := f_12 _ _ _ (by decide) H_r1
  have H_r2 := f_12 _ _ _ (by decide) H_r2
  have fr := fr.tr (cfr f_12 (by decide))
  refine x_aload_0 52 C dX5_init_51 rfl ?_
  refine x_new (fs := [.null, .null, .int 0, .int 0, .int 0]) 55 44 C wu_X3 wcl_X3 tyX3 tyX3_ok wk_X5_34 wn_X3 wi_X3 (by decide) ⟨Nat.le_of_ble_eq_true rfl, Nat.le_of_ble_eq_true rfl⟩ dX5_init_52 rfl (fun k f_k => ?_)
  refine x_up (fun M_13 g_13 o_13 e_13 => ?_)
  have f_13 := hFr.eqn (lo := 99) (hi := 100) f_k e_13
  have Hh := f_13 _ _ _ (by decide) Hh
  have S_y0 := S_y0.kept f_13 (by decide) (by decide)
  have H_hist := f_13 _ _ _ (by decide) H_hist
  have H_slots := f_13 _ _ _ (by decide) H_slots
  have H_pad := f_13 _ _ _ (by decide) H_pad
  have H_r := f_13 _ _ _ (by decide) H_r
  have H_r1 := f_13 _ _ _ (by decide) H_r1
  have H_r2 := f_13 _ _ _ (by decide) H_r2
  have fr := fr.tr (cfr f_13 (by decide))
  have H_k := g_13
  refine x_dup 56 C dX5_init_55 rfl rfl ?_
  refine x_callI 59 C (c_X3_init K _ k H_k) rfl rfl hy_X3_init wv_X3_init lk_X5_36 dX5_init_56 rfl ⟨Nat.le_of_ble_eq_true rfl, Nat.le_of_ble_eq_true rfl⟩ ⟨Nat.le_of_ble_eq_true rfl, Nat.le_of_ble_eq_true rfl⟩ (Nat.le_of_ble_eq_true rfl) rfl (k_v (fun M_14 h_14 => ?_))
  obtain ⟨k1, k2, H_k, H_k1, H_k2, o_i⟩ := h_14
  have Hh := o_i _ _ _ (by decide) Hh
  have S_y0 := S_y0.kept o_i (by decide) (by decide)
  have H_hist := o_i _ _ _ (by decide) H_hist
  have H_slots := o_i _ _ _ (by decide) H_slots
  have H_pad := o_i _ _ _ (by decide) H_pad
  have H_r := o_i _ _ _ (by decide) H_r
  have H_r1 := o_i _ _ _ (by decide) H_r1
  have H_r2 := o_i _ _ _ (by decide) H_r2
  have fr := fr.tr (cfr o_i (by decide))
  refine xp_X5_reckoner 62 C wf_X5_37 rfl rfl wf0_X5_37 Hh rfl rfl dX5_init_59 rfl ?_
  refine x_up (fun M_15 g_15 o_15 e_15 => ?_)
  have f_15 := hFr.eqp (lo := 37) (hi := 38) Hh e_15 (by decide)
  have Hh := g_15
  have S_y0 := S_y0.kept f_15 (by decide) (by decide)
  have H_hist := f_15 _ _ _ (by decide) H_hist
  have H_slots := f_15 _ _ _ (by decide) H_slots
  have H_pad := f_15 _ _ _ (by decide) H_pad
  have H_r := f_15 _ _ _ (by decide) H_r
  have H_r1 := f_15 _ _ _ (by decide) H_r1
  have H_r2 := f_15 _ _ _ (by decide) H_r2
  have H_k := f_15 _ _ _ (by decide) H_k
  have H_k1 := f_15 _ _ _ (by decide) H_k1
  have H_k2 := f_15 _ _ _ (by decide) H_k2
  have fr := fr.tr (cfr f_15 (by decide))
  refine x_aload_0 63 C dX5_init_62 rfl ?_
  refine x_new (fs := [.int 0, .int 0, .int 0, .int 0, .int 0, .long 0, .long 0, .long 0, .long 0]) 66 47 C wu_X1 wcl_X1 tyX1 tyX1_ok wk_X5_41 wn_X1 wi_X1 (by decide) ⟨Nat.le_of_ble_eq_true rfl, Nat.le_of_ble_eq_true rfl⟩ dX5_init_63 rfl (fun g f_g => ?_)
  refine x_up (fun M_16 g_16 o_16 e_16 => ?_)
  have f_16 := hFr.eqn (lo := 99) (hi := 100) f_g e_16
  have Hh := f_16 _ _ _ (by decide) Hh
  have S_y0 := S_y0.kept f_16 (by decide) (by decide)
  have H_hist := f_16 _ _ _ (by decide) H_hist
  have H_slots := f_16 _ _ _ (by decide) H_slots
  have H_pad := f_16 _ _ _ (by decide) H_pad
  have H_r := f_16 _ _ _ (by decide) H_r
  have H_r1 := f_16 _ _ _ (by decide) H_r1
  have H_r2 := f_16 _ _ _ (by decide) H_r2
  have H_k := f_16 _ _ _ (by decide) H_k
  have H_k1 := f_16 _ _ _ (by decide) H_k1
  have H_k2 := f_16 _ _ _ (by decide) H_k2
  have fr := fr.tr (cfr f_16 (by decide))
  have H_g := g_16
  refine x_dup 67 C dX5_init_66 rfl rfl ?_
  refine x_callI 70 C (c_X1_init K _ g) rfl rfl hy_X1_init wv_X1_init lk_X5_43 dX5_init_67 rfl ⟨Nat.le_of_ble_eq_true rfl, Nat.le_of_ble_eq_true rfl⟩ ⟨Nat.le_of_ble_eq_true rfl, Nat.le_of_ble_eq_true rfl⟩ (Nat.le_of_ble_eq_true rfl) rfl (k_v (fun M_17 h_17 => ?_))
  subst h_17
  refine xp_X5_fraction 73 C wf_X5_44 rfl rfl wf0_X5_44 Hh rfl rfl dX5_init_70 rfl ?_
  refine x_up (fun M_18 g_18 o_18 e_18 => ?_)
  have f_18 := hFr.eqp (lo := 37) (hi := 38) Hh e_18 (by decide)
  have Hh := g_18
  have S_y0 := S_y0.kept f_18 (by decide) (by decide)
  have H_hist := f_18 _ _ _ (by decide) H_hist
  have H_slots := f_18 _ _ _ (by decide) H_slots
  have H_pad := f_18 _ _ _ (by decide) H_pad
  have H_r := f_18 _ _ _ (by decide) H_r
  have H_r1 := f_18 _ _ _ (by decide) H_r1
  have H_r2 := f_18 _ _ _ (by decide) H_r2
  have H_k := f_18 _ _ _ (by decide) H_k
  have H_k1 := f_18 _ _ _ (by decide) H_k1
  have H_k2 := f_18 _ _ _ (by decide) H_k2
  have H_g := f_18 _ _ _ (by decide) H_g
  have fr := fr.tr (cfr f_18 (by decide))
  refine x_iconst (v := 0) 74 C dX5_init_73 rfl rfl ?_
  refine x_topi (v' := nI 0) rfl ?_
  refine x_istore_1 75 C dX5_init_74 rfl rfl ?_
  refine x_iload_1 76 C dX5_init_75 rfl ?_
  refine x_aload_0 77 C dX5_init_76 rfl ?_
  refine xg_X5_history 80 C wf_X5_16 Hh dX5_init_77 rfl ?_
  refine x_alenS 81 C H_hist dX5_init_80 rfl ?_
  refine x_icmp_ge 84 103 C dX5_init_81 rfl rfl (fun z => absurd z (nI_ge (by decide) (by decide))) (fun _ => ?_)
  refine x_aload_0 85 C dX5_init_84 rfl ?_
  refine xg_X5_history 88 C wf_X5_16 Hh dX5_init_85 rfl ?_
  refine x_iload_1 89 C dX5_init_88 rfl ?_
  refine x_new (fs := [.null, .null, .null]) 92 13 C wu_X4 wcl_X4 tyX4 tyX4_ok wk_X5_7 wn_X4 wi_X4 (by decide) ⟨Nat.le_of_ble_eq_true rfl, Nat.le_of_ble_eq_true rfl⟩ dX5_init_89 rfl (fun b1 f_b1 => ?_)
  refine x_up (fun M_19 g_19 o_19 e_19 => ?_)
  have f_19 := hFr.eqn (lo := 99) (hi := 100) f_b1 e_19
  have Hh := f_19 _ _ _ (by decide) Hh
  have S_y0 := S_y0.kept f_19 (by decide) (by decide)
  have H_hist := f_19 _ _ _ (by decide) H_hist
  have H_slots := f_19 _ _ _ (by decide) H_slots
  have H_pad := f_19 _ _ _ (by decide) H_pad
  have H_r := f_19 _ _ _ (by decide) H_r
  have H_r1 := f_19 _ _ _ (by decide) H_r1
  have H_r2 := f_19 _ _ _ (by decide) H_r2
  have H_k := f_19 _ _ _ (by decide) H_k
  have H_k1 := f_19 _ _ _ (by decide) H_k1
  have H_k2 := f_19 _ _ _ (by decide) H_k2
  have H_g := f_19 _ _ _ (by decide) H_g
  have fr := fr.tr (cfr f_19 (by decide))
  have H_b1 := g_19
  refine x_dup 93 C dX5_init_92 rfl rfl ?_
  refine x_callI 96 C (c_X4_init K _ b1 H_b1) rfl rfl hy_X4_init wv_X4_init lk_X5_9 dX5_init_93 rfl ⟨Nat.le_of_ble_eq_true rfl, Nat.le_of_ble_eq_true rfl⟩ ⟨Nat.le_of_ble_eq_true rfl, Nat.le_of_ble_eq_true rfl⟩ (Nat.le_of_ble_eq_true rfl) rfl (k_v (fun M_20 h_20 => ?_))
  obtain ⟨x1, x2, x3, hy0, hy1, hy2, hy3, o_i⟩ := h_20
  have Hh := o_i _ _ _ (by decide) Hh
  have S_y0 := S_y0.kept o_i (by decide) (by decide)
  have H_hist := o_i _ _ _ (by decide) H_hist
  have H_slots := o_i _ _ _ (by decide) H_slots
  have H_pad := o_i _ _ _ (by decide) H_pad
  have H_r := o_i _ _ _ (by decide) H_r
  have H_r1 := o_i _ _ _ (by decide) H_r1
  have H_r2 := o_i _ _ _ (by decide) H_r2
  have H_k := o_i _ _ _ (by decide) H_k
  have H_k1 := o_i _ _ _ (by decide) H_k1
  have H_k2 := o_i _ _ _ (by decide) H_k2
  have H_g := o_i _ _ _ (by decide) H_g
  have S_b1 : stW K M_20 13 b1 (0, 3, fun _ => 0, fun _ => []) := ⟨x1, x2, x3, _, _, _, hy0, hy1, hy2, hy3, rfl, rfl, fun i _ => rfl, fun i _ => Or.inl ⟨rfl, rfl⟩⟩
  have fr := fr.tr (cfr o_i (by decide))
  refine x_sast 97 (0) C H_hist (hy0) (rfl) (by decide) (by decide) dX5_init_96 rfl ?_
  refine x_up (fun M_21 g_21 o_21 e_21 => ?_)
  have f_21 := hFr.eqp (lo := 38) (hi := 39) H_hist e_21 (by decide)
  have Hh := f_21 _ _ _ (by decide) Hh
  have S_y0 := S_y0.kept f_21 (by decide) (by decide)
  have H_hist := g_21
  have H_slots := f_21 _ _ _ (by decide) H_slots
  have H_pad := f_21 _ _ _ (by decide) H_pad
  have H_r := f_21 _ _ _ (by decide) H_r
  have H_r1 := f_21 _ _ _ (by decide) H_r1
  have H_r2 := f_21 _ _ _ (by decide) H_r2
  have H_k := f_21 _ _ _ (by decide) H_k
  have H_k1 := f_21 _ _ _ (by decide) H_k1
  have H_k2 := f_21 _ _ _ (by decide) H_k2
  have H_g := f_21 _ _ _ (by decide) H_g
  have S_b1 := S_b1.kept f_21 (by decide) (by decide)
  have fr := fr.tr (cfr f_21 (by decide))
  refine x_iinc_1 100 C dX5_init_97 rfl rfl (nI_inc _) ?_
  refine x_goto 75 C dX5_init_100 rfl ?_
  refine x_iload_1 76 C dX5_init_75 rfl ?_
  refine x_aload_0 77 C dX5_init_76 rfl ?_
  refine xg_X5_history 80 C wf_X5_16 Hh dX5_init_77 rfl ?_
  refine x_alenS 81 C H_hist dX5_init_80 rfl ?_
  refine x_icmp_ge 84 103 C dX5_init_81 rfl rfl (fun z => absurd z (nI_ge (by decide) (by decide))) (fun _ => ?_)
  refine x_aload_0 85 C dX5_init_84 rfl ?_
  refine xg_X5_history 88 C wf_X5_16 Hh dX5_init_85 rfl ?_
  refine x_iload_1 89 C dX5_init_88 rfl ?_
  refine x_new (fs := [.null, .null, .null]) 92 17 C wu_X4 wcl_X4 tyX4 tyX4_ok wk_X5_7 wn_X4 wi_X4 (by decide) ⟨Nat.le_of_ble_eq_true rfl, Nat.le_of_ble_eq_true rfl⟩ dX5_init_89 rfl (fun b2 f_b2 => ?_)
  refine x_up (fun M_22 g_22 o_22 e_22 => ?_)
  have f_22 := hFr.eqn (lo := 99) (hi := 100) f_b2 e_22
  have Hh := f_22 _ _ _ (by decide) Hh
  have S_y0 := S_y0.kept f_22 (by decide) (by decide)
  have H_hist := f_22 _ _ _ (by decide) H_hist
  have H_slots := f_22 _ _ _ (by decide) H_slots
  have H_pad := f_22 _ _ _ (by decide) H_pad
  have H_r := f_22 _ _ _ (by decide) H_r
  have H_r1 := f_22 _ _ _ (by decide) H_r1
  have H_r2 := f_22 _ _ _ (by decide) H_r2
  have H_k := f_22 _ _ _ (by decide) H_k
  have H_k1 := f_22 _ _ _ (by decide) H_k1
  have H_k2 := f_22 _ _ _ (by decide) H_k2
  have H_g := f_22 _ _ _ (by decide) H_g
  have S_b1 := S_b1.kept f_22 (by decide) (by decide)
  have fr := fr.tr (cfr f_22 (by decide))
  have H_b2 := g_22
  refine x_dup 93 C dX5_init_92 rfl rfl ?_
  refine x_callI 96 C (c_X4_init K _ b2 H_b2) rfl rfl hy_X4_init wv_X4_init lk_X5_9 dX5_init_93 rfl ⟨Nat.le_of_ble_eq_true rfl, Nat.le_of_ble_eq_true rfl⟩ ⟨Nat.le_of_ble_eq_true rfl, Nat.le_of_ble_eq_true rfl⟩ (Nat.le_of_ble_eq_true rfl) rfl (k_v (fun M_23 h_23 => ?_))
  obtain ⟨x1, x2, x3, hy0, hy1, hy2, hy3, o_i⟩ := h_23
  have Hh := o_i _ _ _ (by decide) Hh
  have S_y0 := S_y0.kept o_i (by decide) (by decide)
  have H_hist := o_i _ _ _ (by decide) H_hist
  have H_slots := o_i _ _ _ (by decide) H_slots
  have H_pad := o_i _ _ _ (by decide) H_pad
  have H_r := o_i _ _ _ (by decide) H_r
  have H_r1 := o_i _ _ _ (by decide) H_r1
  have H_r2 := o_i _ _ _ (by decide) H_r2
  have H_k := o_i _ _ _ (by decide) H_k
  have H_k1 := o_i _ _ _ (by decide) H_k1
  have H_k2 := o_i _ _ _ (by decide) H_k2
  have H_g := o_i _ _ _ (by decide) H_g
  have S_b1 := S_b1.kept o_i (by decide) (by decide)
  have S_b2 : stW K M_23 17 b2 (0, 3, fun _ => 0, fun _ => []) := ⟨x1, x2, x3, _, _, _, hy0, hy1, hy2, hy3, rfl, rfl, fun i _ => rfl, fun i _ => Or.inl ⟨rfl, rfl⟩⟩
  have fr := fr.tr (cfr o_i (by decide))
  refine x_sast 97 (1) C H_hist (hy0) (rfl) (by decide) (by decide) dX5_init_96 rfl ?_
  refine x_up (fun M_24 g_24 o_24 e_24 => ?_)
  have f_24 := hFr.eqp (lo := 38) (hi := 39) H_hist e_24 (by decide)
  have Hh := f_24 _ _ _ (by decide) Hh
  have S_y0 := S_y0.kept f_24 (by decide) (by decide)
  have H_hist := g_24
  have H_slots := f_24 _ _ _ (by decide) H_slots
  have H_pad := f_24 _ _ _ (by decide) H_pad
  have H_r := f_24 _ _ _ (by decide) H_r
  have H_r1 := f_24 _ _ _ (by decide) H_r1
  have H_r2 := f_24 _ _ _ (by decide) H_r2
  have H_k := f_24 _ _ _ (by decide) H_k
  have H_k1 := f_24 _ _ _ (by decide) H_k1
  have H_k2 := f_24 _ _ _ (by decide) H_k2
  have H_g := f_24 _ _ _ (by decide) H_g
  have S_b1 := S_b1.kept f_24 (by decide) (by decide)
  have S_b2 := S_b2.kept f_24 (by decide) (by decide)
  have fr := fr.tr (cfr f_24 (by decide))
  refine x_iinc_1 100 C dX5_init_97 rfl rfl (nI_inc _) ?_
  refine x_goto 75 C dX5_init_100 rfl ?_
  refine x_iload_1 76 C dX5_init_75 rfl ?_
  refine x_aload_0 77 C dX5_init_76 rfl ?_
  refine xg_X5_history 80 C wf_X5_16 Hh dX5_init_77 rfl ?_
  refine x_alenS 81 C H_hist dX5_init_80 rfl ?_
  refine x_icmp_ge 84 103 C dX5_init_81 rfl rfl (fun z => absurd z (nI_ge (by decide) (by decide))) (fun _ => ?_)
  refine x_aload_0 85 C dX5_init_84 rfl ?_
  refine xg_X5_history 88 C wf_X5_16 Hh dX5_init_85 rfl ?_
  refine x_iload_1 89 C dX5_init_88 rfl ?_
  refine x_new (fs := [.null, .null, .null]) 92 21 C wu_X4 wcl_X4 tyX4 tyX4_ok wk_X5_7 wn_X4 wi_X4 (by decide) ⟨Nat.le_of_ble_eq_true rfl, Nat.le_of_ble_eq_true rfl⟩ dX5_init_89 rfl (fun b3 f_b3 => ?_)
  refine x_up (fun M_25 g_25 o_25 e_25 => ?_)
  have f_25 := hFr.eqn (lo := 99) (hi := 100) f_b3 e_25
  have Hh := f_25 _ _ _ (by decide) Hh
  have S_y0 := S_y0.kept f_25 (by decide) (by decide)
  have H_hist := f_25 _ _ _ (by decide) H_hist
  have H_slots := f_25 _ _ _ (by decide) H_slots
  have H_pad := f_25 _ _ _ (by decide) H_pad
  have H_r := f_25 _ _ _ (by decide) H_r
  have H_r1 := f_25 _ _ _ (by decide) H_r1
  have H_r2 := f_25 _ _ _ (by decide) H_r2
  have H_k := f_25 _ _ _ (by decide) H_k
  have H_k1 := f_25 _ _ _ (by decide) H_k1
  have H_k2 := f_25 _ _ _ (by decide) H_k2
  have H_g := f_25 _ _ _ (by decide) H_g
  have S_b1 := S_b1.kept f_25 (by decide) (by decide)
  have S_b2 := S_b2.kept f_25 (by decide) (by decide)
  have fr := fr.tr (cfr f_25 (by decide))
  have H_b3 := g_25
  refine x_dup 93 C dX5_init_92 rfl rfl ?_
  refine x_callI 96 C (c_X4_init K _ b3 H_b3) rfl rfl hy_X4_init wv_X4_init lk_X5_9 dX5_init_93 rfl ⟨Nat.le_of_ble_eq_true rfl, Nat.le_of_ble_eq_true rfl⟩ ⟨Nat.le_of_ble_eq_true rfl, Nat.le_of_ble_eq_true rfl⟩ (Nat.le_of_ble_eq_true rfl) rfl (k_v (fun M_26 h_26 => ?_))
  obtain ⟨x1, x2, x3, hy0, hy1, hy2, hy3, o_i⟩ := h_26
  have Hh := o_i _ _ _ (by decide) Hh
  have S_y0 := S_y0.kept o_i (by decide) (by decide)
  have H_hist := o_i _ _ _ (by decide) H_hist
  have H_slots := o_i _ _ _ (by decide) H_slots
  have H_pad := o_i _ _ _ (by decide) H_pad
  have H_r := o_i _ _ _ (by decide) H_r
  have H_r1 := o_i _ _ _ (by decide) H_r1
  have H_r2 := o_i _ _ _ (by decide) H_r2
  have H_k := o_i _ _ _ (by decide) H_k
  have H_k1 := o_i _ _ _ (by decide) H_k1
  have H_k2 := o_i _ _ _ (by decide) H_k2
  have H_g := o_i _ _ _ (by decide) H_g
  have S_b1 := S_b1.kept o_i (by decide) (by decide)
  have S_b2 := S_b2.kept o_i (by decide) (by decide)
  have S_b3 : stW K M_26 21 b3 (0, 3, fun _ => 0, fun _ => []) := ⟨x1, x2, x3, _, _, _, hy0, hy1, hy2, hy3, rfl, rfl, fun i _ => rfl, fun i _ => Or.inl ⟨rfl, rfl⟩⟩
  have fr := fr.tr (cfr o_i (by decide))
  refine x_sast 97 (2) C H_hist (hy0) (rfl) (by decide) (by decide) dX5_init_96 rfl ?_
  refine x_up (fun M_27 g_27 o_27 e_27 => ?_)
  have f_27 := hFr.eqp (lo := 38) (hi := 39) H_hist e_27 (by decide)
  have Hh := f_27 _ _ _ (by decide) Hh
  have S_y0 := S_y0.kept f_27 (by decide) (by decide)
  have H_hist := g_27
  have H_slots := f_27 _ _ _ (by decide) H_slots
  have H_pad := f_27 _ _ _ (by decide) H_pad
  have H_r := f_27 _ _ _ (by decide) H_r
  have H_r1 := f_27 _ _ _ (by decide) H_r1
  have H_r2 := f_27 _ _ _ (by decide) H_r2
  have H_k := f_27 _ _ _ (by decide) H_k
  have H_k1 := f_27 _ _ _ (by decide) H_k1
  have H_k2 := f_27 _ _ _ (by decide) H_k2
  have H_g := f_27 _ _ _ (by decide) H_g
  have S_b1 := S_b1.kept f_27 (by decide) (by decide)
  have S_b2 := S_b2.kept f_27 (by decide) (by decide)
  have S_b3 := S_b3.kept f_27 (by decide) (by decide)
  have fr := fr.tr (cfr f_27 (by decide))
  refine x_iinc_1 100 C dX5_init_97 rfl rfl (nI_inc _) ?_
  refine x_goto 75 C dX5_init_100 rfl ?_
  refine x_iload_1 76 C dX5_init_75 rfl ?_
  refine x_aload_0 77 C dX5_init_76 rfl ?_
  refine xg_X5_history 80 C wf_X5_16 Hh dX5_init_77 rfl ?_
  refine x_alenS 81 C H_hist dX5_init_80 rfl ?_
  refine x_icmp_ge 84 103 C dX5_init_81 rfl rfl (fun z => absurd z (nI_ge (by decide) (by decide))) (fun _ => ?_)
  refine x_aload_0 85 C dX5_init_84 rfl ?_
  refine xg_X5_history 88 C wf_X5_16 Hh dX5_init_85 rfl ?_
  refine x_iload_1 89 C dX5_init_88 rfl ?_
  refine x_new (fs := [.null, .null, .null]) 92 25 C wu_X4 wcl_X4 tyX4 tyX4_ok wk_X5_7 wn_X4 wi_X4 (by decide) ⟨Nat.le_of_ble_eq_true rfl, Nat.le_of_ble_eq_true rfl⟩ dX5_init_89 rfl (fun b4 f_b4 => ?_)
  refine x_up (fun M_28 g_28 o_28 e_28 => ?_)
  have f_28 := hFr.eqn (lo := 99) (hi := 100) f_b4 e_28
  have Hh := f_28 _ _ _ (by decide) Hh
  have S_y0 := S_y0.kept f_28 (by decide) (by decide)
  have H_hist := f_28 _ _ _ (by decide) H_hist
  have H_slots := f_28 _ _ _ (by decide) H_slots
  have H_pad := f_28 _ _ _ (by decide) H_pad
  have H_r := f_28 _ _ _ (by decide) H_r
  have H_r1 := f_28 _ _ _ (by decide) H_r1
  have H_r2 := f_28 _ _ _ (by decide) H_r2
  have H_k := f_28 _ _ _ (by decide) H_k
  have H_k1 := f_28 _ _ _ (by decide) H_k1
  have H_k2 := f_28 _ _ _ (by decide) H_k2
  have H_g := f_28 _ _ _ (by decide) H_g
  have S_b1 := S_b1.kept f_28 (by decide) (by decide)
  have S_b2 := S_b2.kept f_28 (by decide) (by decide)
  have S_b3 := S_b3.kept f_28 (by decide) (by decide)
  have fr := fr.tr (cfr f_28 (by decide))
  have H_b4 := g_28
  refine x_dup 93 C dX5_init_92 rfl rfl ?_
  refine x_callI 96 C (c_X4_init K _ b4 H_b4) rfl rfl hy_X4_init wv_X4_init lk_X5_9 dX5_init_93 rfl ⟨Nat.le_of_ble_eq_true rfl, Nat.le_of_ble_eq_true rfl⟩ ⟨Nat.le_of_ble_eq_true rfl, Nat.le_of_ble_eq_true rfl⟩ (Nat.le_of_ble_eq_true rfl) rfl (k_v (fun M_29 h_29 => ?_))
  obtain ⟨x1, x2, x3, hy0, hy1, hy2, hy3, o_i⟩ := h_29
  have Hh := o_i _ _ _ (by decide) Hh
  have S_y0 := S_y0.kept o_i (by decide) (by decide)
  have H_hist := o_i _ _ _ (by decide) H_hist
  have H_slots := o_i _ _ _ (by decide) H_slots
  have H_pad := o_i _ _ _ (by decide) H_pad
  have H_r := o_i _ _ _ (by decide) H_r
  have H_r1 := o_i _ _ _ (by decide) H_r1
  have H_r2 := o_i _ _ _ (by decide) H_r2
  have H_k := o_i _ _ _ (by decide) H_k
  have H_k1 := o_i _ _ _ (by decide) H_k1
  have H_k2 := o_i _ _ _ (by decide) H_k2
  have H_g := o_i _ _ _ (by decide) H_g
  have S_b1 := S_b1.kept o_i (by decide) (by decide)
  have S_b2 := S_b2.kept o_i (by decide) (by decide)
  have S_b3 := S_b3.kept o_i (by decide) (by decide)
  have S_b4 : stW K M_29 25 b4 (0, 3, fun _ => 0, fun _ => []) := ⟨x1, x2, x3, _, _, _, hy0, hy1, hy2, hy3, rfl, rfl, fun i _ => rfl, fun i _ => Or.inl ⟨rfl, rfl⟩⟩
  have fr := fr.tr (cfr o_i (by decide))
  refine x_sast 97 (3) C H_hist (hy0) (rfl) (by decide) (by decide) dX5_init_96 rfl ?_
  refine x_up (fun M_30 g_30 o_30 e_30 => ?_)
  have f_30 := hFr.eqp (lo := 38) (hi := 39) H_hist e_30 (by decide)
  have Hh := f_30 _ _ _ (by decide) Hh
  have S_y0 := S_y0.kept f_30 (by decide) (by decide)
  have H_hist := g_30
  have H_slots := f_30 _ _ _ (by decide) H_slots
  have H_pad := f_30 _ _ _ (by decide) H_pad
  have H_r := f_30 _ _ _ (by decide) H_r
  have H_r1 := f_30 _ _ _ (by decide) H_r1
  have H_r2 := f_30 _ _ _ (by decide) H_r2
  have H_k := f_30 _ _ _ (by decide) H_k
  have H_k1 := f_30 _ _ _ (by decide) H_k1
  have H_k2 := f_30 _ _ _ (by decide) H_k2
  have H_g := f_30 _ _ _ (by decide) H_g
  have S_b1 := S_b1.kept f_30 (by decide) (by decide)
  have S_b2 := S_b2.kept f_30 (by decide) (by decide)
  have S_b3 := S_b3.kept f_30 (by decide) (by decide)
  have S_b4 := S_b4.kept f_30 (by decide) (by decide)
  have fr := fr.tr (cfr f_30 (by decide))
  refine x_iinc_1 100 C dX5_init_97 rfl rfl (nI_inc _) ?_
  refine x_goto 75 C dX5_init_100 rfl ?_
  refine x_iload_1 76 C dX5_init_75 rfl ?_
  refine x_aload_0 77 C dX5_init_76 rfl ?_
  refine xg_X5_history 80 C wf_X5_16 Hh dX5_init_77 rfl ?_
  refine x_alenS 81 C H_hist dX5_init_80 rfl ?_
  refine x_icmp_ge 84 103 C dX5_init_81 rfl rfl (fun z => absurd z (nI_ge (by decide) (by decide))) (fun _ => ?_)
  refine x_aload_0 85 C dX5_init_84 rfl ?_
  refine xg_X5_history 88 C wf_X5_16 Hh dX5_init_85 rfl ?_
  refine x_iload_1 89 C dX5_init_88 rfl ?_
  refine x_new (fs := [.null, .null, .null]) 92 29 C wu_X4 wcl_X4 tyX4 tyX4_ok wk_X5_7 wn_X4 wi_X4 (by decide) ⟨Nat.le_of_ble_eq_true rfl, Nat.le_of_ble_eq_true rfl⟩ dX5_init_89 rfl (fun b5 f_b5 => ?_)
  refine x_up (fun M_31 g_31 o_31 e_31 => ?_)
  have f_31 := hFr.eqn (lo := 99) (hi := 100) f_b5 e_31
  have Hh := f_31 _ _ _ (by decide) Hh
  have S_y0 := S_y0.kept f_31 (by decide) (by decide)
  have H_hist := f_31 _ _ _ (by decide) H_hist
  have H_slots := f_31 _ _ _ (by decide) H_slots
  have H_pad := f_31 _ _ _ (by decide) H_pad
  have H_r := f_31 _ _ _ (by decide) H_r
  have H_r1 := f_31 _ _ _ (by decide) H_r1
  have H_r2 := f_31 _ _ _ (by decide) H_r2
  have H_k := f_31 _ _ _ (by decide) H_k
  have H_k1 := f_31 _ _ _ (by decide) H_k1
  have H_k2 := f_31 _ _ _ (by decide) H_k2
  have H_g := f_31 _ _ _ (by decide) H_g
  have S_b1 := S_b1.kept f_31 (by decide) (by decide)
  have S_b2 := S_b2.kept f_31 (by decide) (by decide)
  have S_b3 := S_b3.kept f_31 (by decide) (by decide)
  have S_b4 := S_b4.kept f_31 (by decide) (by decide)
  have fr := fr.tr (cfr f_31 (by decide))
  have H_b5 := g_31
  refine x_dup 93 C dX5_init_92 rfl rfl ?_
  refine x_callI 96 C (c_X4_init K _ b5 H_b5) rfl rfl hy_X4_init wv_X4_init lk_X5_9 dX5_init_93 rfl ⟨Nat.le_of_ble_eq_true rfl, Nat.le_of_ble_eq_true rfl⟩ ⟨Nat.le_of_ble_eq_true rfl, Nat.le_of_ble_eq_true rfl⟩ (Nat.le_of_ble_eq_true rfl) rfl (k_v (fun M_32 h_32 => ?_))
  obtain ⟨x1, x2, x3, hy0, hy1, hy2, hy3, o_i⟩ := h_32
  have Hh := o_i _ _ _ (by decide) Hh
  have S_y0 := S_y0.kept o_i (by decide) (by decide)
  have H_hist := o_i _ _ _ (by decide) H_hist
  have H_slots := o_i _ _ _ (by decide) H_slots
  have H_pad := o_i _ _ _ (by decide) H_pad
  have H_r := o_i _ _ _ (by decide) H_r
  have H_r1 := o_i _ _ _ (by decide) H_r1
  have H_r2 := o_i _ _ _ (by decide) H_r2
  have H_k := o_i _ _ _ (by decide) H_k
  have H_k1 := o_i _ _ _ (by decide) H_k1
  have H_k2 := o_i _ _ _ (by decide) H_k2
  have H_g := o_i _ _ _ (by decide) H_g
  have S_b1 := S_b1.kept o_i (by decide) (by decide)
  have S_b2 := S_b2.kept o_i (by decide) (by decide)
  have S_b3 := S_b3.kept o_i (by decide) (by decide)
  have S_b4 := S_b4.kept o_i (by decide) (by decide)
  have S_b5 : stW K M_32 29 b5 (0, 3, fun _ => 0, fun _ => []) := ⟨x1, x2, x3, _, _, _, hy0, hy1, hy2, hy3, rfl, rfl, fun i _ => rfl, fun i _ => Or.inl ⟨rfl, rfl⟩⟩
  have fr := fr.tr (cfr o_i (by decide))
  refine x_sast 97 (4) C H_hist (hy0) (rfl) (by decide) (by decide) dX5_init_96 rfl ?_
  refine x_up (fun M_33 g_33 o_33 e_33 => ?_)
  have f_33 := hFr.eqp (lo := 38) (hi := 39) H_hist e_33 (by decide)
  have Hh := f_33 _ _ _ (by decide) Hh
  have S_y0 := S_y0.kept f_33 (by decide) (by decide)
  have H_hist := g_33
  have H_slots := f_33 _ _ _ (by decide) H_slots
  have H_pad := f_33 _ _ _ (by decide) H_pad
  have H_r := f_33 _ _ _ (by decide) H_r
  have H_r1 := f_33 _ _ _ (by decide) H_r1
  have H_r2 := f_33 _ _ _ (by decide) H_r2
  have H_k := f_33 _ _ _ (by decide) H_k
  have H_k1 := f_33 _ _ _ (by decide) H_k1
  have H_k2 := f_33 _ _ _ (by decide) H_k2
  have H_g := f_33 _ _ _ (by decide) H_g
  have S_b1 := S_b1.kept f_33 (by decide) (by decide)
  have S_b2 := S_b2.kept f_33 (by decide) (by decide)
  have S_b3 := S_b3.kept f_33 (by decide) (by decide)
  have S_b4 := S_b4.kept f_33 (by decide) (by decide)
  have S_b5 := S_b5.kept f_33 (by decide) (by decide)
  have fr := fr.tr (cfr f_33 (by decide))
  refine x_iinc_1 100 C dX5_init_97 rfl rfl (nI_inc _) ?_
  refine x_goto 75 C dX5_init_100 rfl ?_
  refine x_iload_1 76 C dX5_init_75 rfl ?_
  refine x_aload_0 77 C dX5_init_76 rfl ?_
  refine xg_X5_history 80 C wf_X5_16 Hh dX5_init_77 rfl ?_
  refine x_alenS 81 C H_hist dX5_init_80 rfl ?_
  refine x_icmp_ge 84 103 C dX5_init_81 rfl rfl (fun z => absurd z (nI_ge (by decide) (by decide))) (fun _ => ?_)
  refine x_aload_0 85 C dX5_init_84 rfl ?_
  refine xg_X5_history 88 C wf_X5_16 Hh dX5_init_85 rfl ?_
  refine x_iload_1 89 C dX5_init_88 rfl ?_
  refine x_new (fs := [.null, .null, .null]) 92 33 C wu_X4 wcl_X4 tyX4 tyX4_ok wk_X5_7 wn_X4 wi_X4 (by decide) ⟨Nat.le_of_ble_eq_true rfl, Nat.le_of_ble_eq_true rfl⟩ dX5_init_89 rfl (fun b6 f_b6 => ?_)
  refine x_up (fun M_34 g_34 o_34 e_34 => ?_)
  have f_34 := hFr.eqn (lo := 99) (hi := 100) f_b6 e_34
  have Hh := f_34 _ _ _ (by decide) Hh
  have S_y0 := S_y0.kept f_34 (by decide) (by decide)
  have H_hist := f_34 _ _ _ (by decide) H_hist
  have H_slots := f_34 _ _ _ (by decide) H_slots
  have H_pad := f_34 _ _ _ (by decide) H_pad
  have H_r := f_34 _ _ _ (by decide) H_r
  have H_r1 := f_34 _ _ _ (by decide) H_r1
  have H_r2 := f_34 _ _ _ (by decide) H_r2
  have H_k := f_34 _ _ _ (by decide) H_k
  have H_k1 := f_34 _ _ _ (by decide) H_k1
  have H_k2 := f_34 _ _ _ (by decide) H_k2
  have H_g := f_34 _ _ _ (by decide) H_g
  have S_b1 := S_b1.kept f_34 (by decide) (by decide)
  have S_b2 := S_b2.kept f_34 (by decide) (by decide)
  have S_b3 := S_b3.kept f_34 (by decide) (by decide)
  have S_b4 := S_b4.kept f_34 (by decide) (by decide)
  have S_b5 := S_b5.kept f_34 (by decide) (by decide)
  have fr := fr.tr (cfr f_34 (by decide))
  have H_b6 := g_34
  refine x_dup 93 C dX5_init_92 rfl rfl ?_
  refine x_callI 96 C (c_X4_init K _ b6 H_b6) rfl rfl hy_X4_init wv_X4_init lk_X5_9 dX5_init_93 rfl ⟨Nat.le_of_ble_eq_true rfl, Nat.le_of_ble_eq_true rfl⟩ ⟨Nat.le_of_ble_eq_true rfl, Nat.le_of_ble_eq_true rfl⟩ (Nat.le_of_ble_eq_true rfl) rfl (k_v (fun M_35 h_35 => ?_))
  obtain ⟨x1, x2, x3, hy0, hy1, hy2, hy3, o_i⟩ := h_35
  have Hh := o_i _ _ _ (by decide) Hh
  have S_y0 := S_y0.kept o_i (by decide) (by decide)
  have H_hist := o_i _ _ _ (by decide) H_hist
  have H_slots := o_i _ _ _ (by decide) H_slots
  have H_pad := o_i _ _ _ (by decide) H_pad
  have H_r := o_i _ _ _ (by decide) H_r
  have H_r1 := o_i _ _ _ (by decide) H_r1
  have H_r2 := o_i _ _ _ (by decide) H_r2
  have H_k := o_i _ _ _ (by decide) H_k
  have H_k1 := o_i _ _ _ (by decide) H_k1
  have H_k2 := o_i _ _ _ (by decide) H_k2
  have H_g := o_i _ _ _ (by decide) H_g
  have S_b1 := S_b1.kept o_i (by decide) (by decide)
  have S_b2 := S_b2.kept o_i (by decide) (by decide)
  have S_b3 := S_b3.kept o_i (by decide) (by decide)
  have S_b4 := S_b4.kept o_i (by decide) (by decide)
  have S_b5 := S_b5.kept o_i (by decide) (by decide)
  have S_b6 : stW K M_35 33 b6 (0, 3, fun _ => 0, fun _ => []) := ⟨x1, x2, x3, _, _, _, hy0, hy1, hy2, hy3, rfl, rfl, fun i _ => rfl, fun i _ => Or.inl ⟨rfl, rfl⟩⟩
  have fr := fr.tr (cfr o_i (by decide))
  refine x_sast 97 (5) C H_hist (hy0) (rfl) (by decide) (by decide) dX5_init_96 rfl ?_
  refine x_up (fun M_36 g_36 o_36 e_36 => ?_)
  have f_36 := hFr.eqp (lo := 38) (hi := 39) H_hist e_36 (by decide)
  have Hh := f_36 _ _ _ (by decide) Hh
  have S_y0 := S_y0.kept f_36 (by decide) (by decide)
  have H_hist := g_36
  have H_slots := f_36 _ _ _ (by decide) H_slots
  have H_pad := f_36 _ _ _ (by decide) H_pad
  have H_r := f_36 _ _ _ (by decide) H_r
  have H_r1 := f_36 _ _ _ (by decide) H_r1
  have H_r2 := f_36 _ _ _ (by decide) H_r2
  have H_k := f_36 _ _ _ (by decide) H_k
  have H_k1 := f_36 _ _ _ (by decide) H_k1
  have H_k2 := f_36 _ _ _ (by decide) H_k2
  have H_g := f_36 _ _ _ (by decide) H_g
  have S_b1 := S_b1.kept f_36 (by decide) (by decide)
  have S_b2 := S_b2.kept f_36 (by decide) (by decide)
  have S_b3 := S_b3.kept f_36 (by decide) (by decide)
  have S_b4 := S_b4.kept f_36 (by decide) (by decide)
  have S_b5 := S_b5.kept f_36 (by decide) (by decide)
  have S_b6 := S_b6.kept f_36 (by decide) (by decide)
  have fr := fr.tr (cfr f_36 (by decide))
  refine x_iinc_1 100 C dX5_init_97 rfl rfl (nI_inc _) ?_
  refine x_goto 75 C dX5_init_100 rfl ?_
  refine x_iload_1 76 C dX5_init_75 rfl ?_
  refine x_aload_0 77 C dX5_init_76 rfl ?_
  refine xg_X5_history 80 C wf_X5_16 Hh dX5_init_77 rfl ?_
  refine x_alenS 81 C H_hist dX5_init_80 rfl ?_
  refine x_icmp_ge 84 103 C dX5_init_81 rfl rfl (fun _ => ?_) (fun z => absurd (nI_le (by decide) (by decide)) z)
  refine x_vreturn C Rt dX5_init_103 ⟨Nat.le_of_ble_eq_true rfl, Nat.le_of_ble_eq_true rfl⟩ ?_
  obtain ⟨AA, hAA⟩ : ∃ AA : Nat → Nat, AA = fun i => [y0, b1, b2, b3, b4, b5, b6, 0, 0, 0, 0, 0, 0, 0, 0, 0, 0, 0, 0, 0, 0, 0, 0, 0, 0, 0, 0, 0, 0, 0, 0, 0, 0, 0, 0, 0, h, hist, slots, pad, r, r1, r2, k, k1, k2, g].getD i 0 := ⟨_, rfl⟩
  have e0 : y0 = AA 0 := by rw [hAA]; rfl
  have e1 : b1 = AA 1 := by rw [hAA]; rfl
  have e2 : b2 = AA 2 := by rw [hAA]; rfl
  have e3 : b3 = AA 3 := by rw [hAA]; rfl
  have e4 : b4 = AA 4 := by rw [hAA]; rfl
  have e5 : b5 = AA 5 := by rw [hAA]; rfl
  have e6 : b6 = AA 6 := by rw [hAA]; rfl
  have e36 : h = AA 36 := by rw [hAA]; rfl
  have e37 : hist = AA 37 := by rw [hAA]; rfl
  have e38 : slots = AA 38 := by rw [hAA]; rfl
  have e39 : pad = AA 39 := by rw [hAA]; rfl
  have e40 : r = AA 40 := by rw [hAA]; rfl
  have e41 : r1 = AA 41 := by rw [hAA]; rfl
  have e42 : r2 = AA 42 := by rw [hAA]; rfl
  have e43 : k = AA 43 := by rw [hAA]; rfl
  have e44 : k1 = AA 44 := by rw [hAA]; rfl
  have e45 : k2 = AA 45 := by rw [hAA]; rfl
  have e46 : g = AA 46 := by rw [hAA]; rfl
  clear hAA
  subst e0 e1 e2 e3 e4 e5 e6 e36 e37 e38 e39 e40 e41 e42 e43 e44 e45 e46
  rw [hs_build] at H_hist
  refine ⟨rfl, AA, rfl, ⟨fun _ => 0, fun _ => 0, fun _ => none, fun _ => (0, 3, fun _ => 0, fun _ => []), ⟨Hh, H_hist, H_slots, H_pad⟩, ⟨rfl, fun k hk => absurd hk (Nat.not_lt_zero _), rfl, 0, by decide, rfl, fun i hi => absurd hi (Nat.not_lt_zero _)⟩, S_y0, fun j hj => ?_, fun j hj => ⟨fun _ => rfl, fun τ q => (by cases q)⟩, ⟨fun _ => 0, fun _ _ => 0, H_r, H_r1, H_r2⟩, ⟨fun _ => 0, fun _ _ => 0, H_k, H_k1, H_k2⟩, ⟨fun _ => 0, fun _ => 0, H_g⟩⟩, fr⟩
  rcases (show j = 0 ∨ j = 1 ∨ j = 2 ∨ j = 3 ∨ j = 4 ∨ j = 5 by omega) with rfl | rfl | rfl | rfl | rfl | rfl
  · exact S_b1
  · exact S_b2
  · exact S_b3
  · exact S_b4
  · exact S_b5
  · exact S_b6
