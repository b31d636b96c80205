theorem max_0 {n : Nat} (h : n < 2 ^ 31) : (if (0 : Int32) < nI n then nI n else 0) = nI n := by
  split
  · rfl
  · next q =>
    rcases Nat.eq_zero_or_pos n with z | z
    · rw [z]; rfl
    · exact absurd (nI_lt (a := 0) z h) q
set_option maxHeartbeats 4000000 in
set_option maxRecDepth 100000 in
theorem c_X4_init (K : hKv) (M : hM) {t : Nat} (h : Nat) (Hh : M h = some (t, eO 4 [.null, .null, .null])) : hC K Y_X4_init rm_X4_init [.ref h] M (hPv fun M' => ∃ a1 a2 a3, M' h = some (t, eO 4 [.ref a1, .ref a2, .ref a3]) ∧ M' a1 = some (t + 1, eI K 2 (va_up (va_up (fun _ => 0) 0 0) 1 3)) ∧ M' a2 = some (t + 2, eJ K 8 (fun _ => 0)) ∧ M' a3 = some (t + 3, eF K 6 (fun _ => none)) ∧ hFr t (t + 4) M M') := by
  refine hC.of [some (.ref h)] (by decide) (Nat.le_of_ble_eq_true rfl) rfl rfl ?_
  intro E C Rt
  have C : hCx E K cX4_init 1 RX4 "<init>" rm_X4_init := C
  have fr : hFr t (t + 4) M M := hFr.rf
  refine x_aload_0 1 C dX4_init_0 rfl ?_
  refine x_objInit 4 C wl_X4_3 dX4_init_1 ⟨Nat.le_of_ble_eq_true rfl, Nat.le_of_ble_eq_true rfl⟩ (Nat.le_of_ble_eq_true rfl) rfl ?_
  refine x_aload_0 5 C dX4_init_4 rfl ?_
  refine x_iconst (v := 2) 6 C dX4_init_5 rfl rfl ?_
  refine x_newaI 8 (2) (t + 1) C rfl (by decide) ⟨Nat.le_of_ble_eq_true rfl, Nat.le_of_ble_eq_true rfl⟩ dX4_init_6 rfl (fun a_1 f_a_1 => ?_)
  refine x_up (fun M_1 g_1 o_1 e_1 => ?_)
  have fr := fr.tr (M2 := M_1) (by rw [e_1]; exact hFr.new f_a_1)
  have Hh := (o_1 _ (hT_new Hh f_a_1)).trans Hh
  have H_a_1 := g_1
  refine x_dup 9 C dX4_init_8 rfl rfl ?_
  refine x_iconst (v := 0) 10 C dX4_init_9 rfl rfl ?_
  refine x_iconst (v := 0) 11 C dX4_init_10 rfl rfl ?_
  refine x_iast 12 (0) C H_a_1 (rfl) (by decide) (by decide) dX4_init_11 rfl ?_
  refine x_up (fun M_2 g_2 o_2 e_2 => ?_)
  have fr := fr.tr (M2 := M_2) (by rw [e_2]; exact hFr.put H_a_1 (by omega))
  have Hh := (o_2 _ (hT_ne Hh H_a_1 (by omega))).trans Hh
  have H_a_1 := g_2
  refine x_dup 13 C dX4_init_12 rfl rfl ?_
  refine x_iconst (v := 1) 14 C dX4_init_13 rfl rfl ?_
  refine x_iconst (v := 3) 15 C dX4_init_14 rfl rfl ?_
  refine x_iast 16 (1) C H_a_1 (rfl) (by decide) (by decide) dX4_init_15 rfl ?_
  refine x_up (fun M_3 g_3 o_3 e_3 => ?_)
  have fr := fr.tr (M2 := M_3) (by rw [e_3]; exact hFr.put H_a_1 (by omega))
  have Hh := (o_3 _ (hT_ne Hh H_a_1 (by omega))).trans Hh
  have H_a_1 := g_3
  refine xp_X4_settings 19 C wf_X4_9 rfl rfl wf0_X4_9 Hh rfl rfl dX4_init_16 rfl ?_
  refine x_up (fun M_4 g_4 o_4 e_4 => ?_)
  have fr := fr.tr (M2 := M_4) (by rw [e_4]; exact hFr.put Hh (by omega))
  have H_a_1 := (o_4 _ (hT_ne H_a_1 Hh (by omega))).trans H_a_1
  have Hh := g_4
  refine x_aload_0 20 C dX4_init_19 rfl ?_
  refine x_bipush (v := 8) 22 C dX4_init_20 rfl rfl ?_
  refine x_newaJ 24 (8) (t + 2) C rfl (by decide) ⟨Nat.le_of_ble_eq_true rfl, Nat.le_of_ble_eq_true rfl⟩ dX4_init_22 rfl (fun a_2 f_a_2 => ?_)
  refine x_up (fun M_5 g_5 o_5 e_5 => ?_)
  have fr := fr.tr (M2 := M_5) (by rw [e_5]; exact hFr.new f_a_2)
  have Hh := (o_5 _ (hT_new Hh f_a_2)).trans Hh
  have H_a_1 := (o_5 _ (hT_new H_a_1 f_a_2)).trans H_a_1
  have H_a_2 := g_5
  refine xp_X4_cells 27 C wf_X4_15 rfl rfl wf0_X4_15 Hh rfl rfl dX4_init_24 rfl ?_
  refine x_up (fun M_6 g_6 o_6 e_6 => ?_)
  have fr := fr.tr (M2 := M_6) (by rw [e_6]; exact hFr.put Hh (by omega))
  have H_a_1 := (o_6 _ (hT_ne H_a_1 Hh (by omega))).trans H_a_1
  have H_a_2 := (o_6 _ (hT_ne H_a_2 Hh (by omega))).trans H_a_2
  have Hh := g_6
  refine x_aload_0 28 C dX4_init_27 rfl ?_
  refine x_bipush (v := 6) 30 C dX4_init_28 rfl rfl ?_
  refine x_newF 33 (6) (t + 3) C rfl (by decide) ⟨Nat.le_of_ble_eq_true rfl, Nat.le_of_ble_eq_true rfl⟩ wk_X4_19 dX4_init_30 rfl (fun a_3 f_a_3 => ?_)
  refine x_up (fun M_7 g_7 o_7 e_7 => ?_)
  have fr := fr.tr (M2 := M_7) (by rw [e_7]; exact hFr.new f_a_3)
  have Hh := (o_7 _ (hT_new Hh f_a_3)).trans Hh
  have H_a_1 := (o_7 _ (hT_new H_a_1 f_a_3)).trans H_a_1
  have H_a_2 := (o_7 _ (hT_new H_a_2 f_a_3)).trans H_a_2
  have H_a_3 := g_7
  refine xp_X4_formulas 36 C wf_X4_21 rfl rfl wf0_X4_21 Hh rfl rfl dX4_init_33 rfl ?_
  refine x_up (fun M_8 g_8 o_8 e_8 => ?_)
  have fr := fr.tr (M2 := M_8) (by rw [e_8]; exact hFr.put Hh (by omega))
  have H_a_1 := (o_8 _ (hT_ne H_a_1 Hh (by omega))).trans H_a_1
  have H_a_2 := (o_8 _ (hT_ne H_a_2 Hh (by omega))).trans H_a_2
  have H_a_3 := (o_8 _ (hT_ne H_a_3 Hh (by omega))).trans H_a_3
  have Hh := g_8
  refine x_vreturn C Rt dX4_init_36 ⟨Nat.le_of_ble_eq_true rfl, Nat.le_of_ble_eq_true rfl⟩ ?_
  exact ⟨rfl, a_1, a_2, a_3, Hh, H_a_1, H_a_2, H_a_3, fr⟩
set_option maxHeartbeats 4000000 in
set_option maxRecDepth 100000 in
theorem c_X2_init (K : hKv) (M : hM) {t : Nat} (h : Nat) (Hh : M h = some (t, eO 2 [.null, .null, .int 0, .int 0, .int 0, .int 0])) : hC K Y_X2_init rm_X2_init [.ref h] M (hPv fun M' => ∃ a1 a2, M' h = some (t, eO 2 [.ref a1, .ref a2, .int 0, .int 0, .int 0, .int 0]) ∧ M' a1 = some (t + 1, eI K 60 (fun _ => 0)) ∧ M' a2 = some (t + 2, eC K 60 (fun _ => 0)) ∧ hFr t (t + 3) M M') := by
  refine hC.of [some (.ref h)] (by decide) (Nat.le_of_ble_eq_true rfl) rfl rfl ?_
  intro E C Rt
  have C : hCx E K cX2_init 1 RX2 "<init>" rm_X2_init := C
  have fr : hFr t (t + 3) M M := hFr.rf
  refine x_aload_0 1 C dX2_init_0 rfl ?_
  refine x_objInit 4 C wl_X2_3 dX2_init_1 ⟨Nat.le_of_ble_eq_true rfl, Nat.le_of_ble_eq_true rfl⟩ (Nat.le_of_ble_eq_true rfl) rfl ?_
  refine x_aload_0 5 C dX2_init_4 rfl ?_
  refine x_bipush (v := 60) 7 C dX2_init_5 rfl rfl ?_
  refine x_newaI 9 (60) (t + 1) C rfl (by decide) ⟨Nat.le_of_ble_eq_true rfl, Nat.le_of_ble_eq_true rfl⟩ dX2_init_7 rfl (fun a_1 f_a_1 => ?_)
  refine x_up (fun M_1 g_1 o_1 e_1 => ?_)
  have fr := fr.tr (M2 := M_1) (by rw [e_1]; exact hFr.new f_a_1)
  have Hh := (o_1 _ (hT_new Hh f_a_1)).trans Hh
  have H_a_1 := g_1
  refine xp_X2_steps 12 C wf_X2_9 rfl rfl wf0_X2_9 Hh rfl rfl dX2_init_9 rfl ?_
  refine x_up (fun M_2 g_2 o_2 e_2 => ?_)
  have fr := fr.tr (M2 := M_2) (by rw [e_2]; exact hFr.put Hh (by omega))
  have H_a_1 := (o_2 _ (hT_ne H_a_1 Hh (by omega))).trans H_a_1
  have Hh := g_2
  refine x_aload_0 13 C dX2_init_12 rfl ?_
  refine x_bipush (v := 60) 15 C dX2_init_13 rfl rfl ?_
  refine x_newaC 17 (60) (t + 2) C rfl (by decide) ⟨Nat.le_of_ble_eq_true rfl, Nat.le_of_ble_eq_true rfl⟩ dX2_init_15 rfl (fun a_2 f_a_2 => ?_)
  refine x_up (fun M_3 g_3 o_3 e_3 => ?_)
  have fr := fr.tr (M2 := M_3) (by rw [e_3]; exact hFr.new f_a_2)
  have Hh := (o_3 _ (hT_new Hh f_a_2)).trans Hh
  have H_a_1 := (o_3 _ (hT_new H_a_1 f_a_2)).trans H_a_1
  have H_a_2 := g_3
  refine xp_X2_waiting 20 C wf_X2_15 rfl rfl wf0_X2_15 Hh rfl rfl dX2_init_17 rfl ?_
  refine x_up (fun M_4 g_4 o_4 e_4 => ?_)
  have fr := fr.tr (M2 := M_4) (by rw [e_4]; exact hFr.put Hh (by omega))
  have H_a_1 := (o_4 _ (hT_ne H_a_1 Hh (by omega))).trans H_a_1
  have H_a_2 := (o_4 _ (hT_ne H_a_2 Hh (by omega))).trans H_a_2
  have Hh := g_4
  refine x_vreturn C Rt dX2_init_20 ⟨Nat.le_of_ble_eq_true rfl, Nat.le_of_ble_eq_true rfl⟩ ?_
  exact ⟨rfl, a_1, a_2, Hh, H_a_1, H_a_2, fr⟩
set_option maxHeartbeats 4000000 in
set_option maxRecDepth 100000 in
theorem c_X3_init (K : hKv) (M : hM) {t : Nat} (h : Nat) (Hh : M h = some (t, eO 3 [.null, .null, .int 0, .int 0, .int 0])) : hC K Y_X3_init rm_X3_init [.ref h] M (hPv fun M' => ∃ a1 a2, M' h = some (t, eO 3 [.ref a1, .ref a2, .int 0, .int 0, .int 0]) ∧ M' a1 = some (t + 1, eJ K 60 (fun _ => 0)) ∧ M' a2 = some (t + 2, eJ K 60 (fun _ => 0)) ∧ hFr t (t + 3) M M') := by
  refine hC.of [some (.ref h)] (by decide) (Nat.le_of_ble_eq_true rfl) rfl rfl ?_
  intro E C Rt
  have C : hCx E K cX3_init 1 RX3 "<init>" rm_X3_init := C
  have fr : hFr t (t + 3) M M := hFr.rf
  refine x_aload_0 1 C dX3_init_0 rfl ?_
  refine x_objInit 4 C wl_X3_3 dX3_init_1 ⟨Nat.le_of_ble_eq_true rfl, Nat.le_of_ble_eq_true rfl⟩ (Nat.le_of_ble_eq_true rfl) rfl ?_
  refine x_aload_0 5 C dX3_init_4 rfl ?_
  refine x_bipush (v := 60) 7 C dX3_init_5 rfl rfl ?_
  refine x_newaJ 9 (60) (t + 1) C rfl (by decide) ⟨Nat.le_of_ble_eq_true rfl, Nat.le_of_ble_eq_true rfl⟩ dX3_init_7 rfl (fun a_1 f_a_1 => ?_)
  refine x_up (fun M_1 g_1 o_1 e_1 => ?_)
  have fr := fr.tr (M2 := M_1) (by rw [e_1]; exact hFr.new f_a_1)
  have Hh := (o_1 _ (hT_new Hh f_a_1)).trans Hh
  have H_a_1 := g_1
  refine xp_X3_values 12 C wf_X3_9 rfl rfl wf0_X3_9 Hh rfl rfl dX3_init_9 rfl ?_
  refine x_up (fun M_2 g_2 o_2 e_2 => ?_)
  have fr := fr.tr (M2 := M_2) (by rw [e_2]; exact hFr.put Hh (by omega))
  have H_a_1 := (o_2 _ (hT_ne H_a_1 Hh (by omega))).trans H_a_1
  have Hh := g_2
  refine x_aload_0 13 C dX3_init_12 rfl ?_
  refine x_bipush (v := 60) 15 C dX3_init_13 rfl rfl ?_
  refine x_newaJ 17 (60) (t + 2) C rfl (by decide) ⟨Nat.le_of_ble_eq_true rfl, Nat.le_of_ble_eq_true rfl⟩ dX3_init_15 rfl (fun a_2 f_a_2 => ?_)
  refine x_up (fun M_3 g_3 o_3 e_3 => ?_)
  have fr := fr.tr (M2 := M_3) (by rw [e_3]; exact hFr.new f_a_2)
  have Hh := (o_3 _ (hT_new Hh f_a_2)).trans Hh
  have H_a_1 := (o_3 _ (hT_new H_a_1 f_a_2)).trans H_a_1
  have H_a_2 := g_3
  refine xp_X3_operands 20 C wf_X3_15 rfl rfl wf0_X3_15 Hh rfl rfl dX3_init_17 rfl ?_
  refine x_up (fun M_4 g_4 o_4 e_4 => ?_)
  have fr := fr.tr (M2 := M_4) (by rw [e_4]; exact hFr.put Hh (by omega))
  have H_a_1 := (o_4 _ (hT_ne H_a_1 Hh (by omega))).trans H_a_1
  have H_a_2 := (o_4 _ (hT_ne H_a_2 Hh (by omega))).trans H_a_2
  have Hh := g_4
  refine x_vreturn C Rt dX3_init_20 ⟨Nat.le_of_ble_eq_true rfl, Nat.le_of_ble_eq_true rfl⟩ ?_
  exact ⟨rfl, a_1, a_2, Hh, H_a_1, H_a_2, fr⟩
set_option maxHeartbeats 4000000 in
set_option maxRecDepth 100000 in
theorem c_X1_init (K : hKv) (M : hM) (h : Nat) : hC K Y_X1_init rm_X1_init [.ref h] M (hPv fun M' => M' = M) := by
  refine hC.of [some (.ref h)] (by decide) (Nat.le_of_ble_eq_true rfl) rfl rfl ?_
  intro E C Rt
  have C : hCx E K cX1_init 1 RX1 "<init>" rm_X1_init := C
  refine x_aload_0 1 C dX1_init_0 rfl ?_
  refine x_objInit 4 C wl_X1_3 dX1_init_1 ⟨Nat.le_of_ble_eq_true rfl, Nat.le_of_ble_eq_true rfl⟩ (Nat.le_of_ble_eq_true rfl) rfl ?_
  refine x_vreturn C Rt dX1_init_4 ⟨Nat.le_of_ble_eq_true rfl, Nat.le_of_ble_eq_true rfl⟩ ?_
  exact ⟨rfl, rfl⟩
set_option maxHeartbeats 4000000 in
set_option maxRecDepth 100000 in
theorem c_X0_init (K : hKv) (M : hM) {u : Nat} (h b n : Nat) (f : Nat → Int32) (h0 : M h = some (0, eO 0 [.null])) (hb : M b = some (u, eI K 60 f)) (hn : n ≤ 60) : hC K Y_X0_init rm_X0_init [.ref h, .ref b, .int (nI n)] M (hPv fun M' => ∃ a g, M' h = some (0, eO 0 [.ref a]) ∧ M' a = some (0, eI K n g) ∧ (∀ j, j < n → g j = f j) ∧ ∀ c t e, c ≠ h → M c = some (t, e) → M' c = some (t, e)) := by
  refine hC.of [some (.ref h), some (.ref b), some (.int (nI n)), none] (by decide) (Nat.le_of_ble_eq_true rfl) rfl rfl ?_
  intro E C Rt
  have C : hCx E K cX0_init 4 RX0 "<init>" rm_X0_init := C
  have lp : ∀ (a : Nat) (cs ss : Nat) (M0 : hM), cs ≤ 1 → ss ≤ 60 → b ≠ a → (∀ c t e, M c = some (t, e) → c ≠ a) → ∀ (d i : Nat), i + d = n → ∀ (g : Nat → Int32) (M1 : hM), M1 h = some (0, eO 0 [.ref a]) → M1 a = some (0, eI K n g) → M1 b = some (u, eI K 60 f) → (∀ j, j < i → g j = f j) → (∀ c t e, c ≠ h → M c = some (t, e) → M1 c = some (t, e)) → hX E cs ss 17 [some (.ref h), some (.ref b), some (.int (nI n)), some (.int (nI i))] [] M1 := by
    intro a cs ss M0 hcs hss hba hca d
    induction d with
    | zero =>
      intro i hi g M1 h0 ha hb hg fr
      have hi : i = n := by omega
      subst hi
      refine x_iload_3 18 C dX0_init_17 rfl ?_
      refine x_aload_0 19 C dX0_init_18 rfl ?_
      refine xg_X0_steps 22 C wf_X0_15 h0 dX0_init_19 rfl ?_
      refine x_alenI 23 C ha dX0_init_22 rfl ?_
      refine x_icmp_ge 26 47 C dX0_init_23 rfl rfl (fun _ => ?_) (fun z => absurd (nI_le (Nat.le_refl _) (by omega)) z)
      refine x_vreturn C Rt dX0_init_47 ⟨by show cs ≤ 1; omega, by show ss ≤ 60; omega⟩ ?_
      exact ⟨rfl, a, g, h0, ha, hg, fr⟩
    | succ d ih =>
      intro i hi g M1 h0 ha hb hg fr
      refine x_iload_3 18 C dX0_init_17 rfl ?_
      refine x_aload_0 19 C dX0_init_18 rfl ?_
      refine xg_X0_steps 22 C wf_X0_15 h0 dX0_init_19 rfl ?_
      refine x_alenI 23 C ha dX0_init_22 rfl ?_
      refine x_icmp_ge 26 47 C dX0_init_23 rfl rfl (fun z => absurd z (nI_ge (by omega) (by omega))) (fun _ => ?_)
      refine x_iload_3 27 C dX0_init_26 rfl ?_
      refine x_aload_1 28 C dX0_init_27 rfl ?_
      refine x_alenI 29 C hb dX0_init_28 rfl ?_
      refine x_icmp_ge 32 47 C dX0_init_29 rfl rfl (fun z => absurd z (nI_ge (by omega) (by decide))) (fun _ => ?_)
      refine x_aload_0 33 C dX0_init_32 rfl ?_
      refine xg_X0_steps 36 C wf_X0_15 h0 dX0_init_33 rfl ?_
      refine x_iload_3 37 C dX0_init_36 rfl ?_
      refine x_aload_1 38 C dX0_init_37 rfl ?_
      refine x_iload_3 39 C dX0_init_38 rfl ?_
      refine x_iald 40 (i) C hb (rfl) (by omega) (by decide) dX0_init_39 rfl ?_
      refine x_iast 41 (i) C ha (rfl) (by omega) (by omega) dX0_init_40 rfl ?_
      refine x_up (fun M_1 g_1 o_1 e_1 => ?_)
      have h0 := (o_1 _ (h_ne_kd h0 ha (by simp [hKd, eO, eI]))).trans h0
      have hb := (o_1 _ hba).trans hb
      have ha := g_1
      refine x_iinc_3 44 C dX0_init_41 rfl rfl (nI_inc _) ?_
      refine x_goto 17 C dX0_init_44 rfl ?_
      refine ih (i + 1) (by omega) _ _ h0 ha hb (fun j hj => ?_) (fun c t e hc q => (o_1 c (hca c t e q)).trans (fr c t e hc q))
      by_cases e : j = i
      · rw [e, va_up_self]
      · rw [va_up_ne _ _ e]; exact hg j (by omega)
  refine x_aload_0 1 C dX0_init_0 rfl ?_
  refine x_objInit 4 C wl_X0_3 dX0_init_1 ⟨Nat.le_of_ble_eq_true rfl, Nat.le_of_ble_eq_true rfl⟩ (Nat.le_of_ble_eq_true rfl) rfl ?_
  refine x_aload_0 5 C dX0_init_4 rfl ?_
  refine x_iconst (v := 0) 6 C dX0_init_5 rfl rfl ?_
  refine x_iload_2 7 C dX0_init_6 rfl ?_
  refine x_max 10 C wl_X0_9 dX0_init_7 ⟨Nat.le_of_ble_eq_true rfl, Nat.le_of_ble_eq_true rfl, Nat.le_of_ble_eq_true rfl, Nat.le_of_ble_eq_true rfl⟩ (Nat.le_of_ble_eq_true rfl) rfl ?_
  refine x_topi (v' := nI n) (max_0 (by omega)) ?_
  refine x_newaI 12 (n) 0 C rfl (by omega) ⟨Nat.le_of_ble_eq_true rfl, by show 0 + n ≤ 60; omega⟩ dX0_init_10 rfl (fun a f_a => ?_)
  refine x_up (fun M_a g_a o_a e_a => ?_)
  have hca : ∀ c t e, M c = some (t, e) → c ≠ a := fun c t e q => hT_new q f_a
  have hba := hca _ _ _ hb
  have h0 := (o_a _ (hca _ _ _ h0)).trans h0
  have hb := (o_a _ hba).trans hb
  have ha := g_a
  refine xp_X0_steps 15 C wf_X0_15 rfl rfl wf0_X0_15 h0 rfl rfl dX0_init_12 rfl ?_
  refine x_up (fun M_1 g_1 o_1 e_1 => ?_)
  have hb := (o_1 _ (h_ne_kd hb h0 (by simp [hKd, eO, eI]))).trans hb
  have ha := (o_1 _ (h_ne_kd ha h0 (by simp [hKd, eO, eI]))).trans ha
  have h0 := g_1
  refine x_iconst (v := 0) 16 C dX0_init_15 rfl rfl ?_
  refine x_istore_3 17 C dX0_init_16 rfl rfl ?_
  exact lp a _ _ M (Nat.le_refl _) (by omega) hba hca n 0 (Nat.zero_add _) _ _ h0 ha hb (fun j hj => absurd hj (Nat.not_lt_zero _)) (fun c t e hc q => (o_1 c hc).trans ((o_a c (hca c t e q)).trans q))
