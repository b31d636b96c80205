theorem cdS_le {s : Nat × Nat} (h : okP s) : cdS s ≤ 10127 := by
  obtain ⟨k, v⟩ := s
  rcases h with ⟨h1, h2⟩ | ⟨h1, h2⟩ | ⟨h1, h2⟩
  · have h1 : k = 0 := h1
    have h2 : v ≤ 9999 := h2
    subst h1; show v ≤ 10127; omega
  · have h1 : k = 1 := h1
    have h2 : v < 8 := h2
    subst h1; show 10065 + v ≤ 10127; omega
  · have h1 : k = 43 ∨ k = 45 ∨ k = 42 ∨ k = 113 ∨ k = 107 ∨ k = 115 := h1
    rw [cdS, if_neg (by show ¬ k = 0; omega), if_neg (by show ¬ k = 1; omega)]
    show 10000 + k ≤ 10127; omega
theorem cdS_cell {s : Nat × Nat} (h : okP s) : ((0 ≤ (cdS s : Int) - 10065 ∧ (cdS s : Int) - 10065 ≤ 7) ↔ s.1 = 1) ∧ (s.1 = 1 → (cdS s : Int) - 10065 = s.2) ∧ (cdS s = 10113 ↔ s.1 = 113) ∧ (cdS s = 10107 ↔ s.1 = 107) := by
  obtain ⟨k, v⟩ := s
  rcases h with ⟨h1, h2⟩ | ⟨h1, h2⟩ | ⟨h1, h2⟩
  · have h1 : k = 0 := h1
    have h2 : v ≤ 9999 := h2
    subst h1
    rw [show cdS (0, v) = v from rfl]
    show (_ ↔ 0 = 1) ∧ (0 = 1 → _) ∧ (_ ↔ 0 = 113) ∧ (_ ↔ 0 = 107)
    omega
  · have h1 : k = 1 := h1
    have h2 : v < 8 := h2
    subst h1
    rw [show cdS (1, v) = 10065 + v from rfl]
    show (_ ↔ 1 = 1) ∧ (1 = 1 → _ = ((v : Nat) : Int)) ∧ (_ ↔ 1 = 113) ∧ (_ ↔ 1 = 107)
    omega
  · have h1 : k = 43 ∨ k = 45 ∨ k = 42 ∨ k = 113 ∨ k = 107 ∨ k = 115 := h1
    have e : cdS (k, v) = 10000 + k := by rw [cdS, if_neg (by show ¬ k = 0; omega), if_neg (by show ¬ k = 1; omega)]
    rw [e]
    show (_ ↔ k = 1) ∧ (k = 1 → _) ∧ (_ ↔ k = 113) ∧ (_ ↔ k = 107)
    refine ⟨by omega, fun q => by omega, by omega, by omega⟩
theorem cn_sub (c : Nat) : nI c - 10000 - 65 = iI ((c : Int) - 10065) := by
  rw [nI_iI, show (10000 : Int32) = iI 10000 by decide, show (65 : Int32) = iI 65 by decide, iI_sub, iI_sub]
  congr 1; omega
set_option maxHeartbeats 4000000 in
set_option maxRecDepth 100000 in
theorem c_X0_cellsNamed (K : hKv) (M : hM) {L : List (Nat × Nat)} (hw : wfF L) {y b t u : Nat} {f : Nat → Int32} (hY : M y = some (t, eO 0 [.ref b])) (hb : M b = some (u, eI K L.length f)) (hbf : ∀ k, k < L.length → f k = nI (cdS (L.getD k (0, 0)))) : hC K Y_X0_cellsNamed rm_X0_cellsNamed [.ref y] M (hPi fun r M' => r = cOf L L.length ∧ M' = M) := by
  refine hC.of [some (.ref y), none, none, none] (by decide) (Nat.le_of_ble_eq_true rfl) rfl rfl ?_
  intro E C Rt
  have C : hCx E K cX0_cellsNamed 4 RX0 "cellsNamed" rm_X0_cellsNamed := C
  have hl60 := hw.2.2
  have lp : ∀ (d i : Nat), i + d = L.length → ∀ (x : Int32) (l3 : Option Value), x = cOf L i → hX E 0 0 4 [some (.ref y), some (.int x), some (.int (nI i)), l3] [] M := by
    intro d
    induction d with
    | zero =>
      intro i hi x l3 hx
      have hi : i = L.length := by omega
      subst hi
      subst hx
      refine x_iload_2 5 C dX0_cellsNamed_4 rfl ?_
      refine x_aload_0 6 C dX0_cellsNamed_5 rfl ?_
      refine xg_X0_steps 9 C wf_X0_15 hY dX0_cellsNamed_6 rfl ?_
      refine x_alenI 10 C hb dX0_cellsNamed_9 rfl ?_
      refine x_icmp_ge 13 51 C dX0_cellsNamed_10 rfl rfl (fun _ => ?_) (fun z => absurd (nI_le (Nat.le_refl _) (by omega)) z)
      refine x_iload_1 52 C dX0_cellsNamed_51 rfl ?_
      refine x_ireturn C Rt dX0_cellsNamed_52 rfl ⟨Nat.le_of_ble_eq_true rfl, Nat.le_of_ble_eq_true rfl⟩ ?_
      exact ⟨_, rfl, rfl, rfl⟩
    | succ d ih =>
      intro i hi x l3 hx
      have hil : i < L.length := by omega
      have hok := wf_at hw hil
      have hcl := cdS_le hok
      obtain ⟨k1, k2, k3, k4⟩ := cdS_cell hok
      refine x_iload_2 5 C dX0_cellsNamed_4 rfl ?_
      refine x_aload_0 6 C dX0_cellsNamed_5 rfl ?_
      refine xg_X0_steps 9 C wf_X0_15 hY dX0_cellsNamed_6 rfl ?_
      refine x_alenI 10 C hb dX0_cellsNamed_9 rfl ?_
      refine x_icmp_ge 13 51 C dX0_cellsNamed_10 rfl rfl (fun z => absurd z (nI_ge hil (by omega))) (fun _ => ?_)
      refine x_aload_0 14 C dX0_cellsNamed_13 rfl ?_
      refine xg_X0_steps 17 C wf_X0_15 hY dX0_cellsNamed_14 rfl ?_
      refine x_iload_2 18 C dX0_cellsNamed_17 rfl ?_
      refine x_iald 19 (i) C hb (rfl) (hil) (by omega) dX0_cellsNamed_18 rfl ?_
      refine x_topi (hbf i hil) ?_
      refine x_sipush (v := 10000) 22 C dX0_cellsNamed_19 rfl rfl ?_
      refine x_isub 23 C dX0_cellsNamed_22 rfl ?_
      refine x_bipush (v := 65) 25 C dX0_cellsNamed_23 rfl rfl ?_
      refine x_isub 26 C dX0_cellsNamed_25 rfl ?_
      refine x_topi (cn_sub _) ?_
      refine x_istore_3 27 C dX0_cellsNamed_26 rfl rfl ?_
      refine x_iload_3 28 C dX0_cellsNamed_27 rfl ?_
      refine x_i2l 29 C dX0_cellsNamed_28 rfl ?_
      refine x_topl (iI_l (by omega) (by omega)) ?_
      refine x_lconst (v := 0) 30 C dX0_cellsNamed_29 rfl rfl ?_
      refine x_ldc2 (v := 7) 33 C dX0_cellsNamed_30 rfl wq_X0_21 ?_
      refine x_callS 36 C (c_X5_within K _ _ _ _) hy_X5_within ws_X5_within lk_X0_23 dX0_cellsNamed_33 rfl ⟨Nat.le_of_ble_eq_true rfl, Nat.le_of_ble_eq_true rfl⟩ ⟨Nat.le_of_ble_eq_true rfl, Nat.le_of_ble_eq_true rfl⟩ (Nat.le_of_ble_eq_true rfl) rfl (k_0 rfl rfl (k_ip ?_))
      have hti : (lI ((cdS (L.getD i (0, 0)) : Int) - 10065)).toInt = (cdS (L.getD i (0, 0)) : Int) - 10065 := lI_toI (by omega) (by omega)
      have hv7 : ((0 : Int64).toInt ≤ (lI ((cdS (L.getD i (0, 0)) : Int) - 10065)).toInt ∧ (lI ((cdS (L.getD i (0, 0)) : Int) - 10065)).toInt ≤ (7 : Int64).toInt) ↔ (L.getD i (0, 0)).1 = 1 := by rw [hti, tl_0, tl_7]; exact k1
      refine x_if_eq 39 45 C dX0_cellsNamed_36 rfl rfl (fun c_36 => ?_) (fun c_36 => ?_)
      · refine x_iinc_2 48 C dX0_cellsNamed_45 rfl rfl (nI_inc _) ?_
        refine x_goto 4 C dX0_cellsNamed_48 rfl ?_
        exact ih (i + 1) (by omega) _ _ (by rw [cOf_f (fun q => hB_0p.mp c_36 (hv7.mpr q)), Int32.or_zero]; exact hx)
      · refine x_iload_1 40 C dX0_cellsNamed_39 rfl ?_
        refine x_iconst (v := 1) 41 C dX0_cellsNamed_40 rfl rfl ?_
        refine x_iload_3 42 C dX0_cellsNamed_41 rfl ?_
        have h1 := hv7.mp (hB_n0p.mp c_36)
        refine x_topi (by rw [k2 h1, ← nI_iI]) ?_
        refine x_ishl 43 C dX0_cellsNamed_42 rfl ?_
        refine x_ior 44 C dX0_cellsNamed_43 rfl ?_
        refine x_istore_1 45 C dX0_cellsNamed_44 rfl rfl ?_
        refine x_iinc_2 48 C dX0_cellsNamed_45 rfl rfl (nI_inc _) ?_
        refine x_goto 4 C dX0_cellsNamed_48 rfl ?_
        exact ih (i + 1) (by omega) _ _ (by rw [cOf_t h1, hx])
  refine x_iconst (v := 0) 1 C dX0_cellsNamed_0 rfl rfl ?_
  refine x_istore_1 2 C dX0_cellsNamed_1 rfl rfl ?_
  refine x_iconst (v := 0) 3 C dX0_cellsNamed_2 rfl rfl ?_
  refine x_istore_2 4 C dX0_cellsNamed_3 rfl rfl ?_
  exact lp L.length 0 (Nat.zero_add _) _ _ rfl
set_option maxHeartbeats 4000000 in
set_option maxRecDepth 100000 in
theorem c_X0_rootsInside (K : hKv) (M : hM) {L : List (Nat × Nat)} (hw : wfF L) {y b t u : Nat} {f : Nat → Int32} (hY : M y = some (t, eO 0 [.ref b])) (hb : M b = some (u, eI K L.length f)) (hbf : ∀ k, k < L.length → f k = nI (cdS (L.getD k (0, 0)))) : hC K Y_X0_rootsInside rm_X0_rootsInside [.ref y] M (hPi fun r M' => r = nI (rOf L L.length) ∧ M' = M) := by
  refine hC.of [some (.ref y), none, none] (by decide) (Nat.le_of_ble_eq_true rfl) rfl rfl ?_
  intro E C Rt
  have C : hCx E K cX0_rootsInside 3 RX0 "rootsInside" rm_X0_rootsInside := C
  have hl60 := hw.2.2
  have lp : ∀ (d i : Nat), i + d = L.length → ∀ (x : Int32), x = nI (rOf L i) → hX E 0 0 4 [some (.ref y), some (.int x), some (.int (nI i))] [] M := by
    intro d
    induction d with
    | zero =>
      intro i hi x hx
      have hi : i = L.length := by omega
      subst hi
      subst hx
      refine x_iload_2 5 C dX0_rootsInside_4 rfl ?_
      refine x_aload_0 6 C dX0_rootsInside_5 rfl ?_
      refine xg_X0_steps 9 C wf_X0_15 hY dX0_rootsInside_6 rfl ?_
      refine x_alenI 10 C hb dX0_rootsInside_9 rfl ?_
      refine x_icmp_ge 13 46 C dX0_rootsInside_10 rfl rfl (fun _ => ?_) (fun z => absurd (nI_le (Nat.le_refl _) (by omega)) z)
      refine x_iload_1 47 C dX0_rootsInside_46 rfl ?_
      refine x_ireturn C Rt dX0_rootsInside_47 rfl ⟨Nat.le_of_ble_eq_true rfl, Nat.le_of_ble_eq_true rfl⟩ ?_
      exact ⟨_, rfl, rfl, rfl⟩
    | succ d ih =>
      intro i hi x hx
      have hil : i < L.length := by omega
      have hok := wf_at hw hil
      have hcl := cdS_le hok
      obtain ⟨k1, k2, k3, k4⟩ := cdS_cell hok
      refine x_iload_2 5 C dX0_rootsInside_4 rfl ?_
      refine x_aload_0 6 C dX0_rootsInside_5 rfl ?_
      refine xg_X0_steps 9 C wf_X0_15 hY dX0_rootsInside_6 rfl ?_
      refine x_alenI 10 C hb dX0_rootsInside_9 rfl ?_
      refine x_icmp_ge 13 46 C dX0_rootsInside_10 rfl rfl (fun z => absurd z (nI_ge hil (by omega))) (fun _ => ?_)
      refine x_aload_0 14 C dX0_rootsInside_13 rfl ?_
      refine xg_X0_steps 17 C wf_X0_15 hY dX0_rootsInside_14 rfl ?_
      refine x_iload_2 18 C dX0_rootsInside_17 rfl ?_
      refine x_iald 19 (i) C hb (rfl) (hil) (by omega) dX0_rootsInside_18 rfl ?_
      refine x_topi (hbf i hil) ?_
      refine x_sipush (v := 10113) 22 C dX0_rootsInside_19 rfl rfl ?_
      refine x_icmp_eq 25 37 C dX0_rootsInside_22 rfl rfl (fun c_22 => ?_) (fun c_22 => ?_)
      · refine x_iinc_1 40 C dX0_rootsInside_37 rfl rfl (rfl) ?_
        refine x_iinc_2 43 C dX0_rootsInside_40 rfl rfl (nI_inc _) ?_
        refine x_goto 4 C dX0_rootsInside_43 rfl ?_
        exact ih (i + 1) (by omega) _ (by rw [hx]; exact rOf_t (Or.inl (k3.mp ((nI_eq (b := 10113) (by omega) (by decide)).mp c_22))))
      · refine x_aload_0 26 C dX0_rootsInside_25 rfl ?_
        refine xg_X0_steps 29 C wf_X0_15 hY dX0_rootsInside_26 rfl ?_
        refine x_iload_2 30 C dX0_rootsInside_29 rfl ?_
        refine x_iald 31 (i) C hb (rfl) (hil) (by omega) dX0_rootsInside_30 rfl ?_
        refine x_topi (hbf i hil) ?_
        refine x_sipush (v := 10107) 34 C dX0_rootsInside_31 rfl rfl ?_
        refine x_icmp_ne 37 40 C dX0_rootsInside_34 rfl rfl (fun c_34 => ?_) (fun c_34 => ?_)
        · refine x_iinc_2 43 C dX0_rootsInside_40 rfl rfl (nI_inc _) ?_
          refine x_goto 4 C dX0_rootsInside_43 rfl ?_
          exact ih (i + 1) (by omega) _ (by rw [hx, ← rOf_f (fun q => by
            rcases q with q | q
            · exact c_22 (by rw [k3.mpr q]; rfl)
            · exact c_34 (by rw [k4.mpr q]; rfl))]; exact (Int32.add_zero _).symm)
        · refine x_iinc_1 40 C dX0_rootsInside_37 rfl rfl (rfl) ?_
          refine x_iinc_2 43 C dX0_rootsInside_40 rfl rfl (nI_inc _) ?_
          refine x_goto 4 C dX0_rootsInside_43 rfl ?_
          exact ih (i + 1) (by omega) _ (by rw [hx]; exact rOf_t (Or.inr (k4.mp ((nI_eq (b := 10107) (by omega) (by decide)).mp (by first | exact c_34 | exact Decidable.not_not.mp c_34)))))
  refine x_iconst (v := 0) 1 C dX0_rootsInside_0 rfl rfl ?_
  refine x_istore_1 2 C dX0_rootsInside_1 rfl rfl ?_
  refine x_iconst (v := 0) 3 C dX0_rootsInside_2 rfl rfl ?_
  refine x_istore_2 4 C dX0_rootsInside_3 rfl rfl ?_
  exact lp L.length 0 (Nat.zero_add _) _ rfl
