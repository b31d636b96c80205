theorem okS_0 : okS st0 := ⟨⟨by decide, by decide, fun _ _ => Nat.zero_le _, fun _ _ => Or.inl rfl⟩, by decide, fun i hi => absurd hi (Nat.not_lt_zero _), fun s τ _ h => (by cases h), by decide, fun c hc => absurd hc List.not_mem_nil⟩
section LawLoop
variable {nm : String}
set_option maxHeartbeats 4000000 in
set_option maxRecDepth 100000 in
theorem law_acts {E : hEv} {K : hKv} (C : hCx E K cL_law 5 RL nm room_1) {b L : Nat} {xs : Nat → Int32} (S : hSc E b L xs) (hL : L ≤ 260) {A : Nat → Nat} {V N : Nat} (fin : ∀ (cells slots : Nat) (lo : List (Option Value)) (M : hM), cells ≤ 600000 → slots ≤ 7302250 → hX E cells slots 89 lo [.int 1] M) : ∀ (d k : Nat), k + d = 60 → ∀ (σ : hSt) (fv : Nat → Int64) (fm : Nat → Int32) (M : hM), cX K A σ M → okS σ → M V = some (100, eJ K 64 fv) → M N = some (101, eI K 5 fm) → hX E (64 + 4 * k) (1000 + 61 * k) 55 [some (.ref b), some (.ref (A 36)), some (.ref V), some (.ref N), some (.int (nI k))] [] M := by
  intro d
  induction d with
  | zero =>
    intro k hkd σ fv fm M X ho HV HN
    refine x_iload_4 57 C dL_law_55 rfl ?_
    refine x_bipush (v := 60) 59 C dL_law_57 rfl rfl ?_
    refine x_icmp_ge 62 88 C dL_law_59 rfl rfl (fun _ => ?_) (fun z => absurd ((nI_le (a := 60) (by omega) (by omega))) z)
    refine x_iconst (v := 1) 89 C dL_law_88 rfl rfl ?_
    exact fin _ _ _ _ (by omega) (by omega)
  | succ d ih =>
    intro k hkd σ fv fm M X ho HV HN
    refine x_iload_4 57 C dL_law_55 rfl ?_
    refine x_bipush (v := 60) 59 C dL_law_57 rfl rfl ?_
    refine x_icmp_ge 62 88 C dL_law_59 rfl rfl (fun z => absurd z ((Int32.not_le.mpr ((nI_ltI (b := 60) (by omega) (by omega)).mpr (by omega))))) (fun _ => ?_)
    refine x_aload_1 63 C dL_law_62 rfl ?_
    refine x_aload_0 64 C dL_law_63 rfl ?_
    refine x_bipush (v := 24) 66 C dL_law_64 rfl rfl ?_
    refine x_bipush (v := 9) 68 C dL_law_66 rfl rfl ?_
    refine x_iload_4 70 C dL_law_68 rfl ?_
    refine x_imul 71 C dL_law_70 rfl ?_
    refine x_topi (v' := nI (9 * k)) (pk_mul 9 k) ?_
    refine x_iadd 72 C dL_law_71 rfl ?_
    refine x_topi (v' := nI (24 + 9 * k)) (nI_add 24 (9 * k)) ?_
    refine x_aload_2 73 C dL_law_72 rfl ?_
    refine x_aload_3 74 C dL_law_73 rfl ?_
    refine x_callSs 77 C S (c_L_isAct K _ hL X ho HV HN (24 + 9 * k) (by omega)) hy_L_isAct ws_L_isAct lk_L_175 dL_law_74 rfl ⟨Nat.le_of_ble_eq_true rfl, Nat.le_of_ble_eq_true rfl⟩ ⟨show 64 + 4 * k + 4 ≤ 600000 by omega, show 1000 + 61 * k + 61 ≤ 7302250 by omega⟩ (Nat.le_of_ble_eq_true rfl) rfl (k_i (fun r_1 M_1 h_1 => ?_))
    obtain ⟨e_1, σ2, fv2, fm2, X, ho, HV, HN⟩ := h_1
    subst e_1
    refine x_wid (k2 := 64 + 4 * (k + 1)) (n2 := 1000 + 61 * (k + 1)) (by show 64 + 4 * k + 4 ≤ _; omega) (by show 1000 + 61 * k + 61 ≤ _; omega) ?_
    refine x_if_ne 80 82 C dL_law_77 rfl rfl (fun _ => ?_) (fun z => absurd z ((by decide)))
    refine x_iinc_4 85 C dL_law_82 rfl rfl (nI_inc _) ?_
    refine x_goto 55 C dL_law_85 rfl ?_
    exact ih (k + 1) (by omega) σ2 fv2 fm2 _ X ho HV HN
set_option maxHeartbeats 4000000 in
set_option maxRecDepth 100000 in
theorem law_cells {E : hEv} {K : hKv} (C : hCx E K cL_law 5 RL nm room_1) {b L : Nat} {xs : Nat → Int32} (S : hSc E b L xs) (hL : L ≤ 260) {A : Nat → Nat} {V N : Nat} (fin : ∀ (cells slots : Nat) (lo : List (Option Value)) (M : hM), cells ≤ 600000 → slots ≤ 7302250 → hX E cells slots 89 lo [.int 1] M) : ∀ (d c : Nat), c + d = 8 → ∀ (σ : hSt) (fv : Nat → Int64) (fm : Nat → Int32) (M : hM), cX K A σ M → okS σ → M V = some (100, eJ K 64 fv) → M N = some (101, eI K 5 fm) → hX E 64 1000 20 [some (.ref b), some (.ref (A 36)), some (.ref V), some (.ref N), some (.int (nI c))] [] M := by
  intro d
  induction d with
  | zero =>
    intro c hcd σ fv fm M X ho HV HN
    refine x_iload_4 22 C dL_law_20 rfl ?_
    refine x_bipush (v := 8) 24 C dL_law_22 rfl rfl ?_
    refine x_icmp_ge 27 52 C dL_law_24 rfl rfl (fun _ => ?_) (fun z => absurd ((nI_le (a := 8) (by omega) (by omega))) z)
    refine x_iconst (v := 0) 53 C dL_law_52 rfl rfl ?_
    refine x_topi (v' := nI 0) rfl ?_
    refine x_istore_4 55 C dL_law_53 rfl rfl ?_
    exact law_acts C S hL fin 60 0 (by omega) σ fv fm M X ho HV HN
  | succ d ih =>
    intro c hcd σ fv fm M X ho HV HN
    refine x_iload_4 22 C dL_law_20 rfl ?_
    refine x_bipush (v := 8) 24 C dL_law_22 rfl rfl ?_
    refine x_icmp_ge 27 52 C dL_law_24 rfl rfl (fun z => absurd z ((Int32.not_le.mpr ((nI_ltI (b := 8) (by omega) (by omega)).mpr (by omega))))) (fun _ => ?_)
    refine x_aload_1 28 C dL_law_27 rfl ?_
    refine x_iload_4 30 C dL_law_28 rfl ?_
    refine x_aload_0 31 C dL_law_30 rfl ?_
    refine x_iconst (v := 3) 32 C dL_law_31 rfl rfl ?_
    refine x_iload_4 34 C dL_law_32 rfl ?_
    refine x_imul 35 C dL_law_34 rfl ?_
    refine x_topi (v' := nI (3 * c)) (pk_mul 3 c) ?_
    refine x_callSs 38 C S (c_L_value K _ hL (3 * c) (by omega)) hy_L_value ws_L_value lk_L_163 dL_law_35 rfl ⟨Nat.le_of_ble_eq_true rfl, Nat.le_of_ble_eq_true rfl⟩ ⟨Nat.le_of_ble_eq_true rfl, Nat.le_of_ble_eq_true rfl⟩ (Nat.le_of_ble_eq_true rfl) rfl (k_0 rfl rfl (k_lq (fun r_w ⟨w, hw, ew⟩ => ?_)))
    subst ew
    refine x_callS 41 C (c_L_isCell K _ X ho c w (by omega) hw) hy_L_isCell ws_L_isCell lk_L_170 dL_law_38 rfl ⟨Nat.le_of_ble_eq_true rfl, Nat.le_of_ble_eq_true rfl⟩ ⟨Nat.le_of_ble_eq_true rfl, Nat.le_of_ble_eq_true rfl⟩ (Nat.le_of_ble_eq_true rfl) rfl (k_0 rfl rfl (k_i (fun r_2 M_2 h_2 => ?_)))
    obtain ⟨e_2, σ2, X, ho, g_2⟩ := h_2
    subst e_2
    have HV := g_2 _ _ _ (Or.inr (by decide)) HV
    have HN := g_2 _ _ _ (Or.inr (by decide)) HN
    refine x_if_ne 44 46 C dL_law_41 rfl rfl (fun _ => ?_) (fun z => absurd z ((by decide)))
    refine x_iinc_4 49 C dL_law_46 rfl rfl (nI_inc _) ?_
    refine x_goto 20 C dL_law_49 rfl ?_
    exact ih (c + 1) (by omega) σ2 fv fm _ X ho HV HN
end LawLoop
theorem law_arr {U : State} {cA comp : ClassId} {kA : Class} {ty : FieldType} (h2 : U.vm.classes[cA]? = some kA) (h3 : kA.kind = .array comp ty) : ArrOfT U cA ty := fun _ _ => ⟨(fun k h => by cases h), kA, h2, comp, h3⟩
theorem mem_AF : Cond.arrayOver (.object "RootRows$Formula") ∈ lw_tbl := wa_t1 23 rfl
theorem mem_AS : Cond.arrayOver (.object "RootRows$State") ∈ lw_tbl := wa_t1 36 rfl
set_option maxRecDepth 100000 in
theorem law_G {s : State} {args : Array Value} (hts : ∀ w ∈ lw_tbl, w.before args s = true) : ∃ (G : va_G) (ids : Nat → ClassId), ∀ l : Launch, hG (l, G, ids) s := by
  have hw : ∀ w ∈ WA, w.before args s = true := fun w h => hts w (List.mem_filter.mp h).1
  obtain ⟨c0, i0, k0⟩ := u_known hw wu_X0 (hw _ wn_X0)
  obtain ⟨c1, i1, k1⟩ := u_known hw wu_X1 (hw _ wn_X1)
  obtain ⟨c2, i2, k2⟩ := u_known hw wu_X2 (hw _ wn_X2)
  obtain ⟨c3, i3, k3⟩ := u_known hw wu_X3 (hw _ wn_X3)
  obtain ⟨c4, i4, k4⟩ := u_known hw wu_X4 (hw _ wn_X4)
  obtain ⟨c5, i5, k5⟩ := u_known hw wu_X5 (hw _ wn_X5)
  obtain ⟨aI, kI, pI, fI, gI, eI⟩ := Cond.arrayClass_spec (hw _ wa_int)
  obtain ⟨aJ, kJ, pJ, fJ, gJ, eJ⟩ := Cond.arrayClass_spec (hw _ wa_long)
  obtain ⟨aC, kC, pC, fC, gC, eC⟩ := Cond.arrayClass_spec (hw _ wa_char)
  obtain ⟨pF, aF, kF, fF, -, gF, eF, nF⟩ := Cond.arrayOver_spec (hts _ mem_AF)
  obtain ⟨pS, aS, kS, fS, -, gS, eS, nS⟩ := Cond.arrayOver_spec (hts _ mem_AS)
  refine ⟨(fun k => if k = 0 then c0 else if k = 1 then c1 else if k = 2 then c2 else if k = 3 then c3 else if k = 4 then c4 else c5, fun k => if k = 0 then i0 else if k = 1 then i1 else if k = 2 then i2 else if k = 3 then i3 else if k = 4 then i4 else i5), fun k => if k = 0 then aI else if k = 1 then aJ else if k = 2 then aC else if k = 3 then aI else if k = 4 then aF else aS, fun l => ⟨⟨?_, ?_⟩, ?_, ?_, va_AO.of (hts _ mem_AF), va_AO.of (hts _ mem_AS)⟩⟩
  · intro k q hq
    match k, hq with
    | 0, hq => cases hq; exact k0
    | 1, hq => cases hq; exact k1
    | 2, hq => cases hq; exact k2
    | 3, hq => cases hq; exact k3
    | 4, hq => cases hq; exact k4
    | 5, hq => cases hq; exact k5
    | k + 6, hq => simp [vwCl] at hq
  · intro k q hq
    match k, hq with
    | 0, hq => cases hq; exact ⟨law_arr gI eI, fI⟩
    | 1, hq => cases hq; exact ⟨law_arr gJ eJ, fJ⟩
    | 2, hq => cases hq; exact ⟨law_arr gC eC, fC⟩
    | 3, hq => cases hq; exact ⟨law_arr gI eI, fI⟩
    | 4, hq => cases hq; exact ⟨law_arr gF eF, kF, pF, gF, eF, fF, nF⟩
    | 5, hq => cases hq; exact ⟨law_arr gS eS, kS, pS, gS, eS, fS, nS⟩
    | k + 6, hq => simp [hTys] at hq
  · exact fun q hq => va_Nw.of rfl (hts _ (wNm_ok q hq))
  · exact fun q hq => va_Nw.of rfl (hts _ (wNf_ok q hq))
set_option maxHeartbeats 4000000 in
set_option maxRecDepth 100000 in
theorem law_main {nm : String} {E : hEv} {K : hKv} (C : hCx E K cL_law 5 RL nm room_1) {b L : Nat} {xs : Nat → Int32} (S : hSc E b L xs) (hL : L ≤ 260) (fin : ∀ (cells slots : Nat) (lo : List (Option Value)) (M : hM), cells ≤ 600000 → slots ≤ 7302250 → hX E cells slots 89 lo [.int 1] M) : hX E 0 0 0 [some (.ref b), none, none, none, none] [] (fun _ => none) := by
  refine x_new (fs := [.null, .null, .null, .null, .null, .null, .null, .int 0, .int 0, .int 0]) 3 37 C wu_X5 wcl_X5 tyX5 tyX5_ok wk_L_32 wn_X5 wi_X5 (by decide) ⟨Nat.le_of_ble_eq_true rfl, Nat.le_of_ble_eq_true rfl⟩ dL_law_0 rfl (fun x f_x => ?_)
  refine x_up (fun M_1 g_1 o_1 e_1 => ?_)
  refine x_dup 4 C dL_law_3 rfl rfl ?_
  refine x_callI 7 C (c_X5_init K _ x g_1) rfl rfl hy_X5_init wv_X5_init lk_L_174 dL_law_4 rfl ⟨Nat.le_of_ble_eq_true rfl, Nat.le_of_ble_eq_true rfl⟩ ⟨Nat.le_of_ble_eq_true rfl, Nat.le_of_ble_eq_true rfl⟩ (Nat.le_of_ble_eq_true rfl) rfl (k_v (fun M_2 h_2 => ?_))
  obtain ⟨A, hA, X, fr⟩ := h_2
  subst hA
  refine x_astore_1 8 C dL_law_7 rfl rfl ?_
  refine x_bipush (v := 64) 10 C dL_law_8 rfl rfl ?_
  refine x_newaJ 12 (64) 100 C rfl (by decide) ⟨Nat.le_of_ble_eq_true rfl, Nat.le_of_ble_eq_true rfl⟩ dL_law_10 rfl (fun v f_v => ?_)
  refine x_up (fun M_v HV o_v e_v => ?_)
  have X := X.kept (hFr.eqn (lo := 100) (hi := 200) f_v e_v)
  refine x_astore_2 13 C dL_law_12 rfl rfl ?_
  refine x_iconst (v := 5) 14 C dL_law_13 rfl rfl ?_
  refine x_newaI 16 (5) 101 C rfl (by decide) ⟨Nat.le_of_ble_eq_true rfl, Nat.le_of_ble_eq_true rfl⟩ dL_law_14 rfl (fun n f_n => ?_)
  refine x_up (fun M_n HN o_n e_n => ?_)
  have X := X.kept (hFr.eqn (lo := 100) (hi := 200) f_n e_n)
  have HV := (o_n _ (hT_new HV f_n)).trans HV
  refine x_astore_3 17 C dL_law_16 rfl rfl ?_
  refine x_iconst (v := 0) 18 C dL_law_17 rfl rfl ?_
  refine x_topi (v' := nI 0) rfl ?_
  refine x_istore_4 20 C dL_law_18 rfl rfl ?_
  refine x_wid (k2 := 64) (n2 := 1000) (Nat.le_of_ble_eq_true rfl) (Nat.le_of_ble_eq_true rfl) ?_
  exact law_cells C S hL fin 8 0 (by omega) st0 _ _ _ X okS_0 HV HN
