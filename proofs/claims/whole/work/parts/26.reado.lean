theorem nB_len : ∀ (w : List Nat), nB w ≤ w.length
  | [] => Nat.le_refl _
  | c :: w => by have := nB_len w; rw [nB, List.length_cons]; split <;> omega
theorem tk_st {p : hPs} {c : Nat} (h2 : 2 ≤ p.2.2.2) (h : tk p c = bhd p c) (q : bhd p c = none) : tk p c = none := h.trans q
theorem fin_e {p : hPs} {n : Nat} : fin1 (p, none) n = if p.2.2.2 = 0 ∨ p.2.2.2 = 1 ∨ 0 < p.2.2.1 then some n else none := rfl
theorem prs_e {p : hPs} {i : Nat} : prs p [] i = (p, none) := rfl
theorem fct_o {st : List (Nat × Nat)} {wt : List Nat} {op c : Nat} (h1 : ¬ (48 ≤ c ∧ c ≤ 57)) (h2 : ¬ (65 ≤ c ∧ c ≤ 72)) : fct (st, wt, op, 0) c = if c = 40 then some (st, 40 :: wt, op + 1, 0) else if c = 113 ∨ c = 107 ∨ c = 115 then some (st, c :: wt, op + 1, 1) else none := by rw [fct, if_neg h1, if_neg h2]
theorem bhd_o {st : List (Nat × Nat)} {wt : List Nat} {op n c : Nat} (h : isO c) : bhd (st, wt, op, n) c = some ((rel (strg c) wt st).2, c :: (rel (strg c) wt st).1, op, 0) := by
  have h0 : ¬ strg c = 0 := by have := strg_O h; omega
  rw [bhd, if_neg (by unfold isO at h; omega), if_neg h0]
theorem bhd_x {p : hPs} {c : Nat} (h : ¬ isO c) (h2 : ¬ (c = 41 ∧ 0 < p.2.2.1)) : bhd p c = none := by
  rw [bhd, if_neg h2, if_pos]
  by_cases q : strg c = 0
  · exact q
  · exact absurd (strg_is q) h
theorem bhd_c {st : List (Nat × Nat)} {wt : List Nat} {op n x : Nat} {v : List Nat} (h : 0 < op) (hr : (rel 1 wt st).1 = x :: v) : bhd (st, wt, op, n) 41 = some ((if x = 40 then (rel 1 wt st).2 else (rel 1 wt st).2 ++ [(x, 0)]), v, op - 1, 3) := by
  rw [bhd, if_pos ⟨rfl, h⟩]
  unfold clo
  simp only [hr]
theorem bhd_nx {p p' : hPs} {c : Nat} (h : bhd p c = some p') : (c = 41 ∧ p'.2.2.2 = 3) ∨ (c ≠ 41 ∧ p'.2.2.2 = 0) := by
  unfold bhd at h
  split at h
  · next hc => cases h; left; refine ⟨hc.1, ?_⟩; unfold clo; split <;> rfl
  · split at h
    · cases h
    · next hs => cases h; right; exact ⟨fun q => hs (by rw [q]; rfl), rfl⟩
set_option maxHeartbeats 4000000 in
set_option maxRecDepth 100000 in
theorem c_X6_readOpening (K : hKv) (M : hM) {A : Nat → Nat} {z : Nat → Int32} {F : Nat → Nat → Int32} {G : Nat → Nat → Int64} (W : mW K A z F G M) {st : List (Nat × Nat)} {wt : List Nat} {op i : Nat} (pm : pmM z F st wt op i) {pad : List Nat} (hz1 : z 1 = nI pad.length) (hpd : padM (F 8) pad) (hl : pad.length ≤ 60) (hpc : ∀ c ∈ pad, 33 ≤ c ∧ c ≤ 126) (hi : i < pad.length) (hP : PI (st, wt, op, 0) i) (hnd : ¬ (48 ≤ pad.getD i 0 ∧ pad.getD i 0 ≤ 57)) (hnl : ¬ (65 ≤ pad.getD i 0 ∧ pad.getD i 0 ≤ 72)) : hC K Y_X6_readOpening rm_X6_readOpening [.ref (A 0)] M (hPi fun r M' => (r = 1 ∧ ∃ (p : hPs) (j : Nat), pmQ K A M z F G p.1 p.2.1 p.2.2.1 j M' ∧ p.2.2.2 = 0 ∧ PI p j ∧ i < j ∧ j ≤ pad.length ∧ prs (st, wt, op, 0) (pad.drop i) i = prs p (pad.drop j) j) ∨ (r = 0 ∧ ∃ j, i ≤ j ∧ pmQ K A M z F G st wt op j M' ∧ fin1 (prs (st, wt, op, 0) (pad.drop i) i) pad.length = some j)) := by
  refine hC.of [some (.ref (A 0)), none] (by decide) (Nat.le_of_ble_eq_true rfl) rfl rfl ?_
  intro E C Rt
  have C : hCx E K cX6_readOpening 2 RX6 "readOpening" rm_X6_readOpening := C
  have z5 := pm.2.2.2.1
  have hc := getD_lt hpc i
  have hdr := drop_c hi
  have hlen : st.length + wt.length ≤ i := hP.1
  generalize hcc : pad.getD i 0 = cc at hc hdr hnd hnl
  have m31 : (cc = 40 ∨ cc = 113 ∨ cc = 107 ∨ cc = 115) → hX E 0 0 31 [some (.ref (A 0)), some (.int (nI cc))] [] M := by
    intro h4
    have h40 : nI cc = 40 ↔ cc = 40 := nI_c (k := 40) (by omega) (by decide)
    refine x_iload_1 32 C dX6_readOpening_31 rfl ?_
    refine x_bipush (v := 40) 34 C dX6_readOpening_32 rfl rfl ?_
    refine x_icmp_eq 37 58 C dX6_readOpening_34 rfl rfl (fun c_34 => ?_) (fun c_34 => ?_)
    · refine x_aload_0 59 C dX6_readOpening_58 rfl ?_
      refine x_dup 60 C dX6_readOpening_59 rfl rfl ?_
      refine mOg_place 63 C wf_X6_77 W.obj dX6_readOpening_60 rfl ?_
      refine x_topi z5 ?_
      refine x_iconst (v := 1) 64 C dX6_readOpening_63 rfl rfl ?_
      refine x_iadd 65 C dX6_readOpening_64 rfl ?_
      refine x_topi (nI_1 i) ?_
      refine mOp_place 68 C wf_X6_77 W.obj dX6_readOpening_65 rfl ?_
      refine x_m_obj W (fun M_1 W o_1 => ?_)
      refine x_aload_0 69 C dX6_readOpening_68 rfl ?_
      refine x_iload_1 70 C dX6_readOpening_69 rfl ?_
      refine x_callV 73 C (c_X6_push K _ W (pm_place (j := i + 1) pm) cc (by omega)) W.obj wcl_X6 hy_X6_push wv_X6_push we_X6_push lk_X6_101 dX6_readOpening_70 rfl ⟨Nat.le_of_ble_eq_true rfl, Nat.le_of_ble_eq_true rfl⟩ ⟨Nat.le_of_ble_eq_true rfl, Nat.le_of_ble_eq_true rfl⟩ (Nat.le_of_ble_eq_true rfl) rfl (k_0 rfl rfl (k_v (fun M_2 h_2 => ?_)))
      obtain ⟨z_2, F_2, W, ms_2, pm_2, o_e⟩ := h_2
      refine x_aload_0 74 C dX6_readOpening_73 rfl ?_
      refine x_dup 75 C dX6_readOpening_74 rfl rfl ?_
      refine mOg_depth 78 C wf_X6_105 W.obj dX6_readOpening_75 rfl ?_
      refine x_topi pm_2.2.2.1 ?_
      refine x_iconst (v := 1) 79 C dX6_readOpening_78 rfl rfl ?_
      refine x_iadd 80 C dX6_readOpening_79 rfl ?_
      refine x_topi (nI_1 op) ?_
      refine mOp_depth 83 C wf_X6_105 W.obj dX6_readOpening_80 rfl ?_
      refine x_m_obj W (fun M_3 W o_3 => ?_)
      refine x_iconst (v := 1) 84 C dX6_readOpening_83 rfl rfl ?_
      refine x_ireturn C Rt dX6_readOpening_84 rfl ⟨Nat.le_of_ble_eq_true rfl, Nat.le_of_ble_eq_true rfl⟩ ?_
      have hq := h40.mp c_34
      subst hq
      have ht : tk (st, wt, op, 0) 40 = some (st, 40 :: wt, op + 1, 0) := by rw [tk_0, fct_o hnd hnl, if_pos rfl]
      exact ⟨_, rfl, Or.inl ⟨rfl, (st, 40 :: wt, op + 1, 0), i + 1, ⟨_, _, W, (msP.z (by decide)).tr (ms_2.tr (msP.z (by decide))), pm_depth pm_2, (((o_1).tr o_e).tr o_3)⟩, rfl, PI_tk hP ht, by omega, hi, by rw [hdr, prs_s ht]⟩⟩
    · refine x_aload_0 38 C dX6_readOpening_37 rfl ?_
      refine x_dup 39 C dX6_readOpening_38 rfl rfl ?_
      refine mOg_place 42 C wf_X6_77 W.obj dX6_readOpening_39 rfl ?_
      refine x_topi z5 ?_
      refine x_iconst (v := 1) 43 C dX6_readOpening_42 rfl rfl ?_
      refine x_iadd 44 C dX6_readOpening_43 rfl ?_
      refine x_topi (nI_1 i) ?_
      refine mOp_place 47 C wf_X6_77 W.obj dX6_readOpening_44 rfl ?_
      refine x_m_obj W (fun M_4 W o_4 => ?_)
      refine x_aload_0 48 C dX6_readOpening_47 rfl ?_
      refine x_callV 51 C (c_X6_sign K _ W (pad := pad) hz1 hpd hl (i := (i + 1)) (by omega) (va_up_self _ _ _)) W.obj wcl_X6 hy_X6_sign wv_X6_sign we_X6_sign lk_X6_94 dX6_readOpening_48 rfl ⟨Nat.le_of_ble_eq_true rfl, Nat.le_of_ble_eq_true rfl⟩ ⟨Nat.le_of_ble_eq_true rfl, Nat.le_of_ble_eq_true rfl⟩ (Nat.le_of_ble_eq_true rfl) rfl (k_0 rfl rfl (k_ip ?_))
      have hc2 := getD_lt hpc (i + 1)
      have h402 : nI (pad.getD (i + 1) 0) = 40 ↔ pad.getD (i + 1) 0 = 40 := nI_c (k := 40) (by omega) (by decide)
      have hne : ¬ cc = 40 := fun q => c_34 (h40.mpr q)
      have ht1 : tk (st, wt, op, 0) cc = some (st, cc :: wt, op + 1, 1) := by rw [tk_0, fct_o hnd hnl, if_neg hne, if_pos (by omega)]
      refine x_bipush (v := 40) 53 C dX6_readOpening_51 rfl rfl ?_
      refine x_icmp_eq 56 58 C dX6_readOpening_53 rfl rfl (fun c_53 => ?_) (fun c_53 => ?_)
      · refine x_aload_0 59 C dX6_readOpening_58 rfl ?_
        refine x_dup 60 C dX6_readOpening_59 rfl rfl ?_
        refine mOg_place 63 C wf_X6_77 W.obj dX6_readOpening_60 rfl ?_
        refine x_topi (va_up_self _ _ _) ?_
        refine x_iconst (v := 1) 64 C dX6_readOpening_63 rfl rfl ?_
        refine x_iadd 65 C dX6_readOpening_64 rfl ?_
        refine x_topi (nI_1 (i + 1)) ?_
        refine mOp_place 68 C wf_X6_77 W.obj dX6_readOpening_65 rfl ?_
        refine x_m_obj W (fun M_5 W o_5 => ?_)
        refine x_aload_0 69 C dX6_readOpening_68 rfl ?_
        refine x_iload_1 70 C dX6_readOpening_69 rfl ?_
        refine x_callV 73 C (c_X6_push K _ W (pm_place (j := i + 2) (pm_place (j := i + 1) pm)) cc (by omega)) W.obj wcl_X6 hy_X6_push wv_X6_push we_X6_push lk_X6_101 dX6_readOpening_70 rfl ⟨Nat.le_of_ble_eq_true rfl, Nat.le_of_ble_eq_true rfl⟩ ⟨Nat.le_of_ble_eq_true rfl, Nat.le_of_ble_eq_true rfl⟩ (Nat.le_of_ble_eq_true rfl) rfl (k_0 rfl rfl (k_v (fun M_6 h_6 => ?_)))
        obtain ⟨z_2, F_2, W, ms_2, pm_2, o_e⟩ := h_6
        refine x_aload_0 74 C dX6_readOpening_73 rfl ?_
        refine x_dup 75 C dX6_readOpening_74 rfl rfl ?_
        refine mOg_depth 78 C wf_X6_105 W.obj dX6_readOpening_75 rfl ?_
        refine x_topi pm_2.2.2.1 ?_
        refine x_iconst (v := 1) 79 C dX6_readOpening_78 rfl rfl ?_
        refine x_iadd 80 C dX6_readOpening_79 rfl ?_
        refine x_topi (nI_1 op) ?_
        refine mOp_depth 83 C wf_X6_105 W.obj dX6_readOpening_80 rfl ?_
        refine x_m_obj W (fun M_7 W o_7 => ?_)
        refine x_iconst (v := 1) 84 C dX6_readOpening_83 rfl rfl ?_
        refine x_ireturn C Rt dX6_readOpening_84 rfl ⟨Nat.le_of_ble_eq_true rfl, Nat.le_of_ble_eq_true rfl⟩ ?_
        have hy := h402.mp c_53
        have hlt : i + 1 < pad.length := by
          rcases Nat.lt_or_ge (i + 1) pad.length with q | q
          · exact q
          · rw [getD_e q] at hy; omega
        have ht2 : tk (st, cc :: wt, op + 1, 1) (pad.getD (i + 1) 0) = some (st, cc :: wt, op + 1, 0) := by rw [tk_1, if_pos hy]
        exact ⟨_, rfl, Or.inl ⟨rfl, (st, cc :: wt, op + 1, 0), i + 2, ⟨_, _, W, ((msP.z (by decide)).tr (msP.z (by decide))).tr (ms_2.tr (msP.z (by decide))), pm_depth pm_2, ((((o_4).tr o_5).tr o_e).tr o_7)⟩, rfl, PI_tk (PI_tk hP ht1) ht2, by omega, hlt, by rw [hdr, prs_s ht1, drop_c hlt, prs_s ht2]⟩⟩
      · refine x_iconst (v := 0) 57 C dX6_readOpening_56 rfl rfl ?_
        refine x_ireturn C Rt dX6_readOpening_57 rfl ⟨Nat.le_of_ble_eq_true rfl, Nat.le_of_ble_eq_true rfl⟩ ?_
        have hne2 : ¬ pad.getD (i + 1) 0 = 40 := fun q => c_53 (h402.mpr q)
        refine ⟨_, rfl, Or.inr ⟨rfl, i + 1, by omega, ⟨_, _, W, msP.z (by decide), pm_place pm, (o_4)⟩, ?_⟩⟩
        rw [hdr, prs_s ht1]
        rcases Nat.lt_or_ge (i + 1) pad.length with q | q
        · rw [drop_c q, prs_n (by rw [tk_1, if_neg hne2])]; rfl
        · rw [drop_e q]
          rw [prs_e, fin_e, if_pos (Or.inr (Or.inl rfl))]
          congr 1; omega
  refine x_aload_0 1 C dX6_readOpening_0 rfl ?_
  refine x_callV 4 C (c_X6_sign K _ W (pad := pad) hz1 hpd hl (i := i) (by omega) z5) W.obj wcl_X6 hy_X6_sign wv_X6_sign we_X6_sign lk_X6_94 dX6_readOpening_1 rfl ⟨Nat.le_of_ble_eq_true rfl, Nat.le_of_ble_eq_true rfl⟩ ⟨Nat.le_of_ble_eq_true rfl, Nat.le_of_ble_eq_true rfl⟩ (Nat.le_of_ble_eq_true rfl) rfl (k_0 rfl rfl (k_ip ?_))
  rw [hcc]
  refine x_istore_1 5 C dX6_readOpening_4 rfl rfl ?_
  refine x_iload_1 6 C dX6_readOpening_5 rfl ?_
  refine x_bipush (v := 40) 8 C dX6_readOpening_6 rfl rfl ?_
  refine x_icmp_eq 11 31 C dX6_readOpening_8 rfl rfl (fun c_8 => ?_) (fun c_8 => ?_)
  · exact m31 (Or.inl ((nI_c (k := 40) (by omega) (by decide)).mp c_8))
  · refine x_iload_1 12 C dX6_readOpening_11 rfl ?_
    refine x_bipush (v := 113) 14 C dX6_readOpening_12 rfl rfl ?_
    refine x_icmp_eq 17 31 C dX6_readOpening_14 rfl rfl (fun c_14 => ?_) (fun c_14 => ?_)
    · exact m31 (Or.inr (Or.inl ((nI_c (k := 113) (by omega) (by decide)).mp c_14)))
    · refine x_iload_1 18 C dX6_readOpening_17 rfl ?_
      refine x_bipush (v := 107) 20 C dX6_readOpening_18 rfl rfl ?_
      refine x_icmp_eq 23 31 C dX6_readOpening_20 rfl rfl (fun c_20 => ?_) (fun c_20 => ?_)
      · exact m31 (Or.inr (Or.inr (Or.inl ((nI_c (k := 107) (by omega) (by decide)).mp c_20))))
      · refine x_iload_1 24 C dX6_readOpening_23 rfl ?_
        refine x_bipush (v := 115) 26 C dX6_readOpening_24 rfl rfl ?_
        refine x_icmp_eq 29 31 C dX6_readOpening_26 rfl rfl (fun c_26 => ?_) (fun c_26 => ?_)
        · exact m31 (Or.inr (Or.inr (Or.inr ((nI_c (k := 115) (by omega) (by decide)).mp c_26))))
        · refine x_iconst (v := 0) 30 C dX6_readOpening_29 rfl rfl ?_
          refine x_ireturn C Rt dX6_readOpening_30 rfl ⟨Nat.le_of_ble_eq_true rfl, Nat.le_of_ble_eq_true rfl⟩ ?_
          have n1 : ¬ cc = 40 := fun q => c_8 ((nI_c (k := 40) (by omega) (by decide)).mpr q)
          have n2 : ¬ (cc = 113 ∨ cc = 107 ∨ cc = 115) := by
            rintro (q | q | q)
            · exact c_14 ((nI_c (k := 113) (by omega) (by decide)).mpr q)
            · exact c_20 ((nI_c (k := 107) (by omega) (by decide)).mpr q)
            · exact c_26 ((nI_c (k := 115) (by omega) (by decide)).mpr q)
          refine ⟨_, rfl, Or.inr ⟨rfl, i, Nat.le_refl _, ⟨_, _, W, msP.rf, pm, hFr.rf⟩, ?_⟩⟩
          rw [hdr, prs_n (by rw [tk_0, fct_o hnd hnl, if_neg n1, if_neg n2])]
          rfl
set_option maxHeartbeats 4000000 in
set_option maxRecDepth 100000 in
theorem c_X6_readBehind (K : hKv) (M : hM) {A : Nat → Nat} {z : Nat → Int32} {F : Nat → Nat → Int32} {G : Nat → Nat → Int64} (W : mW K A z F G M) {st : List (Nat × Nat)} {wt : List Nat} {op i : Nat} (pm : pmM z F st wt op i) {pad : List Nat} (hz1 : z 1 = nI pad.length) (hpd : padM (F 8) pad) (hl : pad.length ≤ 60) (hpc : ∀ c ∈ pad, 33 ≤ c ∧ c ≤ 126) {n : Nat} (hi : i < pad.length) (hP : PI (st, wt, op, n) i) (hn : 2 ≤ n) : hC K Y_X6_readBehind rm_X6_readBehind [.ref (A 0)] M (hPi fun r M' => (r = 1 ∧ ∃ p : hPs, bhd (st, wt, op, n) (pad.getD i 0) = some p ∧ pmQ K A M z F G p.1 p.2.1 p.2.2.1 (i + 1) M') ∨ (r = 0 ∧ M' = M ∧ bhd (st, wt, op, n) (pad.getD i 0) = none)) := by
  refine hC.of [some (.ref (A 0)), none] (by decide) (Nat.le_of_ble_eq_true rfl) rfl rfl ?_
  intro E C Rt
  have C : hCx E K cX6_readBehind 2 RX6 "readBehind" rm_X6_readBehind := C
  have z5 := pm.2.2.2.1
  have hc := getD_lt hpc i
  have hlen : st.length + wt.length ≤ i := hP.1
  have h256 : ∀ x ∈ wt, x < 256 := PI_256 hP
  have hop9 : op ≤ 60 := by
    have h1 : nB wt = op := hP.2.1
    have h2 := nB_len wt
    omega
  generalize hcc : pad.getD i 0 = cc at hc Rt
  have m23 : isO cc → hX E 0 0 23 [some (.ref (A 0)), some (.int (nI cc))] [] M := by
    intro hO
    obtain ⟨q1, q2, q3⟩ := rel_256 hP (strg_O hO) hn
    simp only [] at q1
    refine x_aload_0 24 C dX6_readBehind_23 rfl ?_
    refine x_iload_1 25 C dX6_readBehind_24 rfl ?_
    refine x_callV 28 C (c_X6_close K _ W pm cc hO (by omega) h256) W.obj wcl_X6 hy_X6_close wv_X6_close we_X6_close lk_X6_108 dX6_readBehind_25 rfl ⟨Nat.le_of_ble_eq_true rfl, Nat.le_of_ble_eq_true rfl⟩ ⟨Nat.le_of_ble_eq_true rfl, Nat.le_of_ble_eq_true rfl⟩ (Nat.le_of_ble_eq_true rfl) rfl (k_0 rfl rfl (k_v (fun M_1 h_1 => ?_)))
    obtain ⟨z_1, F_1, W, ms_1, pm_1, o_c⟩ := h_1
    refine x_aload_0 29 C dX6_readBehind_28 rfl ?_
    refine x_iload_1 30 C dX6_readBehind_29 rfl ?_
    refine x_callV 33 C (c_X6_push K _ W pm_1 cc (by omega)) W.obj wcl_X6 hy_X6_push wv_X6_push we_X6_push lk_X6_101 dX6_readBehind_30 rfl ⟨Nat.le_of_ble_eq_true rfl, Nat.le_of_ble_eq_true rfl⟩ ⟨Nat.le_of_ble_eq_true rfl, Nat.le_of_ble_eq_true rfl⟩ (Nat.le_of_ble_eq_true rfl) rfl (k_0 rfl rfl (k_v (fun M_2 h_2 => ?_)))
    obtain ⟨z_2, F_2, W, ms_2, pm_2, o_e⟩ := h_2
    refine x_aload_0 34 C dX6_readBehind_33 rfl ?_
    refine x_dup 35 C dX6_readBehind_34 rfl rfl ?_
    refine mOg_place 38 C wf_X6_77 W.obj dX6_readBehind_35 rfl ?_
    refine x_topi pm_2.2.2.2.1 ?_
    refine x_iconst (v := 1) 39 C dX6_readBehind_38 rfl rfl ?_
    refine x_iadd 40 C dX6_readBehind_39 rfl ?_
    refine x_topi (nI_1 i) ?_
    refine mOp_place 43 C wf_X6_77 W.obj dX6_readBehind_40 rfl ?_
    refine x_m_obj W (fun M_3 W o_3 => ?_)
    refine x_iconst (v := 1) 44 C dX6_readBehind_43 rfl rfl ?_
    refine x_ireturn C Rt dX6_readBehind_44 rfl ⟨Nat.le_of_ble_eq_true rfl, Nat.le_of_ble_eq_true rfl⟩ ?_
    exact ⟨_, rfl, Or.inl ⟨rfl, _, bhd_o hO, ⟨_, _, W, (ms_1.tr ms_2).tr (msP.z (by decide)), pm_place pm_2, (o_c.tr o_e).tr (o_3)⟩⟩⟩
  have m102 : ∀ (x : Nat) (v : List Nat) (s2 : List (Nat × Nat)) (z2 : Nat → Int32) (F2 : Nat → Nat → Int32) (M2 : hM), (rel 1 wt st).1 = x :: v → cc = 41 → 0 < op → s2 = (if x = 40 then (rel 1 wt st).2 else (rel 1 wt st).2 ++ [(x, 0)]) → mW K A z2 F2 G M2 → msP z z2 F F2 → pmM z2 F2 s2 v op i → hFr 100 200 M M2 → hX E 0 0 102 [some (.ref (A 0)), some (.int (nI cc))] [] M2 := by
    intro x v s2 z2 F2 M2 hr h41 hop hs2 W ms pm fr
    have hb := bhd_c (n := n) hop hr
    rw [← h41, ← hs2] at hb
    refine x_aload_0 103 C dX6_readBehind_102 rfl ?_
    refine x_dup 104 C dX6_readBehind_103 rfl rfl ?_
    refine mOg_depth 107 C wf_X6_105 W.obj dX6_readBehind_104 rfl ?_
    refine x_topi pm.2.2.1 ?_
    refine x_iconst (v := 1) 108 C dX6_readBehind_107 rfl rfl ?_
    refine x_isub 109 C dX6_readBehind_108 rfl ?_
    refine x_topi (v' := nI (op - 1)) (pk_sub (a := op) (b := 1) (by omega)) ?_
    refine mOp_depth 112 C wf_X6_105 W.obj dX6_readBehind_109 rfl ?_
    refine x_m_obj W (fun M_1 W o_1 => ?_)
    refine x_aload_0 113 C dX6_readBehind_112 rfl ?_
    refine x_dup 114 C dX6_readBehind_113 rfl rfl ?_
    refine mOg_place 117 C wf_X6_77 W.obj dX6_readBehind_114 rfl ?_
    refine x_topi pm.2.2.2.1 ?_
    refine x_iconst (v := 1) 118 C dX6_readBehind_117 rfl rfl ?_
    refine x_iadd 119 C dX6_readBehind_118 rfl ?_
    refine x_topi (nI_1 i) ?_
    refine mOp_place 122 C wf_X6_77 W.obj dX6_readBehind_119 rfl ?_
    refine x_m_obj W (fun M_2 W o_2 => ?_)
    refine x_iconst (v := 1) 123 C dX6_readBehind_122 rfl rfl ?_
    refine x_ireturn C Rt dX6_readBehind_123 rfl ⟨Nat.le_of_ble_eq_true rfl, Nat.le_of_ble_eq_true rfl⟩ ?_
    exact ⟨_, rfl, Or.inl ⟨rfl, _, hb, ⟨_, _, W, ms.tr ((msP.z (by decide)).tr (msP.z (by decide))), pm_place (pm_depth pm), fr.tr ((o_1).tr o_2)⟩⟩⟩
  have m45 : ¬ isO cc → hX E 0 0 45 [some (.ref (A 0)), some (.int (nI cc))] [] M := by
    intro hO
    have h41 : nI cc = 41 ↔ cc = 41 := nI_c (k := 41) (by omega) (by decide)
    refine x_iload_1 46 C dX6_readBehind_45 rfl ?_
    refine x_bipush (v := 41) 48 C dX6_readBehind_46 rfl rfl ?_
    refine x_icmp_ne 51 124 C dX6_readBehind_48 rfl rfl (fun c_48 => ?_) (fun c_48 => ?_)
    · refine x_iconst (v := 0) 125 C dX6_readBehind_124 rfl rfl ?_
      refine x_ireturn C Rt dX6_readBehind_125 rfl ⟨Nat.le_of_ble_eq_true rfl, Nat.le_of_ble_eq_true rfl⟩ ?_
      exact ⟨_, rfl, Or.inr ⟨rfl, rfl, bhd_x hO fun q => c_48 (h41.mpr q.1)⟩⟩
    · refine x_aload_0 52 C dX6_readBehind_51 rfl ?_
      refine mOg_depth 55 C wf_X6_105 W.obj dX6_readBehind_52 rfl ?_
      refine x_topi pm.2.2.1 ?_
      refine x_if_le 58 124 C dX6_readBehind_55 rfl rfl (fun c_55 => ?_) (fun c_55 => ?_)
      · refine x_iconst (v := 0) 125 C dX6_readBehind_124 rfl rfl ?_
        refine x_ireturn C Rt dX6_readBehind_125 rfl ⟨Nat.le_of_ble_eq_true rfl, Nat.le_of_ble_eq_true rfl⟩ ?_
        have h0 : op ≤ 0 := (nI_leI (a := op) (b := 0) (by omega) (by decide)).mp c_55
        exact ⟨_, rfl, Or.inr ⟨rfl, rfl, bhd_x hO fun q => by have := q.2; simp only [] at this; omega⟩⟩
      · have h41 := h41.mp c_48
        have hop : 0 < op := by
          rcases Nat.eq_zero_or_pos op with q | q
          · exact absurd (by rw [q]; decide) c_55
          · exact q
        obtain ⟨x, v, hr⟩ : ∃ x v, (rel 1 wt st).1 = x :: v := by
          obtain ⟨q1, q2, q3⟩ := rel_256 hP (Nat.le_refl 1) hn
          simp only [] at q1 q2
          cases hq : (rel 1 wt st).1 with
          | nil => rw [hq] at q2; rw [show nB [] = 0 from rfl] at q2; omega
          | cons x v => exact ⟨x, v, rfl⟩
        obtain ⟨q1, q2, q3⟩ := rel_256 hP (Nat.le_refl 1) hn
        simp only [] at q1 q2 q3
        rw [hr] at q1 q2 q3
        simp only [List.length_cons] at q1
        have hx256 := q3 x List.mem_cons_self
        refine x_aload_0 59 C dX6_readBehind_58 rfl ?_
        refine x_bipush (v := 43) 61 C dX6_readBehind_59 rfl rfl ?_
        refine x_topi (v' := nI 43) rfl ?_
        refine x_callV 64 C (c_X6_close K _ W pm 43 (Or.inl rfl) (by omega) h256) W.obj wcl_X6 hy_X6_close wv_X6_close we_X6_close lk_X6_108 dX6_readBehind_61 rfl ⟨Nat.le_of_ble_eq_true rfl, Nat.le_of_ble_eq_true rfl⟩ ⟨Nat.le_of_ble_eq_true rfl, Nat.le_of_ble_eq_true rfl⟩ (Nat.le_of_ble_eq_true rfl) rfl (k_0 rfl rfl (k_v (fun M_1 h_1 => ?_)))
        obtain ⟨z_2, F_2, W, ms_2, pm_2, o_c⟩ := h_1
        rw [show strg 43 = 1 from rfl, hr] at pm_2
        obtain ⟨pp, po⟩ := pm_pop pm_2
        refine x_aload_0 65 C dX6_readBehind_64 rfl ?_
        refine x_dup 66 C dX6_readBehind_65 rfl rfl ?_
        refine mOg_opened 69 C wf_X6_83 W.obj dX6_readBehind_66 rfl ?_
        refine x_topi pm_2.2.1 ?_
        refine x_iconst (v := 1) 70 C dX6_readBehind_69 rfl rfl ?_
        refine x_isub 71 C dX6_readBehind_70 rfl ?_
        refine x_topi (v' := nI v.length) (by rw [List.length_cons]; exact pk_sub (a := v.length + 1) (b := 1) (by omega)) ?_
        refine mOp_opened 74 C wf_X6_83 W.obj dX6_readBehind_71 rfl ?_
        refine x_m_obj W (fun M_2 W o_2 => ?_)
        refine x_aload_0 75 C dX6_readBehind_74 rfl ?_
        refine mOg_open 78 C wf_X6_42 W.obj dX6_readBehind_75 rfl ?_
        refine x_aload_0 79 C dX6_readBehind_78 rfl ?_
        refine mOg_opened 82 C wf_X6_83 W.obj dX6_readBehind_79 rfl ?_
        refine x_topi (va_up_self _ _ _) ?_
        refine x_iald 83 (v.length) C W.opn (rfl) (by omega) (by decide) dX6_readBehind_82 rfl ?_
        refine x_topi po ?_
        refine x_bipush (v := 40) 85 C dX6_readBehind_83 rfl rfl ?_
        refine x_icmp_eq 88 102 C dX6_readBehind_85 rfl rfl (fun c_85 => ?_) (fun c_85 => ?_)
        · have h40 : x = 40 := (nI_c (k := 40) (by omega) (by decide)).mp c_85
          exact m102 x v _ _ _ _ hr h41 hop (by rw [if_pos h40]) W (ms_2.tr (msP.z (by decide))) pp (o_c.tr (o_2))
        · refine x_aload_0 89 C dX6_readBehind_88 rfl ?_
          refine x_aload_0 90 C dX6_readBehind_89 rfl ?_
          refine mOg_open 93 C wf_X6_42 W.obj dX6_readBehind_90 rfl ?_
          refine x_aload_0 94 C dX6_readBehind_93 rfl ?_
          refine mOg_opened 97 C wf_X6_83 W.obj dX6_readBehind_94 rfl ?_
          refine x_topi (va_up_self _ _ _) ?_
          refine x_iald 98 (v.length) C W.opn (rfl) (by omega) (by decide) dX6_readBehind_97 rfl ?_
          refine x_topi po ?_
          refine x_iconst (v := 0) 99 C dX6_readBehind_98 rfl rfl ?_
          refine x_callV 102 C (c_X6_emit K _ W pp x 0 (by omega)) W.obj wcl_X6 hy_X6_emit wv_X6_emit we_X6_emit lk_X6_90 dX6_readBehind_99 rfl ⟨Nat.le_of_ble_eq_true rfl, Nat.le_of_ble_eq_true rfl⟩ ⟨Nat.le_of_ble_eq_true rfl, Nat.le_of_ble_eq_true rfl⟩ (Nat.le_of_ble_eq_true rfl) rfl (k_0 rfl rfl (k_v (fun M_3 h_3 => ?_)))
          obtain ⟨z_3, F_3, W_3, ms_3, pm_3, o_3⟩ := h_3
          have h40 : ¬ x = 40 := fun q => c_85 ((nI_c (k := 40) (by omega) (by decide)).mpr q)
          exact m102 x v _ _ _ _ hr h41 hop (by rw [if_neg h40]) W_3 ((ms_2.tr (msP.z (by decide))).tr ms_3) pm_3 (o_c.tr ((o_2).tr o_3))
  refine x_aload_0 1 C dX6_readBehind_0 rfl ?_
  refine x_callV 4 C (c_X6_sign K _ W (pad := pad) hz1 hpd hl (i := i) (by omega) z5) W.obj wcl_X6 hy_X6_sign wv_X6_sign we_X6_sign lk_X6_94 dX6_readBehind_1 rfl ⟨Nat.le_of_ble_eq_true rfl, Nat.le_of_ble_eq_true rfl⟩ ⟨Nat.le_of_ble_eq_true rfl, Nat.le_of_ble_eq_true rfl⟩ (Nat.le_of_ble_eq_true rfl) rfl (k_0 rfl rfl (k_ip ?_))
  rw [hcc]
  refine x_istore_1 5 C dX6_readBehind_4 rfl rfl ?_
  refine x_iload_1 6 C dX6_readBehind_5 rfl ?_
  refine x_bipush (v := 43) 8 C dX6_readBehind_6 rfl rfl ?_
  refine x_icmp_eq 11 23 C dX6_readBehind_8 rfl rfl (fun c_8 => ?_) (fun c_8 => ?_)
  · exact m23 (Or.inl ((nI_c (k := 43) (by omega) (by decide)).mp c_8))
  · refine x_iload_1 12 C dX6_readBehind_11 rfl ?_
    refine x_bipush (v := 45) 14 C dX6_readBehind_12 rfl rfl ?_
    refine x_icmp_eq 17 23 C dX6_readBehind_14 rfl rfl (fun c_14 => ?_) (fun c_14 => ?_)
    · exact m23 (Or.inr (Or.inl ((nI_c (k := 45) (by omega) (by decide)).mp c_14)))
    · refine x_iload_1 18 C dX6_readBehind_17 rfl ?_
      refine x_bipush (v := 42) 20 C dX6_readBehind_18 rfl rfl ?_
      refine x_icmp_ne 23 45 C dX6_readBehind_20 rfl rfl (fun c_20 => ?_) (fun c_20 => ?_)
      · refine m45 ?_
        rintro (q | q | q)
        · exact c_8 ((nI_c (k := 43) (by omega) (by decide)).mpr q)
        · exact c_14 ((nI_c (k := 45) (by omega) (by decide)).mpr q)
        · exact c_20 ((nI_c (k := 42) (by omega) (by decide)).mpr q)
      · exact m23 (Or.inr (Or.inr ((nI_c (k := 42) (by omega) (by decide)).mp c_20)))

