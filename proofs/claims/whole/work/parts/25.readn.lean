theorem drop_c {l : List Nat} {i : Nat} (h : i < l.length) : l.drop i = l.getD i 0 :: l.drop (i + 1) := by
  rw [List.drop_eq_getElem_cons h, List.getD_eq_getElem?_getD, List.getElem?_eq_getElem h]; rfl
theorem drop_e {l : List Nat} {i : Nat} (h : l.length ≤ i) : l.drop i = [] := List.drop_eq_nil_of_le h
theorem getD_e {l : List Nat} {i : Nat} (h : l.length ≤ i) : l.getD i 0 = 0 := by rw [List.getD_eq_getElem?_getD, List.getElem?_eq_none h]; rfl
theorem getD_m {l : List Nat} {i : Nat} (h : i < l.length) : l.getD i 0 ∈ l := by rw [List.getD_eq_getElem?_getD, List.getElem?_eq_getElem h]; exact List.getElem_mem h
theorem getD_lt {l : List Nat} (hc : ∀ c ∈ l, 33 ≤ c ∧ c ≤ 126) (i : Nat) : l.getD i 0 ≤ 126 := by
  rcases Nat.lt_or_ge i l.length with h | h
  · exact (hc _ (getD_m h)).2
  · rw [getD_e h]; omega
theorem prs_s {p p' : hPs} {c i : Nat} {r : List Nat} (h : tk p c = some p') : prs p (c :: r) i = prs p' r (i + 1) := by rw [prs, h]
theorem prs_n {p : hPs} {c i : Nat} {r : List Nat} (h : tk p c = none) : prs p (c :: r) i = (p, some i) := by rw [prs, h]
theorem tk_0 {st : List (Nat × Nat)} {wt : List Nat} {op c : Nat} : tk (st, wt, op, 0) c = fct (st, wt, op, 0) c := rfl
theorem tk_1 {st : List (Nat × Nat)} {wt : List Nat} {op c : Nat} : tk (st, wt, op, 1) c = if c = 40 then some (st, wt, op, 0) else none := rfl
theorem tk_2d {st : List (Nat × Nat)} {wt : List Nat} {op c : Nat} (h : 48 ≤ c ∧ c ≤ 57) : tk (st, wt, op, 2) c = dgt (st, wt, op, 2) c := by
  rw [tk, if_neg (by simp), if_neg (by simp), if_pos rfl, if_pos h]
theorem tk_2n {st : List (Nat × Nat)} {wt : List Nat} {op c : Nat} (h : ¬ (48 ≤ c ∧ c ≤ 57)) : tk (st, wt, op, 2) c = bhd (st, wt, op, 2) c := by
  rw [tk, if_neg (by simp), if_neg (by simp), if_pos rfl, if_neg h]
theorem tk_3 {st : List (Nat × Nat)} {wt : List Nat} {op c : Nat} : tk (st, wt, op, 3) c = bhd (st, wt, op, 3) c := rfl
theorem bhd_digit {p : hPs} {c : Nat} (h : 48 ≤ c ∧ c ≤ 57) : bhd p c = none := by
  rw [bhd, if_neg (by omega), if_pos]
  unfold strg
  rw [if_neg (by omega), if_neg (by omega)]
theorem dgt_no {st : List (Nat × Nat)} {wt : List Nat} {op c v : Nat} (h : v = 0 ∨ 9999 < v * 10 + (c - 48)) : dgt (st ++ [(0, v)], wt, op, 2) c = none := by
  rw [dgt, if_pos (by rw [lst_app]; exact h)]
theorem dgt_go {st : List (Nat × Nat)} {wt : List Nat} {op c v : Nat} (h : ¬ (v = 0 ∨ 9999 < v * 10 + (c - 48))) : dgt (st ++ [(0, v)], wt, op, 2) c = some (st ++ [(0, v * 10 + (c - 48))], wt, op, 2) := by
  rw [dgt, if_neg (by rw [lst_app]; exact h)]
  show some ((st ++ [(0, v)]).dropLast ++ _, _, _, _) = _
  rw [List.dropLast_concat, lst_app]
theorem PI_num {st : List (Nat × Nat)} {wt : List Nat} {op i j v : Nat} (h : PI (st, wt, op, 0) i) (hv : v ≤ 9999) (hj : i < j) : PI (st ++ [(0, v)], wt, op, 2) j := by
  obtain ⟨a, b, c1, d, e, f, g⟩ := h
  rw [if_pos (Or.inl rfl), Nat.add_zero] at f
  refine ⟨?_, b, c1, fun _ => ⟨st, v, rfl, hv⟩, fun s hs => ?_, by rw [hgt_leaf f (by decide)]; rfl, by simp⟩
  · show (st ++ [(0, v)]).length + wt.length ≤ j
    have a : st.length + wt.length ≤ i := a
    rw [List.length_append]; simp only [List.length_cons, List.length_nil]; omega
  · rcases List.mem_append.mp hs with hs | hs
    · exact e s hs
    · rw [List.mem_singleton.mp hs]; exact Or.inl ⟨rfl, hv⟩
theorem PI_256 {p : hPs} {i : Nat} (h : PI p i) : ∀ x ∈ p.2.1, x < 256 := fun x hx => by
  rcases h.2.2.1 x hx with q | q
  · unfold isB at q; omega
  · unfold isO at q; omega
theorem rel_256 {p : hPs} {i s : Nat} (h : PI p i) (hs : 1 ≤ s) (hn : 2 ≤ p.2.2.2) : (rel s p.2.1 p.1).2.length + (rel s p.2.1 p.1).1.length = p.1.length + p.2.1.length ∧ nB (rel s p.2.1 p.1).1 = p.2.2.1 ∧ (∀ x ∈ (rel s p.2.1 p.1).1, x < 256) := by
  obtain ⟨a, b, c1, d, e, f, g⟩ := h
  rw [if_neg (by omega)] at f
  obtain ⟨r1, r2, r3, -⟩ := rel_spec s hs p.2.1 p.1 0 c1 e f
  refine ⟨r1, r2.trans b, fun x hx => ?_⟩
  rcases r3 x hx with q | q
  · unfold isB at q; omega
  · unfold isO at q; omega
theorem fin_n {p : hPs} {i n : Nat} : fin1 (p, some i) n = some i := rfl
theorem nI_dg {c : Nat} (h : c ≤ 126) : ((48 : Int32).toInt ≤ (nI c).toInt ∧ (nI c).toInt ≤ (57 : Int32).toInt) ↔ (48 ≤ c ∧ c ≤ 57) := by
  rw [nI_toI (by omega), show (48 : Int32).toInt = 48 from rfl, show (57 : Int32).toInt = 57 from rfl]; omega
theorem nI_ce {c : Nat} (h : c ≤ 126) : ((65 : Int32).toInt ≤ (nI c).toInt ∧ (nI c).toInt ≤ (72 : Int32).toInt) ↔ (65 ≤ c ∧ c ≤ 72) := by
  rw [nI_toI (by omega), show (65 : Int32).toInt = 65 from rfl, show (72 : Int32).toInt = 72 from rfl]; omega
set_option maxHeartbeats 4000000 in
set_option maxRecDepth 100000 in
theorem c_X6_readNumber (K : hKv) (M : hM) {A : Nat → Nat} {z : Nat → Int32} {F : Nat → Nat → Int32} {G : Nat → Nat → Int64} (W : mW K A z F G M) {st : List (Nat × Nat)} {wt : List Nat} {op i : Nat} (pm : pmM z F st wt op i) {pad : List Nat} (hz1 : z 1 = nI pad.length) (hpd : padM (F 8) pad) (hl : pad.length ≤ 60) (hpc : ∀ c ∈ pad, 33 ≤ c ∧ c ≤ 126) (hi : i < pad.length) (hd : 48 ≤ pad.getD i 0 ∧ pad.getD i 0 ≤ 57) (hst : st.length < 60) : hC K Y_X6_readNumber rm_X6_readNumber [.ref (A 0)] M (hPv fun M' => ∃ v j, pmQ K A M z F G (st ++ [(0, v)]) wt op j M' ∧ v ≤ 9999 ∧ i < j ∧ j ≤ pad.length ∧ prs (st ++ [(0, pad.getD i 0 - 48)], wt, op, 2) (pad.drop (i + 1)) (i + 1) = prs (st ++ [(0, v)], wt, op, 2) (pad.drop j) j ∧ ∀ c r, pad.drop j = c :: r → tk (st ++ [(0, v)], wt, op, 2) c = bhd (st ++ [(0, v)], wt, op, 2) c) := by
  refine hC.of [some (.ref (A 0)), none] (by decide) (Nat.le_of_ble_eq_true rfl) rfl rfl ?_
  intro E C Rt
  have C : hCx E K cX6_readNumber 2 RX6 "readNumber" rm_X6_readNumber := C
  obtain ⟨M0, hM0⟩ : ∃ M0 : hM, M0 = M := ⟨_, rfl⟩
  rw [← hM0] at Rt
  have lp : ∀ (d j v : Nat), j + d = pad.length → i < j → v ≤ 9999 → ∀ M : hM, mW K A (va_up z 5 (nI j)) F G M → hFr 100 200 M0 M → prs (st ++ [(0, pad.getD i 0 - 48)], wt, op, 2) (pad.drop (i + 1)) (i + 1) = prs (st ++ [(0, v)], wt, op, 2) (pad.drop j) j → hX E 0 0 18 [some (.ref (A 0)), some (.int (nI v))] [] M := by
    intro d
    induction d with
    | zero =>
      intro j v hjd hij hv M W fr he
      have z5 : (va_up z 5 (nI j)) 5 = nI j := va_up_self _ _ _
      have hj0 := getD_e (l := pad) (i := j) (by omega)
      refine x_iload_1 19 C dX6_readNumber_18 rfl ?_
      refine x_if_le 22 80 C dX6_readNumber_19 rfl rfl (fun c_19 => ?_) (fun c_19 => ?_)
      · refine x_aload_0 81 C dX6_readNumber_80 rfl ?_
        refine x_iconst (v := 0) 82 C dX6_readNumber_81 rfl rfl ?_
        refine x_iload_1 83 C dX6_readNumber_82 rfl ?_
        refine x_callV 86 C (c_X6_emit K _ W (pm_place (j := j) pm) 0 v hst) W.obj wcl_X6 hy_X6_emit wv_X6_emit we_X6_emit lk_X6_90 dX6_readNumber_83 rfl ⟨Nat.le_of_ble_eq_true rfl, Nat.le_of_ble_eq_true rfl⟩ ⟨Nat.le_of_ble_eq_true rfl, Nat.le_of_ble_eq_true rfl⟩ (Nat.le_of_ble_eq_true rfl) rfl (k_0 rfl rfl (k_v (fun M_1 h_1 => ?_)))
        obtain ⟨z_2, F_2, W_2, ms_2, pm_2, o_2⟩ := h_1
        have hstop : ∀ c r, pad.drop j = c :: r → tk (st ++ [(0, v)], wt, op, 2) c = bhd (st ++ [(0, v)], wt, op, 2) c := by
          intro c r hc
          rw [drop_e (by omega)] at hc
          cases hc
        refine x_vreturn C Rt dX6_readNumber_86 ⟨Nat.le_of_ble_eq_true rfl, Nat.le_of_ble_eq_true rfl⟩ ?_
        exact ⟨rfl, v, j, ⟨z_2, F_2, W_2, (msP.z (by decide)).tr ms_2, pm_2, fr.tr o_2⟩, hv, hij, by omega, he, hstop⟩
      · refine x_aload_0 23 C dX6_readNumber_22 rfl ?_
        refine x_callV 26 C (c_X6_sign K _ W (pad := pad) hz1 hpd hl (i := j) (by omega) z5) W.obj wcl_X6 hy_X6_sign wv_X6_sign we_X6_sign lk_X6_94 dX6_readNumber_23 rfl ⟨Nat.le_of_ble_eq_true rfl, Nat.le_of_ble_eq_true rfl⟩ ⟨Nat.le_of_ble_eq_true rfl, Nat.le_of_ble_eq_true rfl⟩ (Nat.le_of_ble_eq_true rfl) rfl (k_0 rfl rfl (k_ip ?_))
        rw [hj0]
        refine x_bipush (v := 48) 28 C dX6_readNumber_26 rfl rfl ?_
        refine x_bipush (v := 57) 30 C dX6_readNumber_28 rfl rfl ?_
        refine x_callS 33 C (c_X6_in K _ _ _ _) hy_X6_in ws_X6_in lk_X6_57 dX6_readNumber_30 rfl ⟨Nat.le_of_ble_eq_true rfl, Nat.le_of_ble_eq_true rfl⟩ ⟨Nat.le_of_ble_eq_true rfl, Nat.le_of_ble_eq_true rfl⟩ (Nat.le_of_ble_eq_true rfl) rfl (k_0 rfl rfl (k_ip ?_))
        refine x_if_eq 36 80 C dX6_readNumber_33 rfl rfl (fun _ => ?_) (fun z => absurd (rfl) z)
        refine x_aload_0 81 C dX6_readNumber_80 rfl ?_
        refine x_iconst (v := 0) 82 C dX6_readNumber_81 rfl rfl ?_
        refine x_iload_1 83 C dX6_readNumber_82 rfl ?_
        refine x_callV 86 C (c_X6_emit K _ W (pm_place (j := j) pm) 0 v hst) W.obj wcl_X6 hy_X6_emit wv_X6_emit we_X6_emit lk_X6_90 dX6_readNumber_83 rfl ⟨Nat.le_of_ble_eq_true rfl, Nat.le_of_ble_eq_true rfl⟩ ⟨Nat.le_of_ble_eq_true rfl, Nat.le_of_ble_eq_true rfl⟩ (Nat.le_of_ble_eq_true rfl) rfl (k_0 rfl rfl (k_v (fun M_2 h_2 => ?_)))
        obtain ⟨z_2, F_2, W_2, ms_2, pm_2, o_2⟩ := h_2
        have hstop : ∀ c r, pad.drop j = c :: r → tk (st ++ [(0, v)], wt, op, 2) c = bhd (st ++ [(0, v)], wt, op, 2) c := by
          intro c r hc
          rw [drop_e (by omega)] at hc
          cases hc
        refine x_vreturn C Rt dX6_readNumber_86 ⟨Nat.le_of_ble_eq_true rfl, Nat.le_of_ble_eq_true rfl⟩ ?_
        exact ⟨rfl, v, j, ⟨z_2, F_2, W_2, (msP.z (by decide)).tr ms_2, pm_2, fr.tr o_2⟩, hv, hij, by omega, he, hstop⟩
    | succ d ih =>
      intro j v hjd hij hv M W fr he
      have z5 : (va_up z 5 (nI j)) 5 = nI j := va_up_self _ _ _
      have hc := getD_lt hpc j
      have hdr := drop_c (l := pad) (i := j) (by omega)
      generalize hcc : pad.getD j 0 = cc at hc hdr
      refine x_iload_1 19 C dX6_readNumber_18 rfl ?_
      refine x_if_le 22 80 C dX6_readNumber_19 rfl rfl (fun c_19 => ?_) (fun c_19 => ?_)
      · refine x_aload_0 81 C dX6_readNumber_80 rfl ?_
        refine x_iconst (v := 0) 82 C dX6_readNumber_81 rfl rfl ?_
        refine x_iload_1 83 C dX6_readNumber_82 rfl ?_
        refine x_callV 86 C (c_X6_emit K _ W (pm_place (j := j) pm) 0 v hst) W.obj wcl_X6 hy_X6_emit wv_X6_emit we_X6_emit lk_X6_90 dX6_readNumber_83 rfl ⟨Nat.le_of_ble_eq_true rfl, Nat.le_of_ble_eq_true rfl⟩ ⟨Nat.le_of_ble_eq_true rfl, Nat.le_of_ble_eq_true rfl⟩ (Nat.le_of_ble_eq_true rfl) rfl (k_0 rfl rfl (k_v (fun M_1 h_1 => ?_)))
        obtain ⟨z_2, F_2, W_2, ms_2, pm_2, o_2⟩ := h_1
        have hstop : ∀ c r, pad.drop j = c :: r → tk (st ++ [(0, v)], wt, op, 2) c = bhd (st ++ [(0, v)], wt, op, 2) c := by
          intro c r hc2
          rw [hdr] at hc2
          cases hc2
          have hv0 : v = 0 := by
            rcases Nat.eq_zero_or_pos v with q | q
            · exact q
            · exact absurd c_19 (nI_nle q (by omega))
          by_cases hdg : 48 ≤ cc ∧ cc ≤ 57
          · rw [tk_2d hdg, dgt_no (Or.inl hv0), bhd_digit hdg]
          · exact tk_2n hdg
        refine x_vreturn C Rt dX6_readNumber_86 ⟨Nat.le_of_ble_eq_true rfl, Nat.le_of_ble_eq_true rfl⟩ ?_
        exact ⟨rfl, v, j, ⟨z_2, F_2, W_2, (msP.z (by decide)).tr ms_2, pm_2, fr.tr o_2⟩, hv, hij, by omega, he, hstop⟩
      · refine x_aload_0 23 C dX6_readNumber_22 rfl ?_
        refine x_callV 26 C (c_X6_sign K _ W (pad := pad) hz1 hpd hl (i := j) (by omega) z5) W.obj wcl_X6 hy_X6_sign wv_X6_sign we_X6_sign lk_X6_94 dX6_readNumber_23 rfl ⟨Nat.le_of_ble_eq_true rfl, Nat.le_of_ble_eq_true rfl⟩ ⟨Nat.le_of_ble_eq_true rfl, Nat.le_of_ble_eq_true rfl⟩ (Nat.le_of_ble_eq_true rfl) rfl (k_0 rfl rfl (k_ip ?_))
        rw [hcc]
        refine x_bipush (v := 48) 28 C dX6_readNumber_26 rfl rfl ?_
        refine x_bipush (v := 57) 30 C dX6_readNumber_28 rfl rfl ?_
        refine x_callS 33 C (c_X6_in K _ _ _ _) hy_X6_in ws_X6_in lk_X6_57 dX6_readNumber_30 rfl ⟨Nat.le_of_ble_eq_true rfl, Nat.le_of_ble_eq_true rfl⟩ ⟨Nat.le_of_ble_eq_true rfl, Nat.le_of_ble_eq_true rfl⟩ (Nat.le_of_ble_eq_true rfl) rfl (k_0 rfl rfl (k_ip ?_))
        refine x_if_eq 36 80 C dX6_readNumber_33 rfl rfl (fun c_33 => ?_) (fun c_33 => ?_)
        · refine x_aload_0 81 C dX6_readNumber_80 rfl ?_
          refine x_iconst (v := 0) 82 C dX6_readNumber_81 rfl rfl ?_
          refine x_iload_1 83 C dX6_readNumber_82 rfl ?_
          refine x_callV 86 C (c_X6_emit K _ W (pm_place (j := j) pm) 0 v hst) W.obj wcl_X6 hy_X6_emit wv_X6_emit we_X6_emit lk_X6_90 dX6_readNumber_83 rfl ⟨Nat.le_of_ble_eq_true rfl, Nat.le_of_ble_eq_true rfl⟩ ⟨Nat.le_of_ble_eq_true rfl, Nat.le_of_ble_eq_true rfl⟩ (Nat.le_of_ble_eq_true rfl) rfl (k_0 rfl rfl (k_v (fun M_2 h_2 => ?_)))
          obtain ⟨z_2, F_2, W_2, ms_2, pm_2, o_2⟩ := h_2
          have hstop : ∀ c r, pad.drop j = c :: r → tk (st ++ [(0, v)], wt, op, 2) c = bhd (st ++ [(0, v)], wt, op, 2) c := by
            intro c r hc2
            rw [hdr] at hc2
            cases hc2
            exact tk_2n (fun q => (hB_0p.mp c_33) ((nI_dg hc).mpr q))
          refine x_vreturn C Rt dX6_readNumber_86 ⟨Nat.le_of_ble_eq_true rfl, Nat.le_of_ble_eq_true rfl⟩ ?_
          exact ⟨rfl, v, j, ⟨z_2, F_2, W_2, (msP.z (by decide)).tr ms_2, pm_2, fr.tr o_2⟩, hv, hij, by omega, he, hstop⟩
        · refine x_bipush (v := 10) 38 C dX6_readNumber_36 rfl rfl ?_
          refine x_iload_1 39 C dX6_readNumber_38 rfl ?_
          refine x_imul 40 C dX6_readNumber_39 rfl ?_
          refine x_topi (v' := nI (10 * v)) (pk_mul 10 v) ?_
          refine x_aload_0 41 C dX6_readNumber_40 rfl ?_
          refine x_callV 44 C (c_X6_sign K _ W (pad := pad) hz1 hpd hl (i := j) (by omega) z5) W.obj wcl_X6 hy_X6_sign wv_X6_sign we_X6_sign lk_X6_94 dX6_readNumber_41 rfl ⟨Nat.le_of_ble_eq_true rfl, Nat.le_of_ble_eq_true rfl⟩ ⟨Nat.le_of_ble_eq_true rfl, Nat.le_of_ble_eq_true rfl⟩ (Nat.le_of_ble_eq_true rfl) rfl (k_0 rfl rfl (k_ip ?_))
          rw [hcc]
          refine x_iadd 45 C dX6_readNumber_44 rfl ?_
          refine x_topi (v' := nI (10 * v + cc)) (nI_add _ _) ?_
          refine x_bipush (v := 48) 47 C dX6_readNumber_45 rfl rfl ?_
          refine x_isub 48 C dX6_readNumber_47 rfl ?_
          have hdg := (nI_dg hc).mp (hB_n0p.mp c_33)
          refine x_topi (v' := nI (10 * v + cc - 48)) (pk_sub (a := 10 * v + cc) (b := 48) (by omega)) ?_
          refine x_sipush (v := 9999) 51 C dX6_readNumber_48 rfl rfl ?_
          refine x_icmp_gt 54 80 C dX6_readNumber_51 rfl rfl (fun c_51 => ?_) (fun c_51 => ?_)
          · refine x_aload_0 81 C dX6_readNumber_80 rfl ?_
            refine x_iconst (v := 0) 82 C dX6_readNumber_81 rfl rfl ?_
            refine x_iload_1 83 C dX6_readNumber_82 rfl ?_
            refine x_callV 86 C (c_X6_emit K _ W (pm_place (j := j) pm) 0 v hst) W.obj wcl_X6 hy_X6_emit wv_X6_emit we_X6_emit lk_X6_90 dX6_readNumber_83 rfl ⟨Nat.le_of_ble_eq_true rfl, Nat.le_of_ble_eq_true rfl⟩ ⟨Nat.le_of_ble_eq_true rfl, Nat.le_of_ble_eq_true rfl⟩ (Nat.le_of_ble_eq_true rfl) rfl (k_0 rfl rfl (k_v (fun M_3 h_3 => ?_)))
            obtain ⟨z_2, F_2, W_2, ms_2, pm_2, o_2⟩ := h_3
            have hstop : ∀ c r, pad.drop j = c :: r → tk (st ++ [(0, v)], wt, op, 2) c = bhd (st ++ [(0, v)], wt, op, 2) c := by
              intro c r hc2
              rw [hdr] at hc2
              cases hc2
              have hdg := (nI_dg hc).mp (hB_n0p.mp c_33)
              have hov : 9999 < 10 * v + cc - 48 := (nI_ltI (a := 9999) (by decide) (by omega)).mp c_51
              rw [tk_2d hdg, dgt_no (Or.inr (by omega)), bhd_digit hdg]
            refine x_vreturn C Rt dX6_readNumber_86 ⟨Nat.le_of_ble_eq_true rfl, Nat.le_of_ble_eq_true rfl⟩ ?_
            exact ⟨rfl, v, j, ⟨z_2, F_2, W_2, (msP.z (by decide)).tr ms_2, pm_2, fr.tr o_2⟩, hv, hij, by omega, he, hstop⟩
          · have hle : ¬ 9999 < 10 * v + cc - 48 := fun q => c_51 ((nI_ltI (a := 9999) (by decide) (by omega)).mpr q)
            have hv0 : ¬ v = 0 := fun q => c_19 (by rw [q]; decide)
            refine x_bipush (v := 10) 56 C dX6_readNumber_54 rfl rfl ?_
            refine x_iload_1 57 C dX6_readNumber_56 rfl ?_
            refine x_imul 58 C dX6_readNumber_57 rfl ?_
            refine x_topi (v' := nI (10 * v)) (pk_mul 10 v) ?_
            refine x_aload_0 59 C dX6_readNumber_58 rfl ?_
            refine x_callV 62 C (c_X6_sign K _ W (pad := pad) hz1 hpd hl (i := j) (by omega) z5) W.obj wcl_X6 hy_X6_sign wv_X6_sign we_X6_sign lk_X6_94 dX6_readNumber_59 rfl ⟨Nat.le_of_ble_eq_true rfl, Nat.le_of_ble_eq_true rfl⟩ ⟨Nat.le_of_ble_eq_true rfl, Nat.le_of_ble_eq_true rfl⟩ (Nat.le_of_ble_eq_true rfl) rfl (k_0 rfl rfl (k_ip ?_))
            rw [hcc]
            refine x_iadd 63 C dX6_readNumber_62 rfl ?_
            refine x_topi (v' := nI (10 * v + cc)) (nI_add _ _) ?_
            refine x_bipush (v := 48) 65 C dX6_readNumber_63 rfl rfl ?_
            refine x_isub 66 C dX6_readNumber_65 rfl ?_
            refine x_topi (v' := nI (10 * v + cc - 48)) (pk_sub (a := 10 * v + cc) (b := 48) (by omega)) ?_
            refine x_istore_1 67 C dX6_readNumber_66 rfl rfl ?_
            refine x_aload_0 68 C dX6_readNumber_67 rfl ?_
            refine x_dup 69 C dX6_readNumber_68 rfl rfl ?_
            refine mOg_place 72 C wf_X6_77 W.obj dX6_readNumber_69 rfl ?_
            refine x_topi z5 ?_
            refine x_iconst (v := 1) 73 C dX6_readNumber_72 rfl rfl ?_
            refine x_iadd 74 C dX6_readNumber_73 rfl ?_
            refine x_topi (v' := nI (j + 1)) (nI_1 j) ?_
            refine mOp_place 77 C wf_X6_77 W.obj dX6_readNumber_74 rfl ?_
            refine x_m_obj W (fun M_4 W o_4 => ?_)
            refine x_goto 18 C dX6_readNumber_77 rfl ?_
            rw [va_uu] at W
            refine ih (j + 1) (10 * v + cc - 48) (by omega) (by omega) (by omega) _ W (fr.tr (o_4)) ?_
            rw [he, hdr, prs_s (tk_2d hdg ▸ dgt_go (by omega)), show v * 10 + (cc - 48) = 10 * v + cc - 48 by omega]
  have z5 := pm.2.2.2.1
  refine x_aload_0 1 C dX6_readNumber_0 rfl ?_
  refine x_callV 4 C (c_X6_sign K _ W (pad := pad) hz1 hpd hl (i := i) (by omega) z5) W.obj wcl_X6 hy_X6_sign wv_X6_sign we_X6_sign lk_X6_94 dX6_readNumber_1 rfl ⟨Nat.le_of_ble_eq_true rfl, Nat.le_of_ble_eq_true rfl⟩ ⟨Nat.le_of_ble_eq_true rfl, Nat.le_of_ble_eq_true rfl⟩ (Nat.le_of_ble_eq_true rfl) rfl (k_0 rfl rfl (k_ip ?_))
  refine x_bipush (v := 48) 6 C dX6_readNumber_4 rfl rfl ?_
  refine x_isub 7 C dX6_readNumber_6 rfl ?_
  refine x_topi (v' := nI (pad.getD i 0 - 48)) (pk_sub (a := pad.getD i 0) (b := 48) hd.1) ?_
  refine x_istore_1 8 C dX6_readNumber_7 rfl rfl ?_
  refine x_aload_0 9 C dX6_readNumber_8 rfl ?_
  refine x_dup 10 C dX6_readNumber_9 rfl rfl ?_
  refine mOg_place 13 C wf_X6_77 W.obj dX6_readNumber_10 rfl ?_
  refine x_topi z5 ?_
  refine x_iconst (v := 1) 14 C dX6_readNumber_13 rfl rfl ?_
  refine x_iadd 15 C dX6_readNumber_14 rfl ?_
  refine x_topi (v' := nI (i + 1)) (nI_1 i) ?_
  refine mOp_place 18 C wf_X6_77 W.obj dX6_readNumber_15 rfl ?_
  refine x_m_obj W (fun M_1 W o_1 => ?_)
  exact lp (pad.length - (i + 1)) (i + 1) _ (by omega) (by omega) (by omega) _ W (by rw [hM0]; exact o_1) rfl
set_option maxHeartbeats 4000000 in
set_option maxRecDepth 100000 in
theorem c_X6_readOperand (K : hKv) (M : hM) {A : Nat → Nat} {z : Nat → Int32} {F : Nat → Nat → Int32} {G : Nat → Nat → Int64} (W : mW K A z F G M) {st : List (Nat × Nat)} {wt : List Nat} {op i : Nat} (pm : pmM z F st wt op i) {pad : List Nat} (hz1 : z 1 = nI pad.length) (hpd : padM (F 8) pad) (hl : pad.length ≤ 60) (hpc : ∀ c ∈ pad, 33 ≤ c ∧ c ≤ 126) (hi : i < pad.length) (hP : PI (st, wt, op, 0) i) : hC K Y_X6_readOperand rm_X6_readOperand [.ref (A 0)] M (hPi fun r M' => (r = 1 ∧ ∃ (p : hPs) (j : Nat), pmQ K A M z F G p.1 p.2.1 p.2.2.1 j M' ∧ 2 ≤ p.2.2.2 ∧ PI p j ∧ i < j ∧ j ≤ pad.length ∧ prs (st, wt, op, 0) (pad.drop i) i = prs p (pad.drop j) j ∧ ∀ c r, pad.drop j = c :: r → tk p c = bhd p c) ∨ (r = 0 ∧ M' = M ∧ ¬ (48 ≤ pad.getD i 0 ∧ pad.getD i 0 ≤ 57) ∧ ¬ (65 ≤ pad.getD i 0 ∧ pad.getD i 0 ≤ 72))) := by
  refine hC.of [some (.ref (A 0)), none] (by decide) (Nat.le_of_ble_eq_true rfl) rfl rfl ?_
  intro E C Rt
  have C : hCx E K cX6_readOperand 2 RX6 "readOperand" rm_X6_readOperand := C
  have z5 := pm.2.2.2.1
  have hc := getD_lt hpc i
  have hdr := drop_c hi
  have hlen : st.length + wt.length ≤ i := hP.1
  refine x_aload_0 1 C dX6_readOperand_0 rfl ?_
  refine x_callV 4 C (c_X6_sign K _ W (pad := pad) hz1 hpd hl (i := i) (by omega) z5) W.obj wcl_X6 hy_X6_sign wv_X6_sign we_X6_sign lk_X6_94 dX6_readOperand_1 rfl ⟨Nat.le_of_ble_eq_true rfl, Nat.le_of_ble_eq_true rfl⟩ ⟨Nat.le_of_ble_eq_true rfl, Nat.le_of_ble_eq_true rfl⟩ (Nat.le_of_ble_eq_true rfl) rfl (k_0 rfl rfl (k_ip ?_))
  refine x_istore_1 5 C dX6_readOperand_4 rfl rfl ?_
  refine x_iload_1 6 C dX6_readOperand_5 rfl ?_
  refine x_bipush (v := 48) 8 C dX6_readOperand_6 rfl rfl ?_
  refine x_bipush (v := 57) 10 C dX6_readOperand_8 rfl rfl ?_
  refine x_callS 13 C (c_X6_in K _ _ _ _) hy_X6_in ws_X6_in lk_X6_57 dX6_readOperand_10 rfl ⟨Nat.le_of_ble_eq_true rfl, Nat.le_of_ble_eq_true rfl⟩ ⟨Nat.le_of_ble_eq_true rfl, Nat.le_of_ble_eq_true rfl⟩ (Nat.le_of_ble_eq_true rfl) rfl (k_0 rfl rfl (k_ip ?_))
  refine x_if_eq 16 22 C dX6_readOperand_13 rfl rfl (fun c_13 => ?_) (fun c_13 => ?_)
  · refine x_iload_1 23 C dX6_readOperand_22 rfl ?_
    refine x_bipush (v := 65) 25 C dX6_readOperand_23 rfl rfl ?_
    refine x_bipush (v := 72) 27 C dX6_readOperand_25 rfl rfl ?_
    refine x_callS 30 C (c_X6_in K _ _ _ _) hy_X6_in ws_X6_in lk_X6_57 dX6_readOperand_27 rfl ⟨Nat.le_of_ble_eq_true rfl, Nat.le_of_ble_eq_true rfl⟩ ⟨Nat.le_of_ble_eq_true rfl, Nat.le_of_ble_eq_true rfl⟩ (Nat.le_of_ble_eq_true rfl) rfl (k_0 rfl rfl (k_ip ?_))
    refine x_if_eq 33 54 C dX6_readOperand_30 rfl rfl (fun c_30 => ?_) (fun c_30 => ?_)
    · refine x_iconst (v := 0) 55 C dX6_readOperand_54 rfl rfl ?_
      refine x_ireturn C Rt dX6_readOperand_55 rfl ⟨Nat.le_of_ble_eq_true rfl, Nat.le_of_ble_eq_true rfl⟩ ?_
      exact ⟨_, rfl, Or.inr ⟨rfl, rfl, fun q => hB_0p.mp c_13 ((nI_dg hc).mpr q), fun q => hB_0p.mp c_30 ((nI_ce hc).mpr q)⟩⟩
    · refine x_aload_0 34 C dX6_readOperand_33 rfl ?_
      refine x_iconst (v := 1) 35 C dX6_readOperand_34 rfl rfl ?_
      refine x_iload_1 36 C dX6_readOperand_35 rfl ?_
      refine x_bipush (v := 65) 38 C dX6_readOperand_36 rfl rfl ?_
      refine x_isub 39 C dX6_readOperand_38 rfl ?_
      have hce := (nI_ce hc).mp (hB_n0p.mp c_30)
      refine x_topi (v' := nI (pad.getD i 0 - 65)) (pk_sub (a := pad.getD i 0) (b := 65) hce.1) ?_
      refine x_callV 42 C (c_X6_emit K _ W pm 1 (pad.getD i 0 - 65) (by omega)) W.obj wcl_X6 hy_X6_emit wv_X6_emit we_X6_emit lk_X6_90 dX6_readOperand_39 rfl ⟨Nat.le_of_ble_eq_true rfl, Nat.le_of_ble_eq_true rfl⟩ ⟨Nat.le_of_ble_eq_true rfl, Nat.le_of_ble_eq_true rfl⟩ (Nat.le_of_ble_eq_true rfl) rfl (k_0 rfl rfl (k_v (fun M_1 h_1 => ?_)))
      obtain ⟨z_2, F_2, W, ms_2, pm_2, o_e⟩ := h_1
      refine x_aload_0 43 C dX6_readOperand_42 rfl ?_
      refine x_dup 44 C dX6_readOperand_43 rfl rfl ?_
      refine mOg_place 47 C wf_X6_77 W.obj dX6_readOperand_44 rfl ?_
      refine x_topi pm_2.2.2.2.1 ?_
      refine x_iconst (v := 1) 48 C dX6_readOperand_47 rfl rfl ?_
      refine x_iadd 49 C dX6_readOperand_48 rfl ?_
      refine x_topi (v' := nI (i + 1)) (nI_1 i) ?_
      refine mOp_place 52 C wf_X6_77 W.obj dX6_readOperand_49 rfl ?_
      refine x_m_obj W (fun M_2 W o_2 => ?_)
      refine x_iconst (v := 1) 53 C dX6_readOperand_52 rfl rfl ?_
      refine x_ireturn C Rt dX6_readOperand_53 rfl ⟨Nat.le_of_ble_eq_true rfl, Nat.le_of_ble_eq_true rfl⟩ ?_
      have hnd : ¬ (48 ≤ pad.getD i 0 ∧ pad.getD i 0 ≤ 57) := fun q => hB_0p.mp c_13 ((nI_dg hc).mpr q)
      have ht : tk (st, wt, op, 0) (pad.getD i 0) = some (st ++ [(1, pad.getD i 0 - 65)], wt, op, 3) := by rw [tk_0, fct, if_neg hnd, if_pos hce]
      exact ⟨_, rfl, Or.inl ⟨rfl, (st ++ [(1, pad.getD i 0 - 65)], wt, op, 3), i + 1, ⟨_, F_2, W, ms_2.tr (msP.z (by decide)), pm_place pm_2, o_e.tr (o_2)⟩, (Nat.le_of_ble_eq_true rfl), PI_tk hP ht, by omega, hi, by rw [hdr, prs_s ht], fun c r _ => tk_3⟩⟩
  · refine x_aload_0 17 C dX6_readOperand_16 rfl ?_
    refine x_callV 20 C (c_X6_readNumber K _ W pm hz1 hpd hl hpc hi ((nI_dg hc).mp (hB_n0p.mp c_13)) (by omega)) W.obj wcl_X6 hy_X6_readNumber wv_X6_readNumber we_X6_readNumber lk_X6_98 dX6_readOperand_17 rfl ⟨Nat.le_of_ble_eq_true rfl, Nat.le_of_ble_eq_true rfl⟩ ⟨Nat.le_of_ble_eq_true rfl, Nat.le_of_ble_eq_true rfl⟩ (Nat.le_of_ble_eq_true rfl) rfl (k_0 rfl rfl (k_v (fun M_3 h_3 => ?_)))
    obtain ⟨v, j, hq, hv, hij, hjl, he, hstop⟩ := h_3
    refine x_iconst (v := 1) 21 C dX6_readOperand_20 rfl rfl ?_
    refine x_ireturn C Rt dX6_readOperand_21 rfl ⟨Nat.le_of_ble_eq_true rfl, Nat.le_of_ble_eq_true rfl⟩ ?_
    have hdg := (nI_dg hc).mp (hB_n0p.mp c_13)
    exact ⟨_, rfl, Or.inl ⟨rfl, (st ++ [(0, v)], wt, op, 2), j, hq, Nat.le_refl _, PI_num hP hv hij, hij, hjl, by rw [hdr, prs_s (p' := (st ++ [(0, pad.getD i 0 - 48)], wt, op, 2)) (by rw [tk_0, fct, if_pos hdg]), he], hstop⟩⟩
