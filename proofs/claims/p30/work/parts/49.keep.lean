theorem kfr {lo hi : Nat} {M M1 : hM} (h : hFr lo hi M M1) (hl : 13 ≤ lo ∧ hi ≤ 41) : hFr 13 41 M M1 := h.mono hl.1 hl.2
set_option maxHeartbeats 4000000 in
set_option maxRecDepth 100000 in
theorem c_X5_stateIn (K : hKv) (M : hM) {a t : Nat} {q : Nat → Option Nat} (h0 : M a = some (t, eS K 6 q)) (j : Nat) (hj : j < 6) : hC K Y_X5_stateIn rm_X5_stateIn [.ref a, .int (nI j)] M (hPq fun r M' => r = q j ∧ M' = M) := by
  refine hC.of [some (.ref a), some (.int (nI j))] (by decide) (Nat.le_of_ble_eq_true rfl) rfl rfl ?_
  intro E C Rt
  have C : hCx E K cX5_stateIn 2 RX5 "stateIn" rm_X5_stateIn := C
  refine x_iload_1 1 C dX5_stateIn_0 rfl ?_
  refine x_if_lt 4 16 C dX5_stateIn_1 rfl rfl (fun z => absurd z (nI_pos (by omega))) (fun _ => ?_)
  refine x_iload_1 5 C dX5_stateIn_4 rfl ?_
  refine x_aload_0 6 C dX5_stateIn_5 rfl ?_
  refine x_alenS 7 C h0 dX5_stateIn_6 rfl ?_
  refine x_icmp_ge 10 16 C dX5_stateIn_7 rfl rfl (fun z => absurd z (nI_ge hj (by decide))) (fun _ => ?_)
  refine x_aload_0 11 C dX5_stateIn_10 rfl ?_
  refine x_iload_1 12 C dX5_stateIn_11 rfl ?_
  refine x_sald 13 (j) C h0 (rfl) (hj) (by decide) dX5_stateIn_12 rfl ?_
  refine x_goto 17 C dX5_stateIn_13 rfl ?_
  refine x_qreturn C Rt dX5_stateIn_17 ⟨Nat.le_of_ble_eq_true rfl, Nat.le_of_ble_eq_true rfl⟩ ?_
  exact ⟨_, rfl, rfl, rfl⟩
set_option maxHeartbeats 4000000 in
set_option maxRecDepth 100000 in
theorem c_X5_keepState (K : hKv) (M : hM) {A : Nat → Nat} {z pd : Nat → Int32} {sl : Nat → Option Nat} {h : Nat → hS1} {σ : hSt} (W : cW K A z pd sl M) (hc : cRl z pd h σ) (N : stW K M 9 (A 0) σ.1) (H : cH K A M h) (hu : σ.2.1.1 ≤ 6) : hC K Y_X5_keepState rm_X5_keepState [.ref (A 36)] M (hPv fun M' => ∃ z2 h2, cW K A z2 pd sl M' ∧ cRl z2 pd h2 (recd σ σ.1) ∧ cH K A M' h2 ∧ hFr 13 41 M M') := by
  refine hC.of [some (.ref (A 36)), none] (by decide) (Nat.le_of_ble_eq_true rfl) rfl rfl ?_
  intro E C Rt
  have C : hCx E K cX5_keepState 2 RX5 "keepState" rm_X5_keepState := C
  obtain ⟨c0, c1, c2, oo, co, c3, c4⟩ := hc
  obtain ⟨M0, hM0⟩ : ∃ M0 : hM, M0 = M := ⟨_, rfl⟩
  rw [← hM0] at Rt
  have lp : ∀ (o n : Nat) (z : Nat → Int32) (M : hM), o < 6 → n < 6 → z 0 = nI σ.2.2.2.length → z 1 = nI o → z 2 = nI n → cW K A z pd sl M → stW K M 9 (A 0) σ.1 → cH K A M h → hFr 13 41 M0 M → (psh σ.2.1 σ.1).1 = n + 1 → (∀ i, i < n → h ((o + i) % 6) = (psh σ.2.1 σ.1).2 i) → (psh σ.2.1 σ.1).2 n = σ.1 → hX E 0 0 32 [some (.ref (A 36)), none] [] M := by
    intro o n z M ho hn z0 z1 z2 W N H fr p1 p2 p3
    have hj : (o + n) % 6 < 6 := Nat.mod_lt _ (by decide)
    refine x_aload_0 33 C dX5_keepState_32 rfl ?_
    refine xOg_history 36 C wf_X5_16 W.obj dX5_keepState_33 rfl ?_
    refine x_aload_0 37 C dX5_keepState_36 rfl ?_
    refine xOg_oldest 40 C wf_X5_231 W.obj dX5_keepState_37 rfl ?_
    refine x_topi z1 ?_
    refine x_aload_0 41 C dX5_keepState_40 rfl ?_
    refine xOg_changes 44 C wf_X5_155 W.obj dX5_keepState_41 rfl ?_
    refine x_topi z2 ?_
    refine x_iadd 45 C dX5_keepState_44 rfl ?_
    refine x_topi (nI_add _ _) ?_
    refine x_bipush (v := 6) 47 C dX5_keepState_45 rfl rfl ?_
    refine x_irem 48 C dX5_keepState_47 rfl (by decide) ?_
    refine x_topi (v' := nI ((o + n) % 6)) (pk_rem (d := 6) (by omega) (by decide) (by decide)) ?_
    refine x_callS 51 C (c_X5_stateIn K _ W.history ((o + n) % 6) hj) hy_X5_stateIn ws_X5_stateIn lk_X5_234 dX5_keepState_48 rfl ⟨Nat.le_of_ble_eq_true rfl, Nat.le_of_ble_eq_true rfl⟩ ⟨Nat.le_of_ble_eq_true rfl, Nat.le_of_ble_eq_true rfl⟩ (Nat.le_of_ble_eq_true rfl) rfl (k_0 rfl rfl (k_qp ?_))
    refine x_top (v' := .ref (A ((o + n) % 6 + 1))) (by rw [hsA_in hj]; rfl) ?_
    refine x_astore_1 52 C dX5_keepState_51 rfl rfl ?_
    refine x_aload_1 53 C dX5_keepState_52 rfl ?_
    refine x_top (v' := va_rf (some (A ((o + n) % 6 + 1)))) rfl ?_
    refine x_ifnull 56 74 C dX5_keepState_53 rfl rfl ((fun z => by cases z)) (fun y_53 c_53 => ?_)
    refine x_aload_1 57 C dX5_keepState_56 rfl ?_
    refine x_aload_0 58 C dX5_keepState_57 rfl ?_
    refine xOg_now 61 C wf_X5_10 W.obj dX5_keepState_58 rfl ?_
    skip
    have S := H _ hj
    obtain ⟨d1, d2, d3, f_d, g_d, q_d, d0, -⟩ := H _ hj
    refine x_callV 64 C (c_become K _ S N (by omega) (by omega)) d0 wcl_X4 hy_X4_become wv_X4_become we_X4_become lk_X5_238 dX5_keepState_61 rfl ⟨Nat.le_of_ble_eq_true rfl, Nat.le_of_ble_eq_true rfl⟩ ⟨Nat.le_of_ble_eq_true rfl, Nat.le_of_ble_eq_true rfl⟩ (Nat.le_of_ble_eq_true rfl) rfl (k_0 rfl rfl (k_v (fun M_1 h_1 => ?_)))
    obtain ⟨S_b, o_b⟩ := h_1
    have W := W.kept o_b (by omega)
    have N := N.kept o_b (by omega) (by omega)
    have H : cH K A M_1 (va_up h ((o + n) % 6) σ.1) := fun j hj2 => by
      by_cases e : j = (o + n) % 6
      · subst e; rw [va_up_self]; exact S_b
      · rw [va_up_ne _ _ e]; exact (H j hj2).kept o_b (by omega) (by omega)
    refine x_aload_0 65 C dX5_keepState_64 rfl ?_
    refine x_dup 66 C dX5_keepState_65 rfl rfl ?_
    refine xOg_changes 69 C wf_X5_155 W.obj dX5_keepState_66 rfl ?_
    refine x_topi z2 ?_
    refine x_iconst (v := 1) 70 C dX5_keepState_69 rfl rfl ?_
    refine x_iadd 71 C dX5_keepState_70 rfl ?_
    refine x_topi (nI_1 _) ?_
    refine xOp_changes 74 C wf_X5_155 W.obj dX5_keepState_71 rfl ?_
    refine x_c_obj W (fun M_2 W o_2 => ?_)
    have N := N.kept o_2 (by decide) (by decide)
    have H := H.kept o_2 (by decide) (by decide)
    refine x_vreturn C Rt dX5_keepState_74 ⟨Nat.le_of_ble_eq_true rfl, Nat.le_of_ble_eq_true rfl⟩ ?_
    refine ⟨rfl, _, _, W, ⟨?_, c1, ?_, o, ho, ?_, fun i hi => ?_⟩, H, fr.tr (((kfr o_b (by omega))).tr (kfr o_2 (by decide)))⟩
    · exact (va_up_ne _ _ (by decide)).trans z0
    · show nI (n + 1) = nI (psh σ.2.1 σ.1).1
      rw [p1]
    · exact (va_up_ne _ _ (by decide)).trans z1
    · have hi : i < (psh σ.2.1 σ.1).1 := hi
      rw [p1] at hi
      show va_up h ((o + n) % 6) σ.1 ((o + i) % 6) = (psh σ.2.1 σ.1).2 i
      by_cases e : i = n
      · subst e; rw [va_up_self, p3]
      · rw [va_up_ne _ _ (by omega)]; exact p2 i (by omega)
  refine x_aload_0 1 C dX5_keepState_0 rfl ?_
  refine xOg_changes 4 C wf_X5_155 W.obj dX5_keepState_1 rfl ?_
  refine x_topi c2 ?_
  refine x_bipush (v := 6) 6 C dX5_keepState_4 rfl rfl ?_
  refine x_icmp_ne 9 32 C dX5_keepState_6 rfl rfl (fun c_6 => ?_) (fun c_6 => ?_)
  · have h6 : ¬ σ.2.1.1 = 6 := fun q => c_6 (by rw [q]; rfl)
    refine lp oo σ.2.1.1 _ _ co (by omega) c0 c3 c2 W N H (by rw [hM0]; exact hFr.rf) ?_ ?_ ?_
    · rw [psh, if_neg h6]
    · intro i hi
      rw [psh, if_neg h6]
      show _ = va_up σ.2.1.2 σ.2.1.1 σ.1 i
      rw [va_up_ne _ _ (by omega)]; exact c4 i hi
    · rw [psh, if_neg h6]; exact va_up_self _ _ _
  · have h6 : σ.2.1.1 = 6 := (nI_eq (b := 6) (by omega) (by decide)).mp (by first | exact c_6 | exact Decidable.not_not.mp c_6)
    refine x_aload_0 10 C dX5_keepState_9 rfl ?_
    refine x_aload_0 11 C dX5_keepState_10 rfl ?_
    refine xOg_oldest 14 C wf_X5_231 W.obj dX5_keepState_11 rfl ?_
    refine x_topi c3 ?_
    refine x_iconst (v := 1) 15 C dX5_keepState_14 rfl rfl ?_
    refine x_iadd 16 C dX5_keepState_15 rfl ?_
    refine x_topi (nI_1 _) ?_
    refine x_bipush (v := 6) 18 C dX5_keepState_16 rfl rfl ?_
    refine x_irem 19 C dX5_keepState_18 rfl (by decide) ?_
    refine x_topi (v' := nI ((oo + 1) % 6)) (pk_rem (d := 6) (by omega) (by decide) (by decide)) ?_
    refine xOp_oldest 22 C wf_X5_231 W.obj dX5_keepState_19 rfl ?_
    refine x_c_obj W (fun M_1 W o_1 => ?_)
    have N := N.kept o_1 (by decide) (by decide)
    have H := H.kept o_1 (by decide) (by decide)
    refine x_aload_0 23 C dX5_keepState_22 rfl ?_
    refine x_dup 24 C dX5_keepState_23 rfl rfl ?_
    refine xOg_changes 27 C wf_X5_155 W.obj dX5_keepState_24 rfl ?_
    refine x_topi (c2.trans (by rw [h6])) ?_
    refine x_iconst (v := 1) 28 C dX5_keepState_27 rfl rfl ?_
    refine x_isub 29 C dX5_keepState_28 rfl ?_
    refine x_topi (v' := nI 5) (pk_sub (a := 6) (b := 1) (by decide)) ?_
    refine xOp_changes 32 C wf_X5_155 W.obj dX5_keepState_29 rfl ?_
    refine x_c_obj W (fun M_2 W o_2 => ?_)
    have N := N.kept o_2 (by decide) (by decide)
    have H := H.kept o_2 (by decide) (by decide)
    refine lp ((oo + 1) % 6) 5 (va_up (va_up z 1 (nI ((oo + 1) % 6))) 2 (nI 5)) _ (Nat.mod_lt _ (by decide)) (by decide) c0 rfl rfl W N H (by rw [hM0]; exact (((kfr o_1 (by decide))).tr (kfr o_2 (by decide)))) ?_ ?_ ?_
    · rw [psh, if_pos h6]
    · intro i hi
      rw [psh, if_pos h6]
      show _ = if i = 5 then σ.1 else σ.2.1.2 (i + 1)
      rw [if_neg (by omega), ← c4 (i + 1) (by omega)]
      congr 1; omega
    · rw [psh, if_pos h6]; rfl
