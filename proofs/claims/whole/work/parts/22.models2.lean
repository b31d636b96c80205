set_option maxHeartbeats 4000000 in
set_option maxRecDepth 100000 in
theorem c_X6_undo (K : hKv) (M : hM) {A : Nat → Nat} {z : Nat → Int32} {F : Nat → Nat → Int32} {G : Nat → Nat → Int64} (W : mW K A z F G M) {σ : hSt} (hr : repM z F G σ) (ho : okS σ) : hC K Y_X6_undo rm_X6_undo [.ref (A 0)] M (hPi fun r M' => r = (sp_undo σ).1 ∧ mP K A M (sp_undo σ).2 M') := by
  refine hC.of [some (.ref (A 0)), none] (by decide) (Nat.le_of_ble_eq_true rfl) rfl rfl ?_
  intro E C Rt
  have C : hCx E K cX6_undo 2 RX6 "undo" rm_X6_undo := C
  obtain ⟨u, hu⟩ : ∃ u, u = σ.2.1.1 := ⟨_, rfl⟩
  have hu6 : u ≤ 6 := by rw [hu]; exact ho.2.1
  have hz : z 0 = nI u := by rw [hu]; exact hr.1
  obtain ⟨M0, hM0⟩ : ∃ M0 : hM, M0 = M := ⟨_, rfl⟩
  rw [← hM0] at Rt
  have l1 : ∀ (d n : Nat), n + d = 728 → ∀ M : hM, mW K A (va_up z 0 (nI (u - 1))) (va_up F 1 (cpy (F 1) (fun k => F 3 ((u - 1) * 728 + k)) n)) (G) M → hFr 100 200 M0 M → (∀ M2 : hM, mW K A (va_up z 0 (nI (u - 1))) (va_up F 1 (cpy (F 1) (fun k => F 3 ((u - 1) * 728 + k)) 728)) (G) M2 → hFr 100 200 M0 M2 → hX E 0 0 56 [some (.ref (A 0)), none] [] M2) → hX E 0 0 22 [some (.ref (A 0)), some (.int (nI n))] [] M := by
    intro d
    induction d with
    | zero =>
      intro n hn M W fr hx
      have hn : n = 728 := by omega
      subst hn
      refine x_iload_1 23 C dX6_undo_22 rfl ?_
      refine x_sipush (v := 728) 26 C dX6_undo_23 rfl rfl ?_
      refine x_icmp_ge 29 56 C dX6_undo_26 rfl rfl (fun _ => ?_) (fun z => absurd (nI_le (Nat.le_refl _) (by decide)) z)
      refine x_fg_1 ?_
      exact hx M W fr
    | succ d ih =>
      intro n hn M W fr hx
      have hn8 : n < 728 := by omega
      refine x_iload_1 23 C dX6_undo_22 rfl ?_
      refine x_sipush (v := 728) 26 C dX6_undo_23 rfl rfl ?_
      refine x_icmp_ge 29 56 C dX6_undo_26 rfl rfl (fun z => absurd z (nI_ge hn8 (by decide))) (fun _ => ?_)
      refine x_aload_0 30 C dX6_undo_29 rfl ?_
      refine mOg_now 33 C wf_X6_7 W.obj dX6_undo_30 rfl ?_
      refine x_iload_1 34 C dX6_undo_33 rfl ?_
      refine x_aload_0 35 C dX6_undo_34 rfl ?_
      refine mOg_history 38 C wf_X6_17 W.obj dX6_undo_35 rfl ?_
      refine x_aload_0 39 C dX6_undo_38 rfl ?_
      refine mOg_undos 42 C wf_X6_53 W.obj dX6_undo_39 rfl ?_
      refine x_topi (va_up_self _ _ _) ?_
      refine x_sipush (v := 728) 45 C dX6_undo_42 rfl rfl ?_
      refine x_imul 46 C dX6_undo_45 rfl ?_
      refine x_topi (v' := nI ((u - 1) * 728)) (pk_mul _ 728) ?_
      refine x_iload_1 47 C dX6_undo_46 rfl ?_
      refine x_iadd 48 C dX6_undo_47 rfl ?_
      refine x_iald 49 ((u - 1) * 728 + n) C W.history (nI_add _ _) (by omega) (by decide) dX6_undo_48 rfl ?_
      refine x_iast 50 (n) C W.now (rfl) (by omega) (by decide) dX6_undo_49 rfl ?_
      refine x_m_now W (fun M_1 W o_1 => ?_)
      rw [va_uu] at W
      have W : mW K A (va_up z 0 (nI (u - 1))) (va_up F 1 (cpy (F 1) (fun k => F 3 ((u - 1) * 728 + k)) (n + 1))) (G) M_1 := by rw [← (cpy_s (f := F 1) (g := fun k => F 3 ((u - 1) * 728 + k)) (n := n))]; exact W
      refine x_iinc_1 53 C dX6_undo_50 rfl rfl (nI_inc _) ?_
      refine x_goto 22 C dX6_undo_53 rfl ?_
      exact ih (n + 1) (by omega) M_1 W (fr.tr o_1) hx
  have l2 : ∀ (d n : Nat), n + d = 8 → ∀ M : hM, mW K A (va_up z 0 (nI (u - 1))) (va_up F 1 (cpy (F 1) (fun k => F 3 ((u - 1) * 728 + k)) 728)) (va_up G 2 (cpy (G 2) (fun k => G 4 ((u - 1) * 8 + k)) n)) M → hFr 100 200 M0 M → (∀ M2 : hM, mW K A (va_up z 0 (nI (u - 1))) (va_up F 1 (cpy (F 1) (fun k => F 3 ((u - 1) * 728 + k)) 728)) (va_up G 2 (cpy (G 2) (fun k => G 4 ((u - 1) * 8 + k)) 8)) M2 → hFr 100 200 M0 M2 → hX E 0 0 90 [some (.ref (A 0)), none] [] M2) → hX E 0 0 58 [some (.ref (A 0)), some (.int (nI n))] [] M := by
    intro d
    induction d with
    | zero =>
      intro n hn M W fr hx
      have hn : n = 8 := by omega
      subst hn
      refine x_iload_1 59 C dX6_undo_58 rfl ?_
      refine x_bipush (v := 8) 61 C dX6_undo_59 rfl rfl ?_
      refine x_icmp_ge 64 90 C dX6_undo_61 rfl rfl (fun _ => ?_) (fun z => absurd (nI_le (Nat.le_refl _) (by decide)) z)
      refine x_fg_1 ?_
      exact hx M W fr
    | succ d ih =>
      intro n hn M W fr hx
      have hn8 : n < 8 := by omega
      refine x_iload_1 59 C dX6_undo_58 rfl ?_
      refine x_bipush (v := 8) 61 C dX6_undo_59 rfl rfl ?_
      refine x_icmp_ge 64 90 C dX6_undo_61 rfl rfl (fun z => absurd z (nI_ge hn8 (by decide))) (fun _ => ?_)
      refine x_aload_0 65 C dX6_undo_64 rfl ?_
      refine mOg_cells 68 C wf_X6_13 W.obj dX6_undo_65 rfl ?_
      refine x_iload_1 69 C dX6_undo_68 rfl ?_
      refine x_aload_0 70 C dX6_undo_69 rfl ?_
      refine mOg_historyCells 73 C wf_X6_20 W.obj dX6_undo_70 rfl ?_
      refine x_aload_0 74 C dX6_undo_73 rfl ?_
      refine mOg_undos 77 C wf_X6_53 W.obj dX6_undo_74 rfl ?_
      refine x_topi (va_up_self _ _ _) ?_
      refine x_bipush (v := 8) 79 C dX6_undo_77 rfl rfl ?_
      refine x_imul 80 C dX6_undo_79 rfl ?_
      refine x_topi (v' := nI ((u - 1) * 8)) (pk_mul _ 8) ?_
      refine x_iload_1 81 C dX6_undo_80 rfl ?_
      refine x_iadd 82 C dX6_undo_81 rfl ?_
      refine x_lald 83 ((u - 1) * 8 + n) C W.historyCells (nI_add _ _) (by omega) (by decide) dX6_undo_82 rfl ?_
      refine x_last 84 (n) C W.cells (rfl) (by omega) (by decide) dX6_undo_83 rfl ?_
      refine x_m_cells W (fun M_1 W o_1 => ?_)
      rw [va_uu] at W
      have W : mW K A (va_up z 0 (nI (u - 1))) (va_up F 1 (cpy (F 1) (fun k => F 3 ((u - 1) * 728 + k)) 728)) (va_up G 2 (cpy (G 2) (fun k => G 4 ((u - 1) * 8 + k)) (n + 1))) M_1 := by rw [← (cpy_s (f := G 2) (g := fun k => G 4 ((u - 1) * 8 + k)) (n := n))]; exact W
      refine x_iinc_1 87 C dX6_undo_84 rfl rfl (nI_inc _) ?_
      refine x_goto 58 C dX6_undo_87 rfl ?_
      exact ih (n + 1) (by omega) M_1 W (fr.tr o_1) hx
  refine x_aload_0 1 C dX6_undo_0 rfl ?_
  refine mOg_undos 4 C wf_X6_53 W.obj dX6_undo_1 rfl ?_
  refine x_topi hz ?_
  refine x_if_ne 7 10 C dX6_undo_4 rfl rfl (fun c_4 => ?_) (fun c_4 => ?_)
  · have h0 : ¬ u = 0 := fun q => c_4 (by rw [q]; rfl)
    refine x_aload_0 11 C dX6_undo_10 rfl ?_
    refine x_dup 12 C dX6_undo_11 rfl rfl ?_
    refine mOg_undos 15 C wf_X6_53 W.obj dX6_undo_12 rfl ?_
    refine x_topi hz ?_
    refine x_iconst (v := 1) 16 C dX6_undo_15 rfl rfl ?_
    refine x_isub 17 C dX6_undo_16 rfl ?_
    refine x_topi (v' := nI (u - 1)) (pk_sub (a := u) (b := 1) (by omega)) ?_
    refine mOp_undos 20 C wf_X6_53 W.obj dX6_undo_17 rfl ?_
    refine x_m_obj W (fun M_1 W o_1 => ?_)
    refine x_iconst (v := 0) 21 C dX6_undo_20 rfl rfl ?_
    refine x_istore_1 22 C dX6_undo_21 rfl rfl ?_
    refine l1 728 0 rfl _ (by rw [cpy_0, va_id]; exact W) (by rw [hM0]; exact o_1) (fun M W fr => ?_)
    refine x_iconst (v := 0) 57 C dX6_undo_56 rfl rfl ?_
    refine x_istore_1 58 C dX6_undo_57 rfl rfl ?_
    refine l2 8 0 rfl _ (by rw [cpy_0, va_id]; exact W) fr (fun M W fr => ?_)
    refine x_aload_0 91 C dX6_undo_90 rfl ?_
    refine mOg_undos 94 C wf_X6_53 W.obj dX6_undo_91 rfl ?_
    refine x_topi (va_up_self _ _ _) ?_
    refine x_ireturn C Rt dX6_undo_94 rfl ⟨Nat.le_of_ble_eq_true rfl, Nat.le_of_ble_eq_true rfl⟩ ?_
    have hsp : sp_undo σ = (nI (u - 1), (σ.2.1.2 (u - 1), (u - 1, σ.2.1.2), σ.2.2)) := by rw [sp_undo, if_neg (by omega), ← hu]
    obtain ⟨e1, e2⟩ := hr.2.2.2.2.1 (u - 1) (by omega)
    exact ⟨_, rfl, by rw [hsp], by rw [hsp]; exact ⟨⟨_, _, _, W, va_up_self _ _ _, hr.2.1, e1.congr (ho.2.2.1 (u - 1) (by omega)).len (fun k hk => cpy_in (f := F 1) (g := fun k => F 3 ((u - 1) * 728 + k)) hk), e2.congr (fun k hk => cpy_in (f := G 2) (g := fun k => G 4 ((u - 1) * 8 + k)) hk), fun i hi => hr.2.2.2.2.1 i (by have hi : i < u - 1 := hi; omega), hr.2.2.2.2.2.1, hr.2.2.2.2.2.2⟩, fr⟩⟩
  · refine x_bipush (v := (-5)) 9 C dX6_undo_7 rfl rfl ?_
    refine x_ireturn C Rt dX6_undo_9 rfl ⟨Nat.le_of_ble_eq_true rfl, Nat.le_of_ble_eq_true rfl⟩ ?_
    have h0 : u = 0 := (nI_eq (by omega) (by decide)).mp c_4
    exact ⟨_, rfl, by rw [sp_undo, if_pos (by omega)], by rw [sp_undo, if_pos (by omega), hM0]; exact ⟨⟨z, F, G, W, hr⟩, hFr.rf⟩⟩
theorem slot_save {f7 f5 F1 : Nat → Int32} {g6 G2 : Nat → Int64} {sl : Nat → Option hS1} {s : Nat} {n : hS1} (h : slotM f7 f5 g6 sl) (hs : s < 2) (n1 : encN n F1) (n2 : encC n G2) (ok : ok1 n) (okl : ∀ i τ, i < 2 → sl i = some τ → ok1 τ) :
    slotM (va_up f7 s 1) (blk f5 (s * 728) F1 728) (blk g6 (s * 8) G2 8) (va_up sl s (some n)) := by
  intro i hi
  by_cases e : i = s
  · subst e
    rw [va_up_self, va_up_self]
    refine ⟨fun q => (by cases q), fun τ hτ => ?_⟩
    cases hτ
    exact ⟨rfl, n1.congr ok.len (fun k hk => blk_in hk), n2.congr (fun k hk => blk_in hk)⟩
  · rw [va_up_ne _ _ e, va_up_ne _ _ e]
    refine ⟨(h i hi).1, fun τ hτ => ?_⟩
    obtain ⟨a, b, c⟩ := (h i hi).2 τ hτ
    refine ⟨a, b.congr (okl i τ hi hτ).len (fun k hk => blk_out ?_), c.congr (fun k hk => blk_out ?_)⟩
    · rcases Nat.lt_or_gt_of_ne e with q | q
      · left; omega
      · right; omega
    · rcases Nat.lt_or_gt_of_ne e with q | q
      · left; omega
      · right; omega
set_option maxHeartbeats 4000000 in
set_option maxRecDepth 100000 in
theorem c_X6_save (K : hKv) (M : hM) {A : Nat → Nat} {z : Nat → Int32} {F : Nat → Nat → Int32} {G : Nat → Nat → Int64} (W : mW K A z F G M) {σ : hSt} (hr : repM z F G σ) (ho : okS σ) (a : Int32) : hC K Y_X6_save rm_X6_save [.ref (A 0), .int a] M (hPi fun r M' => r = (sp_save σ a).1 ∧ mP K A M (sp_save σ a).2 M') := by
  refine hC.of [some (.ref (A 0)), some (.int a), none] (by decide) (Nat.le_of_ble_eq_true rfl) rfl rfl ?_
  intro E C Rt
  have C : hCx E K cX6_save 3 RX6 "save" rm_X6_save := C
  refine x_iload_1 1 C dX6_save_0 rfl ?_
  refine x_iconst (v := 0) 2 C dX6_save_1 rfl rfl ?_
  refine x_iconst (v := 1) 3 C dX6_save_2 rfl rfl ?_
  refine x_callS 6 C (c_X6_in K _ _ _ _) hy_X6_in ws_X6_in lk_X6_57 dX6_save_3 rfl ⟨Nat.le_of_ble_eq_true rfl, Nat.le_of_ble_eq_true rfl⟩ ⟨Nat.le_of_ble_eq_true rfl, Nat.le_of_ble_eq_true rfl⟩ (Nat.le_of_ble_eq_true rfl) rfl (k_0 rfl rfl (k_ip ?_))
  refine x_if_ne 9 12 C dX6_save_6 rfl rfl (fun c_6 => ?_) (fun c_6 => ?_)
  · simp only [Classical.not_not, hB_0p, hB_n0p, Int32.toInt_toInt64, tl_LG, ti_m1, Int32.lt_iff_toInt_lt, Int32.le_iff_toInt_le, Int64.lt_iff_toInt_lt, Int64.le_iff_toInt_le, tl_0, ti_0, tl_1, ti_1, tl_2, ti_2, tl_3, ti_3, tl_4, ti_4, tl_5, ti_5, tl_6, ti_6, tl_7, ti_7, tl_8, ti_8, tl_9, ti_9, tl_10, ti_10, tl_33, ti_33, tl_60, ti_60, tl_100, ti_100, tl_126, ti_126, tl_255, ti_255, tl_500, ti_500, tl_9999, ti_9999, tl_10000, ti_10000, tl_100000, ti_100000, tl_1000000, ti_1000000, tl_1000000000, ti_1000000000] at c_6
    obtain ⟨s, hs, rfl⟩ := in_nI (b := 1) c_6
    obtain ⟨M0, hM0⟩ : ∃ M0 : hM, M0 = M := ⟨_, rfl⟩
    rw [← hM0] at Rt
    have l1 : ∀ (d n : Nat), n + d = 728 → ∀ M : hM, mW K A (z) (va_up F 5 (blk (F 5) (s * 728) (F 1) n)) (G) M → hFr 100 200 M0 M → (∀ M2 : hM, mW K A (z) (va_up F 5 (blk (F 5) (s * 728) (F 1) 728)) (G) M2 → hFr 100 200 M0 M2 → hX E 0 0 45 [some (.ref (A 0)), some (.int (nI s)), none] [] M2) → hX E 0 0 14 [some (.ref (A 0)), some (.int (nI s)), some (.int (nI n))] [] M := by
      intro d
      induction d with
      | zero =>
        intro n hn M W fr hx
        have hn : n = 728 := by omega
        subst hn
        refine x_iload_2 15 C dX6_save_14 rfl ?_
        refine x_sipush (v := 728) 18 C dX6_save_15 rfl rfl ?_
        refine x_icmp_ge 21 45 C dX6_save_18 rfl rfl (fun _ => ?_) (fun z => absurd (nI_le (Nat.le_refl _) (by decide)) z)
        refine x_fg_2 ?_
        exact hx M W fr
      | succ d ih =>
        intro n hn M W fr hx
        have hn8 : n < 728 := by omega
        refine x_iload_2 15 C dX6_save_14 rfl ?_
        refine x_sipush (v := 728) 18 C dX6_save_15 rfl rfl ?_
        refine x_icmp_ge 21 45 C dX6_save_18 rfl rfl (fun z => absurd z (nI_ge hn8 (by decide))) (fun _ => ?_)
        refine x_aload_0 22 C dX6_save_21 rfl ?_
        refine mOg_saved 25 C wf_X6_23 W.obj dX6_save_22 rfl ?_
        refine x_iload_1 26 C dX6_save_25 rfl ?_
        refine x_sipush (v := 728) 29 C dX6_save_26 rfl rfl ?_
        refine x_imul 30 C dX6_save_29 rfl ?_
        refine x_topi (v' := nI (s * 728)) (pk_mul s 728) ?_
        refine x_iload_2 31 C dX6_save_30 rfl ?_
        refine x_iadd 32 C dX6_save_31 rfl ?_
        refine x_aload_0 33 C dX6_save_32 rfl ?_
        refine mOg_now 36 C wf_X6_7 W.obj dX6_save_33 rfl ?_
        refine x_iload_2 37 C dX6_save_36 rfl ?_
        refine x_iald 38 (n) C W.now (rfl) (by omega) (by decide) dX6_save_37 rfl ?_
        refine x_iast 39 (s * 728 + n) C W.saved (nI_add _ _) (by omega) (by decide) dX6_save_38 rfl ?_
        refine x_m_saved W (fun M_1 W o_1 => ?_)
        rw [va_uu] at W
        have W : mW K A (z) (va_up F 5 (blk (F 5) (s * 728) (F 1) (n + 1))) (G) M_1 := by rw [← (blk_s (f := F 5) (g := F 1) (b := s * 728) (n := n))]; exact W
        refine x_iinc_2 42 C dX6_save_39 rfl rfl (nI_inc _) ?_
        refine x_goto 14 C dX6_save_42 rfl ?_
        exact ih (n + 1) (by omega) M_1 W (fr.tr o_1) hx
    have l2 : ∀ (d n : Nat), n + d = 8 → ∀ M : hM, mW K A (z) (va_up F 5 (blk (F 5) (s * 728) (F 1) 728)) (va_up G 6 (blk (G 6) (s * 8) (G 2) n)) M → hFr 100 200 M0 M → (∀ M2 : hM, mW K A (z) (va_up F 5 (blk (F 5) (s * 728) (F 1) 728)) (va_up G 6 (blk (G 6) (s * 8) (G 2) 8)) M2 → hFr 100 200 M0 M2 → hX E 0 0 76 [some (.ref (A 0)), some (.int (nI s)), none] [] M2) → hX E 0 0 47 [some (.ref (A 0)), some (.int (nI s)), some (.int (nI n))] [] M := by
      intro d
      induction d with
      | zero =>
        intro n hn M W fr hx
        have hn : n = 8 := by omega
        subst hn
        refine x_iload_2 48 C dX6_save_47 rfl ?_
        refine x_bipush (v := 8) 50 C dX6_save_48 rfl rfl ?_
        refine x_icmp_ge 53 76 C dX6_save_50 rfl rfl (fun _ => ?_) (fun z => absurd (nI_le (Nat.le_refl _) (by decide)) z)
        refine x_fg_2 ?_
        exact hx M W fr
      | succ d ih =>
        intro n hn M W fr hx
        have hn8 : n < 8 := by omega
        refine x_iload_2 48 C dX6_save_47 rfl ?_
        refine x_bipush (v := 8) 50 C dX6_save_48 rfl rfl ?_
        refine x_icmp_ge 53 76 C dX6_save_50 rfl rfl (fun z => absurd z (nI_ge hn8 (by decide))) (fun _ => ?_)
        refine x_aload_0 54 C dX6_save_53 rfl ?_
        refine mOg_savedCells 57 C wf_X6_26 W.obj dX6_save_54 rfl ?_
        refine x_iload_1 58 C dX6_save_57 rfl ?_
        refine x_bipush (v := 8) 60 C dX6_save_58 rfl rfl ?_
        refine x_imul 61 C dX6_save_60 rfl ?_
        refine x_topi (v' := nI (s * 8)) (pk_mul s 8) ?_
        refine x_iload_2 62 C dX6_save_61 rfl ?_
        refine x_iadd 63 C dX6_save_62 rfl ?_
        refine x_aload_0 64 C dX6_save_63 rfl ?_
        refine mOg_cells 67 C wf_X6_13 W.obj dX6_save_64 rfl ?_
        refine x_iload_2 68 C dX6_save_67 rfl ?_
        refine x_lald 69 (n) C W.cells (rfl) (by omega) (by decide) dX6_save_68 rfl ?_
        refine x_last 70 (s * 8 + n) C W.savedCells (nI_add _ _) (by omega) (by decide) dX6_save_69 rfl ?_
        refine x_m_savedCells W (fun M_1 W o_1 => ?_)
        rw [va_uu] at W
        have W : mW K A (z) (va_up F 5 (blk (F 5) (s * 728) (F 1) 728)) (va_up G 6 (blk (G 6) (s * 8) (G 2) (n + 1))) M_1 := by rw [← (blk_s (f := G 6) (g := G 2) (b := s * 8) (n := n))]; exact W
        refine x_iinc_2 73 C dX6_save_70 rfl rfl (nI_inc _) ?_
        refine x_goto 47 C dX6_save_73 rfl ?_
        exact ih (n + 1) (by omega) M_1 W (fr.tr o_1) hx
    have hsp : sp_save σ (nI s) = (fset σ.1, (σ.1, σ.2.1, va_up σ.2.2.1 s (some σ.1), σ.2.2.2)) := by rw [sp_save, spQ_t c_6, nI_toN (by omega)]
    refine x_iconst (v := 0) 13 C dX6_save_12 rfl rfl ?_
    refine x_istore_2 14 C dX6_save_13 rfl rfl ?_
    refine l1 728 0 rfl _ (by rw [blk_0, va_id]; exact W) (by rw [hM0]; exact hFr.rf) (fun M W fr => ?_)
    refine x_iconst (v := 0) 46 C dX6_save_45 rfl rfl ?_
    refine x_istore_2 47 C dX6_save_46 rfl rfl ?_
    refine l2 8 0 rfl _ (by rw [blk_0, va_id]; exact W) fr (fun M W fr => ?_)
    refine x_aload_0 77 C dX6_save_76 rfl ?_
    refine mOg_isSaved 80 C wf_X6_29 W.obj dX6_save_77 rfl ?_
    refine x_iload_1 81 C dX6_save_80 rfl ?_
    refine x_iconst (v := 1) 82 C dX6_save_81 rfl rfl ?_
    refine x_zast 83 (s) C W.isSaved (rfl) (by omega) (by decide) (rfl) dX6_save_82 rfl ?_
    refine x_m_isSaved W (fun M_1 W o_1 => ?_)
    refine x_aload_0 84 C dX6_save_83 rfl ?_
    refine x_callV 87 C (c_X6_formulas K _ W (τ := σ.1) hr.2.2.1 ho.1) W.obj wcl_X6 hy_X6_formulas wv_X6_formulas we_X6_formulas lk_X6_168 dX6_save_84 rfl ⟨Nat.le_of_ble_eq_true rfl, Nat.le_of_ble_eq_true rfl⟩ ⟨Nat.le_of_ble_eq_true rfl, Nat.le_of_ble_eq_true rfl⟩ (Nat.le_of_ble_eq_true rfl) rfl (k_0 rfl rfl (k_ip ?_))
    refine x_ireturn C Rt dX6_save_87 rfl ⟨Nat.le_of_ble_eq_true rfl, Nat.le_of_ble_eq_true rfl⟩ ?_
    exact ⟨_, rfl, by rw [hsp], by rw [hsp]; exact ⟨⟨_, _, _, W, hr.1, hr.2.1, hr.2.2.1, hr.2.2.2.1, hr.2.2.2.2.1, slot_save hr.2.2.2.2.2.1 (by omega) hr.2.2.1 hr.2.2.2.1 ho.1 (fun i τ hi hτ => ho.2.2.2.1 i τ hi hτ), hr.2.2.2.2.2.2⟩, fr.tr o_1⟩⟩
  · refine x_bipush (v := (-2)) 11 C dX6_save_9 rfl rfl ?_
    refine x_ireturn C Rt dX6_save_11 rfl ⟨Nat.le_of_ble_eq_true rfl, Nat.le_of_ble_eq_true rfl⟩ ?_
    simp only [Classical.not_not, hB_0p, hB_n0p, Int32.toInt_toInt64, tl_LG, ti_m1, Int32.lt_iff_toInt_lt, Int32.le_iff_toInt_le, Int64.lt_iff_toInt_lt, Int64.le_iff_toInt_le, tl_0, ti_0, tl_1, ti_1, tl_2, ti_2, tl_3, ti_3, tl_4, ti_4, tl_5, ti_5, tl_6, ti_6, tl_7, ti_7, tl_8, ti_8, tl_9, ti_9, tl_10, ti_10, tl_33, ti_33, tl_60, ti_60, tl_100, ti_100, tl_126, ti_126, tl_255, ti_255, tl_500, ti_500, tl_9999, ti_9999, tl_10000, ti_10000, tl_100000, ti_100000, tl_1000000, ti_1000000, tl_1000000000, ti_1000000000] at c_6
    exact ⟨_, rfl, by rw [sp_save, spQ_f (by omega)], by rw [sp_save, spQ_f (by omega)]; exact ⟨⟨z, F, G, W, hr⟩, hFr.rf⟩⟩
set_option maxHeartbeats 4000000 in
set_option maxRecDepth 100000 in
theorem c_X6_restore (K : hKv) (M : hM) {A : Nat → Nat} {z : Nat → Int32} {F : Nat → Nat → Int32} {G : Nat → Nat → Int64} (W : mW K A z F G M) {σ : hSt} (hr : repM z F G σ) (ho : okS σ) (a : Int32) : hC K Y_X6_restore rm_X6_restore [.ref (A 0), .int a] M (hPi fun r M' => r = (sp_restore σ a).1 ∧ mP K A M (sp_restore σ a).2 M') := by
  refine hC.of [some (.ref (A 0)), some (.int a), none] (by decide) (Nat.le_of_ble_eq_true rfl) rfl rfl ?_
  intro E C Rt
  have C : hCx E K cX6_restore 3 RX6 "restore" rm_X6_restore := C
  refine x_iload_1 1 C dX6_restore_0 rfl ?_
  refine x_iconst (v := 0) 2 C dX6_restore_1 rfl rfl ?_
  refine x_iconst (v := 1) 3 C dX6_restore_2 rfl rfl ?_
  refine x_callS 6 C (c_X6_in K _ _ _ _) hy_X6_in ws_X6_in lk_X6_57 dX6_restore_3 rfl ⟨Nat.le_of_ble_eq_true rfl, Nat.le_of_ble_eq_true rfl⟩ ⟨Nat.le_of_ble_eq_true rfl, Nat.le_of_ble_eq_true rfl⟩ (Nat.le_of_ble_eq_true rfl) rfl (k_0 rfl rfl (k_ip ?_))
  refine x_if_ne 9 12 C dX6_restore_6 rfl rfl (fun c_6 => ?_) (fun c_6 => ?_)
  · simp only [Classical.not_not, hB_0p, hB_n0p, Int32.toInt_toInt64, tl_LG, ti_m1, Int32.lt_iff_toInt_lt, Int32.le_iff_toInt_le, Int64.lt_iff_toInt_lt, Int64.le_iff_toInt_le, tl_0, ti_0, tl_1, ti_1, tl_2, ti_2, tl_3, ti_3, tl_4, ti_4, tl_5, ti_5, tl_6, ti_6, tl_7, ti_7, tl_8, ti_8, tl_9, ti_9, tl_10, ti_10, tl_33, ti_33, tl_60, ti_60, tl_100, ti_100, tl_126, ti_126, tl_255, ti_255, tl_500, ti_500, tl_9999, ti_9999, tl_10000, ti_10000, tl_100000, ti_100000, tl_1000000, ti_1000000, tl_1000000000, ti_1000000000] at c_6
    obtain ⟨s, hs, rfl⟩ := in_nI (b := 1) c_6
    obtain ⟨M0, hM0⟩ : ∃ M0 : hM, M0 = M := ⟨_, rfl⟩
    rw [← hM0] at Rt
    obtain ⟨s1, s2⟩ := hr.2.2.2.2.2.1 s (by omega)
    refine x_aload_0 13 C dX6_restore_12 rfl ?_
    refine mOg_isSaved 16 C wf_X6_29 W.obj dX6_restore_13 rfl ?_
    refine x_iload_1 17 C dX6_restore_16 rfl ?_
    refine x_zald 18 (s) C W.isSaved (rfl) (by omega) (by decide) dX6_restore_17 rfl ?_
    refine x_if_ne 21 24 C dX6_restore_18 rfl rfl (fun c_18 => ?_) (fun c_18 => ?_)
    · obtain ⟨τ, hτ⟩ : ∃ τ, σ.2.2.1 s = some τ := by
        cases h : σ.2.2.1 s with
        | none => exact absurd (s1 h) c_18
        | some τ => exact ⟨τ, rfl⟩
      obtain ⟨-, t1, t2⟩ := s2 τ hτ
      have okt := ho.2.2.2.1 s τ (by omega) hτ
      have hsp : sp_restore σ (nI s) = (fset τ, recd σ τ) := by rw [sp_restore, spQ_t c_6, nI_toN (by omega), hτ]
      refine x_aload_0 25 C dX6_restore_24 rfl ?_
      refine x_callV 28 C (c_X6_record K _ W σ.2.1.1 ho.2.1 hr.1) W.obj wcl_X6 hy_X6_record wv_X6_record we_X6_record lk_X6_61 dX6_restore_25 rfl ⟨Nat.le_of_ble_eq_true rfl, Nat.le_of_ble_eq_true rfl⟩ ⟨Nat.le_of_ble_eq_true rfl, Nat.le_of_ble_eq_true rfl⟩ (Nat.le_of_ble_eq_true rfl) rfl (k_0 rfl rfl (k_v (fun M_1 hp_1 => ?_)))
      obtain ⟨f_h, g_h, W, o_1, p1, p2, p3, p4⟩ := hp_1
      have hh := hist_psh ho.2.1 hr.2.2.2.2.1 hr.2.2.1 hr.2.2.2.1 ho.1 ho.2.2.1 p1 p2 p3 p4
      rw [← psh_n (n := σ.1)] at W
      have l1 : ∀ (d n : Nat), n + d = 728 → ∀ M : hM, mW K A (va_up z 0 (nI (psh σ.2.1 σ.1).1)) (va_up (va_up F 3 f_h) 1 (cpy (F 1) (fun k => F 5 (s * 728 + k)) n)) (va_up G 4 g_h) M → hFr 100 200 M0 M → (∀ M2 : hM, mW K A (va_up z 0 (nI (psh σ.2.1 σ.1).1)) (va_up (va_up F 3 f_h) 1 (cpy (F 1) (fun k => F 5 (s * 728 + k)) 728)) (va_up G 4 g_h) M2 → hFr 100 200 M0 M2 → hX E 0 0 61 [some (.ref (A 0)), some (.int (nI s)), none] [] M2) → hX E 0 0 30 [some (.ref (A 0)), some (.int (nI s)), some (.int (nI n))] [] M := by
        intro d
        induction d with
        | zero =>
          intro n hn M W fr hx
          have hn : n = 728 := by omega
          subst hn
          refine x_iload_2 31 C dX6_restore_30 rfl ?_
          refine x_sipush (v := 728) 34 C dX6_restore_31 rfl rfl ?_
          refine x_icmp_ge 37 61 C dX6_restore_34 rfl rfl (fun _ => ?_) (fun z => absurd (nI_le (Nat.le_refl _) (by decide)) z)
          refine x_fg_2 ?_
          exact hx M W fr
        | succ d ih =>
          intro n hn M W fr hx
          have hn8 : n < 728 := by omega
          refine x_iload_2 31 C dX6_restore_30 rfl ?_
          refine x_sipush (v := 728) 34 C dX6_restore_31 rfl rfl ?_
          refine x_icmp_ge 37 61 C dX6_restore_34 rfl rfl (fun z => absurd z (nI_ge hn8 (by decide))) (fun _ => ?_)
          refine x_aload_0 38 C dX6_restore_37 rfl ?_
          refine mOg_now 41 C wf_X6_7 W.obj dX6_restore_38 rfl ?_
          refine x_iload_2 42 C dX6_restore_41 rfl ?_
          refine x_aload_0 43 C dX6_restore_42 rfl ?_
          refine mOg_saved 46 C wf_X6_23 W.obj dX6_restore_43 rfl ?_
          refine x_iload_1 47 C dX6_restore_46 rfl ?_
          refine x_sipush (v := 728) 50 C dX6_restore_47 rfl rfl ?_
          refine x_imul 51 C dX6_restore_50 rfl ?_
          refine x_topi (v' := nI (s * 728)) (pk_mul s 728) ?_
          refine x_iload_2 52 C dX6_restore_51 rfl ?_
          refine x_iadd 53 C dX6_restore_52 rfl ?_
          refine x_iald 54 (s * 728 + n) C W.saved (nI_add _ _) (by omega) (by decide) dX6_restore_53 rfl ?_
          refine x_iast 55 (n) C W.now (rfl) (by omega) (by decide) dX6_restore_54 rfl ?_
          refine x_m_now W (fun M_1 W o_1 => ?_)
          rw [va_uu] at W
          have W : mW K A (va_up z 0 (nI (psh σ.2.1 σ.1).1)) (va_up (va_up F 3 f_h) 1 (cpy (F 1) (fun k => F 5 (s * 728 + k)) (n + 1))) (va_up G 4 g_h) M_1 := by rw [← (cpy_s (f := F 1) (g := fun k => F 5 (s * 728 + k)) (n := n))]; exact W
          refine x_iinc_2 58 C dX6_restore_55 rfl rfl (nI_inc _) ?_
          refine x_goto 30 C dX6_restore_58 rfl ?_
          exact ih (n + 1) (by omega) M_1 W (fr.tr o_1) hx
      have l2 : ∀ (d n : Nat), n + d = 8 → ∀ M : hM, mW K A (va_up z 0 (nI (psh σ.2.1 σ.1).1)) (va_up (va_up F 3 f_h) 1 (cpy (F 1) (fun k => F 5 (s * 728 + k)) 728)) (va_up (va_up G 4 g_h) 2 (cpy (G 2) (fun k => G 6 (s * 8 + k)) n)) M → hFr 100 200 M0 M → (∀ M2 : hM, mW K A (va_up z 0 (nI (psh σ.2.1 σ.1).1)) (va_up (va_up F 3 f_h) 1 (cpy (F 1) (fun k => F 5 (s * 728 + k)) 728)) (va_up (va_up G 4 g_h) 2 (cpy (G 2) (fun k => G 6 (s * 8 + k)) 8)) M2 → hFr 100 200 M0 M2 → hX E 0 0 92 [some (.ref (A 0)), some (.int (nI s)), none] [] M2) → hX E 0 0 63 [some (.ref (A 0)), some (.int (nI s)), some (.int (nI n))] [] M := by
        intro d
        induction d with
        | zero =>
          intro n hn M W fr hx
          have hn : n = 8 := by omega
          subst hn
          refine x_iload_2 64 C dX6_restore_63 rfl ?_
          refine x_bipush (v := 8) 66 C dX6_restore_64 rfl rfl ?_
          refine x_icmp_ge 69 92 C dX6_restore_66 rfl rfl (fun _ => ?_) (fun z => absurd (nI_le (Nat.le_refl _) (by decide)) z)
          refine x_fg_2 ?_
          exact hx M W fr
        | succ d ih =>
          intro n hn M W fr hx
          have hn8 : n < 8 := by omega
          refine x_iload_2 64 C dX6_restore_63 rfl ?_
          refine x_bipush (v := 8) 66 C dX6_restore_64 rfl rfl ?_
          refine x_icmp_ge 69 92 C dX6_restore_66 rfl rfl (fun z => absurd z (nI_ge hn8 (by decide))) (fun _ => ?_)
          refine x_aload_0 70 C dX6_restore_69 rfl ?_
          refine mOg_cells 73 C wf_X6_13 W.obj dX6_restore_70 rfl ?_
          refine x_iload_2 74 C dX6_restore_73 rfl ?_
          refine x_aload_0 75 C dX6_restore_74 rfl ?_
          refine mOg_savedCells 78 C wf_X6_26 W.obj dX6_restore_75 rfl ?_
          refine x_iload_1 79 C dX6_restore_78 rfl ?_
          refine x_bipush (v := 8) 81 C dX6_restore_79 rfl rfl ?_
          refine x_imul 82 C dX6_restore_81 rfl ?_
          refine x_topi (v' := nI (s * 8)) (pk_mul s 8) ?_
          refine x_iload_2 83 C dX6_restore_82 rfl ?_
          refine x_iadd 84 C dX6_restore_83 rfl ?_
          refine x_lald 85 (s * 8 + n) C W.savedCells (nI_add _ _) (by omega) (by decide) dX6_restore_84 rfl ?_
          refine x_last 86 (n) C W.cells (rfl) (by omega) (by decide) dX6_restore_85 rfl ?_
          refine x_m_cells W (fun M_1 W o_1 => ?_)
          rw [va_uu] at W
          have W : mW K A (va_up z 0 (nI (psh σ.2.1 σ.1).1)) (va_up (va_up F 3 f_h) 1 (cpy (F 1) (fun k => F 5 (s * 728 + k)) 728)) (va_up (va_up G 4 g_h) 2 (cpy (G 2) (fun k => G 6 (s * 8 + k)) (n + 1))) M_1 := by rw [← (cpy_s (f := G 2) (g := fun k => G 6 (s * 8 + k)) (n := n))]; exact W
          refine x_iinc_2 89 C dX6_restore_86 rfl rfl (nI_inc _) ?_
          refine x_goto 63 C dX6_restore_89 rfl ?_
          exact ih (n + 1) (by omega) M_1 W (fr.tr o_1) hx
      refine x_iconst (v := 0) 29 C dX6_restore_28 rfl rfl ?_
      refine x_istore_2 30 C dX6_restore_29 rfl rfl ?_
      refine l1 728 0 rfl _ (by rw [cpy_0, show F 1 = (va_up F 3 f_h) 1 from rfl, va_id]; exact W) (by rw [hM0]; exact (o_1)) (fun M W fr => ?_)
      refine x_iconst (v := 0) 62 C dX6_restore_61 rfl rfl ?_
      refine x_istore_2 63 C dX6_restore_62 rfl rfl ?_
      refine l2 8 0 rfl _ (by rw [cpy_0, show G 2 = (va_up G 4 g_h) 2 from rfl, va_id]; exact W) fr (fun M W fr => ?_)
      have t3 := t1.congr okt.len (fun k hk => cpy_in (f := F 1) (g := fun k => F 5 (s * 728 + k)) hk)
      refine x_aload_0 93 C dX6_restore_92 rfl ?_
      refine x_callV 96 C (c_X6_formulas K _ W (τ := τ) t3 okt) W.obj wcl_X6 hy_X6_formulas wv_X6_formulas we_X6_formulas lk_X6_168 dX6_restore_93 rfl ⟨Nat.le_of_ble_eq_true rfl, Nat.le_of_ble_eq_true rfl⟩ ⟨Nat.le_of_ble_eq_true rfl, Nat.le_of_ble_eq_true rfl⟩ (Nat.le_of_ble_eq_true rfl) rfl (k_0 rfl rfl (k_ip ?_))
      refine x_ireturn C Rt dX6_restore_96 rfl ⟨Nat.le_of_ble_eq_true rfl, Nat.le_of_ble_eq_true rfl⟩ ?_
      exact ⟨_, rfl, by rw [hsp], by rw [hsp]; exact ⟨⟨_, _, _, W, va_up_self _ _ _, hr.2.1, t3, t2.congr (fun k hk => cpy_in (f := G 2) (g := fun k => G 6 (s * 8 + k)) hk), hh, hr.2.2.2.2.2.1, hr.2.2.2.2.2.2⟩, fr⟩⟩
    · refine x_bipush (v := (-5)) 23 C dX6_restore_21 rfl rfl ?_
      refine x_ireturn C Rt dX6_restore_23 rfl ⟨Nat.le_of_ble_eq_true rfl, Nat.le_of_ble_eq_true rfl⟩ ?_
      have hn : σ.2.2.1 s = none := by
        cases h : σ.2.2.1 s with
        | none => rfl
        | some τ => exact absurd ((s2 τ h).1.symm.trans c_18) (by decide)
      have hsp : sp_restore σ (nI s) = (-5, σ) := by rw [sp_restore, spQ_t c_6, nI_toN (by omega), hn]
      exact ⟨_, rfl, by rw [hsp], by rw [hsp, hM0]; exact ⟨⟨z, F, G, W, hr⟩, hFr.rf⟩⟩
  · refine x_bipush (v := (-2)) 11 C dX6_restore_9 rfl rfl ?_
    refine x_ireturn C Rt dX6_restore_11 rfl ⟨Nat.le_of_ble_eq_true rfl, Nat.le_of_ble_eq_true rfl⟩ ?_
    simp only [Classical.not_not, hB_0p, hB_n0p, Int32.toInt_toInt64, tl_LG, ti_m1, Int32.lt_iff_toInt_lt, Int32.le_iff_toInt_le, Int64.lt_iff_toInt_lt, Int64.le_iff_toInt_le, tl_0, ti_0, tl_1, ti_1, tl_2, ti_2, tl_3, ti_3, tl_4, ti_4, tl_5, ti_5, tl_6, ti_6, tl_7, ti_7, tl_8, ti_8, tl_9, ti_9, tl_10, ti_10, tl_33, ti_33, tl_60, ti_60, tl_100, ti_100, tl_126, ti_126, tl_255, ti_255, tl_500, ti_500, tl_9999, ti_9999, tl_10000, ti_10000, tl_100000, ti_100000, tl_1000000, ti_1000000, tl_1000000000, ti_1000000000] at c_6
    exact ⟨_, rfl, by rw [sp_restore, spQ_f (by omega)], by rw [sp_restore, spQ_f (by omega)]; exact ⟨⟨z, F, G, W, hr⟩, hFr.rf⟩⟩
set_option maxHeartbeats 4000000 in
set_option maxRecDepth 100000 in
theorem c_X6_count (K : hKv) (M : hM) {A : Nat → Nat} {z : Nat → Int32} {F : Nat → Nat → Int32} {G : Nat → Nat → Int64} (W : mW K A z F G M) {σ : hSt} (hr : repM z F G σ) (ho : okS σ) (a : Int32) : hC K Y_X6_count rm_X6_count [.ref (A 0), .int a] M (hPi fun r M' => r = sp_count σ a ∧ M' = M) := by
  refine hC.of [some (.ref (A 0)), some (.int a), none, none] (by decide) (Nat.le_of_ble_eq_true rfl) rfl rfl ?_
  intro E C Rt
  have C : hCx E K cX6_count 4 RX6 "count" rm_X6_count := C
  have lp : ∀ (d n : Nat), n + d = 8 → ∀ x : Int32, x = nI (cnz (fun i => !(σ.1.2.2.1 i == 0)) n) → hX E 0 0 4 [some (.ref (A 0)), some (.int a), some (.int x), some (.int (nI n))] [] M := by
    intro d
    induction d with
    | zero =>
      intro n hn x hx
      have hn : n = 8 := by omega
      subst hn
      subst hx
      have hk : a = 0 ∨ a = 1 ∨ a = 2 ∨ a = 3 ∨ a = 4 ∨ (a.toInt < 0 ∨ 4 < a.toInt) := by
        by_cases h : a.toInt < 0 ∨ 4 < a.toInt
        · exact Or.inr (Or.inr (Or.inr (Or.inr (Or.inr h))))
        · obtain ⟨j, hj, rfl⟩ := in_nI (x := a) (b := 4) (by omega)
          rcases (show j = 0 ∨ j = 1 ∨ j = 2 ∨ j = 3 ∨ j = 4 by omega) with rfl | rfl | rfl | rfl | rfl
          · exact Or.inl rfl
          · exact Or.inr (Or.inl rfl)
          · exact Or.inr (Or.inr (Or.inl rfl))
          · exact Or.inr (Or.inr (Or.inr (Or.inl rfl)))
          · exact Or.inr (Or.inr (Or.inr (Or.inr (Or.inl rfl))))
      refine x_iload_3 5 C dX6_count_4 rfl ?_
      refine x_bipush (v := 8) 7 C dX6_count_5 rfl rfl ?_
      refine x_icmp_ge 10 35 C dX6_count_7 rfl rfl (fun _ => ?_) (fun z => absurd (nI_le (Nat.le_refl _) (by decide)) z)
      refine x_iload_1 36 C dX6_count_35 rfl ?_
      rcases hk with hk | hk | hk | hk | hk | hk
      · subst hk
        refine x_tabIn 72 C dX6_count_36 (by decide) (by decide) rfl rfl ?_
        refine x_aload_0 73 C dX6_count_72 rfl ?_
        refine x_callV 76 C (c_X6_formulas K _ W (τ := σ.1) hr.2.2.1 ho.1) W.obj wcl_X6 hy_X6_formulas wv_X6_formulas we_X6_formulas lk_X6_168 dX6_count_73 rfl ⟨Nat.le_of_ble_eq_true rfl, Nat.le_of_ble_eq_true rfl⟩ ⟨Nat.le_of_ble_eq_true rfl, Nat.le_of_ble_eq_true rfl⟩ (Nat.le_of_ble_eq_true rfl) rfl (k_0 rfl rfl (k_ip ?_))
        refine x_ireturn C Rt dX6_count_76 rfl ⟨Nat.le_of_ble_eq_true rfl, Nat.le_of_ble_eq_true rfl⟩ ?_
        exact ⟨_, rfl, by rw [sp_count, ti_0, if_pos rfl], rfl⟩
      · subst hk
        refine x_tabIn 77 C dX6_count_36 (by decide) (by decide) rfl rfl ?_
        refine x_aload_0 78 C dX6_count_77 rfl ?_
        refine mOg_signs 81 C wf_X6_74 W.obj dX6_count_78 rfl ?_
        refine x_ireturn C Rt dX6_count_81 rfl ⟨Nat.le_of_ble_eq_true rfl, Nat.le_of_ble_eq_true rfl⟩ ?_
        exact ⟨_, rfl, by rw [sp_count, ti_1, if_neg (by decide), if_pos rfl]; exact hr.2.1, rfl⟩
      · subst hk
        refine x_tabIn 82 C dX6_count_36 (by decide) (by decide) rfl rfl ?_
        refine x_aload_0 83 C dX6_count_82 rfl ?_
        refine mOg_undos 86 C wf_X6_53 W.obj dX6_count_83 rfl ?_
        refine x_ireturn C Rt dX6_count_86 rfl ⟨Nat.le_of_ble_eq_true rfl, Nat.le_of_ble_eq_true rfl⟩ ?_
        exact ⟨_, rfl, by rw [sp_count, ti_2, if_neg (by decide), if_neg (by decide), if_pos rfl]; exact hr.1, rfl⟩
      · subst hk
        refine x_tabIn 87 C dX6_count_36 (by decide) (by decide) rfl rfl ?_
        refine x_aload_0 88 C dX6_count_87 rfl ?_
        refine mOg_now 91 C wf_X6_7 W.obj dX6_count_88 rfl ?_
        refine x_iload_1 92 C dX6_count_91 rfl ?_
        refine x_iconst (v := 3) 93 C dX6_count_92 rfl rfl ?_
        refine x_isub 94 C dX6_count_93 rfl ?_
        refine x_iald 95 (0) C W.now (rfl) (by decide) (by decide) dX6_count_94 rfl ?_
        refine x_ireturn C Rt dX6_count_95 rfl ⟨Nat.le_of_ble_eq_true rfl, Nat.le_of_ble_eq_true rfl⟩ ?_
        exact ⟨_, rfl, by rw [sp_count, ti_3, if_neg (by decide), if_neg (by decide), if_neg (by decide), if_pos rfl]; exact hr.2.2.1.1, rfl⟩
      · subst hk
        refine x_tabIn 87 C dX6_count_36 (by decide) (by decide) rfl rfl ?_
        refine x_aload_0 88 C dX6_count_87 rfl ?_
        refine mOg_now 91 C wf_X6_7 W.obj dX6_count_88 rfl ?_
        refine x_iload_1 92 C dX6_count_91 rfl ?_
        refine x_iconst (v := 3) 93 C dX6_count_92 rfl rfl ?_
        refine x_isub 94 C dX6_count_93 rfl ?_
        refine x_iald 95 (1) C W.now (rfl) (by decide) (by decide) dX6_count_94 rfl ?_
        refine x_ireturn C Rt dX6_count_95 rfl ⟨Nat.le_of_ble_eq_true rfl, Nat.le_of_ble_eq_true rfl⟩ ?_
        exact ⟨_, rfl, by rw [sp_count, ti_4, if_neg (by decide), if_neg (by decide), if_neg (by decide), if_neg (by decide), if_pos rfl]; exact hr.2.2.1.2.1, rfl⟩
      · refine x_tabOut 96 C dX6_count_36 (by omega) rfl ?_
        refine x_iload_1 97 C dX6_count_96 rfl ?_
        refine x_iconst (v := 5) 98 C dX6_count_97 rfl rfl ?_
        refine x_icmp_ne 101 105 C dX6_count_98 rfl rfl (fun c_98 => ?_) (fun c_98 => ?_)
        · refine x_bipush (v := (-2)) 107 C dX6_count_105 rfl rfl ?_
          refine x_ireturn C Rt dX6_count_107 rfl ⟨Nat.le_of_ble_eq_true rfl, Nat.le_of_ble_eq_true rfl⟩ ?_
          have h5 : ¬ a.toInt = 5 := fun q => c_98 (Int32.toInt_inj.mp q)
          exact ⟨_, rfl, by rw [sp_count, if_neg (by omega), if_neg (by omega), if_neg (by omega), if_neg (by omega), if_neg (by omega), if_neg h5], rfl⟩
        · refine x_iload_2 102 C dX6_count_101 rfl ?_
          refine x_goto 107 C dX6_count_102 rfl ?_
          refine x_ireturn C Rt dX6_count_107 rfl ⟨Nat.le_of_ble_eq_true rfl, Nat.le_of_ble_eq_true rfl⟩ ?_
          subst c_98
          exact ⟨_, rfl, by rw [sp_count, ti_5, if_neg (by decide), if_neg (by decide), if_neg (by decide), if_neg (by decide), if_neg (by decide), if_pos rfl], rfl⟩
    | succ d ih =>
      intro n hn x hx
      subst hx
      have hn8 : n < 8 := by omega
      have hc := hr.2.2.2.1 n hn8
      have hl := ho.1.2.2.1 n hn8
      unfold LG at hl
      refine x_iload_3 5 C dX6_count_4 rfl ?_
      refine x_bipush (v := 8) 7 C dX6_count_5 rfl rfl ?_
      refine x_icmp_ge 10 35 C dX6_count_7 rfl rfl (fun z => absurd z (nI_ge hn8 (by decide))) (fun _ => ?_)
      refine x_iload_2 11 C dX6_count_10 rfl ?_
      refine x_aload_0 12 C dX6_count_11 rfl ?_
      refine mOg_cells 15 C wf_X6_13 W.obj dX6_count_12 rfl ?_
      refine x_iload_3 16 C dX6_count_15 rfl ?_
      refine x_lald 17 (n) C W.cells (rfl) (hn8) (by decide) dX6_count_16 rfl ?_
      refine x_topl hc ?_
      refine x_lconst (v := 0) 18 C dX6_count_17 rfl rfl ?_
      refine x_lc_eq 22 26 C dX6_count_18 dX6_count_19 rfl rfl (fun c_18 => ?_) (fun c_18 => ?_)
      · refine x_iconst (v := 0) 27 C dX6_count_26 rfl rfl ?_
        refine x_iadd 28 C dX6_count_27 rfl ?_
        refine x_istore_2 29 C dX6_count_28 rfl rfl ?_
        refine x_iinc_3 32 C dX6_count_29 rfl rfl (nI_inc _) ?_
        refine x_goto 4 C dX6_count_32 rfl ?_
        exact ih (n + 1) (by omega) _ (by
          have h0 : σ.1.2.2.1 n = 0 := (lN_eq' (b := 0) (by omega) (by decide)).mp c_18
          rw [cnz, show (!(σ.1.2.2.1 n == 0)) = false by rw [h0]; rfl]
          exact Int32.add_zero _)
      · refine x_iconst (v := 1) 23 C dX6_count_22 rfl rfl ?_
        refine x_goto 27 C dX6_count_23 rfl ?_
        refine x_iadd 28 C dX6_count_27 rfl ?_
        refine x_istore_2 29 C dX6_count_28 rfl rfl ?_
        refine x_iinc_3 32 C dX6_count_29 rfl rfl (nI_inc _) ?_
        refine x_goto 4 C dX6_count_32 rfl ?_
        exact ih (n + 1) (by omega) _ (by
          have h0 : ¬ σ.1.2.2.1 n = 0 := fun q => c_18 (by rw [q]; rfl)
          rw [cnz, show (!(σ.1.2.2.1 n == 0)) = true by rw [beq_false_of_ne h0]; rfl]
          exact nI_1 _)
  refine x_iconst (v := 0) 1 C dX6_count_0 rfl rfl ?_
  refine x_istore_2 2 C dX6_count_1 rfl rfl ?_
  refine x_iconst (v := 0) 3 C dX6_count_2 rfl rfl ?_
  refine x_istore_3 4 C dX6_count_3 rfl rfl ?_
  exact lp 8 0 (by omega) _ rfl
