noncomputable def sp_period (n : Int32) : Int32 := spQ (0 ≤ n.toInt ∧ n.toInt ≤ 100000) (spQ (sq 2 n.toInt.toNat * sq 2 n.toInt.toNat = n.toInt.toNat) (-6) (nI (perN n.toInt.toNat))) (-2)
noncomputable def sp_term (n k : Int32) : Int32 := spQ ((0 ≤ n.toInt ∧ n.toInt ≤ 100000) ∧ 0 ≤ k.toInt ∧ k.toInt ≤ 500) (spQ (0 < k.toInt ∧ sq 2 n.toInt.toNat * sq 2 n.toInt.toNat = n.toInt.toNat) (-6) (nI (ct n.toInt.toNat k.toInt.toNat))) (-2)
/-- the convergents: (upper, lower), (the ones before) -/
def cvS (n : Nat) : Nat → (Nat × Nat) × (Nat × Nat)
  | 0 => ((sq 2 n, 1), (1, 0))
  | i + 1 => ((ct n (i + 1) * (cvS n i).1.1 + (cvS n i).2.1, ct n (i + 1) * (cvS n i).1.2 + (cvS n i).2.2), (cvS n i).1)
def cvB (n i : Nat) : Prop := (cvS n i).1.1 ≤ LG ∧ (cvS n i).1.2 ≤ LG
noncomputable def sp_convergent (n k p : Int32) : Int64 := spQ ((0 ≤ n.toInt ∧ n.toInt ≤ 100000) ∧ (0 ≤ k.toInt ∧ k.toInt ≤ 500) ∧ 0 ≤ p.toInt ∧ p.toInt ≤ 1)
  (spQ (0 < k.toInt ∧ sq 2 n.toInt.toNat * sq 2 n.toInt.toNat = n.toInt.toNat) (-6) (spQ (∀ i, i ≤ k.toInt.toNat → cvB n.toInt.toNat i) (lN (if p.toInt = 0 then (cvS n.toInt.toNat k.toInt.toNat).1.1 else (cvS n.toInt.toNat k.toInt.toNat).1.2)) (-6))) (-2)
/-- the reference's memory at a term -/
def cfM (z : Nat → Int32) (n i : Nat) : Prop := z 8 = nI (sq 2 n) ∧ z 9 = nI (ct n i) ∧ z 10 = nI (cm n i) ∧ z 11 = nI (cd n i)
/-- only 8 to 11 are written -/
def msF (z z2 : Nat → Int32) : Prop := ∀ i, i < 8 → z2 i = z i
theorem msF.rf {z : Nat → Int32} : msF z z := fun _ _ => rfl
theorem msF.tr {z z1 z2 : Nat → Int32} (h : msF z z1) (g : msF z1 z2) : msF z z2 := fun i hi => (g i hi).trans (h i hi)
theorem msF.z {z : Nat → Int32} {k : Nat} {x : Int32} (hk : 8 ≤ k) : msF z (va_up z k x) := fun i hi => va_up_ne _ _ (by omega)
theorem repM_f {z z2 : Nat → Int32} {F : Nat → Nat → Int32} {G : Nat → Nat → Int64} {σ : hSt} (h : repM z F G σ) (m : msF z z2) : repM z2 F G σ := ⟨(m 0 (by decide)).trans h.1, (m 1 (by decide)).trans h.2.1, h.2.2⟩
/-- the number is no square, and small -/
def nsq (n : Nat) : Prop := n ≤ 100000 ∧ sq 2 n * sq 2 n < n
theorem nsq_all {n : Nat} (h : nsq n) (i : Nat) : cm n i ≤ cd n i * ct n i ∧ cd n i * ct n i ≤ sq 2 n + cm n i ∧ cm n (i + 1) * cm n (i + 1) ≤ n ∧ 1 ≤ cd n i ∧ 1 ≤ cd n (i + 1) ∧ cm n i ≤ 316 ∧ cd n i ≤ 632 ∧ ct n i ≤ 632 ∧ cm n (i + 1) ≤ 316 ∧ cd n (i + 1) ≤ 632 := by
  obtain ⟨w0, -, hn⟩ := cf_w h.1
  have h1 := cf_w1 hn h.2
  obtain ⟨a, b, -, e⟩ := cf_all h.2 hn h1 i
  obtain ⟨p1, p2, p3, -, p5⟩ := cf_inv h.2 hn h1 i
  obtain ⟨q1, q2, q3, -⟩ := cf_inv h.2 hn h1 (i + 1)
  have : ct n i ≤ sq 2 n + cm n i := by rw [p5]; exact Nat.div_le_self _ _
  exact ⟨a, b, by omega, p1, q1, by omega, by omega, by omega, by omega, by omega⟩
set_option maxHeartbeats 4000000 in
set_option maxRecDepth 100000 in
theorem c_X6_beginFraction (K : hKv) (M : hM) {A : Nat → Nat} {z : Nat → Int32} {F : Nat → Nat → Int32} {G : Nat → Nat → Int64} (W : mW K A z F G M) (n : Nat) (hn : n ≤ 100000) : hC K Y_X6_beginFraction rm_X6_beginFraction [.ref (A 0), .int (nI n)] M (hPv fun M' => ∃ z2, mW K A z2 F G M' ∧ msF z z2 ∧ cfM z2 n 0 ∧ hFr 100 200 M M') := by
  refine hC.of [some (.ref (A 0)), some (.int (nI n))] (by decide) (Nat.le_of_ble_eq_true rfl) rfl rfl ?_
  intro E C Rt
  have C : hCx E K cX6_beginFraction 2 RX6 "beginFraction" rm_X6_beginFraction := C
  obtain ⟨w0, -, -⟩ := cf_w hn
  refine x_aload_0 1 C dX6_beginFraction_0 rfl ?_
  refine x_iload_1 2 C dX6_beginFraction_1 rfl ?_
  refine x_i2l 3 C dX6_beginFraction_2 rfl ?_
  refine x_topl (nI_l (by omega)) ?_
  refine x_iconst (v := 2) 4 C dX6_beginFraction_3 rfl rfl ?_
  refine x_topi (v' := nI 2) rfl ?_
  refine x_callS 7 C (c_X6_floorRoot K _ n 2 (by decide) (by omega)) hy_X6_floorRoot ws_X6_floorRoot lk_X6_133 dX6_beginFraction_4 rfl ⟨Nat.le_of_ble_eq_true rfl, Nat.le_of_ble_eq_true rfl⟩ ⟨Nat.le_of_ble_eq_true rfl, Nat.le_of_ble_eq_true rfl⟩ (Nat.le_of_ble_eq_true rfl) rfl (k_0 rfl rfl (k_lp ?_))
  refine x_l2i 8 C dX6_beginFraction_7 rfl ?_
  refine x_topi (lN_i _) ?_
  refine mOp_whole 11 C wf_X6_188 W.obj dX6_beginFraction_8 rfl ?_
  refine x_m_obj W (fun M_1 W o_1 => ?_)
  refine x_aload_0 12 C dX6_beginFraction_11 rfl ?_
  refine x_aload_0 13 C dX6_beginFraction_12 rfl ?_
  refine mOg_whole 16 C wf_X6_188 W.obj dX6_beginFraction_13 rfl ?_
  refine mOp_term 19 C wf_X6_191 W.obj dX6_beginFraction_16 rfl ?_
  refine x_m_obj W (fun M_2 W o_2 => ?_)
  refine x_aload_0 20 C dX6_beginFraction_19 rfl ?_
  refine x_iconst (v := 0) 21 C dX6_beginFraction_20 rfl rfl ?_
  refine mOp_m 24 C wf_X6_194 W.obj dX6_beginFraction_21 rfl ?_
  refine x_m_obj W (fun M_3 W o_3 => ?_)
  refine x_aload_0 25 C dX6_beginFraction_24 rfl ?_
  refine x_iconst (v := 1) 26 C dX6_beginFraction_25 rfl rfl ?_
  refine mOp_d 29 C wf_X6_197 W.obj dX6_beginFraction_26 rfl ?_
  refine x_m_obj W (fun M_4 W o_4 => ?_)
  refine x_vreturn C Rt dX6_beginFraction_29 ⟨Nat.le_of_ble_eq_true rfl, Nat.le_of_ble_eq_true rfl⟩ ?_
  exact ⟨rfl, _, W, (((msF.z (by decide)).tr (msF.z (by decide))).tr (msF.z (by decide))).tr (msF.z (by decide)), ⟨rfl, rfl, rfl, rfl⟩, ((((o_1).tr o_2).tr o_3).tr o_4)⟩
set_option maxHeartbeats 4000000 in
set_option maxRecDepth 100000 in
theorem c_X6_nextTerm (K : hKv) (M : hM) {A : Nat → Nat} {z : Nat → Int32} {F : Nat → Nat → Int32} {G : Nat → Nat → Int64} (W : mW K A z F G M) (n i : Nat) (hc : cfM z n i) (hq : nsq n) : hC K Y_X6_nextTerm rm_X6_nextTerm [.ref (A 0), .int (nI n)] M (hPv fun M' => ∃ z2, mW K A z2 F G M' ∧ msF z z2 ∧ cfM z2 n (i + 1) ∧ hFr 100 200 M M') := by
  refine hC.of [some (.ref (A 0)), some (.int (nI n))] (by decide) (Nat.le_of_ble_eq_true rfl) rfl rfl ?_
  intro E C Rt
  have C : hCx E K cX6_nextTerm 2 RX6 "nextTerm" rm_X6_nextTerm := C
  obtain ⟨c8, c9, c10, c11⟩ := hc
  obtain ⟨a1, a2, a3, a4, a5, a6, a7, a8, a9, a10⟩ := nsq_all hq i
  have hn := hq.1
  have hw0 := (cf_w hq.1).1
  refine x_aload_0 1 C dX6_nextTerm_0 rfl ?_
  refine x_aload_0 2 C dX6_nextTerm_1 rfl ?_
  refine mOg_d 5 C wf_X6_197 W.obj dX6_nextTerm_2 rfl ?_
  refine x_topi c11 ?_
  refine x_aload_0 6 C dX6_nextTerm_5 rfl ?_
  refine mOg_term 9 C wf_X6_191 W.obj dX6_nextTerm_6 rfl ?_
  refine x_topi c9 ?_
  refine x_imul 10 C dX6_nextTerm_9 rfl ?_
  refine x_topi (pk_mul _ _) ?_
  refine x_aload_0 11 C dX6_nextTerm_10 rfl ?_
  refine mOg_m 14 C wf_X6_194 W.obj dX6_nextTerm_11 rfl ?_
  refine x_topi c10 ?_
  refine x_isub 15 C dX6_nextTerm_14 rfl ?_
  refine x_topi (v' := nI (cm n (i + 1))) (pk_sub a1) ?_
  refine mOp_m 18 C wf_X6_194 W.obj dX6_nextTerm_15 rfl ?_
  refine x_m_obj W (fun M_1 W o_1 => ?_)
  refine x_aload_0 19 C dX6_nextTerm_18 rfl ?_
  refine x_iload_1 20 C dX6_nextTerm_19 rfl ?_
  refine x_aload_0 21 C dX6_nextTerm_20 rfl ?_
  refine mOg_m 24 C wf_X6_194 W.obj dX6_nextTerm_21 rfl ?_
  refine x_topi (v' := nI (cm n (i + 1))) rfl ?_
  refine x_aload_0 25 C dX6_nextTerm_24 rfl ?_
  refine mOg_m 28 C wf_X6_194 W.obj dX6_nextTerm_25 rfl ?_
  refine x_topi (v' := nI (cm n (i + 1))) rfl ?_
  refine x_imul 29 C dX6_nextTerm_28 rfl ?_
  refine x_topi (pk_mul _ _) ?_
  refine x_isub 30 C dX6_nextTerm_29 rfl ?_
  refine x_topi (pk_sub a3) ?_
  refine x_aload_0 31 C dX6_nextTerm_30 rfl ?_
  refine mOg_d 34 C wf_X6_197 W.obj dX6_nextTerm_31 rfl ?_
  refine x_topi c11 ?_
  refine x_idiv 35 C dX6_nextTerm_34 rfl (fun q => by have := (nI_eq (b := 0) (by omega) (by decide)).mp q; omega) ?_
  refine x_topi (v' := nI (cd n (i + 1))) (pk_div (by omega) a4 (by omega)) ?_
  refine mOp_d 38 C wf_X6_197 W.obj dX6_nextTerm_35 rfl ?_
  refine x_m_obj W (fun M_2 W o_2 => ?_)
  refine x_aload_0 39 C dX6_nextTerm_38 rfl ?_
  refine x_aload_0 40 C dX6_nextTerm_39 rfl ?_
  refine mOg_whole 43 C wf_X6_188 W.obj dX6_nextTerm_40 rfl ?_
  refine x_topi c8 ?_
  refine x_aload_0 44 C dX6_nextTerm_43 rfl ?_
  refine mOg_m 47 C wf_X6_194 W.obj dX6_nextTerm_44 rfl ?_
  refine x_topi (v' := nI (cm n (i + 1))) rfl ?_
  refine x_iadd 48 C dX6_nextTerm_47 rfl ?_
  refine x_topi (nI_add _ _) ?_
  refine x_aload_0 49 C dX6_nextTerm_48 rfl ?_
  refine mOg_d 52 C wf_X6_197 W.obj dX6_nextTerm_49 rfl ?_
  refine x_topi (v' := nI (cd n (i + 1))) rfl ?_
  refine x_idiv 53 C dX6_nextTerm_52 rfl (fun q => by have := (nI_eq (b := 0) (by omega) (by decide)).mp q; omega) ?_
  refine x_topi (v' := nI (ct n (i + 1))) (pk_div (by omega) a5 (by omega)) ?_
  refine mOp_term 56 C wf_X6_191 W.obj dX6_nextTerm_53 rfl ?_
  refine x_m_obj W (fun M_3 W o_3 => ?_)
  refine x_vreturn C Rt dX6_nextTerm_56 ⟨Nat.le_of_ble_eq_true rfl, Nat.le_of_ble_eq_true rfl⟩ ?_
  exact ⟨rfl, _, W, ((msF.z (by decide)).tr (msF.z (by decide))).tr (msF.z (by decide)), ⟨c8, rfl, rfl, rfl⟩, (((o_1).tr o_2).tr o_3)⟩
set_option maxHeartbeats 4000000 in
set_option maxRecDepth 100000 in
theorem c_X6_period (K : hKv) (M : hM) {A : Nat → Nat} {z : Nat → Int32} {F : Nat → Nat → Int32} {G : Nat → Nat → Int64} (W : mW K A z F G M) {σ : hSt} (hr : repM z F G σ) (ho : okS σ) (n : Int32) : hC K Y_X6_period rm_X6_period [.ref (A 0), .int n] M (hPi fun r M' => r = sp_period n ∧ mP K A M σ M') := by
  refine hC.of [some (.ref (A 0)), some (.int n), none, none] (by decide) (Nat.le_of_ble_eq_true rfl) rfl rfl ?_
  intro E C Rt
  have C : hCx E K cX6_period 4 RX6 "period" rm_X6_period := C
  obtain ⟨M0, hM0⟩ : ∃ M0 : hM, M0 = M := ⟨_, rfl⟩
  rw [← hM0] at Rt
  have lp : ∀ (N : Nat), nsq N → (∀ (z : Nat → Int32) (M : hM), mW K A z F G M → repM z F G σ → hFr 100 200 M0 M → hPi (fun r M' => r = sp_period n ∧ mP K A M0 σ M') (some (.int (nI (perN N)))) M) → ∀ (d i : Nat), i + d = perN N → ∀ (z : Nat → Int32) (M : hM) (l3 : Int32), mW K A z F G M → repM z F G σ → cfM z N i → hFr 100 200 M0 M → (d = 0 ∧ l3 = 0 ∨ 0 < d ∧ l3 = 1) → hX E 0 0 38 [some (.ref (A 0)), some (.int (nI N)), some (.int (nI i)), some (.int l3)] [] M := by
    intro N hq hfin d
    obtain ⟨⟨pe1, pe2, pe3⟩, pe4⟩ := perN_is hq.1 hq.2
    obtain ⟨w0, w1, w2⟩ := cf_w hq.1
    have hw1 := cf_w1 w2 hq.2
    induction d with
    | zero =>
      intro i hi z M l3 W hr cf fr hl
      have hi : i = perN N := by omega
      subst hi
      have hl : l3 = 0 := by
        rcases hl with h | h
        · exact h.2
        · omega
      subst hl
      refine x_iload_3 39 C dX6_period_38 rfl ?_
      refine x_if_eq 42 72 C dX6_period_39 rfl rfl (fun _ => ?_) (fun z => absurd (rfl) z)
      refine x_iload_2 73 C dX6_period_72 rfl ?_
      refine x_ireturn C Rt dX6_period_73 rfl ⟨Nat.le_of_ble_eq_true rfl, Nat.le_of_ble_eq_true rfl⟩ ?_
      exact hfin _ _ W hr fr
    | succ d ih =>
      intro i hi z M l3 W hr cf fr hl
      have hl : l3 = 1 := by
        rcases hl with h | h
        · omega
        · exact h.2
      subst hl
      refine x_iload_3 39 C dX6_period_38 rfl ?_
      refine x_if_eq 42 72 C dX6_period_39 rfl rfl (fun z => absurd z (by decide)) (fun _ => ?_)
      refine x_aload_0 43 C dX6_period_42 rfl ?_
      refine x_iload_1 44 C dX6_period_43 rfl ?_
      refine x_callV 47 C (c_X6_nextTerm K _ W N i cf hq) W.obj wcl_X6 hy_X6_nextTerm wv_X6_nextTerm we_X6_nextTerm lk_X6_204 dX6_period_44 rfl ⟨Nat.le_of_ble_eq_true rfl, Nat.le_of_ble_eq_true rfl⟩ ⟨Nat.le_of_ble_eq_true rfl, Nat.le_of_ble_eq_true rfl⟩ (Nat.le_of_ble_eq_true rfl) rfl (k_0 rfl rfl (k_v (fun M_1 h_1 => ?_)))
      obtain ⟨z_2, W, ms_2, cf_2, o_n⟩ := h_1
      have hr2 := repM_f hr ms_2
      refine x_iinc_2 50 C dX6_period_47 rfl rfl (nI_inc _) ?_
      refine x_aload_0 51 C dX6_period_50 rfl ?_
      refine mOg_term 54 C wf_X6_191 W.obj dX6_period_51 rfl ?_
      refine x_topi cf_2.2.1 ?_
      refine x_iconst (v := 2) 55 C dX6_period_54 rfl rfl ?_
      refine x_aload_0 56 C dX6_period_55 rfl ?_
      refine mOg_whole 59 C wf_X6_188 W.obj dX6_period_56 rfl ?_
      refine x_topi cf_2.1 ?_
      refine x_imul 60 C dX6_period_59 rfl ?_
      refine x_topi (pk_mul 2 _) ?_
      refine x_icmp_eq 63 67 C dX6_period_60 rfl rfl (fun c_60 => ?_) (fun c_60 => ?_)
      · refine x_iconst (v := 0) 68 C dX6_period_67 rfl rfl ?_
        refine x_istore_3 69 C dX6_period_68 rfl rfl ?_
        refine x_goto 38 C dX6_period_69 rfl ?_
        have h1 : cd N (i + 1) = 1 := (cf_one hq.2 w2 hw1 i).mp ((nI_eq (by have := (nsq_all hq (i + 1)).2.2.2.2.2.2.2.1; omega) (by omega)).mp c_60)
        have h2 : i + 1 = perN N := by
          rcases Nat.lt_or_ge (i + 1) (perN N) with q | q
          · exact absurd h1 (pe4 _ (by omega) q)
          · omega
        exact ih (i + 1) (by omega) _ _ _ W hr2 cf_2 (fr.tr (o_n)) (Or.inl ⟨by omega, rfl⟩)
      · refine x_iconst (v := 1) 64 C dX6_period_63 rfl rfl ?_
        refine x_goto 68 C dX6_period_64 rfl ?_
        refine x_istore_3 69 C dX6_period_68 rfl rfl ?_
        refine x_goto 38 C dX6_period_69 rfl ?_
        have h2 : ¬ i + 1 = perN N := fun q => c_60 (by rw [(cf_one hq.2 w2 hw1 i).mpr (by rw [q]; exact pe3)])
        exact ih (i + 1) (by omega) _ _ _ W hr2 cf_2 (fr.tr (o_n)) (Or.inr ⟨by omega, rfl⟩)
  refine x_iload_1 1 C dX6_period_0 rfl ?_
  refine x_iconst (v := 0) 2 C dX6_period_1 rfl rfl ?_
  refine x_ldc (v := 100000) 4 C dX6_period_2 rfl wq_X6_200 ?_
  refine x_callS 7 C (c_X6_in K _ _ _ _) hy_X6_in ws_X6_in lk_X6_57 dX6_period_4 rfl ⟨Nat.le_of_ble_eq_true rfl, Nat.le_of_ble_eq_true rfl⟩ ⟨Nat.le_of_ble_eq_true rfl, Nat.le_of_ble_eq_true rfl⟩ (Nat.le_of_ble_eq_true rfl) rfl (k_0 rfl rfl (k_ip ?_))
  refine x_if_ne 10 13 C dX6_period_7 rfl rfl (fun c_7 => ?_) (fun c_7 => ?_)
  · simp only [Classical.not_not, hB_0p, hB_n0p, Int32.toInt_toInt64, tl_LG, ti_m1, Int32.lt_iff_toInt_lt, Int32.le_iff_toInt_le, Int64.lt_iff_toInt_lt, Int64.le_iff_toInt_le, tl_0, ti_0, tl_1, ti_1, tl_2, ti_2, tl_3, ti_3, tl_4, ti_4, tl_5, ti_5, tl_6, ti_6, tl_7, ti_7, tl_8, ti_8, tl_9, ti_9, tl_10, ti_10, tl_33, ti_33, tl_60, ti_60, tl_100, ti_100, tl_126, ti_126, tl_255, ti_255, tl_500, ti_500, tl_9999, ti_9999, tl_10000, ti_10000, tl_100000, ti_100000, tl_1000000, ti_1000000, tl_1000000000, ti_1000000000] at c_7
    obtain ⟨N, hN, rfl⟩ := in_nI (b := 100000) c_7
    obtain ⟨w0, w1, w2⟩ := cf_w hN
    have wl := Nat.mul_le_mul w0 w0
    refine x_aload_0 14 C dX6_period_13 rfl ?_
    refine x_iload_1 15 C dX6_period_14 rfl ?_
    refine x_callV 18 C (c_X6_beginFraction K _ W N hN) W.obj wcl_X6 hy_X6_beginFraction wv_X6_beginFraction we_X6_beginFraction lk_X6_201 dX6_period_15 rfl ⟨Nat.le_of_ble_eq_true rfl, Nat.le_of_ble_eq_true rfl⟩ ⟨Nat.le_of_ble_eq_true rfl, Nat.le_of_ble_eq_true rfl⟩ (Nat.le_of_ble_eq_true rfl) rfl (k_0 rfl rfl (k_v (fun M_1 h_1 => ?_)))
    obtain ⟨z_2, W, ms_2, cf_2, o_b⟩ := h_1
    have hr2 := repM_f hr ms_2
    refine x_aload_0 19 C dX6_period_18 rfl ?_
    refine mOg_whole 22 C wf_X6_188 W.obj dX6_period_19 rfl ?_
    refine x_topi cf_2.1 ?_
    refine x_aload_0 23 C dX6_period_22 rfl ?_
    refine mOg_whole 26 C wf_X6_188 W.obj dX6_period_23 rfl ?_
    refine x_topi cf_2.1 ?_
    refine x_imul 27 C dX6_period_26 rfl ?_
    refine x_topi (pk_mul _ _) ?_
    refine x_iload_1 28 C dX6_period_27 rfl ?_
    refine x_icmp_ne 31 34 C dX6_period_28 rfl rfl (fun c_28 => ?_) (fun c_28 => ?_)
    · refine x_iconst (v := 0) 35 C dX6_period_34 rfl rfl ?_
      refine x_istore_2 36 C dX6_period_35 rfl rfl ?_
      refine x_iconst (v := 1) 37 C dX6_period_36 rfl rfl ?_
      refine x_istore_3 38 C dX6_period_37 rfl rfl ?_
      have hs : ¬ sq 2 N * sq 2 N = N := fun q => c_28 (by rw [q])
      have hq : nsq N := ⟨hN, by omega⟩
      exact lp N hq (fun z M W hr fr => ⟨_, rfl, by rw [sp_period, spQ_t c_7, nI_toN (by omega), spQ_f hs], ⟨⟨_, _, _, W, hr⟩, fr⟩⟩) (perN N) 0 (Nat.zero_add _) _ _ _ W hr2 cf_2 (by rw [hM0]; exact (o_b)) (Or.inr ⟨(perN_is hq.1 hq.2).1.1, rfl⟩)
    · refine x_bipush (v := (-6)) 33 C dX6_period_31 rfl rfl ?_
      refine x_ireturn C Rt dX6_period_33 rfl ⟨Nat.le_of_ble_eq_true rfl, Nat.le_of_ble_eq_true rfl⟩ ?_
      have hs : sq 2 N * sq 2 N = N := (nI_eq (by omega) (by omega)).mp (by first | exact c_28 | exact Decidable.not_not.mp c_28)
      exact ⟨_, rfl, by rw [sp_period, spQ_t c_7, nI_toN (by omega), spQ_t hs], by rw [hM0]; exact ⟨⟨_, _, _, W, hr2⟩, (o_b)⟩⟩
  · refine x_bipush (v := (-2)) 12 C dX6_period_10 rfl rfl ?_
    refine x_ireturn C Rt dX6_period_12 rfl ⟨Nat.le_of_ble_eq_true rfl, Nat.le_of_ble_eq_true rfl⟩ ?_
    simp only [Classical.not_not, hB_0p, hB_n0p, Int32.toInt_toInt64, tl_LG, ti_m1, Int32.lt_iff_toInt_lt, Int32.le_iff_toInt_le, Int64.lt_iff_toInt_lt, Int64.le_iff_toInt_le, tl_0, ti_0, tl_1, ti_1, tl_2, ti_2, tl_3, ti_3, tl_4, ti_4, tl_5, ti_5, tl_6, ti_6, tl_7, ti_7, tl_8, ti_8, tl_9, ti_9, tl_10, ti_10, tl_33, ti_33, tl_60, ti_60, tl_100, ti_100, tl_126, ti_126, tl_255, ti_255, tl_500, ti_500, tl_9999, ti_9999, tl_10000, ti_10000, tl_100000, ti_100000, tl_1000000, ti_1000000, tl_1000000000, ti_1000000000] at c_7
    exact ⟨_, rfl, by rw [sp_period, spQ_f (by omega)], by rw [hM0]; exact ⟨⟨z, F, G, W, hr⟩, hFr.rf⟩⟩
set_option maxHeartbeats 4000000 in
set_option maxRecDepth 100000 in
theorem c_X6_term (K : hKv) (M : hM) {A : Nat → Nat} {z : Nat → Int32} {F : Nat → Nat → Int32} {G : Nat → Nat → Int64} (W : mW K A z F G M) {σ : hSt} (hr : repM z F G σ) (ho : okS σ) (n k : Int32) : hC K Y_X6_term rm_X6_term [.ref (A 0), .int n, .int k] M (hPi fun r M' => r = sp_term n k ∧ mP K A M σ M') := by
  refine hC.of [some (.ref (A 0)), some (.int n), some (.int k), none] (by decide) (Nat.le_of_ble_eq_true rfl) rfl rfl ?_
  intro E C Rt
  have C : hCx E K cX6_term 4 RX6 "term" rm_X6_term := C
  obtain ⟨M0, hM0⟩ : ∃ M0 : hM, M0 = M := ⟨_, rfl⟩
  rw [← hM0] at Rt
  have lp : ∀ (N kk : Nat), kk ≤ 500 → (0 < kk → nsq N) → (∀ (z : Nat → Int32) (M : hM), mW K A z F G M → repM z F G σ → hFr 100 200 M0 M → hPi (fun r M' => r = sp_term n k ∧ mP K A M0 σ M') (some (.int (nI (ct N kk)))) M) → ∀ (d i : Nat), i + d = kk → ∀ (z : Nat → Int32) (M : hM), mW K A z F G M → repM z F G σ → cfM z N i → hFr 100 200 M0 M → hX E 0 0 51 [some (.ref (A 0)), some (.int (nI N)), some (.int (nI kk)), some (.int (nI i))] [] M := by
    intro N kk hk hq hfin d
    induction d with
    | zero =>
      intro i hi z M W hr cf fr
      have hi : i = kk := by omega
      subst hi
      refine x_iload_3 52 C dX6_term_51 rfl ?_
      refine x_iload_2 53 C dX6_term_52 rfl ?_
      refine x_icmp_ge 56 67 C dX6_term_53 rfl rfl (fun _ => ?_) (fun z => absurd (nI_le (Nat.le_refl _) (by omega)) z)
      refine x_aload_0 68 C dX6_term_67 rfl ?_
      refine mOg_term 71 C wf_X6_191 W.obj dX6_term_68 rfl ?_
      refine x_topi cf.2.1 ?_
      refine x_ireturn C Rt dX6_term_71 rfl ⟨Nat.le_of_ble_eq_true rfl, Nat.le_of_ble_eq_true rfl⟩ ?_
      exact hfin _ _ W hr fr
    | succ d ih =>
      intro i hi z M W hr cf fr
      refine x_iload_3 52 C dX6_term_51 rfl ?_
      refine x_iload_2 53 C dX6_term_52 rfl ?_
      refine x_icmp_ge 56 67 C dX6_term_53 rfl rfl (fun z => absurd z (nI_ge (by omega) (by omega))) (fun _ => ?_)
      refine x_aload_0 57 C dX6_term_56 rfl ?_
      refine x_iload_1 58 C dX6_term_57 rfl ?_
      refine x_callV 61 C (c_X6_nextTerm K _ W N i cf (hq (by omega))) W.obj wcl_X6 hy_X6_nextTerm wv_X6_nextTerm we_X6_nextTerm lk_X6_204 dX6_term_58 rfl ⟨Nat.le_of_ble_eq_true rfl, Nat.le_of_ble_eq_true rfl⟩ ⟨Nat.le_of_ble_eq_true rfl, Nat.le_of_ble_eq_true rfl⟩ (Nat.le_of_ble_eq_true rfl) rfl (k_0 rfl rfl (k_v (fun M_1 h_1 => ?_)))
      obtain ⟨z_2, W, ms_2, cf_2, o_n⟩ := h_1
      have hr2 := repM_f hr ms_2
      refine x_iinc_3 64 C dX6_term_61 rfl rfl (nI_inc _) ?_
      refine x_goto 51 C dX6_term_64 rfl ?_
      exact ih (i + 1) (by omega) _ _ W hr2 cf_2 (fr.tr (o_n))
  refine x_iload_1 1 C dX6_term_0 rfl ?_
  refine x_iconst (v := 0) 2 C dX6_term_1 rfl rfl ?_
  refine x_ldc (v := 100000) 4 C dX6_term_2 rfl wq_X6_200 ?_
  refine x_callS 7 C (c_X6_in K _ _ _ _) hy_X6_in ws_X6_in lk_X6_57 dX6_term_4 rfl ⟨Nat.le_of_ble_eq_true rfl, Nat.le_of_ble_eq_true rfl⟩ ⟨Nat.le_of_ble_eq_true rfl, Nat.le_of_ble_eq_true rfl⟩ (Nat.le_of_ble_eq_true rfl) rfl (k_0 rfl rfl (k_ip ?_))
  refine x_if_eq 10 21 C dX6_term_7 rfl rfl (fun c_7 => ?_) (fun c_7 => ?_)
  · refine x_bipush (v := (-2)) 23 C dX6_term_21 rfl rfl ?_
    refine x_ireturn C Rt dX6_term_23 rfl ⟨Nat.le_of_ble_eq_true rfl, Nat.le_of_ble_eq_true rfl⟩ ?_
    simp only [Classical.not_not, hB_0p, hB_n0p, Int32.toInt_toInt64, tl_LG, ti_m1, Int32.lt_iff_toInt_lt, Int32.le_iff_toInt_le, Int64.lt_iff_toInt_lt, Int64.le_iff_toInt_le, tl_0, ti_0, tl_1, ti_1, tl_2, ti_2, tl_3, ti_3, tl_4, ti_4, tl_5, ti_5, tl_6, ti_6, tl_7, ti_7, tl_8, ti_8, tl_9, ti_9, tl_10, ti_10, tl_33, ti_33, tl_60, ti_60, tl_100, ti_100, tl_126, ti_126, tl_255, ti_255, tl_500, ti_500, tl_9999, ti_9999, tl_10000, ti_10000, tl_100000, ti_100000, tl_1000000, ti_1000000, tl_1000000000, ti_1000000000] at c_7
    exact ⟨_, rfl, by rw [sp_term, spQ_f (by omega)], by rw [hM0]; exact ⟨⟨z, F, G, W, hr⟩, hFr.rf⟩⟩
  · refine x_iload_2 11 C dX6_term_10 rfl ?_
    refine x_iconst (v := 0) 12 C dX6_term_11 rfl rfl ?_
    refine x_sipush (v := 500) 15 C dX6_term_12 rfl rfl ?_
    refine x_callS 18 C (c_X6_in K _ _ _ _) hy_X6_in ws_X6_in lk_X6_57 dX6_term_15 rfl ⟨Nat.le_of_ble_eq_true rfl, Nat.le_of_ble_eq_true rfl⟩ ⟨Nat.le_of_ble_eq_true rfl, Nat.le_of_ble_eq_true rfl⟩ (Nat.le_of_ble_eq_true rfl) rfl (k_0 rfl rfl (k_ip ?_))
    refine x_if_ne 21 24 C dX6_term_18 rfl rfl (fun c_18 => ?_) (fun c_18 => ?_)
    · simp only [Classical.not_not, hB_0p, hB_n0p, Int32.toInt_toInt64, tl_LG, ti_m1, Int32.lt_iff_toInt_lt, Int32.le_iff_toInt_le, Int64.lt_iff_toInt_lt, Int64.le_iff_toInt_le, tl_0, ti_0, tl_1, ti_1, tl_2, ti_2, tl_3, ti_3, tl_4, ti_4, tl_5, ti_5, tl_6, ti_6, tl_7, ti_7, tl_8, ti_8, tl_9, ti_9, tl_10, ti_10, tl_33, ti_33, tl_60, ti_60, tl_100, ti_100, tl_126, ti_126, tl_255, ti_255, tl_500, ti_500, tl_9999, ti_9999, tl_10000, ti_10000, tl_100000, ti_100000, tl_1000000, ti_1000000, tl_1000000000, ti_1000000000] at c_7 c_18
      obtain ⟨N, hN, rfl⟩ := in_nI (b := 100000) c_7
      obtain ⟨kk, hk, rfl⟩ := in_nI (b := 500) c_18
      obtain ⟨w0, w1, w2⟩ := cf_w hN
      have wl := Nat.mul_le_mul w0 w0
      refine x_aload_0 25 C dX6_term_24 rfl ?_
      refine x_iload_1 26 C dX6_term_25 rfl ?_
      refine x_callV 29 C (c_X6_beginFraction K _ W N hN) W.obj wcl_X6 hy_X6_beginFraction wv_X6_beginFraction we_X6_beginFraction lk_X6_201 dX6_term_26 rfl ⟨Nat.le_of_ble_eq_true rfl, Nat.le_of_ble_eq_true rfl⟩ ⟨Nat.le_of_ble_eq_true rfl, Nat.le_of_ble_eq_true rfl⟩ (Nat.le_of_ble_eq_true rfl) rfl (k_0 rfl rfl (k_v (fun M_1 h_1 => ?_)))
      obtain ⟨z_2, W, ms_2, cf_2, o_b⟩ := h_1
      have hr2 := repM_f hr ms_2
      refine x_iload_2 30 C dX6_term_29 rfl ?_
      refine x_if_le 33 49 C dX6_term_30 rfl rfl (fun c_30 => ?_) (fun c_30 => ?_)
      · have h0 : kk ≤ 0 := (nI_leI (b := 0) (by omega) (by decide)).mp c_30
        refine x_iconst (v := 0) 50 C dX6_term_49 rfl rfl ?_
        refine x_istore_3 51 C dX6_term_50 rfl rfl ?_
        exact lp N kk hk (fun q => by omega) (fun z M W hr fr => ⟨_, rfl, by rw [sp_term, spQ_t ⟨c_7, c_18⟩, nI_toN (by omega), spQ_f (by rw [nI_toI (by omega)]; omega), nI_toN (by omega)], ⟨⟨_, _, _, W, hr⟩, fr⟩⟩) kk 0 (Nat.zero_add _) _ _ W hr2 cf_2 (by rw [hM0]; exact (o_b))
      · have h0 : 0 < kk := by
          rcases Nat.eq_zero_or_pos kk with q | q
          · exact absurd (by rw [q]; decide) c_30
          · exact q
        refine x_aload_0 34 C dX6_term_33 rfl ?_
        refine mOg_whole 37 C wf_X6_188 W.obj dX6_term_34 rfl ?_
        refine x_topi cf_2.1 ?_
        refine x_aload_0 38 C dX6_term_37 rfl ?_
        refine mOg_whole 41 C wf_X6_188 W.obj dX6_term_38 rfl ?_
        refine x_topi cf_2.1 ?_
        refine x_imul 42 C dX6_term_41 rfl ?_
        refine x_topi (pk_mul _ _) ?_
        refine x_iload_1 43 C dX6_term_42 rfl ?_
        refine x_icmp_ne 46 49 C dX6_term_43 rfl rfl (fun c_43 => ?_) (fun c_43 => ?_)
        · refine x_iconst (v := 0) 50 C dX6_term_49 rfl rfl ?_
          refine x_istore_3 51 C dX6_term_50 rfl rfl ?_
          have hs : ¬ sq 2 N * sq 2 N = N := fun q => c_43 (by rw [q])
          exact lp N kk hk (fun _ => ⟨hN, by omega⟩) (fun z M W hr fr => ⟨_, rfl, by rw [sp_term, spQ_t ⟨c_7, c_18⟩, nI_toN (by omega), spQ_f (fun q => hs q.2), nI_toN (by omega)], ⟨⟨_, _, _, W, hr⟩, fr⟩⟩) kk 0 (Nat.zero_add _) _ _ W hr2 cf_2 (by rw [hM0]; exact (o_b))
        · refine x_bipush (v := (-6)) 48 C dX6_term_46 rfl rfl ?_
          refine x_ireturn C Rt dX6_term_48 rfl ⟨Nat.le_of_ble_eq_true rfl, Nat.le_of_ble_eq_true rfl⟩ ?_
          have hs : sq 2 N * sq 2 N = N := (nI_eq (by omega) (by omega)).mp (by first | exact c_43 | exact Decidable.not_not.mp c_43)
          exact ⟨_, rfl, by rw [sp_term, spQ_t ⟨c_7, c_18⟩, nI_toN (by omega), spQ_t ⟨by rw [nI_toI (by omega)]; omega, hs⟩], by rw [hM0]; exact ⟨⟨_, _, _, W, hr2⟩, (o_b)⟩⟩
    · refine x_bipush (v := (-2)) 23 C dX6_term_21 rfl rfl ?_
      refine x_ireturn C Rt dX6_term_23 rfl ⟨Nat.le_of_ble_eq_true rfl, Nat.le_of_ble_eq_true rfl⟩ ?_
      simp only [Classical.not_not, hB_0p, hB_n0p, Int32.toInt_toInt64, tl_LG, ti_m1, Int32.lt_iff_toInt_lt, Int32.le_iff_toInt_le, Int64.lt_iff_toInt_lt, Int64.le_iff_toInt_le, tl_0, ti_0, tl_1, ti_1, tl_2, ti_2, tl_3, ti_3, tl_4, ti_4, tl_5, ti_5, tl_6, ti_6, tl_7, ti_7, tl_8, ti_8, tl_9, ti_9, tl_10, ti_10, tl_33, ti_33, tl_60, ti_60, tl_100, ti_100, tl_126, ti_126, tl_255, ti_255, tl_500, ti_500, tl_9999, ti_9999, tl_10000, ti_10000, tl_100000, ti_100000, tl_1000000, ti_1000000, tl_1000000000, ti_1000000000] at c_7 c_18
      exact ⟨_, rfl, by rw [sp_term, spQ_f (by omega)], by rw [hM0]; exact ⟨⟨z, F, G, W, hr⟩, hFr.rf⟩⟩
