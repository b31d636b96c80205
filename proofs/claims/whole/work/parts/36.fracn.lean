theorem cv_bd {n i : Nat} (hB : ∀ j, j ≤ i → cvB n j) : (cvS n i).2.1 ≤ LG ∧ (cvS n i).2.2 ≤ LG := by
  cases i with
  | zero => exact ⟨by show 1 ≤ LG; decide, by show 0 ≤ LG; decide⟩
  | succ i => exact hB i (by omega)
theorem cv_new {n i : Nat} (hB : ∀ j, j ≤ i → cvB n j) (ht : ct n (i + 1) ≤ 632) : (cvS n (i + 1)).1.1 < 2 ^ 62 ∧ (cvS n (i + 1)).1.2 < 2 ^ 62 := by
  obtain ⟨a, b⟩ := cv_bd hB
  obtain ⟨c, d⟩ := hB i (Nat.le_refl _)
  have h1 := Nat.mul_le_mul ht c
  have h2 := Nat.mul_le_mul ht d
  have e : LG = 1000000000000 := rfl
  constructor
  · show ct n (i + 1) * (cvS n i).1.1 + (cvS n i).2.1 < _
    omega
  · show ct n (i + 1) * (cvS n i).1.2 + (cvS n i).2.2 < _
    omega
theorem cvB_s {n i : Nat} (hB : ∀ j, j ≤ i → cvB n j) (h : cvB n (i + 1)) : ∀ j, j ≤ i + 1 → cvB n j := fun j hj => by
  by_cases e : j = i + 1
  · rw [e]; exact h
  · exact hB j (by omega)
theorem cv_sel {a b pp : Nat} (h : pp ≤ 1) : (if (nI pp).toInt = 0 then a else b) = (if pp = 0 then a else b) := by
  rw [nI_toI (by omega)]
  by_cases h0 : pp = 0
  · rw [if_pos h0, if_pos (by omega)]
  · rw [if_neg h0, if_neg (by omega)]
theorem cvB_0 {n : Nat} (h : sq 2 n ≤ 316) : ∀ j, j ≤ 0 → cvB n j := fun j hj => by
  have e : j = 0 := by omega
  subst e
  exact ⟨by show sq 2 n ≤ LG; unfold LG; omega, by show 1 ≤ LG; decide⟩
/-! two squares -/
def tsP (n a : Nat) : Prop := a * a + sq 2 (n - a * a) * sq 2 (n - a * a) = n
theorem tsP_dec (n a : Nat) : tsP n a ∨ ¬ tsP n a := Classical.em _
noncomputable def tsc (n : Nat) : Nat → Nat
  | 0 => 0
  | k + 1 => spQ (tsP n k) (tsc n k + 1) (tsc n k)
noncomputable def tsf (n : Nat) : Nat → Option Nat
  | 0 => none
  | k + 1 => match tsf n k with
    | some x => some x
    | none => spQ (tsP n k) (some k) none
def tsL : Option Nat → Int32
  | none => -6
  | some x => nI x
def tsO (n : Nat) : Option Nat → Int32
  | none => -6
  | some x => nI (sq 2 (n - x * x))
def tsK (n : Nat) : Nat := sq 2 (n / 2) + 1
noncomputable def sp_twoSquares (n w : Int32) : Int32 := spQ ((0 ≤ n.toInt ∧ n.toInt ≤ 1000000) ∧ 0 ≤ w.toInt ∧ w.toInt ≤ 2)
  (if w.toInt = 0 then nI (tsc n.toInt.toNat (tsK n.toInt.toNat)) else if w.toInt = 1 then tsL (tsf n.toInt.toNat (tsK n.toInt.toNat)) else tsO n.toInt.toNat (tsf n.toInt.toNat (tsK n.toInt.toNat))) (-2)
theorem tsc_f {n : Nat} : ∀ k, tsc n k ≤ k ∧ (tsc n k = 0 ↔ tsf n k = none)
  | 0 => ⟨Nat.le_refl _, ⟨fun _ => rfl, fun _ => rfl⟩⟩
  | k + 1 => by
    obtain ⟨a, b⟩ := tsc_f (n := n) k
    rw [tsc, tsf]
    rcases tsP_dec n k with q | q
    · rw [spQ_t q, spQ_t q]
      refine ⟨by omega, ⟨fun h => by omega, fun h => ?_⟩⟩
      cases hf : tsf n k with
      | none => rw [hf] at h; cases h
      | some x => rw [hf] at h; cases h
    · rw [spQ_f q, spQ_f q]
      refine ⟨by omega, ?_⟩
      rw [b]
      cases hf : tsf n k with
      | none => exact ⟨fun _ => rfl, fun _ => rfl⟩
      | some x => exact ⟨fun h => (by cases h), fun h => (by cases h)⟩
theorem tsf_0 {n k : Nat} (h : ¬ tsP n k) : tsf n (k + 1) = tsf n k ∧ tsc n (k + 1) = tsc n k := by
  rw [tsf, tsc, spQ_f h, spQ_f h]
  cases tsf n k <;> exact ⟨rfl, rfl⟩
theorem tsf_1 {n k : Nat} (h : tsP n k) (h0 : tsf n k = none) : tsf n (k + 1) = some k ∧ tsc n (k + 1) = tsc n k + 1 := by
  rw [tsf, tsc, spQ_t h, spQ_t h, h0]; exact ⟨rfl, rfl⟩
theorem tsf_2 {n k x : Nat} (h : tsP n k) (h0 : tsf n k = some x) : tsf n (k + 1) = some x ∧ tsc n (k + 1) = tsc n k + 1 := by
  rw [tsf, tsc, spQ_t h, spQ_t h, h0]; exact ⟨rfl, rfl⟩
theorem tsK_lt {n a : Nat} (hn : n ≤ 1000000) : a < tsK n ↔ 2 * a * a ≤ n := by
  obtain ⟨h1, h2⟩ := sq2_pw (N := n / 2) (by omega)
  unfold tsK
  rw [Nat.mul_assoc]
  constructor
  · intro h
    have := Nat.mul_le_mul (show a ≤ sq 2 (n / 2) by omega) (show a ≤ sq 2 (n / 2) by omega)
    omega
  · intro h
    rcases Nat.lt_or_ge a (sq 2 (n / 2) + 1) with q | q
    · exact q
    · have := Nat.mul_le_mul q q
      omega
theorem tsK_bd {n : Nat} (hn : n ≤ 1000000) : tsK n ≤ 708 := by
  have := sq2_le (N := n / 2) (R := 708) (by omega) (by omega)
  unfold tsK
  omega
set_option maxHeartbeats 4000000 in
set_option maxRecDepth 100000 in
theorem c_X6_convergent (K : hKv) (M : hM) {A : Nat → Nat} {z : Nat → Int32} {F : Nat → Nat → Int32} {G : Nat → Nat → Int64} (W : mW K A z F G M) {σ : hSt} (hr : repM z F G σ) (ho : okS σ) (n k p : Int32) : hC K Y_X6_convergent rm_X6_convergent [.ref (A 0), .int n, .int k, .int p] M (hPl fun r M' => r = sp_convergent n k p ∧ mP K A M σ M') := by
  refine hC.of [some (.ref (A 0)), some (.int n), some (.int k), some (.int p), none, none, none, none, none, none, none, none, none, none, none, none, none] (by decide) (Nat.le_of_ble_eq_true rfl) rfl rfl ?_
  intro E C Rt
  have C : hCx E K cX6_convergent 17 RX6 "convergent" rm_X6_convergent := C
  obtain ⟨M0, hM0⟩ : ∃ M0 : hM, M0 = M := ⟨_, rfl⟩
  rw [← hM0] at Rt
  have lp : ∀ (N kk pp : Nat), N ≤ 100000 → kk ≤ 500 → pp ≤ 1 → (0 < kk → nsq N) → (∀ (z : Nat → Int32) (M : hM), mW K A z F G M → repM z F G σ → hFr 100 200 M0 M → ((∀ i, i ≤ kk → cvB N i) → hPl (fun r M' => r = sp_convergent n k p ∧ mP K A M0 σ M') (some (.long (lN (if pp = 0 then (cvS N kk).1.1 else (cvS N kk).1.2)))) M) ∧ ((¬ ∀ i, i ≤ kk → cvB N i) → hPl (fun r M' => r = sp_convergent n k p ∧ mP K A M0 σ M') (some (.long (-6))) M)) → ∀ (d i : Nat), i + d = kk → ∀ (z : Nat → Int32) (M : hM) (l13 l14 l15 l16 : Option Value), mW K A z F G M → repM z F G σ → cfM z N i → hFr 100 200 M0 M → (∀ j, j ≤ i → cvB N j) → hX E 0 0 79 [some (.ref (A 0)), some (.int (nI N)), some (.int (nI kk)), some (.int (nI pp)), some (.long (lN (cvS N i).1.1)), none, some (.long (lN (cvS N i).1.2)), none, some (.long (lN (cvS N i).2.1)), none, some (.long (lN (cvS N i).2.2)), none, some (.int (nI i)), l13, l14, l15, l16] [] M := by
    intro N kk pp hN hk hp hq hfin d
    induction d with
    | zero =>
      intro i hi z M l13 l14 l15 l16 W hr cf fr hB
      have hi : i = kk := by omega
      subst hi
      have hz := (hfin _ _ W hr fr).1 hB
      refine x_iload_12 81 C dX6_convergent_79 rfl ?_
      refine x_iload_2 82 C dX6_convergent_81 rfl ?_
      refine x_icmp_ge 85 160 C dX6_convergent_82 rfl rfl (fun _ => ?_) (fun z => absurd (nI_le (Nat.le_refl _) (by omega)) z)
      refine x_iload_3 161 C dX6_convergent_160 rfl ?_
      refine x_if_ne 164 169 C dX6_convergent_161 rfl rfl (fun c_161 => ?_) (fun c_161 => ?_)
      · refine x_lload_6 171 C dX6_convergent_169 rfl ?_
        refine x_lreturn C Rt dX6_convergent_171 ⟨Nat.le_of_ble_eq_true rfl, Nat.le_of_ble_eq_true rfl⟩ ?_
        first | (have h0 : ¬ pp = 0 := fun q => c_161 (by rw [q]; rfl); rw [if_neg h0] at hz; exact hz) | (have h0 : pp = 0 := (nI_eq (b := 0) (by omega) (by decide)).mp c_161; rw [if_pos h0] at hz; exact hz)
      · refine x_lload_4 166 C dX6_convergent_164 rfl ?_
        refine x_goto 171 C dX6_convergent_166 rfl ?_
        refine x_lreturn C Rt dX6_convergent_171 ⟨Nat.le_of_ble_eq_true rfl, Nat.le_of_ble_eq_true rfl⟩ ?_
        first | (have h0 : ¬ pp = 0 := fun q => c_161 (by rw [q]; rfl); rw [if_neg h0] at hz; exact hz) | (have h0 : pp = 0 := (nI_eq (b := 0) (by omega) (by decide)).mp c_161; rw [if_pos h0] at hz; exact hz)
    | succ d ih =>
      intro i hi z M l13 l14 l15 l16 W hr cf fr hB
      have hns := hq (by omega)
      have ht := (nsq_all hns (i + 1)).2.2.2.2.2.2.2.1
      obtain ⟨n1, n2⟩ := cv_new hB ht
      have hLG : LG = 1000000000000 := rfl
      refine x_iload_12 81 C dX6_convergent_79 rfl ?_
      refine x_iload_2 82 C dX6_convergent_81 rfl ?_
      refine x_icmp_ge 85 160 C dX6_convergent_82 rfl rfl (fun z => absurd z (nI_ge (by omega) (by omega))) (fun _ => ?_)
      refine x_aload_0 86 C dX6_convergent_85 rfl ?_
      refine x_iload_1 87 C dX6_convergent_86 rfl ?_
      refine x_callV 90 C (c_X6_nextTerm K _ W N i cf hns) W.obj wcl_X6 hy_X6_nextTerm wv_X6_nextTerm we_X6_nextTerm lk_X6_204 dX6_convergent_87 rfl ⟨Nat.le_of_ble_eq_true rfl, Nat.le_of_ble_eq_true rfl⟩ ⟨Nat.le_of_ble_eq_true rfl, Nat.le_of_ble_eq_true rfl⟩ (Nat.le_of_ble_eq_true rfl) rfl (k_0 rfl rfl (k_v (fun M_1 h_1 => ?_)))
      obtain ⟨z_2, W, ms_2, cf_2, o_n⟩ := h_1
      have hr2 := repM_f hr ms_2
      refine x_aload_0 91 C dX6_convergent_90 rfl ?_
      refine mOg_term 94 C wf_X6_191 W.obj dX6_convergent_91 rfl ?_
      refine x_topi cf_2.2.1 ?_
      refine x_i2l 95 C dX6_convergent_94 rfl ?_
      refine x_topl (nI_l (by omega)) ?_
      refine x_lload_4 97 C dX6_convergent_95 rfl ?_
      refine x_lmul 98 C dX6_convergent_97 rfl ?_
      refine x_topl (lN_mul _ _) ?_
      refine x_lload_8 100 C dX6_convergent_98 rfl ?_
      refine x_ladd 101 C dX6_convergent_100 rfl ?_
      refine x_topl (v' := lN (cvS N (i + 1)).1.1) (lN_add _ _) ?_
      refine x_lstore_13 103 C dX6_convergent_101 rfl rfl ?_
      refine x_aload_0 104 C dX6_convergent_103 rfl ?_
      refine mOg_term 107 C wf_X6_191 W.obj dX6_convergent_104 rfl ?_
      refine x_topi cf_2.2.1 ?_
      refine x_i2l 108 C dX6_convergent_107 rfl ?_
      refine x_topl (nI_l (by omega)) ?_
      refine x_lload_6 110 C dX6_convergent_108 rfl ?_
      refine x_lmul 111 C dX6_convergent_110 rfl ?_
      refine x_topl (lN_mul _ _) ?_
      refine x_lload_10 113 C dX6_convergent_111 rfl ?_
      refine x_ladd 114 C dX6_convergent_113 rfl ?_
      refine x_topl (v' := lN (cvS N (i + 1)).1.2) (lN_add _ _) ?_
      refine x_lstore_15 116 C dX6_convergent_114 rfl rfl ?_
      refine x_lload_4 118 C dX6_convergent_116 rfl ?_
      refine x_lstore_8 120 C dX6_convergent_118 rfl rfl ?_
      refine x_lload_6 122 C dX6_convergent_120 rfl ?_
      refine x_lstore_10 124 C dX6_convergent_122 rfl rfl ?_
      refine x_lload_13 126 C dX6_convergent_124 rfl ?_
      refine x_lstore_4 128 C dX6_convergent_126 rfl rfl ?_
      refine x_lload_15 130 C dX6_convergent_128 rfl ?_
      refine x_lstore_6 132 C dX6_convergent_130 rfl rfl ?_
      refine x_lload_4 134 C dX6_convergent_132 rfl ?_
      refine x_ldc2 (v := 1000000000000) 137 C dX6_convergent_134 rfl wq_X6_51 ?_
      refine x_lc_gt 141 150 C dX6_convergent_137 dX6_convergent_138 rfl rfl (fun c_137 => ?_) (fun c_137 => ?_)
      · refine x_ldc2 (v := (-6)) 153 C dX6_convergent_150 rfl wq_X6_175 ?_
        refine x_lreturn C Rt dX6_convergent_153 ⟨Nat.le_of_ble_eq_true rfl, Nat.le_of_ble_eq_true rfl⟩ ?_
        have hno : ¬ cvB N (i + 1) := fun q => by have h1 := (lN_lt' (a := 1000000000000) (by decide) (by omega)).mp c_137; have h2 := q.1; omega
        exact (hfin _ _ W hr2 (fr.tr (o_n))).2 (fun q => hno (q (i + 1) (by omega)))
      · refine x_lload_6 143 C dX6_convergent_141 rfl ?_
        refine x_ldc2 (v := 1000000000000) 146 C dX6_convergent_143 rfl wq_X6_51 ?_
        refine x_lc_le 150 154 C dX6_convergent_146 dX6_convergent_147 rfl rfl (fun c_146 => ?_) (fun c_146 => ?_)
        · refine x_iinc_12 157 C dX6_convergent_154 rfl rfl (nI_inc _) ?_
          refine x_goto 79 C dX6_convergent_157 rfl ?_
          have hy : cvB N (i + 1) := ⟨Nat.not_lt.mp fun q => c_137 ((lN_lt' (a := 1000000000000) (by decide) (by omega)).mpr (by omega)), by have h1 := (lN_le' (b := 1000000000000) (by omega) (by decide)).mp c_146; omega⟩
          exact ih (i + 1) (by omega) _ _ _ _ _ _ W hr2 cf_2 (fr.tr (o_n)) (cvB_s hB hy)
        · refine x_ldc2 (v := (-6)) 153 C dX6_convergent_150 rfl wq_X6_175 ?_
          refine x_lreturn C Rt dX6_convergent_153 ⟨Nat.le_of_ble_eq_true rfl, Nat.le_of_ble_eq_true rfl⟩ ?_
          have hno : ¬ cvB N (i + 1) := fun q => c_146 ((lN_le' (b := 1000000000000) (by omega) (by decide)).mpr (by have h2 := q.2; omega))
          exact (hfin _ _ W hr2 (fr.tr (o_n))).2 (fun q => hno (q (i + 1) (by omega)))
  refine x_iload_1 1 C dX6_convergent_0 rfl ?_
  refine x_iconst (v := 0) 2 C dX6_convergent_1 rfl rfl ?_
  refine x_ldc (v := 100000) 4 C dX6_convergent_2 rfl wq_X6_200 ?_
  refine x_callS 7 C (c_X6_in K _ _ _ _) hy_X6_in ws_X6_in lk_X6_57 dX6_convergent_4 rfl ⟨Nat.le_of_ble_eq_true rfl, Nat.le_of_ble_eq_true rfl⟩ ⟨Nat.le_of_ble_eq_true rfl, Nat.le_of_ble_eq_true rfl⟩ (Nat.le_of_ble_eq_true rfl) rfl (k_0 rfl rfl (k_ip ?_))
  refine x_if_eq 10 30 C dX6_convergent_7 rfl rfl (fun c_7 => ?_) (fun c_7 => ?_)
  · refine x_ldc2 (v := (-2)) 33 C dX6_convergent_30 rfl wq_X6_70 ?_
    refine x_lreturn C Rt dX6_convergent_33 ⟨Nat.le_of_ble_eq_true rfl, Nat.le_of_ble_eq_true rfl⟩ ?_
    simp only [Classical.not_not, hB_0p, hB_n0p, Int32.toInt_toInt64, tl_LG, ti_m1, Int32.lt_iff_toInt_lt, Int32.le_iff_toInt_le, Int64.lt_iff_toInt_lt, Int64.le_iff_toInt_le, tl_0, ti_0, tl_1, ti_1, tl_2, ti_2, tl_3, ti_3, tl_4, ti_4, tl_5, ti_5, tl_6, ti_6, tl_7, ti_7, tl_8, ti_8, tl_9, ti_9, tl_10, ti_10, tl_33, ti_33, tl_60, ti_60, tl_100, ti_100, tl_126, ti_126, tl_255, ti_255, tl_500, ti_500, tl_9999, ti_9999, tl_10000, ti_10000, tl_100000, ti_100000, tl_1000000, ti_1000000, tl_1000000000, ti_1000000000] at c_7
    exact ⟨_, rfl, by rw [sp_convergent, spQ_f (by omega)], by rw [hM0]; exact ⟨⟨z, F, G, W, hr⟩, hFr.rf⟩⟩
  · refine x_iload_2 11 C dX6_convergent_10 rfl ?_
    refine x_iconst (v := 0) 12 C dX6_convergent_11 rfl rfl ?_
    refine x_sipush (v := 500) 15 C dX6_convergent_12 rfl rfl ?_
    refine x_callS 18 C (c_X6_in K _ _ _ _) hy_X6_in ws_X6_in lk_X6_57 dX6_convergent_15 rfl ⟨Nat.le_of_ble_eq_true rfl, Nat.le_of_ble_eq_true rfl⟩ ⟨Nat.le_of_ble_eq_true rfl, Nat.le_of_ble_eq_true rfl⟩ (Nat.le_of_ble_eq_true rfl) rfl (k_0 rfl rfl (k_ip ?_))
    refine x_if_eq 21 30 C dX6_convergent_18 rfl rfl (fun c_18 => ?_) (fun c_18 => ?_)
    · refine x_ldc2 (v := (-2)) 33 C dX6_convergent_30 rfl wq_X6_70 ?_
      refine x_lreturn C Rt dX6_convergent_33 ⟨Nat.le_of_ble_eq_true rfl, Nat.le_of_ble_eq_true rfl⟩ ?_
      simp only [Classical.not_not, hB_0p, hB_n0p, Int32.toInt_toInt64, tl_LG, ti_m1, Int32.lt_iff_toInt_lt, Int32.le_iff_toInt_le, Int64.lt_iff_toInt_lt, Int64.le_iff_toInt_le, tl_0, ti_0, tl_1, ti_1, tl_2, ti_2, tl_3, ti_3, tl_4, ti_4, tl_5, ti_5, tl_6, ti_6, tl_7, ti_7, tl_8, ti_8, tl_9, ti_9, tl_10, ti_10, tl_33, ti_33, tl_60, ti_60, tl_100, ti_100, tl_126, ti_126, tl_255, ti_255, tl_500, ti_500, tl_9999, ti_9999, tl_10000, ti_10000, tl_100000, ti_100000, tl_1000000, ti_1000000, tl_1000000000, ti_1000000000] at c_7 c_18
      exact ⟨_, rfl, by rw [sp_convergent, spQ_f (by omega)], by rw [hM0]; exact ⟨⟨z, F, G, W, hr⟩, hFr.rf⟩⟩
    · refine x_iload_3 22 C dX6_convergent_21 rfl ?_
      refine x_iconst (v := 0) 23 C dX6_convergent_22 rfl rfl ?_
      refine x_iconst (v := 1) 24 C dX6_convergent_23 rfl rfl ?_
      refine x_callS 27 C (c_X6_in K _ _ _ _) hy_X6_in ws_X6_in lk_X6_57 dX6_convergent_24 rfl ⟨Nat.le_of_ble_eq_true rfl, Nat.le_of_ble_eq_true rfl⟩ ⟨Nat.le_of_ble_eq_true rfl, Nat.le_of_ble_eq_true rfl⟩ (Nat.le_of_ble_eq_true rfl) rfl (k_0 rfl rfl (k_ip ?_))
      refine x_if_ne 30 34 C dX6_convergent_27 rfl rfl (fun c_27 => ?_) (fun c_27 => ?_)
      · simp only [Classical.not_not, hB_0p, hB_n0p, Int32.toInt_toInt64, tl_LG, ti_m1, Int32.lt_iff_toInt_lt, Int32.le_iff_toInt_le, Int64.lt_iff_toInt_lt, Int64.le_iff_toInt_le, tl_0, ti_0, tl_1, ti_1, tl_2, ti_2, tl_3, ti_3, tl_4, ti_4, tl_5, ti_5, tl_6, ti_6, tl_7, ti_7, tl_8, ti_8, tl_9, ti_9, tl_10, ti_10, tl_33, ti_33, tl_60, ti_60, tl_100, ti_100, tl_126, ti_126, tl_255, ti_255, tl_500, ti_500, tl_9999, ti_9999, tl_10000, ti_10000, tl_100000, ti_100000, tl_1000000, ti_1000000, tl_1000000000, ti_1000000000] at c_7 c_18 c_27
        obtain ⟨N, hN, rfl⟩ := in_nI (b := 100000) c_7
        obtain ⟨kk, hk, rfl⟩ := in_nI (b := 500) c_18
        obtain ⟨pp, hp, rfl⟩ := in_nI (b := 1) c_27
        obtain ⟨w0, w1, w2⟩ := cf_w hN
        have wl := Nat.mul_le_mul w0 w0
        refine x_aload_0 35 C dX6_convergent_34 rfl ?_
        refine x_iload_1 36 C dX6_convergent_35 rfl ?_
        refine x_callV 39 C (c_X6_beginFraction K _ W N hN) W.obj wcl_X6 hy_X6_beginFraction wv_X6_beginFraction we_X6_beginFraction lk_X6_201 dX6_convergent_36 rfl ⟨Nat.le_of_ble_eq_true rfl, Nat.le_of_ble_eq_true rfl⟩ ⟨Nat.le_of_ble_eq_true rfl, Nat.le_of_ble_eq_true rfl⟩ (Nat.le_of_ble_eq_true rfl) rfl (k_0 rfl rfl (k_v (fun M_1 h_1 => ?_)))
        obtain ⟨z_2, W, ms_2, cf_2, o_b⟩ := h_1
        have hr2 := repM_f hr ms_2
        refine x_iload_2 40 C dX6_convergent_39 rfl ?_
        refine x_if_le 43 60 C dX6_convergent_40 rfl rfl (fun c_40 => ?_) (fun c_40 => ?_)
        · have h0 : kk ≤ 0 := (nI_leI (b := 0) (by omega) (by decide)).mp c_40
          refine x_aload_0 61 C dX6_convergent_60 rfl ?_
          refine mOg_whole 64 C wf_X6_188 W.obj dX6_convergent_61 rfl ?_
          refine x_topi cf_2.1 ?_
          refine x_i2l 65 C dX6_convergent_64 rfl ?_
          refine x_topl (nI_l (by omega)) ?_
          refine x_lstore_4 67 C dX6_convergent_65 rfl rfl ?_
          refine x_lconst (v := 1) 68 C dX6_convergent_67 rfl rfl ?_
          refine x_lstore_6 70 C dX6_convergent_68 rfl rfl ?_
          refine x_lconst (v := 1) 71 C dX6_convergent_70 rfl rfl ?_
          refine x_lstore_8 73 C dX6_convergent_71 rfl rfl ?_
          refine x_lconst (v := 0) 74 C dX6_convergent_73 rfl rfl ?_
          refine x_lstore_10 76 C dX6_convergent_74 rfl rfl ?_
          refine x_iconst (v := 0) 77 C dX6_convergent_76 rfl rfl ?_
          refine x_istore_12 79 C dX6_convergent_77 rfl rfl ?_
          exact lp N kk pp hN hk hp (fun q => by omega) (fun z M W hr fr => ⟨fun q => ⟨_, rfl, by rw [sp_convergent, spQ_t ⟨c_7, c_18, c_27⟩, nI_toN (by omega), spQ_f (by rw [nI_toI (by omega)]; omega), nI_toN (by omega), spQ_t q, cv_sel hp], ⟨⟨_, _, _, W, hr⟩, fr⟩⟩, fun q => ⟨_, rfl, by rw [sp_convergent, spQ_t ⟨c_7, c_18, c_27⟩, nI_toN (by omega), spQ_f (by rw [nI_toI (by omega)]; omega), nI_toN (by omega), spQ_f q], ⟨⟨_, _, _, W, hr⟩, fr⟩⟩⟩) kk 0 (Nat.zero_add _) _ _ _ _ _ _ W hr2 cf_2 (by rw [hM0]; exact (o_b)) (cvB_0 w0)
        · have h0 : 0 < kk := by
            rcases Nat.eq_zero_or_pos kk with q | q
            · exact absurd (by rw [q]; decide) c_40
            · exact q
          refine x_aload_0 44 C dX6_convergent_43 rfl ?_
          refine mOg_whole 47 C wf_X6_188 W.obj dX6_convergent_44 rfl ?_
          refine x_topi cf_2.1 ?_
          refine x_aload_0 48 C dX6_convergent_47 rfl ?_
          refine mOg_whole 51 C wf_X6_188 W.obj dX6_convergent_48 rfl ?_
          refine x_topi cf_2.1 ?_
          refine x_imul 52 C dX6_convergent_51 rfl ?_
          refine x_topi (pk_mul _ _) ?_
          refine x_iload_1 53 C dX6_convergent_52 rfl ?_
          refine x_icmp_ne 56 60 C dX6_convergent_53 rfl rfl (fun c_53 => ?_) (fun c_53 => ?_)
          · refine x_aload_0 61 C dX6_convergent_60 rfl ?_
            refine mOg_whole 64 C wf_X6_188 W.obj dX6_convergent_61 rfl ?_
            refine x_topi cf_2.1 ?_
            refine x_i2l 65 C dX6_convergent_64 rfl ?_
            refine x_topl (nI_l (by omega)) ?_
            refine x_lstore_4 67 C dX6_convergent_65 rfl rfl ?_
            refine x_lconst (v := 1) 68 C dX6_convergent_67 rfl rfl ?_
            refine x_lstore_6 70 C dX6_convergent_68 rfl rfl ?_
            refine x_lconst (v := 1) 71 C dX6_convergent_70 rfl rfl ?_
            refine x_lstore_8 73 C dX6_convergent_71 rfl rfl ?_
            refine x_lconst (v := 0) 74 C dX6_convergent_73 rfl rfl ?_
            refine x_lstore_10 76 C dX6_convergent_74 rfl rfl ?_
            refine x_iconst (v := 0) 77 C dX6_convergent_76 rfl rfl ?_
            refine x_istore_12 79 C dX6_convergent_77 rfl rfl ?_
            have hs : ¬ sq 2 N * sq 2 N = N := fun q => c_53 (by rw [q])
            exact lp N kk pp hN hk hp (fun _ => ⟨hN, by omega⟩) (fun z M W hr fr => ⟨fun q => ⟨_, rfl, by rw [sp_convergent, spQ_t ⟨c_7, c_18, c_27⟩, nI_toN (by omega), spQ_f (fun q => hs q.2), nI_toN (by omega), spQ_t q, cv_sel hp], ⟨⟨_, _, _, W, hr⟩, fr⟩⟩, fun q => ⟨_, rfl, by rw [sp_convergent, spQ_t ⟨c_7, c_18, c_27⟩, nI_toN (by omega), spQ_f (fun q => hs q.2), nI_toN (by omega), spQ_f q], ⟨⟨_, _, _, W, hr⟩, fr⟩⟩⟩) kk 0 (Nat.zero_add _) _ _ _ _ _ _ W hr2 cf_2 (by rw [hM0]; exact (o_b)) (cvB_0 w0)
          · refine x_ldc2 (v := (-6)) 59 C dX6_convergent_56 rfl wq_X6_175 ?_
            refine x_lreturn C Rt dX6_convergent_59 ⟨Nat.le_of_ble_eq_true rfl, Nat.le_of_ble_eq_true rfl⟩ ?_
            have hs : sq 2 N * sq 2 N = N := (nI_eq (by omega) (by omega)).mp (by first | exact c_53 | exact Decidable.not_not.mp c_53)
            exact ⟨_, rfl, by rw [sp_convergent, spQ_t ⟨c_7, c_18, c_27⟩, nI_toN (by omega), spQ_t ⟨by rw [nI_toI (by omega)]; omega, hs⟩], by rw [hM0]; exact ⟨⟨_, _, _, W, hr2⟩, (o_b)⟩⟩
      · refine x_ldc2 (v := (-2)) 33 C dX6_convergent_30 rfl wq_X6_70 ?_
        refine x_lreturn C Rt dX6_convergent_33 ⟨Nat.le_of_ble_eq_true rfl, Nat.le_of_ble_eq_true rfl⟩ ?_
        simp only [Classical.not_not, hB_0p, hB_n0p, Int32.toInt_toInt64, tl_LG, ti_m1, Int32.lt_iff_toInt_lt, Int32.le_iff_toInt_le, Int64.lt_iff_toInt_lt, Int64.le_iff_toInt_le, tl_0, ti_0, tl_1, ti_1, tl_2, ti_2, tl_3, ti_3, tl_4, ti_4, tl_5, ti_5, tl_6, ti_6, tl_7, ti_7, tl_8, ti_8, tl_9, ti_9, tl_10, ti_10, tl_33, ti_33, tl_60, ti_60, tl_100, ti_100, tl_126, ti_126, tl_255, ti_255, tl_500, ti_500, tl_9999, ti_9999, tl_10000, ti_10000, tl_100000, ti_100000, tl_1000000, ti_1000000, tl_1000000000, ti_1000000000] at c_7 c_18 c_27
        exact ⟨_, rfl, by rw [sp_convergent, spQ_f (by omega)], by rw [hM0]; exact ⟨⟨z, F, G, W, hr⟩, hFr.rf⟩⟩
set_option maxHeartbeats 4000000 in
set_option maxRecDepth 100000 in
theorem c_X6_twoSquares (K : hKv) (M : hM) (oo : Nat) (n u : Int32) : hC K Y_X6_twoSquares rm_X6_twoSquares [.ref oo, .int n, .int u] M (hPi fun r M' => r = sp_twoSquares n u ∧ M' = M) := by
  refine hC.of [some (.ref oo), some (.int n), some (.int u), none, none, none, none, none] (by decide) (Nat.le_of_ble_eq_true rfl) rfl rfl ?_
  intro E C Rt
  have C : hCx E K cX6_twoSquares 8 RX6 "twoSquares" rm_X6_twoSquares := C
  have lp : ∀ (oo : Nat) (N : Nat) (ww : Int32), N ≤ 1000000 → (∀ x : Int32, x = (if ww = 0 then nI (tsc N (tsK N)) else if ww = 1 then tsL (tsf N (tsK N)) else tsO N (tsf N (tsK N))) → hPi (fun r M' => r = sp_twoSquares n u ∧ M' = M) (some (.int x)) M) → ∀ (d a : Nat), a + d = tsK N → ∀ l7 : Option Value, hX E 0 0 35 [some (.ref oo), some (.int (nI N)), some (.int ww), some (.int (nI (tsc N a))), some (.int (tsL (tsf N a))), some (.int (tsO N (tsf N a))), some (.int (nI a)), l7] [] M := by
    intro oo N ww hN hfin d
    have hK := tsK_bd hN
    induction d with
    | zero =>
      intro a ha l7
      have ha : a = tsK N := by omega
      subst ha
      have hgt : N < 2 * tsK N * tsK N := Nat.not_le.mp fun q => absurd ((tsK_lt hN).mpr q) (Nat.lt_irrefl _)
      have hb : 2 * tsK N * tsK N < 2 ^ 31 := by have := Nat.mul_le_mul (Nat.mul_le_mul_left 2 hK) hK; omega
      refine x_iconst (v := 2) 36 C dX6_twoSquares_35 rfl rfl ?_
      refine x_iload_6 38 C dX6_twoSquares_36 rfl ?_
      refine x_imul 39 C dX6_twoSquares_38 rfl ?_
      refine x_topi (pk_mul 2 _) ?_
      refine x_iload_6 41 C dX6_twoSquares_39 rfl ?_
      refine x_imul 42 C dX6_twoSquares_41 rfl ?_
      refine x_topi (pk_mul _ _) ?_
      refine x_iload_1 43 C dX6_twoSquares_42 rfl ?_
      refine x_icmp_gt 46 111 C dX6_twoSquares_43 rfl rfl (fun _ => ?_) (fun z => absurd ((nI_ltI (by omega) hb).mpr hgt) z)
      refine x_iload_2 112 C dX6_twoSquares_111 rfl ?_
      refine x_if_ne 115 119 C dX6_twoSquares_112 rfl rfl (fun c_112 => ?_) (fun c_112 => ?_)
      · refine x_iload_2 120 C dX6_twoSquares_119 rfl ?_
        refine x_iconst (v := 1) 121 C dX6_twoSquares_120 rfl rfl ?_
        refine x_icmp_ne 124 129 C dX6_twoSquares_121 rfl rfl (fun c_121 => ?_) (fun c_121 => ?_)
        · refine x_iload_5 131 C dX6_twoSquares_129 rfl ?_
          refine x_ireturn C Rt dX6_twoSquares_131 rfl ⟨Nat.le_of_ble_eq_true rfl, Nat.le_of_ble_eq_true rfl⟩ ?_
          first | exact hfin _ (by rw [if_neg c_112, if_neg c_121]) | exact hfin _ (by rw [if_neg c_112, if_pos c_121]) | exact hfin _ (by rw [if_pos c_112])
        · refine x_iload_4 126 C dX6_twoSquares_124 rfl ?_
          refine x_goto 131 C dX6_twoSquares_126 rfl ?_
          refine x_ireturn C Rt dX6_twoSquares_131 rfl ⟨Nat.le_of_ble_eq_true rfl, Nat.le_of_ble_eq_true rfl⟩ ?_
          first | exact hfin _ (by rw [if_neg c_112, if_neg c_121]) | exact hfin _ (by rw [if_neg c_112, if_pos c_121]) | exact hfin _ (by rw [if_pos c_112])
      · refine x_iload_3 116 C dX6_twoSquares_115 rfl ?_
        refine x_goto 131 C dX6_twoSquares_116 rfl ?_
        refine x_ireturn C Rt dX6_twoSquares_131 rfl ⟨Nat.le_of_ble_eq_true rfl, Nat.le_of_ble_eq_true rfl⟩ ?_
        first | exact hfin _ (by rw [if_neg c_112, if_neg c_121]) | exact hfin _ (by rw [if_neg c_112, if_pos c_121]) | exact hfin _ (by rw [if_pos c_112])
    | succ d ih =>
      intro a ha l7
      have hle := (tsK_lt hN (a := a)).mp (by omega)
      have ha2 : a * a ≤ N := by rw [Nat.mul_assoc] at hle; omega
      have hs := sq2_pw (N := N - a * a) (by omega)
      have hs1 := sq2_le (N := N - a * a) (R := 1001) (by omega) (by omega)
      have hs2 := tsc_f (n := N) a
      have hbb := Nat.mul_le_mul (show sq 2 (N - a * a) ≤ 1000 by omega) (show sq 2 (N - a * a) ≤ 1000 by omega)
      refine x_iconst (v := 2) 36 C dX6_twoSquares_35 rfl rfl ?_
      refine x_iload_6 38 C dX6_twoSquares_36 rfl ?_
      refine x_imul 39 C dX6_twoSquares_38 rfl ?_
      refine x_topi (pk_mul 2 _) ?_
      refine x_iload_6 41 C dX6_twoSquares_39 rfl ?_
      refine x_imul 42 C dX6_twoSquares_41 rfl ?_
      refine x_topi (pk_mul _ _) ?_
      refine x_iload_1 43 C dX6_twoSquares_42 rfl ?_
      refine x_icmp_gt 46 111 C dX6_twoSquares_43 rfl rfl (fun z => absurd z ((fun q => by have := (nI_ltI (by omega) (by omega)).mp q; omega))) (fun _ => ?_)
      refine x_iload_1 47 C dX6_twoSquares_46 rfl ?_
      refine x_iload_6 49 C dX6_twoSquares_47 rfl ?_
      refine x_iload_6 51 C dX6_twoSquares_49 rfl ?_
      refine x_imul 52 C dX6_twoSquares_51 rfl ?_
      refine x_topi (pk_mul _ _) ?_
      refine x_isub 53 C dX6_twoSquares_52 rfl ?_
      refine x_topi (pk_sub ha2) ?_
      refine x_i2l 54 C dX6_twoSquares_53 rfl ?_
      refine x_topl (nI_l (by omega)) ?_
      refine x_iconst (v := 2) 55 C dX6_twoSquares_54 rfl rfl ?_
      refine x_topi (v' := nI 2) rfl ?_
      refine x_callS 58 C (c_X6_floorRoot K _ (N - a * a) 2 (by decide) (by omega)) hy_X6_floorRoot ws_X6_floorRoot lk_X6_133 dX6_twoSquares_55 rfl ⟨Nat.le_of_ble_eq_true rfl, Nat.le_of_ble_eq_true rfl⟩ ⟨Nat.le_of_ble_eq_true rfl, Nat.le_of_ble_eq_true rfl⟩ (Nat.le_of_ble_eq_true rfl) rfl (k_0 rfl rfl (k_lp ?_))
      refine x_l2i 59 C dX6_twoSquares_58 rfl ?_
      refine x_topi (lN_i _) ?_
      refine x_istore_7 61 C dX6_twoSquares_59 rfl rfl ?_
      refine x_iload_6 63 C dX6_twoSquares_61 rfl ?_
      refine x_iload_6 65 C dX6_twoSquares_63 rfl ?_
      refine x_imul 66 C dX6_twoSquares_65 rfl ?_
      refine x_topi (pk_mul _ _) ?_
      refine x_iload_7 68 C dX6_twoSquares_66 rfl ?_
      refine x_iload_7 70 C dX6_twoSquares_68 rfl ?_
      refine x_imul 71 C dX6_twoSquares_70 rfl ?_
      refine x_topi (pk_mul _ _) ?_
      refine x_iadd 72 C dX6_twoSquares_71 rfl ?_
      refine x_topi (nI_add _ _) ?_
      refine x_iload_1 73 C dX6_twoSquares_72 rfl ?_
      refine x_icmp_ne 76 105 C dX6_twoSquares_73 rfl rfl (fun c_73 => ?_) (fun c_73 => ?_)
      · refine x_iinc_6 108 C dX6_twoSquares_105 rfl rfl (nI_inc _) ?_
        refine x_goto 35 C dX6_twoSquares_108 rfl ?_
        have hn : ¬ tsP N a := fun q => c_73 (by unfold tsP at q; rw [q])
        obtain ⟨e1, e2⟩ := tsf_0 hn
        have h := ih (a + 1) (by omega) (some (.int (nI (sq 2 (N - a * a)))))
        rw [e1, e2] at h
        exact h
      · refine x_iload_3 77 C dX6_twoSquares_76 rfl ?_
        refine x_if_ne 80 85 C dX6_twoSquares_77 rfl rfl (fun c_77 => ?_) (fun c_77 => ?_)
        · refine x_iload_4 87 C dX6_twoSquares_85 rfl ?_
          refine x_istore_4 89 C dX6_twoSquares_87 rfl rfl ?_
          refine x_iload_3 90 C dX6_twoSquares_89 rfl ?_
          refine x_if_ne 93 98 C dX6_twoSquares_90 rfl rfl (fun _ => ?_) (fun z => absurd z (c_77))
          refine x_iload_5 100 C dX6_twoSquares_98 rfl ?_
          refine x_istore_5 102 C dX6_twoSquares_100 rfl rfl ?_
          refine x_iinc_3 105 C dX6_twoSquares_102 rfl rfl (nI_inc _) ?_
          refine x_iinc_6 108 C dX6_twoSquares_105 rfl rfl (nI_inc _) ?_
          refine x_goto 35 C dX6_twoSquares_108 rfl ?_
          have hy : tsP N a := (nI_eq (by omega) (by omega)).mp (by first | exact c_73 | exact Decidable.not_not.mp c_73)
          cases hf : tsf N a with
          | none => exact absurd (by rw [hs2.2.mpr hf]; rfl) c_77
          | some x =>
            obtain ⟨e1, e2⟩ := tsf_2 hy hf
            have h := ih (a + 1) (by omega) (some (.int (nI (sq 2 (N - a * a)))))
            rw [e1, e2] at h
            exact h
        · refine x_iload_6 82 C dX6_twoSquares_80 rfl ?_
          refine x_goto 87 C dX6_twoSquares_82 rfl ?_
          refine x_istore_4 89 C dX6_twoSquares_87 rfl rfl ?_
          refine x_iload_3 90 C dX6_twoSquares_89 rfl ?_
          refine x_if_ne 93 98 C dX6_twoSquares_90 rfl rfl (fun z => absurd (c_77) z) (fun _ => ?_)
          refine x_iload_7 95 C dX6_twoSquares_93 rfl ?_
          refine x_goto 100 C dX6_twoSquares_95 rfl ?_
          refine x_istore_5 102 C dX6_twoSquares_100 rfl rfl ?_
          refine x_iinc_3 105 C dX6_twoSquares_102 rfl rfl (nI_inc _) ?_
          refine x_iinc_6 108 C dX6_twoSquares_105 rfl rfl (nI_inc _) ?_
          refine x_goto 35 C dX6_twoSquares_108 rfl ?_
          have hy : tsP N a := (nI_eq (by omega) (by omega)).mp (by first | exact c_73 | exact Decidable.not_not.mp c_73)
          have hf := hs2.2.mp ((nI_eq (b := 0) (by omega) (by decide)).mp c_77)
          obtain ⟨e1, e2⟩ := tsf_1 hy hf
          have h := ih (a + 1) (by omega) (some (.int (nI (sq 2 (N - a * a)))))
          rw [e1, e2] at h
          exact h
  refine x_iload_1 1 C dX6_twoSquares_0 rfl ?_
  refine x_iconst (v := 0) 2 C dX6_twoSquares_1 rfl rfl ?_
  refine x_ldc (v := 1000000) 4 C dX6_twoSquares_2 rfl wq_X6_177 ?_
  refine x_callS 7 C (c_X6_in K _ _ _ _) hy_X6_in ws_X6_in lk_X6_57 dX6_twoSquares_4 rfl ⟨Nat.le_of_ble_eq_true rfl, Nat.le_of_ble_eq_true rfl⟩ ⟨Nat.le_of_ble_eq_true rfl, Nat.le_of_ble_eq_true rfl⟩ (Nat.le_of_ble_eq_true rfl) rfl (k_0 rfl rfl (k_ip ?_))
  refine x_if_eq 10 19 C dX6_twoSquares_7 rfl rfl (fun c_7 => ?_) (fun c_7 => ?_)
  · refine x_bipush (v := (-2)) 21 C dX6_twoSquares_19 rfl rfl ?_
    refine x_ireturn C Rt dX6_twoSquares_21 rfl ⟨Nat.le_of_ble_eq_true rfl, Nat.le_of_ble_eq_true rfl⟩ ?_
    simp only [Classical.not_not, hB_0p, hB_n0p, Int32.toInt_toInt64, tl_LG, ti_m1, Int32.lt_iff_toInt_lt, Int32.le_iff_toInt_le, Int64.lt_iff_toInt_lt, Int64.le_iff_toInt_le, tl_0, ti_0, tl_1, ti_1, tl_2, ti_2, tl_3, ti_3, tl_4, ti_4, tl_5, ti_5, tl_6, ti_6, tl_7, ti_7, tl_8, ti_8, tl_9, ti_9, tl_10, ti_10, tl_33, ti_33, tl_60, ti_60, tl_100, ti_100, tl_126, ti_126, tl_255, ti_255, tl_500, ti_500, tl_9999, ti_9999, tl_10000, ti_10000, tl_100000, ti_100000, tl_1000000, ti_1000000, tl_1000000000, ti_1000000000] at c_7
    exact ⟨_, rfl, by rw [sp_twoSquares, spQ_f (by omega)], rfl⟩
  · refine x_iload_2 11 C dX6_twoSquares_10 rfl ?_
    refine x_iconst (v := 0) 12 C dX6_twoSquares_11 rfl rfl ?_
    refine x_iconst (v := 2) 13 C dX6_twoSquares_12 rfl rfl ?_
    refine x_callS 16 C (c_X6_in K _ _ _ _) hy_X6_in ws_X6_in lk_X6_57 dX6_twoSquares_13 rfl ⟨Nat.le_of_ble_eq_true rfl, Nat.le_of_ble_eq_true rfl⟩ ⟨Nat.le_of_ble_eq_true rfl, Nat.le_of_ble_eq_true rfl⟩ (Nat.le_of_ble_eq_true rfl) rfl (k_0 rfl rfl (k_ip ?_))
    refine x_if_ne 19 22 C dX6_twoSquares_16 rfl rfl (fun c_16 => ?_) (fun c_16 => ?_)
    · simp only [Classical.not_not, hB_0p, hB_n0p, Int32.toInt_toInt64, tl_LG, ti_m1, Int32.lt_iff_toInt_lt, Int32.le_iff_toInt_le, Int64.lt_iff_toInt_lt, Int64.le_iff_toInt_le, tl_0, ti_0, tl_1, ti_1, tl_2, ti_2, tl_3, ti_3, tl_4, ti_4, tl_5, ti_5, tl_6, ti_6, tl_7, ti_7, tl_8, ti_8, tl_9, ti_9, tl_10, ti_10, tl_33, ti_33, tl_60, ti_60, tl_100, ti_100, tl_126, ti_126, tl_255, ti_255, tl_500, ti_500, tl_9999, ti_9999, tl_10000, ti_10000, tl_100000, ti_100000, tl_1000000, ti_1000000, tl_1000000000, ti_1000000000] at c_7 c_16
      obtain ⟨N, hN, rfl⟩ := in_nI (b := 1000000) c_7
      refine x_iconst (v := 0) 23 C dX6_twoSquares_22 rfl rfl ?_
      refine x_istore_3 24 C dX6_twoSquares_23 rfl rfl ?_
      refine x_bipush (v := (-6)) 26 C dX6_twoSquares_24 rfl rfl ?_
      refine x_istore_4 28 C dX6_twoSquares_26 rfl rfl ?_
      refine x_bipush (v := (-6)) 30 C dX6_twoSquares_28 rfl rfl ?_
      refine x_istore_5 32 C dX6_twoSquares_30 rfl rfl ?_
      refine x_iconst (v := 0) 33 C dX6_twoSquares_32 rfl rfl ?_
      refine x_istore_6 35 C dX6_twoSquares_33 rfl rfl ?_
      refine lp oo N u hN (fun x hx => ⟨_, rfl, ?_, rfl⟩) (tsK N) 0 (Nat.zero_add _) none
      have e0 : u = 0 ↔ u.toInt = 0 := ⟨fun q => by rw [q]; rfl, fun q => Int32.toInt_inj.mp q⟩
      have e1 : u = 1 ↔ u.toInt = 1 := ⟨fun q => by rw [q]; rfl, fun q => Int32.toInt_inj.mp q⟩
      rw [hx, sp_twoSquares, spQ_t ⟨c_7, c_16⟩, nI_toN (by omega)]
      simp only [e0, e1]
    · refine x_bipush (v := (-2)) 21 C dX6_twoSquares_19 rfl rfl ?_
      refine x_ireturn C Rt dX6_twoSquares_21 rfl ⟨Nat.le_of_ble_eq_true rfl, Nat.le_of_ble_eq_true rfl⟩ ?_
      simp only [Classical.not_not, hB_0p, hB_n0p, Int32.toInt_toInt64, tl_LG, ti_m1, Int32.lt_iff_toInt_lt, Int32.le_iff_toInt_le, Int64.lt_iff_toInt_lt, Int64.le_iff_toInt_le, tl_0, ti_0, tl_1, ti_1, tl_2, ti_2, tl_3, ti_3, tl_4, ti_4, tl_5, ti_5, tl_6, ti_6, tl_7, ti_7, tl_8, ti_8, tl_9, ti_9, tl_10, ti_10, tl_33, ti_33, tl_60, ti_60, tl_100, ti_100, tl_126, ti_126, tl_255, ti_255, tl_500, ti_500, tl_9999, ti_9999, tl_10000, ti_10000, tl_100000, ti_100000, tl_1000000, ti_1000000, tl_1000000000, ti_1000000000] at c_7 c_16
      exact ⟨_, rfl, by rw [sp_twoSquares, spQ_f (by have : (2 : Int32).toInt = 2 := rfl; omega)], rfl⟩
