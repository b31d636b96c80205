theorem va_id {α : Type} {f : Nat → α} {k : Nat} : va_up f k (f k) = f := by
  funext j
  unfold va_up
  split
  · next h => rw [h]
  · rfl
theorem hist_psh {F3 F1 f : Nat → Int32} {G4 G2 g : Nat → Int64} {h : Nat × (Nat → hS1)} {n : hS1} (hh : h.1 ≤ 6) (hi : histM F3 G4 h) (n1 : encN n F1) (n2 : encC n G2) (ok : ok1 n) (okh : ∀ i, i < h.1 → ok1 (h.2 i))
    (p1 : ∀ k, k < 728 → f ((if h.1 = 6 then 5 else h.1) * 728 + k) = F1 k) (p2 : ∀ i k, i < (if h.1 = 6 then 5 else h.1) → k < 728 → f (i * 728 + k) = F3 ((i + (if h.1 = 6 then 1 else 0)) * 728 + k))
    (p3 : ∀ k, k < 8 → g ((if h.1 = 6 then 5 else h.1) * 8 + k) = G2 k) (p4 : ∀ i k, i < (if h.1 = 6 then 5 else h.1) → k < 8 → g (i * 8 + k) = G4 ((i + (if h.1 = 6 then 1 else 0)) * 8 + k)) : histM f g (psh h n) := by
  intro i hi2
  by_cases h6 : h.1 = 6
  · rw [psh, if_pos h6] at hi2 ⊢
    simp only [if_pos h6] at p1 p2 p3 p4
    have hi2 : i < 6 := hi2
    show encN (if i = 5 then n else h.2 (i + 1)) _ ∧ encC (if i = 5 then n else h.2 (i + 1)) _
    by_cases h5 : i = 5
    · subst h5
      rw [if_pos rfl]
      exact ⟨n1.congr ok.len (fun k hk => p1 k hk), n2.congr (fun k hk => p3 k hk)⟩
    · rw [if_neg h5]
      obtain ⟨e1, e2⟩ := hi (i + 1) (by omega)
      exact ⟨e1.congr (okh _ (by omega)).len (fun k hk => p2 i k (by omega) hk), e2.congr (fun k hk => p4 i k (by omega) hk)⟩
  · rw [psh, if_neg h6] at hi2 ⊢
    simp only [if_neg h6] at p1 p2 p3 p4
    have hi2 : i < h.1 + 1 := hi2
    show encN (va_up h.2 h.1 n i) _ ∧ encC (va_up h.2 h.1 n i) _
    by_cases h5 : i = h.1
    · subst h5
      rw [va_up_self]
      exact ⟨n1.congr ok.len (fun k hk => p1 k hk), n2.congr (fun k hk => p3 k hk)⟩
    · rw [va_up_ne _ _ h5]
      obtain ⟨e1, e2⟩ := hi i (by omega)
      exact ⟨e1.congr (okh _ (by omega)).len (fun k hk => by rw [p2 i k (by omega) hk]; rfl), e2.congr (fun k hk => by rw [p4 i k (by omega) hk]; rfl)⟩
def mP (K : hKv) (A : Nat → Nat) (M : hM) (σ : hSt) (M' : hM) : Prop := (∃ z F G, mW K A z F G M' ∧ repM z F G σ) ∧ hFr 100 200 M M'
theorem psh_n {h : Nat × (Nat → hS1)} {n : hS1} : (psh h n).1 = if h.1 = 6 then 6 else h.1 + 1 := by unfold psh; split <;> rfl
def fset (τ : hS1) : Int32 := fbv (fun i => !(τ.2.2.2 i).isEmpty) 6
noncomputable def sp_set (σ : hSt) (a b : Int32) : Int32 × hSt := spQ ((0 ≤ a.toInt ∧ a.toInt ≤ 1) ∧ 0 ≤ b.toInt ∧ b.toInt ≤ (if a.toInt = 0 then 2 else 6)) (if a.toInt = 0 then (nI σ.1.1, recd σ (b.toInt.toNat, σ.1.2.1, σ.1.2.2)) else (nI σ.1.2.1, recd σ (σ.1.1, b.toInt.toNat, σ.1.2.2))) (-2, σ)
noncomputable def sp_setCell (σ : hSt) (c : Int32) (v : Int64) : Int64 × hSt := spQ (0 ≤ c.toInt ∧ c.toInt ≤ 7) (spQ (0 ≤ v.toInt ∧ v.toInt ≤ 1000000000000) (lN (σ.1.2.2.1 c.toInt.toNat), recd σ (σ.1.1, σ.1.2.1, va_up σ.1.2.2.1 c.toInt.toNat v.toInt.toNat, σ.1.2.2.2)) (-2, σ)) (-1, σ)
noncomputable def sp_cell (σ : hSt) (c : Int32) : Int64 := spQ (0 ≤ c.toInt ∧ c.toInt ≤ 7) (lN (σ.1.2.2.1 c.toInt.toNat)) (-1)
def sp_wipe (σ : hSt) : Int32 × hSt := (nI σ.2.2.2.length, (σ.1, σ.2.1, σ.2.2.1, []))
def sp_undo (σ : hSt) : Int32 × hSt := if σ.2.1.1 = 0 then (-5, σ) else (nI (σ.2.1.1 - 1), (σ.2.1.2 (σ.2.1.1 - 1), (σ.2.1.1 - 1, σ.2.1.2), σ.2.2))
noncomputable def sp_save (σ : hSt) (s : Int32) : Int32 × hSt := spQ (0 ≤ s.toInt ∧ s.toInt ≤ 1) (fset σ.1, (σ.1, σ.2.1, va_up σ.2.2.1 s.toInt.toNat (some σ.1), σ.2.2.2)) (-2, σ)
noncomputable def sp_restore (σ : hSt) (s : Int32) : Int32 × hSt := spQ (0 ≤ s.toInt ∧ s.toInt ≤ 1) (match σ.2.2.1 s.toInt.toNat with | none => (-5, σ) | some τ => (fset τ, recd σ τ)) (-2, σ)
noncomputable def sp_count (σ : hSt) (w : Int32) : Int32 := if w.toInt = 0 then fset σ.1 else if w.toInt = 1 then nI σ.2.2.2.length else if w.toInt = 2 then nI σ.2.1.1 else if w.toInt = 3 then nI σ.1.1 else if w.toInt = 4 then nI σ.1.2.1 else if w.toInt = 5 then nI (cnz (fun i => !(σ.1.2.2.1 i == 0)) 8) else -2
theorem encN_rnd {σ : hS1} {f : Nat → Int32} (h : encN σ f) (b : Nat) : encN (b, σ.2.1, σ.2.2) (va_up f 0 (nI b)) := ⟨va_up_self _ _ _, (va_up_ne _ _ (by decide)).trans h.2.1, fun i hi => ⟨(va_up_ne _ _ (by omega)).trans (h.2.2 i hi).1, fun k hk => ⟨(va_up_ne _ _ (by omega)).trans ((h.2.2 i hi).2 k hk).1, (va_up_ne _ _ (by omega)).trans ((h.2.2 i hi).2 k hk).2⟩⟩⟩
theorem encN_dig {σ : hS1} {f : Nat → Int32} (h : encN σ f) (b : Nat) : encN (σ.1, b, σ.2.2) (va_up f 1 (nI b)) := ⟨(va_up_ne _ _ (by decide)).trans h.1, va_up_self _ _ _, fun i hi => ⟨(va_up_ne _ _ (by omega)).trans (h.2.2 i hi).1, fun k hk => ⟨(va_up_ne _ _ (by omega)).trans ((h.2.2 i hi).2 k hk).1, (va_up_ne _ _ (by omega)).trans ((h.2.2 i hi).2 k hk).2⟩⟩⟩
theorem encC_set {σ : hS1} {g : Nat → Int64} (h : encC σ g) (c v : Nat) : encC (σ.1, σ.2.1, va_up σ.2.2.1 c v, σ.2.2.2) (va_up g c (lN v)) := by
  intro i hi
  show va_up g c (lN v) i = lN (va_up σ.2.2.1 c v i)
  unfold va_up
  split
  · rfl
  · exact h i hi
set_option maxHeartbeats 4000000 in
set_option maxRecDepth 100000 in
theorem c_X6_set (K : hKv) (M : hM) {A : Nat → Nat} {z : Nat → Int32} {F : Nat → Nat → Int32} {G : Nat → Nat → Int64} (W : mW K A z F G M) {σ : hSt} (hr : repM z F G σ) (ho : okS σ) (a b : Int32) : hC K Y_X6_set rm_X6_set [.ref (A 0), .int a, .int b] M (hPi fun r M' => r = (sp_set σ a b).1 ∧ mP K A M (sp_set σ a b).2 M') := by
  refine hC.of [some (.ref (A 0)), some (.int a), some (.int b), none] (by decide) (Nat.le_of_ble_eq_true rfl) rfl rfl ?_
  intro E C Rt
  have C : hCx E K cX6_set 4 RX6 "set" rm_X6_set := C
  refine x_iload_1 1 C dX6_set_0 rfl ?_
  refine x_iconst (v := 0) 2 C dX6_set_1 rfl rfl ?_
  refine x_iconst (v := 1) 3 C dX6_set_2 rfl rfl ?_
  refine x_callS 6 C (c_X6_in K _ _ _ _) hy_X6_in ws_X6_in lk_X6_57 dX6_set_3 rfl ⟨Nat.le_of_ble_eq_true rfl, Nat.le_of_ble_eq_true rfl⟩ ⟨Nat.le_of_ble_eq_true rfl, Nat.le_of_ble_eq_true rfl⟩ (Nat.le_of_ble_eq_true rfl) rfl (k_0 rfl rfl (k_ip ?_))
  refine x_if_eq 9 27 C dX6_set_6 rfl rfl (fun c_6 => ?_) (fun c_6 => ?_)
  · refine x_bipush (v := (-2)) 29 C dX6_set_27 rfl rfl ?_
    refine x_ireturn C Rt dX6_set_29 rfl ⟨Nat.le_of_ble_eq_true rfl, Nat.le_of_ble_eq_true rfl⟩ ?_
    simp only [Classical.not_not, hB_0p, hB_n0p, Int32.toInt_toInt64, tl_LG, ti_m1, Int32.lt_iff_toInt_lt, Int32.le_iff_toInt_le, Int64.lt_iff_toInt_lt, Int64.le_iff_toInt_le, tl_0, ti_0, tl_1, ti_1, tl_2, ti_2, tl_3, ti_3, tl_4, ti_4, tl_5, ti_5, tl_6, ti_6, tl_7, ti_7, tl_8, ti_8, tl_9, ti_9, tl_10, ti_10, tl_33, ti_33, tl_60, ti_60, tl_100, ti_100, tl_126, ti_126, tl_255, ti_255, tl_500, ti_500, tl_9999, ti_9999, tl_10000, ti_10000, tl_100000, ti_100000, tl_1000000, ti_1000000, tl_1000000000, ti_1000000000] at c_6
    exact ⟨_, rfl, by rw [sp_set, spQ_f (by omega)], by rw [sp_set, spQ_f (by omega)]; exact ⟨⟨z, F, G, W, hr⟩, hFr.rf⟩⟩
  · refine x_iload_2 10 C dX6_set_9 rfl ?_
    refine x_iconst (v := 0) 11 C dX6_set_10 rfl rfl ?_
    refine x_iload_1 12 C dX6_set_11 rfl ?_
    refine x_if_ne 15 19 C dX6_set_12 rfl rfl (fun c_12 => ?_) (fun c_12 => ?_)
    · have h_a0 : ¬ a.toInt = 0 := fun q => c_12 (Int32.toInt_inj.mp q)
      refine x_bipush (v := 6) 21 C dX6_set_19 rfl rfl ?_
      refine x_callS 24 C (c_X6_in K _ _ _ _) hy_X6_in ws_X6_in lk_X6_57 dX6_set_21 rfl ⟨Nat.le_of_ble_eq_true rfl, Nat.le_of_ble_eq_true rfl⟩ ⟨Nat.le_of_ble_eq_true rfl, Nat.le_of_ble_eq_true rfl⟩ (Nat.le_of_ble_eq_true rfl) rfl (k_0 rfl rfl (k_ip ?_))
      refine x_if_ne 27 30 C dX6_set_24 rfl rfl (fun c_24 => ?_) (fun c_24 => ?_)
      · simp only [Classical.not_not, hB_0p, hB_n0p, Int32.toInt_toInt64, tl_LG, ti_m1, Int32.lt_iff_toInt_lt, Int32.le_iff_toInt_le, Int64.lt_iff_toInt_lt, Int64.le_iff_toInt_le, tl_0, ti_0, tl_1, ti_1, tl_2, ti_2, tl_3, ti_3, tl_4, ti_4, tl_5, ti_5, tl_6, ti_6, tl_7, ti_7, tl_8, ti_8, tl_9, ti_9, tl_10, ti_10, tl_33, ti_33, tl_60, ti_60, tl_100, ti_100, tl_126, ti_126, tl_255, ti_255, tl_500, ti_500, tl_9999, ti_9999, tl_10000, ti_10000, tl_100000, ti_100000, tl_1000000, ti_1000000, tl_1000000000, ti_1000000000] at c_6 c_24
        have hsp : sp_set σ a b = (nI σ.1.2.1, recd σ (σ.1.1, b.toInt.toNat, σ.1.2.2)) := by rw [sp_set, spQ_t (by rw [if_neg h_a0]; omega), if_neg h_a0]
        have h_a : a = nI 1 := by rw [nI_ofInt (x := a) (by omega)]; congr 1; omega
        have h_b := nI_ofInt (x := b) (by omega)
        refine x_aload_0 31 C dX6_set_30 rfl ?_
        refine x_callV 34 C (c_X6_record K _ W σ.2.1.1 ho.2.1 hr.1) W.obj wcl_X6 hy_X6_record wv_X6_record we_X6_record lk_X6_61 dX6_set_31 rfl ⟨Nat.le_of_ble_eq_true rfl, Nat.le_of_ble_eq_true rfl⟩ ⟨Nat.le_of_ble_eq_true rfl, Nat.le_of_ble_eq_true rfl⟩ (Nat.le_of_ble_eq_true rfl) rfl (k_0 rfl rfl (k_v (fun M_1 hp_1 => ?_)))
        obtain ⟨f_h, g_h, W, o_1, p1, p2, p3, p4⟩ := hp_1
        have hh := hist_psh ho.2.1 hr.2.2.2.2.1 hr.2.2.1 hr.2.2.2.1 ho.1 ho.2.2.1 p1 p2 p3 p4
        rw [← psh_n (n := σ.1)] at W
        refine x_aload_0 35 C dX6_set_34 rfl ?_
        refine mOg_now 38 C wf_X6_7 W.obj dX6_set_35 rfl ?_
        refine x_iload_1 39 C dX6_set_38 rfl ?_
        refine x_iald 40 (1) C W.now (h_a) (by decide) (by decide) dX6_set_39 rfl ?_
        refine x_istore_3 41 C dX6_set_40 rfl rfl ?_
        refine x_aload_0 42 C dX6_set_41 rfl ?_
        refine mOg_now 45 C wf_X6_7 W.obj dX6_set_42 rfl ?_
        refine x_iload_1 46 C dX6_set_45 rfl ?_
        refine x_iload_2 47 C dX6_set_46 rfl ?_
        refine x_iast 48 (1) C W.now (h_a) (by decide) (by decide) dX6_set_47 rfl ?_
        refine x_m_now W (fun M_2 W o_2 => ?_)
        refine x_iload_3 49 C dX6_set_48 rfl ?_
        refine x_ireturn C Rt dX6_set_49 rfl ⟨Nat.le_of_ble_eq_true rfl, Nat.le_of_ble_eq_true rfl⟩ ?_
        exact ⟨_, rfl, by rw [hsp]; exact hr.2.2.1.2.1, by rw [hsp]; refine ⟨⟨_, _, _, W, va_up_self _ _ _, hr.2.1, ?_, hr.2.2.2.1, hh, hr.2.2.2.2.2.1, hr.2.2.2.2.2.2⟩, ((o_1).tr o_2)⟩; have hE := encN_dig hr.2.2.1 b.toInt.toNat; rw [← h_b] at hE; exact hE⟩
      · refine x_bipush (v := (-2)) 29 C dX6_set_27 rfl rfl ?_
        refine x_ireturn C Rt dX6_set_29 rfl ⟨Nat.le_of_ble_eq_true rfl, Nat.le_of_ble_eq_true rfl⟩ ?_
        simp only [Classical.not_not, hB_0p, hB_n0p, Int32.toInt_toInt64, tl_LG, ti_m1, Int32.lt_iff_toInt_lt, Int32.le_iff_toInt_le, Int64.lt_iff_toInt_lt, Int64.le_iff_toInt_le, tl_0, ti_0, tl_1, ti_1, tl_2, ti_2, tl_3, ti_3, tl_4, ti_4, tl_5, ti_5, tl_6, ti_6, tl_7, ti_7, tl_8, ti_8, tl_9, ti_9, tl_10, ti_10, tl_33, ti_33, tl_60, ti_60, tl_100, ti_100, tl_126, ti_126, tl_255, ti_255, tl_500, ti_500, tl_9999, ti_9999, tl_10000, ti_10000, tl_100000, ti_100000, tl_1000000, ti_1000000, tl_1000000000, ti_1000000000] at c_6 c_24
        have hn : ¬ ((0 ≤ a.toInt ∧ a.toInt ≤ 1) ∧ 0 ≤ b.toInt ∧ b.toInt ≤ (if a.toInt = 0 then 2 else 6)) := by rw [if_neg h_a0]; omega
        exact ⟨_, rfl, by rw [sp_set, spQ_f hn], by rw [sp_set, spQ_f hn]; exact ⟨⟨z, F, G, W, hr⟩, hFr.rf⟩⟩
    · have h_a0 : a.toInt = 0 := by rw [c_12]; rfl
      refine x_iconst (v := 2) 16 C dX6_set_15 rfl rfl ?_
      refine x_goto 21 C dX6_set_16 rfl ?_
      refine x_callS 24 C (c_X6_in K _ _ _ _) hy_X6_in ws_X6_in lk_X6_57 dX6_set_21 rfl ⟨Nat.le_of_ble_eq_true rfl, Nat.le_of_ble_eq_true rfl⟩ ⟨Nat.le_of_ble_eq_true rfl, Nat.le_of_ble_eq_true rfl⟩ (Nat.le_of_ble_eq_true rfl) rfl (k_0 rfl rfl (k_ip ?_))
      refine x_if_ne 27 30 C dX6_set_24 rfl rfl (fun c_24 => ?_) (fun c_24 => ?_)
      · simp only [Classical.not_not, hB_0p, hB_n0p, Int32.toInt_toInt64, tl_LG, ti_m1, Int32.lt_iff_toInt_lt, Int32.le_iff_toInt_le, Int64.lt_iff_toInt_lt, Int64.le_iff_toInt_le, tl_0, ti_0, tl_1, ti_1, tl_2, ti_2, tl_3, ti_3, tl_4, ti_4, tl_5, ti_5, tl_6, ti_6, tl_7, ti_7, tl_8, ti_8, tl_9, ti_9, tl_10, ti_10, tl_33, ti_33, tl_60, ti_60, tl_100, ti_100, tl_126, ti_126, tl_255, ti_255, tl_500, ti_500, tl_9999, ti_9999, tl_10000, ti_10000, tl_100000, ti_100000, tl_1000000, ti_1000000, tl_1000000000, ti_1000000000] at c_6 c_24
        have hsp : sp_set σ a b = (nI σ.1.1, recd σ (b.toInt.toNat, σ.1.2.1, σ.1.2.2)) := by rw [sp_set, spQ_t (by rw [if_pos h_a0]; omega), if_pos h_a0]
        have h_a : a = nI 0 := by rw [nI_ofInt (x := a) (by omega)]; congr 1; omega
        have h_b := nI_ofInt (x := b) (by omega)
        refine x_aload_0 31 C dX6_set_30 rfl ?_
        refine x_callV 34 C (c_X6_record K _ W σ.2.1.1 ho.2.1 hr.1) W.obj wcl_X6 hy_X6_record wv_X6_record we_X6_record lk_X6_61 dX6_set_31 rfl ⟨Nat.le_of_ble_eq_true rfl, Nat.le_of_ble_eq_true rfl⟩ ⟨Nat.le_of_ble_eq_true rfl, Nat.le_of_ble_eq_true rfl⟩ (Nat.le_of_ble_eq_true rfl) rfl (k_0 rfl rfl (k_v (fun M_3 hp_3 => ?_)))
        obtain ⟨f_h, g_h, W, o_3, p1, p2, p3, p4⟩ := hp_3
        have hh := hist_psh ho.2.1 hr.2.2.2.2.1 hr.2.2.1 hr.2.2.2.1 ho.1 ho.2.2.1 p1 p2 p3 p4
        rw [← psh_n (n := σ.1)] at W
        refine x_aload_0 35 C dX6_set_34 rfl ?_
        refine mOg_now 38 C wf_X6_7 W.obj dX6_set_35 rfl ?_
        refine x_iload_1 39 C dX6_set_38 rfl ?_
        refine x_iald 40 (0) C W.now (h_a) (by decide) (by decide) dX6_set_39 rfl ?_
        refine x_istore_3 41 C dX6_set_40 rfl rfl ?_
        refine x_aload_0 42 C dX6_set_41 rfl ?_
        refine mOg_now 45 C wf_X6_7 W.obj dX6_set_42 rfl ?_
        refine x_iload_1 46 C dX6_set_45 rfl ?_
        refine x_iload_2 47 C dX6_set_46 rfl ?_
        refine x_iast 48 (0) C W.now (h_a) (by decide) (by decide) dX6_set_47 rfl ?_
        refine x_m_now W (fun M_4 W o_4 => ?_)
        refine x_iload_3 49 C dX6_set_48 rfl ?_
        refine x_ireturn C Rt dX6_set_49 rfl ⟨Nat.le_of_ble_eq_true rfl, Nat.le_of_ble_eq_true rfl⟩ ?_
        exact ⟨_, rfl, by rw [hsp]; exact hr.2.2.1.1, by rw [hsp]; refine ⟨⟨_, _, _, W, va_up_self _ _ _, hr.2.1, ?_, hr.2.2.2.1, hh, hr.2.2.2.2.2.1, hr.2.2.2.2.2.2⟩, ((o_3).tr o_4)⟩; have hE := encN_rnd hr.2.2.1 b.toInt.toNat; rw [← h_b] at hE; exact hE⟩
      · refine x_bipush (v := (-2)) 29 C dX6_set_27 rfl rfl ?_
        refine x_ireturn C Rt dX6_set_29 rfl ⟨Nat.le_of_ble_eq_true rfl, Nat.le_of_ble_eq_true rfl⟩ ?_
        simp only [Classical.not_not, hB_0p, hB_n0p, Int32.toInt_toInt64, tl_LG, ti_m1, Int32.lt_iff_toInt_lt, Int32.le_iff_toInt_le, Int64.lt_iff_toInt_lt, Int64.le_iff_toInt_le, tl_0, ti_0, tl_1, ti_1, tl_2, ti_2, tl_3, ti_3, tl_4, ti_4, tl_5, ti_5, tl_6, ti_6, tl_7, ti_7, tl_8, ti_8, tl_9, ti_9, tl_10, ti_10, tl_33, ti_33, tl_60, ti_60, tl_100, ti_100, tl_126, ti_126, tl_255, ti_255, tl_500, ti_500, tl_9999, ti_9999, tl_10000, ti_10000, tl_100000, ti_100000, tl_1000000, ti_1000000, tl_1000000000, ti_1000000000] at c_6 c_24
        have hn : ¬ ((0 ≤ a.toInt ∧ a.toInt ≤ 1) ∧ 0 ≤ b.toInt ∧ b.toInt ≤ (if a.toInt = 0 then 2 else 6)) := by rw [if_pos h_a0]; omega
        exact ⟨_, rfl, by rw [sp_set, spQ_f hn], by rw [sp_set, spQ_f hn]; exact ⟨⟨z, F, G, W, hr⟩, hFr.rf⟩⟩
set_option maxHeartbeats 4000000 in
set_option maxRecDepth 100000 in
theorem c_X6_setCell (K : hKv) (M : hM) {A : Nat → Nat} {z : Nat → Int32} {F : Nat → Nat → Int32} {G : Nat → Nat → Int64} (W : mW K A z F G M) {σ : hSt} (hr : repM z F G σ) (ho : okS σ) (a : Int32) (b : Int64) : hC K Y_X6_setCell rm_X6_setCell [.ref (A 0), .int a, .long b] M (hPl fun r M' => r = (sp_setCell σ a b).1 ∧ mP K A M (sp_setCell σ a b).2 M') := by
  refine hC.of [some (.ref (A 0)), some (.int a), some (.long b), none, none, none] (by decide) (Nat.le_of_ble_eq_true rfl) rfl rfl ?_
  intro E C Rt
  have C : hCx E K cX6_setCell 6 RX6 "setCell" rm_X6_setCell := C
  refine x_iload_1 1 C dX6_setCell_0 rfl ?_
  refine x_iconst (v := 0) 2 C dX6_setCell_1 rfl rfl ?_
  refine x_bipush (v := 7) 4 C dX6_setCell_2 rfl rfl ?_
  refine x_callS 7 C (c_X6_in K _ _ _ _) hy_X6_in ws_X6_in lk_X6_57 dX6_setCell_4 rfl ⟨Nat.le_of_ble_eq_true rfl, Nat.le_of_ble_eq_true rfl⟩ ⟨Nat.le_of_ble_eq_true rfl, Nat.le_of_ble_eq_true rfl⟩ (Nat.le_of_ble_eq_true rfl) rfl (k_0 rfl rfl (k_ip ?_))
  refine x_if_ne 10 14 C dX6_setCell_7 rfl rfl (fun c_7 => ?_) (fun c_7 => ?_)
  · refine x_lload_2 15 C dX6_setCell_14 rfl ?_
    refine x_callS 18 C (c_X6_isValue K _ _) hy_X6_isValue ws_X6_isValue lk_X6_66 dX6_setCell_15 rfl ⟨Nat.le_of_ble_eq_true rfl, Nat.le_of_ble_eq_true rfl⟩ ⟨Nat.le_of_ble_eq_true rfl, Nat.le_of_ble_eq_true rfl⟩ (Nat.le_of_ble_eq_true rfl) rfl (k_0 rfl rfl (k_ip ?_))
    refine x_if_ne 21 25 C dX6_setCell_18 rfl rfl (fun c_18 => ?_) (fun c_18 => ?_)
    · simp only [Classical.not_not, hB_0p, hB_n0p, Int32.toInt_toInt64, tl_LG, ti_m1, Int32.lt_iff_toInt_lt, Int32.le_iff_toInt_le, Int64.lt_iff_toInt_lt, Int64.le_iff_toInt_le, tl_0, ti_0, tl_1, ti_1, tl_2, ti_2, tl_3, ti_3, tl_4, ti_4, tl_5, ti_5, tl_6, ti_6, tl_7, ti_7, tl_8, ti_8, tl_9, ti_9, tl_10, ti_10, tl_33, ti_33, tl_60, ti_60, tl_100, ti_100, tl_126, ti_126, tl_255, ti_255, tl_500, ti_500, tl_9999, ti_9999, tl_10000, ti_10000, tl_100000, ti_100000, tl_1000000, ti_1000000, tl_1000000000, ti_1000000000] at c_7 c_18
      obtain ⟨j, hj, rfl⟩ := in_nI (b := 7) c_7
      obtain ⟨v, hv, rfl⟩ := in_lN (b := 1000000000000) c_18
      have hsp : sp_setCell σ (nI j) (lN v) = (lN (σ.1.2.2.1 j), recd σ (σ.1.1, σ.1.2.1, va_up σ.1.2.2.1 j v, σ.1.2.2.2)) := by rw [sp_setCell, spQ_t c_7, spQ_t c_18, nI_toN (by omega), lN_toN hv]
      refine x_aload_0 26 C dX6_setCell_25 rfl ?_
      refine x_callV 29 C (c_X6_record K _ W σ.2.1.1 ho.2.1 hr.1) W.obj wcl_X6 hy_X6_record wv_X6_record we_X6_record lk_X6_61 dX6_setCell_26 rfl ⟨Nat.le_of_ble_eq_true rfl, Nat.le_of_ble_eq_true rfl⟩ ⟨Nat.le_of_ble_eq_true rfl, Nat.le_of_ble_eq_true rfl⟩ (Nat.le_of_ble_eq_true rfl) rfl (k_0 rfl rfl (k_v (fun M_1 hp_1 => ?_)))
      obtain ⟨f_h, g_h, W, o_1, p1, p2, p3, p4⟩ := hp_1
      have hh := hist_psh ho.2.1 hr.2.2.2.2.1 hr.2.2.1 hr.2.2.2.1 ho.1 ho.2.2.1 p1 p2 p3 p4
      rw [← psh_n (n := σ.1)] at W
      refine x_aload_0 30 C dX6_setCell_29 rfl ?_
      refine mOg_cells 33 C wf_X6_13 W.obj dX6_setCell_30 rfl ?_
      refine x_iload_1 34 C dX6_setCell_33 rfl ?_
      refine x_lald 35 (j) C W.cells (rfl) (by omega) (by decide) dX6_setCell_34 rfl ?_
      refine x_lstore_4 37 C dX6_setCell_35 rfl rfl ?_
      refine x_aload_0 38 C dX6_setCell_37 rfl ?_
      refine mOg_cells 41 C wf_X6_13 W.obj dX6_setCell_38 rfl ?_
      refine x_iload_1 42 C dX6_setCell_41 rfl ?_
      refine x_lload_2 43 C dX6_setCell_42 rfl ?_
      refine x_last 44 (j) C W.cells (rfl) (by omega) (by decide) dX6_setCell_43 rfl ?_
      refine x_m_cells W (fun M_2 W o_2 => ?_)
      refine x_lload_4 46 C dX6_setCell_44 rfl ?_
      refine x_lreturn C Rt dX6_setCell_46 ⟨Nat.le_of_ble_eq_true rfl, Nat.le_of_ble_eq_true rfl⟩ ?_
      exact ⟨_, rfl, by rw [hsp]; exact hr.2.2.2.1 j (by omega), by rw [hsp]; exact ⟨⟨_, _, _, W, va_up_self _ _ _, hr.2.1, hr.2.2.1, encC_set hr.2.2.2.1 j v, hh, hr.2.2.2.2.2.1, hr.2.2.2.2.2.2⟩, ((o_1).tr o_2)⟩⟩
    · refine x_ldc2 (v := (-2)) 24 C dX6_setCell_21 rfl wq_X6_70 ?_
      refine x_lreturn C Rt dX6_setCell_24 ⟨Nat.le_of_ble_eq_true rfl, Nat.le_of_ble_eq_true rfl⟩ ?_
      simp only [Classical.not_not, hB_0p, hB_n0p, Int32.toInt_toInt64, tl_LG, ti_m1, Int32.lt_iff_toInt_lt, Int32.le_iff_toInt_le, Int64.lt_iff_toInt_lt, Int64.le_iff_toInt_le, tl_0, ti_0, tl_1, ti_1, tl_2, ti_2, tl_3, ti_3, tl_4, ti_4, tl_5, ti_5, tl_6, ti_6, tl_7, ti_7, tl_8, ti_8, tl_9, ti_9, tl_10, ti_10, tl_33, ti_33, tl_60, ti_60, tl_100, ti_100, tl_126, ti_126, tl_255, ti_255, tl_500, ti_500, tl_9999, ti_9999, tl_10000, ti_10000, tl_100000, ti_100000, tl_1000000, ti_1000000, tl_1000000000, ti_1000000000] at c_7 c_18
      exact ⟨_, rfl, by rw [sp_setCell, spQ_t c_7, spQ_f (by omega)], by rw [sp_setCell, spQ_t c_7, spQ_f (by omega)]; exact ⟨⟨z, F, G, W, hr⟩, hFr.rf⟩⟩
  · refine x_ldc2 (v := (-1)) 13 C dX6_setCell_10 rfl wq_X6_64 ?_
    refine x_lreturn C Rt dX6_setCell_13 ⟨Nat.le_of_ble_eq_true rfl, Nat.le_of_ble_eq_true rfl⟩ ?_
    simp only [Classical.not_not, hB_0p, hB_n0p, Int32.toInt_toInt64, tl_LG, ti_m1, Int32.lt_iff_toInt_lt, Int32.le_iff_toInt_le, Int64.lt_iff_toInt_lt, Int64.le_iff_toInt_le, tl_0, ti_0, tl_1, ti_1, tl_2, ti_2, tl_3, ti_3, tl_4, ti_4, tl_5, ti_5, tl_6, ti_6, tl_7, ti_7, tl_8, ti_8, tl_9, ti_9, tl_10, ti_10, tl_33, ti_33, tl_60, ti_60, tl_100, ti_100, tl_126, ti_126, tl_255, ti_255, tl_500, ti_500, tl_9999, ti_9999, tl_10000, ti_10000, tl_100000, ti_100000, tl_1000000, ti_1000000, tl_1000000000, ti_1000000000] at c_7
    exact ⟨_, rfl, by rw [sp_setCell, spQ_f (by omega)], by rw [sp_setCell, spQ_f (by omega)]; exact ⟨⟨z, F, G, W, hr⟩, hFr.rf⟩⟩
set_option maxHeartbeats 4000000 in
set_option maxRecDepth 100000 in
theorem c_X6_cell (K : hKv) (M : hM) {A : Nat → Nat} {z : Nat → Int32} {F : Nat → Nat → Int32} {G : Nat → Nat → Int64} (W : mW K A z F G M) {σ : hSt} (hr : repM z F G σ) (ho : okS σ) (a : Int32) : hC K Y_X6_cell rm_X6_cell [.ref (A 0), .int a] M (hPl fun r M' => r = sp_cell σ a ∧ M' = M) := by
  refine hC.of [some (.ref (A 0)), some (.int a)] (by decide) (Nat.le_of_ble_eq_true rfl) rfl rfl ?_
  intro E C Rt
  have C : hCx E K cX6_cell 2 RX6 "cell" rm_X6_cell := C
  refine x_iload_1 1 C dX6_cell_0 rfl ?_
  refine x_iconst (v := 0) 2 C dX6_cell_1 rfl rfl ?_
  refine x_bipush (v := 7) 4 C dX6_cell_2 rfl rfl ?_
  refine x_callS 7 C (c_X6_in K _ _ _ _) hy_X6_in ws_X6_in lk_X6_57 dX6_cell_4 rfl ⟨Nat.le_of_ble_eq_true rfl, Nat.le_of_ble_eq_true rfl⟩ ⟨Nat.le_of_ble_eq_true rfl, Nat.le_of_ble_eq_true rfl⟩ (Nat.le_of_ble_eq_true rfl) rfl (k_0 rfl rfl (k_ip ?_))
  refine x_if_eq 10 19 C dX6_cell_7 rfl rfl (fun c_7 => ?_) (fun c_7 => ?_)
  · refine x_ldc2 (v := (-1)) 22 C dX6_cell_19 rfl wq_X6_64 ?_
    refine x_lreturn C Rt dX6_cell_22 ⟨Nat.le_of_ble_eq_true rfl, Nat.le_of_ble_eq_true rfl⟩ ?_
    simp only [Classical.not_not, hB_0p, hB_n0p, Int32.toInt_toInt64, tl_LG, ti_m1, Int32.lt_iff_toInt_lt, Int32.le_iff_toInt_le, Int64.lt_iff_toInt_lt, Int64.le_iff_toInt_le, tl_0, ti_0, tl_1, ti_1, tl_2, ti_2, tl_3, ti_3, tl_4, ti_4, tl_5, ti_5, tl_6, ti_6, tl_7, ti_7, tl_8, ti_8, tl_9, ti_9, tl_10, ti_10, tl_33, ti_33, tl_60, ti_60, tl_100, ti_100, tl_126, ti_126, tl_255, ti_255, tl_500, ti_500, tl_9999, ti_9999, tl_10000, ti_10000, tl_100000, ti_100000, tl_1000000, ti_1000000, tl_1000000000, ti_1000000000] at c_7
    exact ⟨_, rfl, by rw [sp_cell, spQ_f (by omega)], rfl⟩
  · simp only [Classical.not_not, hB_0p, hB_n0p, Int32.toInt_toInt64, tl_LG, ti_m1, Int32.lt_iff_toInt_lt, Int32.le_iff_toInt_le, Int64.lt_iff_toInt_lt, Int64.le_iff_toInt_le, tl_0, ti_0, tl_1, ti_1, tl_2, ti_2, tl_3, ti_3, tl_4, ti_4, tl_5, ti_5, tl_6, ti_6, tl_7, ti_7, tl_8, ti_8, tl_9, ti_9, tl_10, ti_10, tl_33, ti_33, tl_60, ti_60, tl_100, ti_100, tl_126, ti_126, tl_255, ti_255, tl_500, ti_500, tl_9999, ti_9999, tl_10000, ti_10000, tl_100000, ti_100000, tl_1000000, ti_1000000, tl_1000000000, ti_1000000000] at c_7
    obtain ⟨j, hj, rfl⟩ := in_nI (b := 7) c_7
    refine x_aload_0 11 C dX6_cell_10 rfl ?_
    refine mOg_cells 14 C wf_X6_13 W.obj dX6_cell_11 rfl ?_
    refine x_iload_1 15 C dX6_cell_14 rfl ?_
    refine x_lald 16 (j) C W.cells (rfl) (by omega) (by decide) dX6_cell_15 rfl ?_
    refine x_goto 22 C dX6_cell_16 rfl ?_
    refine x_lreturn C Rt dX6_cell_22 ⟨Nat.le_of_ble_eq_true rfl, Nat.le_of_ble_eq_true rfl⟩ ?_
    exact ⟨_, rfl, by rw [sp_cell, spQ_t c_7, nI_toN (by omega)]; exact hr.2.2.2.1 j (by omega), rfl⟩
set_option maxHeartbeats 4000000 in
set_option maxRecDepth 100000 in
theorem c_X6_wipe (K : hKv) (M : hM) {A : Nat → Nat} {z : Nat → Int32} {F : Nat → Nat → Int32} {G : Nat → Nat → Int64} (W : mW K A z F G M) {σ : hSt} (hr : repM z F G σ) (ho : okS σ) : hC K Y_X6_wipe rm_X6_wipe [.ref (A 0)] M (hPi fun r M' => r = (sp_wipe σ).1 ∧ mP K A M (sp_wipe σ).2 M') := by
  refine hC.of [some (.ref (A 0)), none] (by decide) (Nat.le_of_ble_eq_true rfl) rfl rfl ?_
  intro E C Rt
  have C : hCx E K cX6_wipe 2 RX6 "wipe" rm_X6_wipe := C
  refine x_aload_0 1 C dX6_wipe_0 rfl ?_
  refine mOg_signs 4 C wf_X6_74 W.obj dX6_wipe_1 rfl ?_
  refine x_istore_1 5 C dX6_wipe_4 rfl rfl ?_
  refine x_aload_0 6 C dX6_wipe_5 rfl ?_
  refine x_iconst (v := 0) 7 C dX6_wipe_6 rfl rfl ?_
  refine mOp_signs 10 C wf_X6_74 W.obj dX6_wipe_7 rfl ?_
  refine x_m_obj W (fun M_1 W o_1 => ?_)
  refine x_iload_1 11 C dX6_wipe_10 rfl ?_
  refine x_ireturn C Rt dX6_wipe_11 rfl ⟨Nat.le_of_ble_eq_true rfl, Nat.le_of_ble_eq_true rfl⟩ ?_
  exact ⟨_, rfl, hr.2.1, ⟨_, _, _, W, hr.1, va_up_self _ _ _, hr.2.2.1, hr.2.2.2.1, hr.2.2.2.2.1, hr.2.2.2.2.2.1, fun k hk => absurd hk (Nat.not_lt_zero _)⟩, (o_1)⟩
set_option maxHeartbeats 4000000 in
set_option maxRecDepth 100000 in
theorem c_X6_formulas (K : hKv) (M : hM) {A : Nat → Nat} {z : Nat → Int32} {F : Nat → Nat → Int32} {G : Nat → Nat → Int64} (W : mW K A z F G M) {τ : hS1} (hr : encN τ (F 1)) (ho : ok1 τ) : hC K Y_X6_formulas rm_X6_formulas [.ref (A 0)] M (hPi fun r M' => r = fset τ ∧ M' = M) := by
  refine hC.of [some (.ref (A 0)), none, none] (by decide) (Nat.le_of_ble_eq_true rfl) rfl rfl ?_
  intro E C Rt
  have C : hCx E K cX6_formulas 3 RX6 "formulas" rm_X6_formulas := C
  have lp : ∀ (d n : Nat), n + d = 6 → ∀ x : Int32, x = fbv (fun i => !(τ.2.2.2 i).isEmpty) n → hX E 0 0 4 [some (.ref (A 0)), some (.int x), some (.int (nI n))] [] M := by
    intro d
    induction d with
    | zero =>
      intro n hn x hx
      have hn : n = 6 := by omega
      subst hn
      subst hx
      refine x_iload_2 5 C dX6_formulas_4 rfl ?_
      refine x_bipush (v := 6) 7 C dX6_formulas_5 rfl rfl ?_
      refine x_icmp_ge 10 37 C dX6_formulas_7 rfl rfl (fun _ => ?_) (fun z => absurd (nI_le (Nat.le_refl _) (by decide)) z)
      refine x_iload_1 38 C dX6_formulas_37 rfl ?_
      refine x_ireturn C Rt dX6_formulas_38 rfl ⟨Nat.le_of_ble_eq_true rfl, Nat.le_of_ble_eq_true rfl⟩ ?_
      exact ⟨_, rfl, rfl, rfl⟩
    | succ d ih =>
      intro n hn x hx
      subst hx
      have hn8 : n < 6 := by omega
      have hl := ho.len n hn8
      have hf := (hr.2.2 n hn8).1
      refine x_iload_2 5 C dX6_formulas_4 rfl ?_
      refine x_bipush (v := 6) 7 C dX6_formulas_5 rfl rfl ?_
      refine x_icmp_ge 10 37 C dX6_formulas_7 rfl rfl (fun z => absurd z (nI_ge hn8 (by decide))) (fun _ => ?_)
      refine x_iload_1 11 C dX6_formulas_10 rfl ?_
      refine x_aload_0 12 C dX6_formulas_11 rfl ?_
      refine mOg_now 15 C wf_X6_7 W.obj dX6_formulas_12 rfl ?_
      refine x_iconst (v := 2) 16 C dX6_formulas_15 rfl rfl ?_
      refine x_iload_2 17 C dX6_formulas_16 rfl ?_
      refine x_iadd 18 C dX6_formulas_17 rfl ?_
      refine x_iald 19 (2 + n) C W.now (nI_add 2 n) (by omega) (by decide) dX6_formulas_18 rfl ?_
      refine x_topi hf ?_
      refine x_if_le 22 28 C dX6_formulas_19 rfl rfl (fun c_19 => ?_) (fun c_19 => ?_)
      · refine x_iconst (v := 0) 29 C dX6_formulas_28 rfl rfl ?_
        refine x_ior 30 C dX6_formulas_29 rfl ?_
        refine x_istore_1 31 C dX6_formulas_30 rfl rfl ?_
        refine x_iinc_2 34 C dX6_formulas_31 rfl rfl (nI_inc _) ?_
        refine x_goto 4 C dX6_formulas_34 rfl ?_
        exact ih (n + 1) (by omega) _ (by
          have h0 : (τ.2.2.2 n).length = 0 := by
            rcases Nat.eq_zero_or_pos (τ.2.2.2 n).length with q | q
            · exact q
            · exact absurd c_19 (nI_nle q (by omega))
          rw [fbv, show (!(τ.2.2.2 n).isEmpty) = false by rw [List.isEmpty_iff.mpr (List.length_eq_zero_iff.mp h0)]; rfl]
          exact Int32.or_zero)
      · refine x_iconst (v := 1) 23 C dX6_formulas_22 rfl rfl ?_
        refine x_iload_2 24 C dX6_formulas_23 rfl ?_
        refine x_ishl 25 C dX6_formulas_24 rfl ?_
        refine x_goto 29 C dX6_formulas_25 rfl ?_
        refine x_ior 30 C dX6_formulas_29 rfl ?_
        refine x_istore_1 31 C dX6_formulas_30 rfl rfl ?_
        refine x_iinc_2 34 C dX6_formulas_31 rfl rfl (nI_inc _) ?_
        refine x_goto 4 C dX6_formulas_34 rfl ?_
        exact ih (n + 1) (by omega) _ (by
          have h0 : ¬ τ.2.2.2 n = [] := fun q => c_19 (by rw [q]; decide)
          rw [fbv, show (!(τ.2.2.2 n).isEmpty) = true by rw [Bool.not_eq_true', List.isEmpty_eq_false_iff]; exact h0]; rfl)
  refine x_iconst (v := 0) 1 C dX6_formulas_0 rfl rfl ?_
  refine x_istore_1 2 C dX6_formulas_1 rfl rfl ?_
  refine x_iconst (v := 0) 3 C dX6_formulas_2 rfl rfl ?_
  refine x_istore_2 4 C dX6_formulas_3 rfl rfl ?_
  exact lp 6 0 (by omega) _ rfl
