theorem va_uu {α : Type} {f : Nat → α} {k : Nat} {v w : α} : va_up (va_up f k v) k w = va_up f k w := bx_uu f k v w
/-- the first n places, from s places on -/
def shf {α : Type} (f : Nat → α) (s n : Nat) : Nat → α := fun j => if j < n then f (j + s) else f j
theorem shf_0 {α : Type} {f : Nat → α} {s : Nat} : shf f s 0 = f := by funext j; simp [shf]
theorem shf_s {α : Type} {f : Nat → α} {s n : Nat} (hs : 0 < s) : va_up (shf f s n) n (shf f s n (n + s)) = shf f s (n + 1) := by
  funext j
  by_cases h : j = n
  · subst h; simp [va_up, shf, show ¬ j + s < j by omega]
  · by_cases h2 : j < n
    · simp [va_up, shf, h, h2, Nat.lt_succ_of_lt h2]
    · simp [va_up, shf, h, h2, show ¬ j < n + 1 by omega]
theorem shf_in {α : Type} {f : Nat → α} {s n j : Nat} (h : j < n) : shf f s n j = f (j + s) := if_pos h
/-- n places from b on anew -/
def blk {α : Type} (f : Nat → α) (b : Nat) (g : Nat → α) (n : Nat) : Nat → α := fun j => if b ≤ j ∧ j < b + n then g (j - b) else f j
theorem blk_0 {α : Type} {f g : Nat → α} {b : Nat} : blk f b g 0 = f := by funext j; simp [blk, show ¬ (b ≤ j ∧ j < b) by omega]
theorem blk_s {α : Type} {f g : Nat → α} {b n : Nat} : va_up (blk f b g n) (b + n) (g n) = blk f b g (n + 1) := by
  funext j
  by_cases h : j = b + n
  · subst h; simp [va_up, blk, show b + n < b + (n + 1) by omega]
  · by_cases h2 : b ≤ j ∧ j < b + n
    · simp [va_up, blk, h, h2, show j < b + (n + 1) by omega]
    · rw [blk, va_up, if_neg h, blk, if_neg h2, if_neg (by omega)]
theorem blk_in {α : Type} {f g : Nat → α} {b n k : Nat} (h : k < n) : blk f b g n (b + k) = g k := by
  rw [blk, if_pos (by omega), Nat.add_sub_cancel_left]
theorem blk_out {α : Type} {f g : Nat → α} {b n j : Nat} (h : j < b ∨ b + n ≤ j) : blk f b g n j = f j := if_neg (by omega)
set_option maxHeartbeats 4000000 in
set_option maxRecDepth 100000 in
theorem c_X6_record (K : hKv) (M : hM) {A : Nat → Nat} {z : Nat → Int32} {F : Nat → Nat → Int32} {G : Nat → Nat → Int64} (W : mW K A z F G M) (u : Nat) (hu : u ≤ 6) (hz : z 0 = nI u) : hC K Y_X6_record rm_X6_record [.ref (A 0)] M (hPv fun M' => ∃ f g, mW K A (va_up z 0 (nI (if u = 6 then 6 else u + 1))) (va_up F 3 f) (va_up G 4 g) M' ∧ hFr 100 200 M M' ∧ (∀ k, k < 728 → f ((if u = 6 then 5 else u) * 728 + k) = F 1 k) ∧ (∀ i k, i < (if u = 6 then 5 else u) → k < 728 → f (i * 728 + k) = F 3 ((i + (if u = 6 then 1 else 0)) * 728 + k)) ∧ (∀ k, k < 8 → g ((if u = 6 then 5 else u) * 8 + k) = G 2 k) ∧ (∀ i k, i < (if u = 6 then 5 else u) → k < 8 → g (i * 8 + k) = G 4 ((i + (if u = 6 then 1 else 0)) * 8 + k))) := by
  refine hC.of [some (.ref (A 0)), none] (by decide) (Nat.le_of_ble_eq_true rfl) rfl rfl ?_
  intro E C Rt
  have C : hCx E K cX6_record 2 RX6 "record" rm_X6_record := C
  obtain ⟨M0, hM0⟩ : ∃ M0 : hM, M0 = M := ⟨_, rfl⟩
  rw [← hM0] at Rt
  have m74 : ∀ (b : Nat) (z2 : Nat → Int32) (F2 : Nat → Nat → Int32) (G2 : Nat → Nat → Int64) (M : hM), b ≤ 5 → z2 0 = nI b → mW K A z2 F2 G2 M → hFr 100 200 M0 M → (∀ M2 : hM, mW K A (va_up z2 0 (nI (b + 1))) (va_up F2 3 (blk (F2 3) (b * 728) (F2 1) 728)) (va_up G2 4 (blk (G2 4) (b * 8) (G2 2) 8)) M2 → hFr 100 200 M0 M2 → hPv (fun M' => ∃ f g, mW K A (va_up z 0 (nI (if u = 6 then 6 else u + 1))) (va_up F 3 f) (va_up G 4 g) M' ∧ hFr 100 200 M0 M' ∧ (∀ k, k < 728 → f ((if u = 6 then 5 else u) * 728 + k) = F 1 k) ∧ (∀ i k, i < (if u = 6 then 5 else u) → k < 728 → f (i * 728 + k) = F 3 ((i + (if u = 6 then 1 else 0)) * 728 + k)) ∧ (∀ k, k < 8 → g ((if u = 6 then 5 else u) * 8 + k) = G 2 k) ∧ (∀ i k, i < (if u = 6 then 5 else u) → k < 8 → g (i * 8 + k) = G 4 ((i + (if u = 6 then 1 else 0)) * 8 + k))) none M2) → hX E 0 0 74 [some (.ref (A 0)), none] [] M := by
    intro b z2 F2 G2 M hb hz2 W fr hfin
    have l3 : ∀ (d n : Nat), n + d = 8 → ∀ M : hM, mW K A (z2) (va_up F2 3 (blk (F2 3) (b * 728) (F2 1) 728)) (va_up G2 4 (blk (G2 4) (b * 8) (G2 2) n)) M → hFr 100 200 M0 M → (∀ M2 : hM, mW K A (z2) (va_up F2 3 (blk (F2 3) (b * 728) (F2 1) 728)) (va_up G2 4 (blk (G2 4) (b * 8) (G2 2) 8)) M2 → hFr 100 200 M0 M2 → hX E 0 0 144 [some (.ref (A 0)), none] [] M2) → hX E 0 0 112 [some (.ref (A 0)), some (.int (nI n))] [] M := by
      intro d
      induction d with
      | zero =>
        intro n hn M W fr hx
        have hn : n = 8 := by omega
        subst hn
        refine x_iload_1 113 C dX6_record_112 rfl ?_
        refine x_bipush (v := 8) 115 C dX6_record_113 rfl rfl ?_
        refine x_icmp_ge 118 144 C dX6_record_115 rfl rfl (fun _ => ?_) (fun z => absurd (nI_le (Nat.le_refl _) (by decide)) z)
        refine x_fg_1 ?_
        exact hx M W fr
      | succ d ih =>
        intro n hn M W fr hx
        have hn8 : n < 8 := by omega
        refine x_iload_1 113 C dX6_record_112 rfl ?_
        refine x_bipush (v := 8) 115 C dX6_record_113 rfl rfl ?_
        refine x_icmp_ge 118 144 C dX6_record_115 rfl rfl (fun z => absurd z (nI_ge hn8 (by decide))) (fun _ => ?_)
        refine x_aload_0 119 C dX6_record_118 rfl ?_
        refine mOg_historyCells 122 C wf_X6_20 W.obj dX6_record_119 rfl ?_
        refine x_aload_0 123 C dX6_record_122 rfl ?_
        refine mOg_undos 126 C wf_X6_53 W.obj dX6_record_123 rfl ?_
        refine x_topi hz2 ?_
        refine x_bipush (v := 8) 128 C dX6_record_126 rfl rfl ?_
        refine x_imul 129 C dX6_record_128 rfl ?_
        refine x_topi (v' := nI (b * 8)) (pk_mul b 8) ?_
        refine x_iload_1 130 C dX6_record_129 rfl ?_
        refine x_iadd 131 C dX6_record_130 rfl ?_
        refine x_aload_0 132 C dX6_record_131 rfl ?_
        refine mOg_cells 135 C wf_X6_13 W.obj dX6_record_132 rfl ?_
        refine x_iload_1 136 C dX6_record_135 rfl ?_
        refine x_lald 137 (n) C W.cells (rfl) (hn8) (by decide) dX6_record_136 rfl ?_
        refine x_last 138 (b * 8 + n) C W.historyCells (nI_add _ _) (by omega) (by decide) dX6_record_137 rfl ?_
        refine x_m_historyCells W (fun M_1 W o_1 => ?_)
        rw [va_uu] at W
        have W : mW K A (z2) (va_up F2 3 (blk (F2 3) (b * 728) (F2 1) 728)) (va_up G2 4 (blk (G2 4) (b * 8) (G2 2) (n + 1))) M_1 := by rw [← (blk_s (f := G2 4) (g := G2 2) (b := b * 8) (n := n))]; exact W
        refine x_iinc_1 141 C dX6_record_138 rfl rfl (nI_inc _) ?_
        refine x_goto 112 C dX6_record_141 rfl ?_
        exact ih (n + 1) (by omega) M_1 W (fr.tr o_1) hx
    have l2 : ∀ (d n : Nat), n + d = 728 → ∀ M : hM, mW K A (z2) (va_up F2 3 (blk (F2 3) (b * 728) (F2 1) n)) (G2) M → hFr 100 200 M0 M → (∀ M2 : hM, mW K A (z2) (va_up F2 3 (blk (F2 3) (b * 728) (F2 1) 728)) (G2) M2 → hFr 100 200 M0 M2 → hX E 0 0 110 [some (.ref (A 0)), none] [] M2) → hX E 0 0 76 [some (.ref (A 0)), some (.int (nI n))] [] M := by
      intro d
      induction d with
      | zero =>
        intro n hn M W fr hx
        have hn : n = 728 := by omega
        subst hn
        refine x_iload_1 77 C dX6_record_76 rfl ?_
        refine x_sipush (v := 728) 80 C dX6_record_77 rfl rfl ?_
        refine x_icmp_ge 83 110 C dX6_record_80 rfl rfl (fun _ => ?_) (fun z => absurd (nI_le (Nat.le_refl _) (by decide)) z)
        refine x_fg_1 ?_
        exact hx M W fr
      | succ d ih =>
        intro n hn M W fr hx
        have hn8 : n < 728 := by omega
        refine x_iload_1 77 C dX6_record_76 rfl ?_
        refine x_sipush (v := 728) 80 C dX6_record_77 rfl rfl ?_
        refine x_icmp_ge 83 110 C dX6_record_80 rfl rfl (fun z => absurd z (nI_ge hn8 (by decide))) (fun _ => ?_)
        refine x_aload_0 84 C dX6_record_83 rfl ?_
        refine mOg_history 87 C wf_X6_17 W.obj dX6_record_84 rfl ?_
        refine x_aload_0 88 C dX6_record_87 rfl ?_
        refine mOg_undos 91 C wf_X6_53 W.obj dX6_record_88 rfl ?_
        refine x_topi hz2 ?_
        refine x_sipush (v := 728) 94 C dX6_record_91 rfl rfl ?_
        refine x_imul 95 C dX6_record_94 rfl ?_
        refine x_topi (v' := nI (b * 728)) (pk_mul b 728) ?_
        refine x_iload_1 96 C dX6_record_95 rfl ?_
        refine x_iadd 97 C dX6_record_96 rfl ?_
        refine x_aload_0 98 C dX6_record_97 rfl ?_
        refine mOg_now 101 C wf_X6_7 W.obj dX6_record_98 rfl ?_
        refine x_iload_1 102 C dX6_record_101 rfl ?_
        refine x_iald 103 (n) C W.now (rfl) (by omega) (by decide) dX6_record_102 rfl ?_
        refine x_iast 104 (b * 728 + n) C W.history (nI_add _ _) (by omega) (by decide) dX6_record_103 rfl ?_
        refine x_m_history W (fun M_1 W o_1 => ?_)
        rw [va_uu] at W
        have W : mW K A (z2) (va_up F2 3 (blk (F2 3) (b * 728) (F2 1) (n + 1))) (G2) M_1 := by rw [← (blk_s (f := F2 3) (g := F2 1) (b := b * 728) (n := n))]; exact W
        refine x_iinc_1 107 C dX6_record_104 rfl rfl (nI_inc _) ?_
        refine x_goto 76 C dX6_record_107 rfl ?_
        exact ih (n + 1) (by omega) M_1 W (fr.tr o_1) hx
    refine x_iconst (v := 0) 75 C dX6_record_74 rfl rfl ?_
    refine x_istore_1 76 C dX6_record_75 rfl rfl ?_
    refine l2 728 0 rfl M (by rw [blk_0]; exact (show va_up F2 3 (F2 3) = F2 by funext j; unfold va_up; split <;> simp_all).symm ▸ W) fr (fun M W fr => ?_)
    refine x_iconst (v := 0) 111 C dX6_record_110 rfl rfl ?_
    refine x_istore_1 112 C dX6_record_111 rfl rfl ?_
    refine l3 8 0 rfl M (by rw [blk_0]; exact (show va_up G2 4 (G2 4) = G2 by funext j; unfold va_up; split <;> simp_all).symm ▸ W) fr (fun M W fr => ?_)
    refine x_aload_0 145 C dX6_record_144 rfl ?_
    refine x_dup 146 C dX6_record_145 rfl rfl ?_
    refine mOg_undos 149 C wf_X6_53 W.obj dX6_record_146 rfl ?_
    refine x_topi hz2 ?_
    refine x_iconst (v := 1) 150 C dX6_record_149 rfl rfl ?_
    refine x_iadd 151 C dX6_record_150 rfl ?_
    refine x_topi (v' := nI (b + 1)) (nI_1 b) ?_
    refine mOp_undos 154 C wf_X6_53 W.obj dX6_record_151 rfl ?_
    refine x_m_obj W (fun M_1 W o_1 => ?_)
    refine x_vreturn C Rt dX6_record_154 ⟨Nat.le_of_ble_eq_true rfl, Nat.le_of_ble_eq_true rfl⟩ ?_
    exact hfin _ W (fr.tr o_1)
  have l0 : ∀ (d n : Nat), n + d = 3640 → ∀ M : hM, mW K A (z) (va_up F 3 (shf (F 3) 728 n)) (G) M → hFr 100 200 M0 M → (∀ M2 : hM, mW K A (z) (va_up F 3 (shf (F 3) 728 3640)) (G) M2 → hFr 100 200 M0 M2 → hX E 0 0 40 [some (.ref (A 0)), none] [] M2) → hX E 0 0 11 [some (.ref (A 0)), some (.int (nI n))] [] M := by
    intro d
    induction d with
    | zero =>
      intro n hn M W fr hx
      have hn : n = 3640 := by omega
      subst hn
      refine x_iload_1 12 C dX6_record_11 rfl ?_
      refine x_sipush (v := 3640) 15 C dX6_record_12 rfl rfl ?_
      refine x_icmp_ge 18 40 C dX6_record_15 rfl rfl (fun _ => ?_) (fun z => absurd (nI_le (Nat.le_refl _) (by decide)) z)
      refine x_fg_1 ?_
      exact hx M W fr
    | succ d ih =>
      intro n hn M W fr hx
      have hn8 : n < 3640 := by omega
      refine x_iload_1 12 C dX6_record_11 rfl ?_
      refine x_sipush (v := 3640) 15 C dX6_record_12 rfl rfl ?_
      refine x_icmp_ge 18 40 C dX6_record_15 rfl rfl (fun z => absurd z (nI_ge hn8 (by decide))) (fun _ => ?_)
      refine x_aload_0 19 C dX6_record_18 rfl ?_
      refine mOg_history 22 C wf_X6_17 W.obj dX6_record_19 rfl ?_
      refine x_iload_1 23 C dX6_record_22 rfl ?_
      refine x_aload_0 24 C dX6_record_23 rfl ?_
      refine mOg_history 27 C wf_X6_17 W.obj dX6_record_24 rfl ?_
      refine x_iload_1 28 C dX6_record_27 rfl ?_
      refine x_sipush (v := 728) 31 C dX6_record_28 rfl rfl ?_
      refine x_iadd 32 C dX6_record_31 rfl ?_
      refine x_iald 33 (n + 728) C W.history (nI_add n 728) (by omega) (by decide) dX6_record_32 rfl ?_
      refine x_iast 34 (n) C W.history (rfl) (by omega) (by decide) dX6_record_33 rfl ?_
      refine x_m_history W (fun M_1 W o_1 => ?_)
      rw [va_uu] at W
      have W : mW K A (z) (va_up F 3 (shf (F 3) 728 (n + 1))) (G) M_1 := by rw [← (shf_s (f := F 3) (s := 728) (n := n) (by decide))]; exact W
      refine x_iinc_1 37 C dX6_record_34 rfl rfl (nI_inc _) ?_
      refine x_goto 11 C dX6_record_37 rfl ?_
      exact ih (n + 1) (by omega) M_1 W (fr.tr o_1) hx
  have l1 : ∀ (d n : Nat), n + d = 40 → ∀ M : hM, mW K A (z) (va_up F 3 (shf (F 3) 728 3640)) (va_up G 4 (shf (G 4) 8 n)) M → hFr 100 200 M0 M → (∀ M2 : hM, mW K A (z) (va_up F 3 (shf (F 3) 728 3640)) (va_up G 4 (shf (G 4) 8 40)) M2 → hFr 100 200 M0 M2 → hX E 0 0 69 [some (.ref (A 0)), none] [] M2) → hX E 0 0 42 [some (.ref (A 0)), some (.int (nI n))] [] M := by
    intro d
    induction d with
    | zero =>
      intro n hn M W fr hx
      have hn : n = 40 := by omega
      subst hn
      refine x_iload_1 43 C dX6_record_42 rfl ?_
      refine x_bipush (v := 40) 45 C dX6_record_43 rfl rfl ?_
      refine x_icmp_ge 48 69 C dX6_record_45 rfl rfl (fun _ => ?_) (fun z => absurd (nI_le (Nat.le_refl _) (by decide)) z)
      refine x_fg_1 ?_
      exact hx M W fr
    | succ d ih =>
      intro n hn M W fr hx
      have hn8 : n < 40 := by omega
      refine x_iload_1 43 C dX6_record_42 rfl ?_
      refine x_bipush (v := 40) 45 C dX6_record_43 rfl rfl ?_
      refine x_icmp_ge 48 69 C dX6_record_45 rfl rfl (fun z => absurd z (nI_ge hn8 (by decide))) (fun _ => ?_)
      refine x_aload_0 49 C dX6_record_48 rfl ?_
      refine mOg_historyCells 52 C wf_X6_20 W.obj dX6_record_49 rfl ?_
      refine x_iload_1 53 C dX6_record_52 rfl ?_
      refine x_aload_0 54 C dX6_record_53 rfl ?_
      refine mOg_historyCells 57 C wf_X6_20 W.obj dX6_record_54 rfl ?_
      refine x_iload_1 58 C dX6_record_57 rfl ?_
      refine x_bipush (v := 8) 60 C dX6_record_58 rfl rfl ?_
      refine x_iadd 61 C dX6_record_60 rfl ?_
      refine x_lald 62 (n + 8) C W.historyCells (nI_add n 8) (by omega) (by decide) dX6_record_61 rfl ?_
      refine x_last 63 (n) C W.historyCells (rfl) (by omega) (by decide) dX6_record_62 rfl ?_
      refine x_m_historyCells W (fun M_1 W o_1 => ?_)
      rw [va_uu] at W
      have W : mW K A (z) (va_up F 3 (shf (F 3) 728 3640)) (va_up G 4 (shf (G 4) 8 (n + 1))) M_1 := by rw [← (shf_s (f := G 4) (s := 8) (n := n) (by decide))]; exact W
      refine x_iinc_1 66 C dX6_record_63 rfl rfl (nI_inc _) ?_
      refine x_goto 42 C dX6_record_66 rfl ?_
      exact ih (n + 1) (by omega) M_1 W (fr.tr o_1) hx
  
  refine x_aload_0 1 C dX6_record_0 rfl ?_
  refine mOg_undos 4 C wf_X6_53 W.obj dX6_record_1 rfl ?_
  refine x_topi hz ?_
  refine x_bipush (v := 6) 6 C dX6_record_4 rfl rfl ?_
  refine x_icmp_ne 9 74 C dX6_record_6 rfl rfl (fun c_6 => ?_) (fun c_6 => ?_)
  · have h6 : ¬ u = 6 := fun q => c_6 (by rw [q]; rfl)
    refine m74 u z F G M (by omega) hz W (by rw [hM0]; exact hFr.rf) (fun M2 W2 fr2 => ⟨rfl, blk (F 3) (u * 728) (F 1) 728, blk (G 4) (u * 8) (G 2) 8, ?_, fr2, ?_⟩)
    · rw [if_neg h6]; exact W2
    · simp only [if_neg h6]
      exact ⟨fun k hk => blk_in hk, fun i k hi hk => by rw [Nat.add_zero]; exact blk_out (by omega), fun k hk => blk_in hk, fun i k hi hk => by rw [Nat.add_zero]; exact blk_out (by omega)⟩
  · refine x_iconst (v := 0) 10 C dX6_record_9 rfl rfl ?_
    refine x_istore_1 11 C dX6_record_10 rfl rfl ?_
    refine l0 3640 0 rfl M (by rw [shf_0]; exact (show va_up F 3 (F 3) = F by funext j; unfold va_up; split <;> simp_all).symm ▸ W) (by rw [hM0]; exact hFr.rf) (fun M W fr => ?_)
    refine x_iconst (v := 0) 41 C dX6_record_40 rfl rfl ?_
    refine x_istore_1 42 C dX6_record_41 rfl rfl ?_
    refine l1 40 0 rfl M (by rw [shf_0]; exact (show va_up G 4 (G 4) = G by funext j; unfold va_up; split <;> simp_all).symm ▸ W) fr (fun M W fr => ?_)
    have h6 : u = 6 := (nI_eq (by omega) (by decide)).mp c_6
    refine x_aload_0 70 C dX6_record_69 rfl ?_
    refine x_iconst (v := 5) 71 C dX6_record_70 rfl rfl ?_
    refine mOp_undos 74 C wf_X6_53 W.obj dX6_record_71 rfl ?_
    refine x_m_obj W (fun M_1 W o_1 => ?_)
    refine m74 5 _ _ _ M_1 (by omega) rfl W (fr.tr o_1) (fun M2 W2 fr2 => ⟨rfl, blk (shf (F 3) 728 3640) (5 * 728) (F 1) 728, blk (shf (G 4) 8 40) (5 * 8) (G 2) 8, ?_, fr2, ?_⟩)
    · rw [va_uu, va_uu, va_uu] at W2; rw [if_pos h6]; exact W2
    · simp only [if_pos h6]
      refine ⟨fun k hk => blk_in hk, fun i k hi hk => ?_, fun k hk => blk_in hk, fun i k hi hk => ?_⟩
      · rw [blk_out (by omega)]
        show shf (F 3) 728 3640 (i * 728 + k) = _
        rw [shf_in (by omega)]; congr 1; omega
      · rw [blk_out (by omega)]
        show shf (G 4) 8 40 (i * 8 + k) = _
        rw [shf_in (by omega)]; congr 1; omega
