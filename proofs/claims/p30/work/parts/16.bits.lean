theorem ti_0 : (0 : Int32).toInt = 0 := rfl
theorem tl_1 : (1 : Int64).toInt = 1 := rfl
theorem ti_1 : (1 : Int32).toInt = 1 := rfl
theorem tl_2 : (2 : Int64).toInt = 2 := rfl
theorem ti_2 : (2 : Int32).toInt = 2 := rfl
theorem tl_3 : (3 : Int64).toInt = 3 := rfl
theorem ti_3 : (3 : Int32).toInt = 3 := rfl
theorem tl_4 : (4 : Int64).toInt = 4 := rfl
theorem ti_4 : (4 : Int32).toInt = 4 := rfl
theorem tl_5 : (5 : Int64).toInt = 5 := rfl
theorem ti_5 : (5 : Int32).toInt = 5 := rfl
theorem tl_6 : (6 : Int64).toInt = 6 := rfl
theorem ti_6 : (6 : Int32).toInt = 6 := rfl
theorem tl_7 : (7 : Int64).toInt = 7 := rfl
theorem ti_7 : (7 : Int32).toInt = 7 := rfl
theorem tl_8 : (8 : Int64).toInt = 8 := rfl
theorem ti_8 : (8 : Int32).toInt = 8 := rfl
theorem tl_9 : (9 : Int64).toInt = 9 := rfl
theorem ti_9 : (9 : Int32).toInt = 9 := rfl
theorem tl_10 : (10 : Int64).toInt = 10 := rfl
theorem ti_10 : (10 : Int32).toInt = 10 := rfl
theorem tl_33 : (33 : Int64).toInt = 33 := rfl
theorem ti_33 : (33 : Int32).toInt = 33 := rfl
theorem tl_60 : (60 : Int64).toInt = 60 := rfl
theorem ti_60 : (60 : Int32).toInt = 60 := rfl
theorem tl_100 : (100 : Int64).toInt = 100 := rfl
theorem ti_100 : (100 : Int32).toInt = 100 := rfl
theorem tl_126 : (126 : Int64).toInt = 126 := rfl
theorem ti_126 : (126 : Int32).toInt = 126 := rfl
theorem tl_255 : (255 : Int64).toInt = 255 := rfl
theorem ti_255 : (255 : Int32).toInt = 255 := rfl
theorem tl_500 : (500 : Int64).toInt = 500 := rfl
theorem ti_500 : (500 : Int32).toInt = 500 := rfl
theorem tl_9999 : (9999 : Int64).toInt = 9999 := rfl
theorem ti_9999 : (9999 : Int32).toInt = 9999 := rfl
theorem tl_10000 : (10000 : Int64).toInt = 10000 := rfl
theorem ti_10000 : (10000 : Int32).toInt = 10000 := rfl
theorem tl_100000 : (100000 : Int64).toInt = 100000 := rfl
theorem ti_100000 : (100000 : Int32).toInt = 100000 := rfl
theorem tl_1000000 : (1000000 : Int64).toInt = 1000000 := rfl
theorem ti_1000000 : (1000000 : Int32).toInt = 1000000 := rfl
theorem tl_1000000000 : (1000000000 : Int64).toInt = 1000000000 := rfl
theorem ti_1000000000 : (1000000000 : Int32).toInt = 1000000000 := rfl
theorem ti_m1 : (-1 : Int32).toInt = -1 := rfl
def askd (n : Int64) (k : Int32) : Prop := (0 ≤ n.toInt ∧ n.toInt ≤ 1000000000000) ∧ 2 ≤ k.toInt ∧ k.toInt ≤ 3
theorem askd_of {n : Int64} {k : Int32} (h : askd n k) : ∃ N j : Nat, N ≤ LG ∧ (j = 2 ∨ j = 3) ∧ n = lN N ∧ k = nI j := by
  obtain ⟨N, hN, e⟩ := in_lN (b := LG) h.1
  obtain ⟨j, h1, h2, e2⟩ := in_nI2 (a := 2) (b := 3) h.2
  exact ⟨N, j, hN, by omega, e, e2⟩
theorem askd_ok {N k : Nat} (hN : N ≤ LG) (hk : k = 2 ∨ k = 3) : askd (lN N) (nI k) := by
  unfold LG at hN
  rw [askd, lN_toI (by omega), nI_toI (by omega)]
  omega
theorem lN_toN {N : Nat} (hN : N ≤ LG) : (lN N).toInt.toNat = N := by unfold LG at hN; rw [lN_toI (by omega)]; rfl
theorem nI_toN {k : Nat} (h : k < 2 ^ 31) : (nI k).toInt.toNat = k := by rw [nI_toI h]; rfl
theorem LG60 {N : Nat} (hN : N ≤ LG) : N < 2 ^ 60 := by unfold LG at hN; omega
noncomputable def spQ {α : Type} (p : Prop) (a b : α) : α := @ite α p (Classical.propDecidable p) a b
theorem spQ_t {α : Type} {p : Prop} {a b : α} (h : p) : spQ p a b = a := @if_pos p (Classical.propDecidable p) h α a b
theorem spQ_f {α : Type} {p : Prop} {a b : α} (h : ¬ p) : spQ p a b = b := @if_neg p (Classical.propDecidable p) h α a b
noncomputable def sp_root (ρ : Nat) (n : Int64) (k : Int32) : Int32 := spQ (askd n k) (nI (rr k.toInt.toNat n.toInt.toNat ρ)) (-2)
noncomputable def sp_rem (n : Int64) (k : Int32) : Int64 := spQ (askd n k) (lN (n.toInt.toNat - pw k.toInt.toNat (sq k.toInt.toNat n.toInt.toNat))) (-2)
theorem sp_rem_ok {N k : Nat} (hN : N ≤ LG) (hk : k = 2 ∨ k = 3) : sp_rem (lN N) (nI k) = lN (N - pw k (sq k N)) := by rw [sp_rem, spQ_t (askd_ok hN hk), lN_toN hN, nI_toN (by omega)]
theorem sp_root_ok {ρ N k : Nat} (hN : N ≤ LG) (hk : k = 2 ∨ k = 3) : sp_root ρ (lN N) (nI k) = nI (rr k N ρ) := by rw [sp_root, spQ_t (askd_ok hN hk), lN_toN hN, nI_toN (by omega)]
def bhv (o : Option Nat) : Int64 := match o with
  | some v => lN v
  | none => -6
noncomputable def sp_bit (n : Int64) (k step what : Int32) : Int64 := spQ (askd n k ∧ (0 ≤ what.toInt ∧ what.toInt ≤ 3) ∧ -1 ≤ step.toInt) (if step.toInt = -1 then lN (nb k.toInt.toNat n.toInt.toNat) else bhv (bh k.toInt.toNat n.toInt.toNat what.toInt.toNat (nb k.toInt.toNat n.toInt.toNat) 0 step.toInt)) (-2)
theorem sp_bit_ok {N k w : Nat} {step : Int32} (hN : N ≤ LG) (hk : k = 2 ∨ k = 3) (hw : w ≤ 3) (hs : -1 ≤ step.toInt) : sp_bit (lN N) (nI k) step (nI w) = if step.toInt = -1 then lN (nb k N) else bhv (bh k N w (nb k N) 0 step.toInt) := by
  rw [sp_bit, spQ_t ⟨askd_ok hN hk, by rw [nI_toI (by omega)]; omega, hs⟩, lN_toN hN, nI_toN (by omega), nI_toN (by omega)]
set_option maxHeartbeats 4000000 in
set_option maxRecDepth 100000 in
theorem c_X5_remainder (K : hKv) (M : hM) (a : Nat) (n : Int64) (k : Int32) : hC K Y_X5_remainder rm_X5_remainder [.ref a, .long n, .int k] M (hPl fun r M1 => r = sp_rem n k ∧ M1 = M) := by
  refine hC.of [some (.ref a), some (.long n), none, some (.int k)] (by decide) (Nat.le_of_ble_eq_true rfl) rfl rfl ?_
  intro E C Rt
  have C : hCx E K cX5_remainder 4 RX5 "remainder" rm_X5_remainder := C
  refine x_lload_1 1 C dX5_remainder_0 rfl ?_
  refine x_lconst (v := 0) 2 C dX5_remainder_1 rfl rfl ?_
  refine x_ldc2 (v := 1000000000000) 5 C dX5_remainder_2 rfl wq_X5_71 ?_
  refine x_callS 8 C (c_X5_within K _ _ _ _) hy_X5_within ws_X5_within lk_X5_48 dX5_remainder_5 rfl ⟨Nat.le_of_ble_eq_true rfl, Nat.le_of_ble_eq_true rfl⟩ ⟨Nat.le_of_ble_eq_true rfl, Nat.le_of_ble_eq_true rfl⟩ (Nat.le_of_ble_eq_true rfl) rfl (k_0 rfl rfl (k_ip ?_))
  refine x_if_eq 11 25 C dX5_remainder_8 rfl rfl (fun c_8 => ?_) (fun c_8 => ?_)
  · refine x_ldc2 (v := (-2)) 28 C dX5_remainder_25 rfl wq_X5_73 ?_
    refine x_lreturn C Rt dX5_remainder_28 ⟨Nat.le_of_ble_eq_true rfl, Nat.le_of_ble_eq_true rfl⟩ ?_
    simp only [Classical.not_not, hB_0p, hB_n0p, Int32.toInt_toInt64, tl_LG, ti_m1, Int32.lt_iff_toInt_lt, Int32.le_iff_toInt_le, Int64.lt_iff_toInt_lt, Int64.le_iff_toInt_le, tl_0, ti_0, tl_1, ti_1, tl_2, ti_2, tl_3, ti_3, tl_4, ti_4, tl_5, ti_5, tl_6, ti_6, tl_7, ti_7, tl_8, ti_8, tl_9, ti_9, tl_10, ti_10, tl_33, ti_33, tl_60, ti_60, tl_100, ti_100, tl_126, ti_126, tl_255, ti_255, tl_500, ti_500, tl_9999, ti_9999, tl_10000, ti_10000, tl_100000, ti_100000, tl_1000000, ti_1000000, tl_1000000000, ti_1000000000] at c_8
    exact ⟨_, rfl, by rw [sp_rem, spQ_f (by unfold askd; omega)], rfl⟩
  · refine x_iload_3 12 C dX5_remainder_11 rfl ?_
    refine x_i2l 13 C dX5_remainder_12 rfl ?_
    refine x_ldc2 (v := 2) 16 C dX5_remainder_13 rfl wq_X5_52 ?_
    refine x_ldc2 (v := 3) 19 C dX5_remainder_16 rfl wq_X5_161 ?_
    refine x_callS 22 C (c_X5_within K _ _ _ _) hy_X5_within ws_X5_within lk_X5_48 dX5_remainder_19 rfl ⟨Nat.le_of_ble_eq_true rfl, Nat.le_of_ble_eq_true rfl⟩ ⟨Nat.le_of_ble_eq_true rfl, Nat.le_of_ble_eq_true rfl⟩ (Nat.le_of_ble_eq_true rfl) rfl (k_0 rfl rfl (k_ip ?_))
    refine x_if_ne 25 29 C dX5_remainder_22 rfl rfl (fun c_22 => ?_) (fun c_22 => ?_)
    · simp only [Classical.not_not, hB_0p, hB_n0p, Int32.toInt_toInt64, tl_LG, ti_m1, Int32.lt_iff_toInt_lt, Int32.le_iff_toInt_le, Int64.lt_iff_toInt_lt, Int64.le_iff_toInt_le, tl_0, ti_0, tl_1, ti_1, tl_2, ti_2, tl_3, ti_3, tl_4, ti_4, tl_5, ti_5, tl_6, ti_6, tl_7, ti_7, tl_8, ti_8, tl_9, ti_9, tl_10, ti_10, tl_33, ti_33, tl_60, ti_60, tl_100, ti_100, tl_126, ti_126, tl_255, ti_255, tl_500, ti_500, tl_9999, ti_9999, tl_10000, ti_10000, tl_100000, ti_100000, tl_1000000, ti_1000000, tl_1000000000, ti_1000000000] at c_8 c_22
      obtain ⟨N, j, hN, hj, rfl, rfl⟩ := askd_of (n := n) (k := k) ⟨c_8, c_22⟩
      refine x_lload_1 30 C dX5_remainder_29 rfl ?_
      refine x_lload_1 31 C dX5_remainder_30 rfl ?_
      refine x_iload_3 32 C dX5_remainder_31 rfl ?_
      refine x_callS 35 C (c_X5_rootDown K _ N j hj (LG60 hN)) hy_X5_rootDown ws_X5_rootDown lk_X5_167 dX5_remainder_32 rfl ⟨Nat.le_of_ble_eq_true rfl, Nat.le_of_ble_eq_true rfl⟩ ⟨Nat.le_of_ble_eq_true rfl, Nat.le_of_ble_eq_true rfl⟩ (Nat.le_of_ble_eq_true rfl) rfl (k_0 rfl rfl (k_lp ?_))
      refine x_iload_3 36 C dX5_remainder_35 rfl ?_
      refine x_callS 39 C (c_X5_power K _ (sq j N) j hj) hy_X5_power ws_X5_power lk_X5_171 dX5_remainder_36 rfl ⟨Nat.le_of_ble_eq_true rfl, Nat.le_of_ble_eq_true rfl⟩ ⟨Nat.le_of_ble_eq_true rfl, Nat.le_of_ble_eq_true rfl⟩ (Nat.le_of_ble_eq_true rfl) rfl (k_0 rfl rfl (k_lp ?_))
      refine x_lsub 40 C dX5_remainder_39 rfl ?_
      refine x_lreturn C Rt dX5_remainder_40 ⟨Nat.le_of_ble_eq_true rfl, Nat.le_of_ble_eq_true rfl⟩ ?_
      exact ⟨_, rfl, by rw [sp_rem_ok hN hj, lN_sub (sq_spec (LG60 hN)).1], rfl⟩
    · refine x_ldc2 (v := (-2)) 28 C dX5_remainder_25 rfl wq_X5_73 ?_
      refine x_lreturn C Rt dX5_remainder_28 ⟨Nat.le_of_ble_eq_true rfl, Nat.le_of_ble_eq_true rfl⟩ ?_
      simp only [Classical.not_not, hB_0p, hB_n0p, Int32.toInt_toInt64, tl_LG, ti_m1, Int32.lt_iff_toInt_lt, Int32.le_iff_toInt_le, Int64.lt_iff_toInt_lt, Int64.le_iff_toInt_le, tl_0, ti_0, tl_1, ti_1, tl_2, ti_2, tl_3, ti_3, tl_4, ti_4, tl_5, ti_5, tl_6, ti_6, tl_7, ti_7, tl_8, ti_8, tl_9, ti_9, tl_10, ti_10, tl_33, ti_33, tl_60, ti_60, tl_100, ti_100, tl_126, ti_126, tl_255, ti_255, tl_500, ti_500, tl_9999, ti_9999, tl_10000, ti_10000, tl_100000, ti_100000, tl_1000000, ti_1000000, tl_1000000000, ti_1000000000] at c_8 c_22
      exact ⟨_, rfl, by rw [sp_rem, spQ_f (by unfold askd; omega)], rfl⟩
set_option maxHeartbeats 4000000 in
set_option maxRecDepth 100000 in
theorem c_X5_behindBit (K : hKv) (M : hM) (N k w : Nat) (step : Int32) (hk : k = 2 ∨ k = 3) (hN : N ≤ LG) (hw : w ≤ 3) : hC K Y_X5_behindBit rm_X5_behindBit [.long (lN N), .int (nI k), .int step, .int (nI w)] M (hPl fun r M1 => r = bhv (bh k N w (nb k N) 0 step.toInt) ∧ M1 = M) := by
  refine hC.of [some (.long (lN N)), none, some (.int (nI k)), some (.int step), some (.int (nI w)), none, none, none, none, none, none] (by decide) (Nat.le_of_ble_eq_true rfl) rfl rfl ?_
  intro E C Rt
  have C : hCx E K cX5_behindBit 11 RX5 "behindBit" rm_X5_behindBit := C
  have hNN := LG60 hN
  have hB := nb_bd (k := k) hNN
  have hnb := nb_le (k := k) hNN
  have lp : ∀ (j r i : Nat) (s : Int), r + 2 ^ j ≤ 2 ^ nb k N → j ≤ nb k N → pw k r ≤ N → i + j = nb k N → step.toInt = i + s → bh k N w j r s = bh k N w (nb k N) 0 step.toInt → hX E 0 0 13 [some (.long (lN N)), none, some (.int (nI k)), some (.int step), some (.int (nI w)), some (.long (lN r)), none, some (.int (nI i)), some (.long (lN (bv j))), none, none] [] M := by
    intro j
    induction j with
    | zero =>
      intro r i s hr hj hpr hi hs hq
      refine x_lload_8 15 C dX5_behindBit_13 rfl ?_
      refine x_lconst (v := 0) 16 C dX5_behindBit_15 rfl rfl ?_
      refine x_lc_le 20 128 C dX5_behindBit_16 dX5_behindBit_17 rfl rfl (fun _ => ?_) (fun z => absurd ((lN_le0 (by decide)).mpr rfl) z)
      refine x_ldc2 (v := (-6)) 131 C dX5_behindBit_128 rfl wq_X5_213 ?_
      refine x_lreturn C Rt dX5_behindBit_131 ⟨Nat.le_of_ble_eq_true rfl, Nat.le_of_ble_eq_true rfl⟩ ?_
      exact ⟨_, rfl, by rw [← hq]; rfl, rfl⟩
    | succ j ih =>
      intro r i s hr hj hpr hi hs hq
      have hp : 2 ^ (j + 1) = 2 * 2 ^ j := (two_pow_succ j).symm
      have h60 : 2 ^ j ≤ 2 ^ 60 := Nat.pow_le_pow_right (by decide) (by omega)
      have hb1 := pw_mono (k := k) (show r + 2 ^ j ≤ 2 ^ nb k N by omega)
      have m53 : ∀ t r2 : Nat, t = (if pw k (r + 2 ^ j) ≤ N then 1 else 0) → r2 = (if pw k (r + 2 ^ j) ≤ N then r + 2 ^ j else r) → hX E 0 0 53 [some (.long (lN N)), none, some (.int (nI k)), some (.int step), some (.int (nI w)), some (.long (lN r2)), none, some (.int (nI i)), some (.long (lN (bv (j + 1)))), none, some (.int (nI t))] [] M := by
        intro t r2 ht hr2
        have hr3 : r2 ≤ r + 2 ^ j := by rw [hr2]; split <;> omega
        have hr4 : pw k r2 ≤ N := by rw [hr2]; split <;> assumption
        refine x_iload_7 55 C dX5_behindBit_53 rfl ?_
        refine x_iload_3 56 C dX5_behindBit_55 rfl ?_
        refine x_icmp_ne 59 114 C dX5_behindBit_56 rfl rfl (fun c_56 => ?_) (fun c_56 => ?_)
        · have h0 : ¬ s = 0 := fun z => c_56 (by rw [z] at hs; rw [← Int32.toInt_inj, nI_toI (by omega)]; omega)
          refine x_iinc_7 117 C dX5_behindBit_114 rfl rfl (nI_inc _) ?_
          refine x_lload_8 119 C dX5_behindBit_117 rfl ?_
          refine x_ldc2 (v := 2) 122 C dX5_behindBit_119 rfl wq_X5_52 ?_
          refine x_ldiv 123 C dX5_behindBit_122 rfl (by decide) ?_
          refine x_topl (v' := lN (bv j)) (lN_halfbv (by omega)) ?_
          refine x_lstore_8 125 C dX5_behindBit_123 rfl rfl ?_
          refine x_goto 13 C dX5_behindBit_125 rfl ?_
          refine x_fg_10 ?_
          exact ih r2 (i + 1) (s - 1) (by omega) (by omega) hr4 (by omega) (by omega) (by rw [← hq, bh, if_neg h0, ← hr2])
        · have h0 : s = 0 := by rw [← c_56, nI_toI (by omega)] at hs; omega
          rcases (show w = 0 ∨ w = 1 ∨ w = 2 ∨ w = 3 by omega) with rfl | rfl | rfl | rfl
          · refine x_iload_4 61 C dX5_behindBit_59 rfl ?_
            refine x_tabIn 88 C dX5_behindBit_61 (by decide) (by decide) rfl rfl ?_
            refine x_lload_8 90 C dX5_behindBit_88 rfl ?_
            refine x_lreturn C Rt dX5_behindBit_90 ⟨Nat.le_of_ble_eq_true rfl, Nat.le_of_ble_eq_true rfl⟩ ?_
            exact ⟨_, rfl, by rw [← hq, bh, if_pos h0, ← ht, ← hr2]; rfl, rfl⟩
          · refine x_iload_4 61 C dX5_behindBit_59 rfl ?_
            refine x_tabIn 91 C dX5_behindBit_61 (by decide) (by decide) rfl rfl ?_
            refine x_iload_10 93 C dX5_behindBit_91 rfl ?_
            refine x_if_eq 96 100 C dX5_behindBit_93 rfl rfl (fun c_93 => ?_) (fun c_93 => ?_)
            · refine x_lconst (v := 0) 101 C dX5_behindBit_100 rfl rfl ?_
              refine x_lreturn C Rt dX5_behindBit_101 ⟨Nat.le_of_ble_eq_true rfl, Nat.le_of_ble_eq_true rfl⟩ ?_
              have h_t : t = 0 := by
                rw [ht] at c_93 ⊢
                by_cases hz : pw k (r + 2 ^ j) ≤ N
                · rw [if_pos hz] at c_93; exact absurd c_93 (by decide)
                · rw [if_neg hz]
              exact ⟨_, rfl, by rw [← hq, bh, if_pos h0, ← ht, ← hr2]; rw [h_t]; rfl, rfl⟩
            · refine x_lconst (v := 1) 97 C dX5_behindBit_96 rfl rfl ?_
              refine x_goto 101 C dX5_behindBit_97 rfl ?_
              refine x_lreturn C Rt dX5_behindBit_101 ⟨Nat.le_of_ble_eq_true rfl, Nat.le_of_ble_eq_true rfl⟩ ?_
              have h_t : t = 1 := by
                rw [ht] at c_93 ⊢
                by_cases hz : pw k (r + 2 ^ j) ≤ N
                · rw [if_pos hz]
                · rw [if_neg hz] at c_93; exact absurd (rfl : nI 0 = 0) c_93
              exact ⟨_, rfl, by rw [← hq, bh, if_pos h0, ← ht, ← hr2]; rw [h_t]; rfl, rfl⟩
          · refine x_iload_4 61 C dX5_behindBit_59 rfl ?_
            refine x_tabIn 102 C dX5_behindBit_61 (by decide) (by decide) rfl rfl ?_
            refine x_lload_5 104 C dX5_behindBit_102 rfl ?_
            refine x_lreturn C Rt dX5_behindBit_104 ⟨Nat.le_of_ble_eq_true rfl, Nat.le_of_ble_eq_true rfl⟩ ?_
            exact ⟨_, rfl, by rw [← hq, bh, if_pos h0, ← ht, ← hr2]; rfl, rfl⟩
          · refine x_iload_4 61 C dX5_behindBit_59 rfl ?_
            refine x_tabOut 105 C dX5_behindBit_61 (Or.inr (by decide)) rfl ?_
            refine x_lload_0 106 C dX5_behindBit_105 rfl ?_
            refine x_lload_5 108 C dX5_behindBit_106 rfl ?_
            refine x_iload_2 109 C dX5_behindBit_108 rfl ?_
            refine x_callS 112 C (c_X5_power K _ r2 k hk) hy_X5_power ws_X5_power lk_X5_171 dX5_behindBit_109 rfl ⟨Nat.le_of_ble_eq_true rfl, Nat.le_of_ble_eq_true rfl⟩ ⟨Nat.le_of_ble_eq_true rfl, Nat.le_of_ble_eq_true rfl⟩ (Nat.le_of_ble_eq_true rfl) rfl (k_0 rfl rfl (k_lp ?_))
            refine x_lsub 113 C dX5_behindBit_112 rfl ?_
            refine x_lreturn C Rt dX5_behindBit_113 ⟨Nat.le_of_ble_eq_true rfl, Nat.le_of_ble_eq_true rfl⟩ ?_
            exact ⟨_, rfl, by rw [← hq, bh, if_pos h0, ← ht, ← hr2]; rw [lN_sub hr4]; rfl, rfl⟩
      refine x_lload_8 15 C dX5_behindBit_13 rfl ?_
      refine x_lconst (v := 0) 16 C dX5_behindBit_15 rfl rfl ?_
      refine x_lc_le 20 128 C dX5_behindBit_16 dX5_behindBit_17 rfl rfl (fun z => absurd z ((fun z => absurd ((lN_le0 (by show 2 ^ j < _; omega)).mp z) (Nat.ne_of_gt bv_pos)))) (fun _ => ?_)
      refine x_lload_5 22 C dX5_behindBit_20 rfl ?_
      refine x_lload_8 24 C dX5_behindBit_22 rfl ?_
      refine x_ladd 25 C dX5_behindBit_24 rfl ?_
      refine x_topl (v' := lN (r + 2 ^ j)) (lN_add r (2 ^ j)) ?_
      refine x_iload_2 26 C dX5_behindBit_25 rfl ?_
      refine x_callS 29 C (c_X5_power K _ (r + 2 ^ j) k hk) hy_X5_power ws_X5_power lk_X5_171 dX5_behindBit_26 rfl ⟨Nat.le_of_ble_eq_true rfl, Nat.le_of_ble_eq_true rfl⟩ ⟨Nat.le_of_ble_eq_true rfl, Nat.le_of_ble_eq_true rfl⟩ (Nat.le_of_ble_eq_true rfl) rfl (k_0 rfl rfl (k_lp ?_))
      refine x_lload_0 30 C dX5_behindBit_29 rfl ?_
      refine x_lc_gt 34 38 C dX5_behindBit_30 dX5_behindBit_31 rfl rfl (fun c_30 => ?_) (fun c_30 => ?_)
      · have hc : ¬ pw k (r + 2 ^ j) ≤ N := fun z => absurd ((lN_lt' (by omega) (by omega)).mp c_30) (by omega)
        refine x_iconst (v := 0) 39 C dX5_behindBit_38 rfl rfl ?_
        refine x_istore_10 41 C dX5_behindBit_39 rfl rfl ?_
        refine x_iload_10 43 C dX5_behindBit_41 rfl ?_
        refine x_if_eq 46 53 C dX5_behindBit_43 rfl rfl (fun _ => ?_) (fun z => absurd (rfl) z)
        exact m53 0 r (by rw [if_neg hc]) (by rw [if_neg hc])
      · have hc : pw k (r + 2 ^ j) ≤ N := by
          rcases Nat.lt_or_ge N (pw k (r + 2 ^ j)) with q | q
          · exact absurd ((lN_lt' (by omega) (by omega)).mpr q) c_30
          · exact q
        refine x_iconst (v := 1) 35 C dX5_behindBit_34 rfl rfl ?_
        refine x_goto 39 C dX5_behindBit_35 rfl ?_
        refine x_istore_10 41 C dX5_behindBit_39 rfl rfl ?_
        refine x_iload_10 43 C dX5_behindBit_41 rfl ?_
        refine x_if_eq 46 53 C dX5_behindBit_43 rfl rfl (fun z => absurd z ((by decide))) (fun _ => ?_)
        refine x_lload_5 48 C dX5_behindBit_46 rfl ?_
        refine x_lload_8 50 C dX5_behindBit_48 rfl ?_
        refine x_ladd 51 C dX5_behindBit_50 rfl ?_
        refine x_topl (v' := lN (r + 2 ^ j)) (lN_add r (2 ^ j)) ?_
        refine x_lstore_5 53 C dX5_behindBit_51 rfl rfl ?_
        exact m53 1 (r + 2 ^ j) (by rw [if_pos hc]) (by rw [if_pos hc])
  refine x_lconst (v := 0) 1 C dX5_behindBit_0 rfl rfl ?_
  refine x_lstore_5 3 C dX5_behindBit_1 rfl rfl ?_
  refine x_iconst (v := 0) 4 C dX5_behindBit_3 rfl rfl ?_
  refine x_istore_7 6 C dX5_behindBit_4 rfl rfl ?_
  refine x_lload_0 7 C dX5_behindBit_6 rfl ?_
  refine x_iload_2 8 C dX5_behindBit_7 rfl ?_
  refine x_callS 11 C (c_X5_firstBit K _ N k hk hNN) hy_X5_firstBit ws_X5_firstBit lk_X5_250 dX5_behindBit_8 rfl ⟨Nat.le_of_ble_eq_true rfl, Nat.le_of_ble_eq_true rfl⟩ ⟨Nat.le_of_ble_eq_true rfl, Nat.le_of_ble_eq_true rfl⟩ (Nat.le_of_ble_eq_true rfl) rfl (k_0 rfl rfl (k_lp ?_))
  refine x_lstore_8 13 C dX5_behindBit_11 rfl rfl ?_
  exact lp (nb k N) 0 0 step.toInt (by omega) (by omega) (by unfold pw; split <;> exact Nat.zero_le _) (by omega) (by omega) rfl
set_option maxHeartbeats 4000000 in
set_option maxRecDepth 100000 in
theorem c_X5_bit (K : hKv) (M : hM) (a : Nat) (n : Int64) (k0 step what : Int32) : hC K Y_X5_bit rm_X5_bit [.ref a, .long n, .int k0, .int step, .int what] M (hPl fun r M1 => r = sp_bit n k0 step what ∧ M1 = M) := by
  refine hC.of [some (.ref a), some (.long n), none, some (.int k0), some (.int step), some (.int what)] (by decide) (Nat.le_of_ble_eq_true rfl) rfl rfl ?_
  intro E C Rt
  have C : hCx E K cX5_bit 6 RX5 "bit" rm_X5_bit := C
  refine x_lload_1 1 C dX5_bit_0 rfl ?_
  refine x_lconst (v := 0) 2 C dX5_bit_1 rfl rfl ?_
  refine x_ldc2 (v := 1000000000000) 5 C dX5_bit_2 rfl wq_X5_71 ?_
  refine x_callS 8 C (c_X5_within K _ _ _ _) hy_X5_within ws_X5_within lk_X5_48 dX5_bit_5 rfl ⟨Nat.le_of_ble_eq_true rfl, Nat.le_of_ble_eq_true rfl⟩ ⟨Nat.le_of_ble_eq_true rfl, Nat.le_of_ble_eq_true rfl⟩ (Nat.le_of_ble_eq_true rfl) rfl (k_0 rfl rfl (k_ip ?_))
  refine x_if_eq 11 44 C dX5_bit_8 rfl rfl (fun c_8 => ?_) (fun c_8 => ?_)
  · refine x_ldc2 (v := (-2)) 47 C dX5_bit_44 rfl wq_X5_73 ?_
    refine x_lreturn C Rt dX5_bit_47 ⟨Nat.le_of_ble_eq_true rfl, Nat.le_of_ble_eq_true rfl⟩ ?_
    simp only [Classical.not_not, hB_0p, hB_n0p, Int32.toInt_toInt64, tl_LG, ti_m1, Int32.lt_iff_toInt_lt, Int32.le_iff_toInt_le, Int64.lt_iff_toInt_lt, Int64.le_iff_toInt_le, tl_0, ti_0, tl_1, ti_1, tl_2, ti_2, tl_3, ti_3, tl_4, ti_4, tl_5, ti_5, tl_6, ti_6, tl_7, ti_7, tl_8, ti_8, tl_9, ti_9, tl_10, ti_10, tl_33, ti_33, tl_60, ti_60, tl_100, ti_100, tl_126, ti_126, tl_255, ti_255, tl_500, ti_500, tl_9999, ti_9999, tl_10000, ti_10000, tl_100000, ti_100000, tl_1000000, ti_1000000, tl_1000000000, ti_1000000000] at c_8
    exact ⟨_, rfl, by rw [sp_bit, spQ_f (by unfold askd; omega)], rfl⟩
  · refine x_iload_3 12 C dX5_bit_11 rfl ?_
    refine x_i2l 13 C dX5_bit_12 rfl ?_
    refine x_ldc2 (v := 2) 16 C dX5_bit_13 rfl wq_X5_52 ?_
    refine x_ldc2 (v := 3) 19 C dX5_bit_16 rfl wq_X5_161 ?_
    refine x_callS 22 C (c_X5_within K _ _ _ _) hy_X5_within ws_X5_within lk_X5_48 dX5_bit_19 rfl ⟨Nat.le_of_ble_eq_true rfl, Nat.le_of_ble_eq_true rfl⟩ ⟨Nat.le_of_ble_eq_true rfl, Nat.le_of_ble_eq_true rfl⟩ (Nat.le_of_ble_eq_true rfl) rfl (k_0 rfl rfl (k_ip ?_))
    refine x_if_eq 25 44 C dX5_bit_22 rfl rfl (fun c_22 => ?_) (fun c_22 => ?_)
    · refine x_ldc2 (v := (-2)) 47 C dX5_bit_44 rfl wq_X5_73 ?_
      refine x_lreturn C Rt dX5_bit_47 ⟨Nat.le_of_ble_eq_true rfl, Nat.le_of_ble_eq_true rfl⟩ ?_
      simp only [Classical.not_not, hB_0p, hB_n0p, Int32.toInt_toInt64, tl_LG, ti_m1, Int32.lt_iff_toInt_lt, Int32.le_iff_toInt_le, Int64.lt_iff_toInt_lt, Int64.le_iff_toInt_le, tl_0, ti_0, tl_1, ti_1, tl_2, ti_2, tl_3, ti_3, tl_4, ti_4, tl_5, ti_5, tl_6, ti_6, tl_7, ti_7, tl_8, ti_8, tl_9, ti_9, tl_10, ti_10, tl_33, ti_33, tl_60, ti_60, tl_100, ti_100, tl_126, ti_126, tl_255, ti_255, tl_500, ti_500, tl_9999, ti_9999, tl_10000, ti_10000, tl_100000, ti_100000, tl_1000000, ti_1000000, tl_1000000000, ti_1000000000] at c_8 c_22
      exact ⟨_, rfl, by rw [sp_bit, spQ_f (by unfold askd; omega)], rfl⟩
    · refine x_iload_5 27 C dX5_bit_25 rfl ?_
      refine x_i2l 28 C dX5_bit_27 rfl ?_
      refine x_lconst (v := 0) 29 C dX5_bit_28 rfl rfl ?_
      refine x_ldc2 (v := 3) 32 C dX5_bit_29 rfl wq_X5_161 ?_
      refine x_callS 35 C (c_X5_within K _ _ _ _) hy_X5_within ws_X5_within lk_X5_48 dX5_bit_32 rfl ⟨Nat.le_of_ble_eq_true rfl, Nat.le_of_ble_eq_true rfl⟩ ⟨Nat.le_of_ble_eq_true rfl, Nat.le_of_ble_eq_true rfl⟩ (Nat.le_of_ble_eq_true rfl) rfl (k_0 rfl rfl (k_ip ?_))
      refine x_if_eq 38 44 C dX5_bit_35 rfl rfl (fun c_35 => ?_) (fun c_35 => ?_)
      · refine x_ldc2 (v := (-2)) 47 C dX5_bit_44 rfl wq_X5_73 ?_
        refine x_lreturn C Rt dX5_bit_47 ⟨Nat.le_of_ble_eq_true rfl, Nat.le_of_ble_eq_true rfl⟩ ?_
        simp only [Classical.not_not, hB_0p, hB_n0p, Int32.toInt_toInt64, tl_LG, ti_m1, Int32.lt_iff_toInt_lt, Int32.le_iff_toInt_le, Int64.lt_iff_toInt_lt, Int64.le_iff_toInt_le, tl_0, ti_0, tl_1, ti_1, tl_2, ti_2, tl_3, ti_3, tl_4, ti_4, tl_5, ti_5, tl_6, ti_6, tl_7, ti_7, tl_8, ti_8, tl_9, ti_9, tl_10, ti_10, tl_33, ti_33, tl_60, ti_60, tl_100, ti_100, tl_126, ti_126, tl_255, ti_255, tl_500, ti_500, tl_9999, ti_9999, tl_10000, ti_10000, tl_100000, ti_100000, tl_1000000, ti_1000000, tl_1000000000, ti_1000000000] at c_35
        exact ⟨_, rfl, by rw [sp_bit, spQ_f (by omega)], rfl⟩
      · refine x_iload_4 40 C dX5_bit_38 rfl ?_
        refine x_iconst (v := (-1)) 41 C dX5_bit_40 rfl rfl ?_
        refine x_icmp_ge 44 48 C dX5_bit_41 rfl rfl (fun c_41 => ?_) (fun c_41 => ?_)
        · simp only [Classical.not_not, hB_0p, hB_n0p, Int32.toInt_toInt64, tl_LG, ti_m1, Int32.lt_iff_toInt_lt, Int32.le_iff_toInt_le, Int64.lt_iff_toInt_lt, Int64.le_iff_toInt_le, tl_0, ti_0, tl_1, ti_1, tl_2, ti_2, tl_3, ti_3, tl_4, ti_4, tl_5, ti_5, tl_6, ti_6, tl_7, ti_7, tl_8, ti_8, tl_9, ti_9, tl_10, ti_10, tl_33, ti_33, tl_60, ti_60, tl_100, ti_100, tl_126, ti_126, tl_255, ti_255, tl_500, ti_500, tl_9999, ti_9999, tl_10000, ti_10000, tl_100000, ti_100000, tl_1000000, ti_1000000, tl_1000000000, ti_1000000000] at c_8 c_22 c_35 c_41
          obtain ⟨N, k, hN, hk, rfl, rfl⟩ := askd_of (n := n) (k := k0) ⟨c_8, c_22⟩
          obtain ⟨w, hw, rfl⟩ := in_nI (b := 3) c_35
          have hnb := nb_le (k := k) (LG60 hN)
          refine x_iload_4 50 C dX5_bit_48 rfl ?_
          refine x_iconst (v := (-1)) 51 C dX5_bit_50 rfl rfl ?_
          refine x_icmp_ne 54 63 C dX5_bit_51 rfl rfl (fun c_51 => ?_) (fun c_51 => ?_)
          · refine x_lload_1 64 C dX5_bit_63 rfl ?_
            refine x_iload_3 65 C dX5_bit_64 rfl ?_
            refine x_iload_4 67 C dX5_bit_65 rfl ?_
            refine x_iload_5 69 C dX5_bit_67 rfl ?_
            refine x_callS 72 C (c_X5_behindBit K _ N k w step hk hN hw) hy_X5_behindBit ws_X5_behindBit lk_X5_178 dX5_bit_69 rfl ⟨Nat.le_of_ble_eq_true rfl, Nat.le_of_ble_eq_true rfl⟩ ⟨Nat.le_of_ble_eq_true rfl, Nat.le_of_ble_eq_true rfl⟩ (Nat.le_of_ble_eq_true rfl) rfl (k_0 rfl rfl (k_lp ?_))
            refine x_lreturn C Rt dX5_bit_72 ⟨Nat.le_of_ble_eq_true rfl, Nat.le_of_ble_eq_true rfl⟩ ?_
            exact ⟨_, rfl, by rw [sp_bit_ok hN hk hw c_41, if_neg (c := step.toInt = -1) (fun z => c_51 (Int32.toInt_inj.mp (z.trans ti_m1.symm)))], rfl⟩
          · refine x_lload_1 55 C dX5_bit_54 rfl ?_
            refine x_iload_3 56 C dX5_bit_55 rfl ?_
            refine x_callS 59 C (c_X5_bitsOfRoot K _ N k hk (LG60 hN)) hy_X5_bitsOfRoot ws_X5_bitsOfRoot lk_X5_174 dX5_bit_56 rfl ⟨Nat.le_of_ble_eq_true rfl, Nat.le_of_ble_eq_true rfl⟩ ⟨Nat.le_of_ble_eq_true rfl, Nat.le_of_ble_eq_true rfl⟩ (Nat.le_of_ble_eq_true rfl) rfl (k_0 rfl rfl (k_ip ?_))
            refine x_i2l 60 C dX5_bit_59 rfl ?_
            refine x_topl (nI_l (by omega)) ?_
            refine x_goto 72 C dX5_bit_60 rfl ?_
            refine x_lreturn C Rt dX5_bit_72 ⟨Nat.le_of_ble_eq_true rfl, Nat.le_of_ble_eq_true rfl⟩ ?_
            exact ⟨_, rfl, by rw [sp_bit_ok hN hk hw c_41, if_pos (by rw [c_51]; rfl)], rfl⟩
        · refine x_ldc2 (v := (-2)) 47 C dX5_bit_44 rfl wq_X5_73 ?_
          refine x_lreturn C Rt dX5_bit_47 ⟨Nat.le_of_ble_eq_true rfl, Nat.le_of_ble_eq_true rfl⟩ ?_
          simp only [Classical.not_not, hB_0p, hB_n0p, Int32.toInt_toInt64, tl_LG, ti_m1, Int32.lt_iff_toInt_lt, Int32.le_iff_toInt_le, Int64.lt_iff_toInt_lt, Int64.le_iff_toInt_le, tl_0, ti_0, tl_1, ti_1, tl_2, ti_2, tl_3, ti_3, tl_4, ti_4, tl_5, ti_5, tl_6, ti_6, tl_7, ti_7, tl_8, ti_8, tl_9, ti_9, tl_10, ti_10, tl_33, ti_33, tl_60, ti_60, tl_100, ti_100, tl_126, ti_126, tl_255, ti_255, tl_500, ti_500, tl_9999, ti_9999, tl_10000, ti_10000, tl_100000, ti_100000, tl_1000000, ti_1000000, tl_1000000000, ti_1000000000] at c_41
          exact ⟨_, rfl, by rw [sp_bit, spQ_f (by omega)], rfl⟩
