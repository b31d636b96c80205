set_option maxHeartbeats 4000000 in
set_option maxRecDepth 100000 in
theorem c_L_cell (K : hKv) (M : hM) {b L : Nat} {xs : Nat → Int32} (hL : L ≤ 260) (k n : Nat) (hk : k ≤ 1000) (hn : 0 < n) (hn2 : n < 2 ^ 31) : hCs K b L xs Y_L_cell rm_L_cell [.ref b, .int (nI k), .int (nI n)] M (hPi fun r M' => (∃ c, c < n ∧ r = nI c) ∧ M' = M) := by
  refine hCs.of [some (.ref b), some (.int (nI k)), some (.int (nI n))] (by decide) (Nat.le_of_ble_eq_true rfl) rfl rfl ?_
  intro E C Rt S
  have C : hCx E K cL_cell 3 RL "cell" rm_L_cell := C
  refine x_aload_0 1 C dL_cell_0 rfl ?_
  refine x_alenX 2 C S dL_cell_1 rfl ?_
  refine x_if_ne 5 14 C dL_cell_2 rfl rfl (fun c_2 => ?_) (fun c_2 => ?_)
  · have hL0 : L ≠ 0 := fun z => c_2 (by rw [z]; rfl)
    refine x_aload_0 15 C dL_cell_14 rfl ?_
    refine x_iload_1 16 C dL_cell_15 rfl ?_
    refine x_aload_0 17 C dL_cell_16 rfl ?_
    refine x_alenX 18 C S dL_cell_17 rfl ?_
    refine x_irem 19 C dL_cell_18 rfl (fun z => hL0 ((nI_eq (by omega) (by decide)).mp z)) ?_
    refine x_topi (v' := nI (k % L)) (pk_rem (by omega) (by omega) (by omega)) ?_
    refine x_sld 20 (k % L) C S (rfl) (Nat.mod_lt _ (by omega)) (by omega) dL_cell_19 rfl ?_
    refine x_iload_1 21 C dL_cell_20 rfl ?_
    refine x_bipush (v := 7) 23 C dL_cell_21 rfl rfl ?_
    refine x_irem 24 C dL_cell_23 rfl (by decide) ?_
    refine x_ishr 25 C dL_cell_24 rfl ?_
    refine x_ldc (v := 4194303) 27 C dL_cell_25 rfl wq_L_7 ?_
    refine x_iand 28 C dL_cell_27 rfl ?_
    refine x_topi (pk_and _ 22 (by decide)) ?_
    refine x_iload_2 29 C dL_cell_28 rfl ?_
    refine x_irem 30 C dL_cell_29 rfl (fun z => by have := (nI_eq (b := 0) hn2 (by decide)).mp z; omega) ?_
    refine x_topi (pk_rem (Nat.lt_of_lt_of_le (Nat.mod_lt _ (by decide)) (by decide)) hn hn2) ?_
    refine x_ireturn C Rt dL_cell_30 rfl ⟨Nat.le_of_ble_eq_true rfl, Nat.le_of_ble_eq_true rfl⟩ ?_
    exact ⟨_, rfl, ⟨_, Nat.mod_lt _ hn, rfl⟩, rfl⟩
  · refine x_iload_1 6 C dL_cell_5 rfl ?_
    refine x_bipush (v := 37) 8 C dL_cell_6 rfl rfl ?_
    refine x_imul 9 C dL_cell_8 rfl ?_
    refine x_topi (v' := nI (k * 37)) (pk_mul k 37) ?_
    refine x_iconst (v := 5) 10 C dL_cell_9 rfl rfl ?_
    refine x_iadd 11 C dL_cell_10 rfl ?_
    refine x_topi (v' := nI (k * 37 + 5)) (nI_add (k * 37) 5) ?_
    refine x_goto 28 C dL_cell_11 rfl ?_
    refine x_iload_2 29 C dL_cell_28 rfl ?_
    refine x_irem 30 C dL_cell_29 rfl (fun z => by have := (nI_eq (b := 0) hn2 (by decide)).mp z; omega) ?_
    refine x_topi (v' := nI ((k * 37 + 5) % n)) (pk_rem (by omega) hn hn2) ?_
    refine x_ireturn C Rt dL_cell_30 rfl ⟨Nat.le_of_ble_eq_true rfl, Nat.le_of_ble_eq_true rfl⟩ ?_
    exact ⟨_, rfl, ⟨_, Nat.mod_lt _ hn, rfl⟩, rfl⟩
set_option maxHeartbeats 4000000 in
set_option maxRecDepth 100000 in
theorem c_L_power (K : hKv) (M : hM) (x k : Nat) (hk : k = 2 ∨ k = 3) : hC K Y_L_power rm_L_power [.long (lN x), .int (nI k)] M (hPl fun r M' => r = lN (pw k x) ∧ M' = M) := by
  refine hC.of [some (.long (lN x)), none, some (.int (nI k))] (by decide) (Nat.le_of_ble_eq_true rfl) rfl rfl ?_
  intro E C Rt
  have C : hCx E K cL_power 3 RL "power" rm_L_power := C
  refine x_iload_2 1 C dL_power_0 rfl ?_
  refine x_iconst (v := 2) 2 C dL_power_1 rfl rfl ?_
  refine x_icmp_ne 5 11 C dL_power_2 rfl rfl (fun c_2 => ?_) (fun c_2 => ?_)
  · refine x_lload_0 12 C dL_power_11 rfl ?_
    refine x_lload_0 13 C dL_power_12 rfl ?_
    refine x_lmul 14 C dL_power_13 rfl ?_
    refine x_lload_0 15 C dL_power_14 rfl ?_
    refine x_lmul 16 C dL_power_15 rfl ?_
    refine x_lreturn C Rt dL_power_16 ⟨Nat.le_of_ble_eq_true rfl, Nat.le_of_ble_eq_true rfl⟩ ?_
    have h2 : k = 3 := Classical.not_not.mp fun z => c_2 ((c_kind2 hk).mpr z)
    exact ⟨_, rfl, by rw [lN_mul, lN_mul]; simp [pw, h2], rfl⟩
  · refine x_lload_0 6 C dL_power_5 rfl ?_
    refine x_lload_0 7 C dL_power_6 rfl ?_
    refine x_lmul 8 C dL_power_7 rfl ?_
    refine x_goto 16 C dL_power_8 rfl ?_
    refine x_lreturn C Rt dL_power_16 ⟨Nat.le_of_ble_eq_true rfl, Nat.le_of_ble_eq_true rfl⟩ ?_
    have h2 : ¬ k = 3 := (c_kind2 hk).mp c_2
    exact ⟨_, rfl, by rw [lN_mul]; simp [pw, h2], rfl⟩
theorem pw_6 {k x : Nat} (h : x ≤ 1000001) : pw k x < 2 ^ 63 := by
  have h1 := pw_mono (k := k) h
  have h2 : pw k 1000001 < 2 ^ 63 := by unfold pw; split <;> decide
  omega
theorem pw_00 {k : Nat} : pw k 0 = 0 := by unfold pw; split <;> rfl
theorem rt_h3 {N k : Nat} (hN : N ≤ 1000000000000) (hk : k = 3) : N < pw k 10001 := by
  have : pw 3 10001 = 1000300030001 := by decide
  rw [hk]; omega
theorem rt_h2 {N k : Nat} (hN : N ≤ 1000000000000) (hk : ¬ k = 3) : N < pw k 1000001 := by
  rw [pw, if_neg hk]; omega
set_option maxHeartbeats 4000000 in
set_option maxRecDepth 100000 in
theorem c_L_root (K : hKv) (M : hM) (N k : Nat) (hk : k = 2 ∨ k = 3) (hN : N ≤ LG) : hC K Y_L_root rm_L_root [.long (lN N), .int (nI k)] M (hPl fun r M' => r = lN (sq k N) ∧ M' = M) := by
  refine hC.of [some (.long (lN N)), none, some (.int (nI k)), none, none, none, none, none, none] (by decide) (Nat.le_of_ble_eq_true rfl) rfl rfl ?_
  intro E C Rt
  have C : hCx E K cL_root 9 RL "root" rm_L_root := C
  have hN60 := LG60 hN
  unfold LG at hN
  have lp : ∀ (d lo hi : Nat) (m7 : Option Value), hi - lo ≤ d → lo < hi → hi ≤ 1000001 → pw k lo ≤ N → N < pw k hi → hX E 0 0 18 [some (.long (lN N)), none, some (.int (nI k)), some (.long (lN lo)), none, some (.long (lN hi)), none, m7, none] [] M := by
    intro d
    induction d with
    | zero => intro lo hi m7 h1 h2; omega
    | succ d ih =>
      intro lo hi m7 h1 h2 h3 h4 h5
      refine x_lload_5 20 C dL_root_18 rfl ?_
      refine x_lload_3 21 C dL_root_20 rfl ?_
      refine x_lsub 22 C dL_root_21 rfl ?_
      refine x_topl (v' := lN (hi - lo)) (lN_sub (by omega)) ?_
      refine x_lconst (v := 1) 23 C dL_root_22 rfl rfl ?_
      refine x_lc_le 27 61 C dL_root_23 dL_root_24 rfl rfl (fun c_23 => ?_) (fun c_23 => ?_)
      · have h6 : hi - lo ≤ 1 := (lN_le' (b := 1) (by omega) (by decide)).mp c_23
        refine x_lload_3 62 C dL_root_61 rfl ?_
        refine x_lreturn C Rt dL_root_62 ⟨Nat.le_of_ble_eq_true rfl, Nat.le_of_ble_eq_true rfl⟩ ?_
        exact ⟨_, rfl, by rw [sq_uniq (k := k) (r := lo) hN60 h4 (by rw [show lo + 1 = hi by omega]; exact h5)], rfl⟩
      · have h6 : ¬ hi - lo ≤ 1 := fun z => c_23 ((lN_le' (b := 1) (by omega) (by decide)).mpr z)
        refine x_lload_3 28 C dL_root_27 rfl ?_
        refine x_lload_5 30 C dL_root_28 rfl ?_
        refine x_ladd 31 C dL_root_30 rfl ?_
        refine x_topl (v' := lN (lo + hi)) (lN_add lo hi) ?_
        refine x_ldc2 (v := 2) 34 C dL_root_31 rfl wq_L_12 ?_
        refine x_ldiv 35 C dL_root_34 rfl (by decide) ?_
        refine x_topl (v' := lN ((lo + hi) / 2)) (lN_div2 (by omega)) ?_
        refine x_lstore_7 37 C dL_root_35 rfl rfl ?_
        refine x_lload_7 39 C dL_root_37 rfl ?_
        refine x_iload_2 40 C dL_root_39 rfl ?_
        refine x_callS 43 C (c_L_power K _ ((lo + hi) / 2) k hk) hy_L_power ws_L_power lk_L_14 dL_root_40 rfl ⟨Nat.le_of_ble_eq_true rfl, Nat.le_of_ble_eq_true rfl⟩ ⟨Nat.le_of_ble_eq_true rfl, Nat.le_of_ble_eq_true rfl⟩ (Nat.le_of_ble_eq_true rfl) rfl (k_0 rfl rfl (k_lp ?_))
        refine x_lload_0 44 C dL_root_43 rfl ?_
        refine x_lc_gt 48 54 C dL_root_44 dL_root_45 rfl rfl (fun c_44 => ?_) (fun c_44 => ?_)
        · have h7 : N < pw k ((lo + hi) / 2) := (lN_lt' (by omega) (pw_6 (by omega))).mp c_44
          refine x_lload_7 56 C dL_root_54 rfl ?_
          refine x_lstore_5 58 C dL_root_56 rfl rfl ?_
          refine x_goto 18 C dL_root_58 rfl ?_
          exact ih lo ((lo + hi) / 2) _ (by omega) (by omega) (by omega) h4 h7
        · have h7 : pw k ((lo + hi) / 2) ≤ N := by
            rcases Nat.lt_or_ge N (pw k ((lo + hi) / 2)) with q | q
            · exact absurd ((lN_lt' (by omega) (pw_6 (by omega))).mpr q) c_44
            · exact q
          refine x_lload_7 50 C dL_root_48 rfl ?_
          refine x_lstore_3 51 C dL_root_50 rfl rfl ?_
          refine x_goto 58 C dL_root_51 rfl ?_
          refine x_goto 18 C dL_root_58 rfl ?_
          exact ih ((lo + hi) / 2) hi _ (by omega) (by omega) (by omega) h7 h5
  refine x_lconst (v := 0) 1 C dL_root_0 rfl rfl ?_
  refine x_lstore_3 2 C dL_root_1 rfl rfl ?_
  refine x_iload_2 3 C dL_root_2 rfl ?_
  refine x_iconst (v := 2) 4 C dL_root_3 rfl rfl ?_
  refine x_icmp_ne 7 13 C dL_root_4 rfl rfl (fun c_4 => ?_) (fun c_4 => ?_)
  · refine x_ldc2 (v := 10001) 16 C dL_root_13 rfl wq_L_10 ?_
    refine x_lstore_5 18 C dL_root_16 rfl rfl ?_
    exact lp 10001 0 10001 _ (by omega) (by omega) (by omega) (by rw [pw_00]; omega) (rt_h3 hN (Classical.not_not.mp fun z => c_4 ((c_kind2 hk).mpr z)))
  · refine x_ldc2 (v := 1000001) 10 C dL_root_7 rfl wq_L_8 ?_
    refine x_goto 16 C dL_root_10 rfl ?_
    refine x_lstore_5 18 C dL_root_16 rfl rfl ?_
    exact lp 1000001 0 1000001 _ (by omega) (by omega) (by omega) (by rw [pw_00]; omega) (rt_h2 hN ((c_kind2 hk).mp c_4))
def tw (k N : Nat) : Nat := if k = 3 then 8 * N else 4 * N
theorem near_tw {k N : Nat} (hk : k = 2 ∨ k = 3) (hN : N < 2 ^ 60) : near k N = true ↔ pw k (2 * sq k N + 1) < tw k N := by
  obtain ⟨h1, h2⟩ := sq_spec (k := k) hN
  rcases hk with rfl | rfl
  · have e : (2 * sq 2 N + 1) * (2 * sq 2 N + 1) = 4 * (sq 2 N * sq 2 N) + 4 * sq 2 N + 1 := by grind
    have e2 : (sq 2 N + 1) * (sq 2 N + 1) = sq 2 N * sq 2 N + 2 * sq 2 N + 1 := by grind
    unfold near tw
    rw [if_neg (by decide), if_neg (by decide), decide_eq_true_iff]
    unfold pw at h1 h2 ⊢
    rw [if_neg (by decide)] at h1 h2
    rw [if_neg (by decide), if_neg (by decide), e]
    omega
  · unfold near tw
    rw [if_pos rfl, if_pos rfl, decide_eq_true_iff]
set_option maxHeartbeats 4000000 in
set_option maxRecDepth 100000 in
theorem c_L_rounded (K : hKv) (M : hM) (N k ρ : Nat) (hk : k = 2 ∨ k = 3) (hN : N ≤ LG) (hρ : ρ ≤ 2) : hC K Y_L_rounded rm_L_rounded [.long (lN N), .int (nI k), .int (nI ρ)] M (hPl fun r M' => r = lN (rr k N ρ) ∧ M' = M) := by
  refine hC.of [some (.long (lN N)), none, some (.int (nI k)), some (.int (nI ρ)), none, none, none, none, none, none] (by decide) (Nat.le_of_ble_eq_true rfl) rfl rfl ?_
  intro E C Rt
  have C : hCx E K cL_rounded 10 RL "rounded" rm_L_rounded := C
  have hN60 := LG60 hN
  have hN1 := hN
  have hs := (sq_spec (k := k) hN60).1
  have hsl : sq k N ≤ 1000000 := by
    rcases Nat.lt_or_ge 1000000 (sq k N) with q | q
    · have h1 := pw_mono (k := k) (show 1000001 ≤ sq k N by omega)
      have h2 : 1000001 * 1000001 ≤ pw k 1000001 := by unfold pw; split <;> decide
      unfold LG at hN
      omega
    · exact q
  have hpb : pw k (2 * sq k N + 1) < 2 ^ 63 := by
    have h1 := pw_mono (k := k) (show 2 * sq k N + 1 ≤ 2000001 by omega)
    have h2 : pw k 2000001 < 2 ^ 63 := by unfold pw; split <;> decide
    omega
  have htw : tw k N < 2 ^ 63 := by unfold tw LG at *; split <;> omega
  have m68 : hX E 0 0 68 [some (.long (lN N)), none, some (.int (nI k)), some (.int (nI ρ)), some (.long (lN (sq k N))), none, some (.int (hB (decide (pw k (sq k N) = N)))), some (.long (lN (tw k N))), none, none] [.int (hB (near k N))] M := by
    refine x_istore_9 70 C dL_rounded_68 rfl rfl ?_
    refine x_iload_3 71 C dL_rounded_70 rfl ?_
    refine x_iconst (v := 2) 72 C dL_rounded_71 rfl rfl ?_
    refine x_icmp_ne 75 80 C dL_rounded_72 rfl rfl (fun c_72 => ?_) (fun c_72 => ?_)
    · have h2 : ¬ ρ = 2 := fun z => c_72 ((nI_eq (b := 2) (by omega) (by decide)).mpr z)
      refine x_iload_3 81 C dL_rounded_80 rfl ?_
      refine x_iconst (v := 1) 82 C dL_rounded_81 rfl rfl ?_
      refine x_icmp_ne 85 97 C dL_rounded_82 rfl rfl (fun c_82 => ?_) (fun c_82 => ?_)
      · have hr : rr k N ρ = sq k N := rr_0 (fun z => c_82 ((nI_eq (b := 1) (by omega) (by decide)).mpr z)) h2
        refine x_lload_4 99 C dL_rounded_97 rfl ?_
        refine x_lreturn C Rt dL_rounded_99 ⟨Nat.le_of_ble_eq_true rfl, Nat.le_of_ble_eq_true rfl⟩ ?_
        exact ⟨_, rfl, by rw [hr], rfl⟩
      · refine x_iload_9 87 C dL_rounded_85 rfl ?_
        refine x_if_eq 90 97 C dL_rounded_87 rfl rfl (fun c_87 => ?_) (fun c_87 => ?_)
        · have hr : rr k N ρ = sq k N := rr_1f ((nI_eq (b := 1) (by omega) (by decide)).mp c_82) (hB_0.mp c_87)
          refine x_lload_4 99 C dL_rounded_97 rfl ?_
          refine x_lreturn C Rt dL_rounded_99 ⟨Nat.le_of_ble_eq_true rfl, Nat.le_of_ble_eq_true rfl⟩ ?_
          exact ⟨_, rfl, by rw [hr], rfl⟩
        · have hr : rr k N ρ = sq k N + 1 := rr_1t ((nI_eq (b := 1) (by omega) (by decide)).mp c_82) (hB_n0.mp c_87)
          refine x_lload_4 92 C dL_rounded_90 rfl ?_
          refine x_lconst (v := 1) 93 C dL_rounded_92 rfl rfl ?_
          refine x_ladd 94 C dL_rounded_93 rfl ?_
          refine x_topl (v' := lN (sq k N + 1)) (lN_1 _) ?_
          refine x_goto 99 C dL_rounded_94 rfl ?_
          refine x_lreturn C Rt dL_rounded_99 ⟨Nat.le_of_ble_eq_true rfl, Nat.le_of_ble_eq_true rfl⟩ ?_
          exact ⟨_, rfl, by rw [hr], rfl⟩
    · have h2 : ρ = 2 := (nI_eq (b := 2) (by omega) (by decide)).mp c_72
      refine x_iload_6 77 C dL_rounded_75 rfl ?_
      refine x_if_eq 80 90 C dL_rounded_77 rfl rfl (fun c_77 => ?_) (fun c_77 => ?_)
      · have hr : rr k N ρ = sq k N + 1 := rr_2t h2 (by have := hB_0p.mp c_77; omega)
        refine x_lload_4 92 C dL_rounded_90 rfl ?_
        refine x_lconst (v := 1) 93 C dL_rounded_92 rfl rfl ?_
        refine x_ladd 94 C dL_rounded_93 rfl ?_
        refine x_topl (v' := lN (sq k N + 1)) (lN_1 _) ?_
        refine x_goto 99 C dL_rounded_94 rfl ?_
        refine x_lreturn C Rt dL_rounded_99 ⟨Nat.le_of_ble_eq_true rfl, Nat.le_of_ble_eq_true rfl⟩ ?_
        exact ⟨_, rfl, by rw [hr], rfl⟩
      · refine x_iload_3 81 C dL_rounded_80 rfl ?_
        refine x_iconst (v := 1) 82 C dL_rounded_81 rfl rfl ?_
        refine x_icmp_ne 85 97 C dL_rounded_82 rfl rfl (fun _ => ?_) (fun z => absurd z ((fun z => by rw [h2] at z; exact absurd z (by decide))))
        have hr : rr k N ρ = sq k N := rr_2f h2 (by have := hB_n0p.mp c_77; omega)
        refine x_lload_4 99 C dL_rounded_97 rfl ?_
        refine x_lreturn C Rt dL_rounded_99 ⟨Nat.le_of_ble_eq_true rfl, Nat.le_of_ble_eq_true rfl⟩ ?_
        exact ⟨_, rfl, by rw [hr], rfl⟩
  have m43 : hX E 0 0 43 [some (.long (lN N)), none, some (.int (nI k)), some (.int (nI ρ)), some (.long (lN (sq k N))), none, some (.int (hB (decide (pw k (sq k N) = N)))), none, none, none] [.long (lN (tw k N))] M := by
    refine x_lstore_7 45 C dL_rounded_43 rfl rfl ?_
    refine x_ldc2 (v := 2) 48 C dL_rounded_45 rfl wq_L_12 ?_
    refine x_lload_4 50 C dL_rounded_48 rfl ?_
    refine x_lmul 51 C dL_rounded_50 rfl ?_
    refine x_topl (v' := lN (2 * sq k N)) (lN_mul 2 _) ?_
    refine x_lconst (v := 1) 52 C dL_rounded_51 rfl rfl ?_
    refine x_ladd 53 C dL_rounded_52 rfl ?_
    refine x_topl (v' := lN (2 * sq k N + 1)) (lN_1 _) ?_
    refine x_iload_2 54 C dL_rounded_53 rfl ?_
    refine x_callS 57 C (c_L_power K _ (2 * sq k N + 1) k hk) hy_L_power ws_L_power lk_L_14 dL_rounded_54 rfl ⟨Nat.le_of_ble_eq_true rfl, Nat.le_of_ble_eq_true rfl⟩ ⟨Nat.le_of_ble_eq_true rfl, Nat.le_of_ble_eq_true rfl⟩ (Nat.le_of_ble_eq_true rfl) rfl (k_0 rfl rfl (k_lp ?_))
    refine x_lload_7 59 C dL_rounded_57 rfl ?_
    refine x_lc_ge 63 67 C dL_rounded_59 dL_rounded_60 rfl rfl (fun c_59 => ?_) (fun c_59 => ?_)
    · have h4 : near k N = false := by
        cases hq : near k N with
        | false => rfl
        | true => exact absurd ((lN_le' htw hpb).mp c_59) (Nat.not_le.mpr ((near_tw hk hN60).mp hq))
      refine x_iconst (v := 0) 68 C dL_rounded_67 rfl rfl ?_
      exact x_topi (hB_f h4).symm m68
    · have h4 : near k N = true := (near_tw hk hN60).mpr (by
        rcases Nat.lt_or_ge (pw k (2 * sq k N + 1)) (tw k N) with q | q
        · exact q
        · exact absurd ((lN_le' htw hpb).mpr q) c_59)
      refine x_iconst (v := 1) 64 C dL_rounded_63 rfl rfl ?_
      refine x_goto 68 C dL_rounded_64 rfl ?_
      exact x_topi (hB_t h4).symm m68
  have m23 : hX E 0 0 23 [some (.long (lN N)), none, some (.int (nI k)), some (.int (nI ρ)), some (.long (lN (sq k N))), none, none, none, none, none] [.int (hB (decide (pw k (sq k N) = N)))] M := by
    refine x_istore_6 25 C dL_rounded_23 rfl rfl ?_
    refine x_iload_2 26 C dL_rounded_25 rfl ?_
    refine x_iconst (v := 2) 27 C dL_rounded_26 rfl rfl ?_
    refine x_icmp_ne 30 38 C dL_rounded_27 rfl rfl (fun c_27 => ?_) (fun c_27 => ?_)
    · refine x_ldc2 (v := 8) 41 C dL_rounded_38 rfl wq_L_25 ?_
      refine x_lload_0 42 C dL_rounded_41 rfl ?_
      refine x_lmul 43 C dL_rounded_42 rfl ?_
      exact x_topl ((lN_mul 8 N).trans (show lN (8 * N) = lN (tw k N) by rw [tw, if_pos (Classical.not_not.mp fun z => c_27 ((c_kind2 hk).mpr z))])) m43
    · refine x_ldc2 (v := 4) 33 C dL_rounded_30 rfl wq_L_23 ?_
      refine x_lload_0 34 C dL_rounded_33 rfl ?_
      refine x_lmul 35 C dL_rounded_34 rfl ?_
      refine x_topl (v' := lN (4 * N)) (lN_mul 4 N) ?_
      refine x_goto 43 C dL_rounded_35 rfl ?_
      exact x_topl (show lN (4 * N) = lN (tw k N) by rw [tw, if_neg ((c_kind2 hk).mp c_27)]) m43
  unfold LG at hN
  refine x_lload_0 1 C dL_rounded_0 rfl ?_
  refine x_iload_2 2 C dL_rounded_1 rfl ?_
  refine x_callS 5 C (c_L_root K _ N k hk hN1) hy_L_root ws_L_root lk_L_20 dL_rounded_2 rfl ⟨Nat.le_of_ble_eq_true rfl, Nat.le_of_ble_eq_true rfl⟩ ⟨Nat.le_of_ble_eq_true rfl, Nat.le_of_ble_eq_true rfl⟩ (Nat.le_of_ble_eq_true rfl) rfl (k_0 rfl rfl (k_lp ?_))
  refine x_lstore_4 7 C dL_rounded_5 rfl rfl ?_
  refine x_lload_4 9 C dL_rounded_7 rfl ?_
  refine x_iload_2 10 C dL_rounded_9 rfl ?_
  refine x_callS 13 C (c_L_power K _ (sq k N) k hk) hy_L_power ws_L_power lk_L_14 dL_rounded_10 rfl ⟨Nat.le_of_ble_eq_true rfl, Nat.le_of_ble_eq_true rfl⟩ ⟨Nat.le_of_ble_eq_true rfl, Nat.le_of_ble_eq_true rfl⟩ (Nat.le_of_ble_eq_true rfl) rfl (k_0 rfl rfl (k_lp ?_))
  refine x_lload_0 14 C dL_rounded_13 rfl ?_
  refine x_lc_ne 18 22 C dL_rounded_14 dL_rounded_15 rfl rfl (fun c_14 => ?_) (fun c_14 => ?_)
  · have h5 : ¬ pw k (sq k N) = N := fun z => c_14 (by rw [z])
    refine x_iconst (v := 0) 23 C dL_rounded_22 rfl rfl ?_
    exact x_topi (hB_ifn h5).symm m23
  · have h5 : pw k (sq k N) = N := (lN_eq' (by omega) (by omega)).mp c_14
    refine x_iconst (v := 1) 19 C dL_rounded_18 rfl rfl ?_
    refine x_goto 23 C dL_rounded_19 rfl ?_
    exact x_topi (hB_if h5).symm m23
set_option maxHeartbeats 4000000 in
set_option maxRecDepth 100000 in
theorem c_L_times (K : hKv) (M : hM) (x y : Nat) (hx : x ≤ LG) (hy : y ≤ LG) : hC K Y_L_times rm_L_times [.long (lN x), .long (lN y)] M (hPl fun r M' => r = lN (tmn x y) ∧ M' = M) := by
  refine hC.of [some (.long (lN x)), none, some (.long (lN y)), none] (by decide) (Nat.le_of_ble_eq_true rfl) rfl rfl ?_
  intro E C Rt
  have C : hCx E K cL_times 4 RL "times" rm_L_times := C
  rw [← tmt_tmn] at Rt
  have hx0 := hx
  unfold LG at hx hy
  refine x_lload_2 1 C dL_times_0 rfl ?_
  refine x_lconst (v := 0) 2 C dL_times_1 rfl rfl ?_
  refine x_lc_le 6 22 C dL_times_2 dL_times_3 rfl rfl (fun c_2 => ?_) (fun c_2 => ?_)
  · refine x_lload_0 23 C dL_times_22 rfl ?_
    refine x_lload_2 24 C dL_times_23 rfl ?_
    refine x_lmul 25 C dL_times_24 rfl ?_
    refine x_topl (v' := lN (x * y)) (lN_mul x y) ?_
    refine x_lreturn C Rt dL_times_25 ⟨Nat.le_of_ble_eq_true rfl, Nat.le_of_ble_eq_true rfl⟩ ?_
    have hy0 : y = 0 := by have := (lN_le' (b := 0) (by omega) (by decide)).mp c_2; omega
    exact ⟨_, rfl, by rw [tmt, if_neg (by omega)], rfl⟩
  · have hy0 : 0 < y := Nat.pos_of_ne_zero fun z => c_2 (by rw [z]; exact (lN_le' (by decide) (by decide)).mpr (Nat.le_refl _))
    refine x_lload_0 7 C dL_times_6 rfl ?_
    refine x_ldc2 (v := 1000000000000) 10 C dL_times_7 rfl wq_L_27 ?_
    refine x_lload_2 11 C dL_times_10 rfl ?_
    refine x_ldiv 12 C dL_times_11 rfl (fun z => by have := (lN_eq' (b := 0) (by omega) (by decide)).mp z; omega) ?_
    refine x_topl (v' := lN (LG / y)) (pk_lDiv (a := LG) (by decide) hy0 (by omega)) ?_
    refine x_lc_le 16 22 C dL_times_12 dL_times_13 rfl rfl (fun c_12 => ?_) (fun c_12 => ?_)
    · refine x_lload_0 23 C dL_times_22 rfl ?_
      refine x_lload_2 24 C dL_times_23 rfl ?_
      refine x_lmul 25 C dL_times_24 rfl ?_
      refine x_topl (v' := lN (x * y)) (lN_mul x y) ?_
      refine x_lreturn C Rt dL_times_25 ⟨Nat.le_of_ble_eq_true rfl, Nat.le_of_ble_eq_true rfl⟩ ?_
      have h3 : x ≤ LG / y := (lN_le' (by omega) (Nat.lt_of_le_of_lt (Nat.div_le_self _ _) (by decide))).mp c_12
      exact ⟨_, rfl, by rw [tmt, if_neg (fun q => absurd q.2 (Nat.not_lt.mpr h3))], rfl⟩
    · refine x_ldc2 (v := 1000000000001) 19 C dL_times_16 rfl wq_L_29 ?_
      refine x_goto 25 C dL_times_19 rfl ?_
      refine x_lreturn C Rt dL_times_25 ⟨Nat.le_of_ble_eq_true rfl, Nat.le_of_ble_eq_true rfl⟩ ?_
      have h3 : ¬ x ≤ LG / y := fun z => c_12 ((lN_le' (by omega) (Nat.lt_of_le_of_lt (Nat.div_le_self _ _) (by decide))).mpr z)
      exact ⟨_, rfl, by rw [tmt, if_pos ⟨hy0, Nat.not_le.mp h3⟩]; rfl, rfl⟩
set_option maxHeartbeats 4000000 in
set_option maxRecDepth 100000 in
theorem c_L_value (K : hKv) (M : hM) {b L : Nat} {xs : Nat → Int32} (hL : L ≤ 260) (k : Nat) (hk : k ≤ 900) : hCs K b L xs Y_L_value rm_L_value [.ref b, .int (nI k)] M (hPl fun r M' => (∃ w, w ≤ LG ∧ r = lN w) ∧ M' = M) := by
  refine hCs.of [some (.ref b), some (.int (nI k)), none, none, none] (by decide) (Nat.le_of_ble_eq_true rfl) rfl rfl ?_
  intro E C Rt S
  have C : hCx E K cL_value 5 RL "value" rm_L_value := C
  refine x_aload_0 1 C dL_value_0 rfl ?_
  refine x_iload_1 2 C dL_value_1 rfl ?_
  refine x_ldc (v := 4194304) 4 C dL_value_2 rfl wq_L_129 ?_
  refine x_callSs 7 C S (c_L_cell K _ hL (k) (4194304) (by omega) (by decide) (by decide)) hy_L_cell ws_L_cell lk_L_41 dL_value_4 rfl ⟨Nat.le_of_ble_eq_true rfl, Nat.le_of_ble_eq_true rfl⟩ ⟨Nat.le_of_ble_eq_true rfl, Nat.le_of_ble_eq_true rfl⟩ (Nat.le_of_ble_eq_true rfl) rfl (k_0 rfl rfl (k_iq (fun r_x ⟨x, hx, ex⟩ => ?_)))
  subst ex
  refine x_i2l 8 C dL_value_7 rfl ?_
  refine x_topl (v' := lN x) (nI_l (by omega)) ?_
  refine x_aload_0 9 C dL_value_8 rfl ?_
  refine x_iload_1 10 C dL_value_9 rfl ?_
  refine x_iconst (v := 1) 11 C dL_value_10 rfl rfl ?_
  refine x_iadd 12 C dL_value_11 rfl ?_
  refine x_topi (v' := nI (k + 1)) (nI_1 k) ?_
  refine x_ldc (v := 238419) 14 C dL_value_12 rfl wq_L_130 ?_
  refine x_callSs 17 C S (c_L_cell K _ hL (k + 1) (238419) (by omega) (by decide) (by decide)) hy_L_cell ws_L_cell lk_L_41 dL_value_14 rfl ⟨Nat.le_of_ble_eq_true rfl, Nat.le_of_ble_eq_true rfl⟩ ⟨Nat.le_of_ble_eq_true rfl, Nat.le_of_ble_eq_true rfl⟩ (Nat.le_of_ble_eq_true rfl) rfl (k_0 rfl rfl (k_iq (fun r_y ⟨y, hy, ey⟩ => ?_)))
  subst ey
  refine x_i2l 18 C dL_value_17 rfl ?_
  refine x_topl (v' := lN y) (nI_l (by omega)) ?_
  refine x_lmul 19 C dL_value_18 rfl ?_
  refine x_topl (v' := lN (x * y)) (lN_mul x y) ?_
  refine x_lstore_2 20 C dL_value_19 rfl rfl ?_
  refine x_aload_0 21 C dL_value_20 rfl ?_
  refine x_iload_1 22 C dL_value_21 rfl ?_
  refine x_iconst (v := 2) 23 C dL_value_22 rfl rfl ?_
  refine x_iadd 24 C dL_value_23 rfl ?_
  refine x_topi (v' := nI (k + 2)) (nI_add k 2) ?_
  refine x_iconst (v := 5) 25 C dL_value_24 rfl rfl ?_
  refine x_callSs 28 C S (c_L_cell K _ hL (k + 2) (5) (by omega) (by decide) (by decide)) hy_L_cell ws_L_cell lk_L_41 dL_value_25 rfl ⟨Nat.le_of_ble_eq_true rfl, Nat.le_of_ble_eq_true rfl⟩ ⟨Nat.le_of_ble_eq_true rfl, Nat.le_of_ble_eq_true rfl⟩ (Nat.le_of_ble_eq_true rfl) rfl (k_0 rfl rfl (k_iq (fun r_h ⟨h, hh, eh⟩ => ?_)))
  subst eh
  refine x_istore_4 30 C dL_value_28 rfl rfl ?_
  refine x_iload_4 32 C dL_value_30 rfl ?_
  refine x_if_ne 35 39 C dL_value_32 rfl rfl (fun c_32 => ?_) (fun c_32 => ?_)
  · refine x_iload_4 41 C dL_value_39 rfl ?_
    refine x_iconst (v := 1) 42 C dL_value_41 rfl rfl ?_
    refine x_icmp_ne 45 60 C dL_value_42 rfl rfl (fun c_42 => ?_) (fun c_42 => ?_)
    · refine x_iload_4 62 C dL_value_60 rfl ?_
      refine x_iconst (v := 2) 63 C dL_value_62 rfl rfl ?_
      refine x_icmp_ne 66 82 C dL_value_63 rfl rfl (fun c_63 => ?_) (fun c_63 => ?_)
      · refine x_iload_4 84 C dL_value_82 rfl ?_
        refine x_iconst (v := 3) 85 C dL_value_84 rfl rfl ?_
        refine x_icmp_ne 88 103 C dL_value_85 rfl rfl (fun c_85 => ?_) (fun c_85 => ?_)
        · refine x_aload_0 104 C dL_value_103 rfl ?_
          refine x_iload_1 105 C dL_value_104 rfl ?_
          refine x_bipush (v := 100) 107 C dL_value_105 rfl rfl ?_
          refine x_callSs 110 C S (c_L_cell K _ hL (k) (100) (by omega) (by decide) (by decide)) hy_L_cell ws_L_cell lk_L_41 dL_value_107 rfl ⟨Nat.le_of_ble_eq_true rfl, Nat.le_of_ble_eq_true rfl⟩ ⟨Nat.le_of_ble_eq_true rfl, Nat.le_of_ble_eq_true rfl⟩ (Nat.le_of_ble_eq_true rfl) rfl (k_0 rfl rfl (k_iq (fun r_u ⟨u, hu, eu⟩ => ?_)))
          subst eu
          refine x_i2l 111 C dL_value_110 rfl ?_
          refine x_topl (v' := lN u) (nI_l (by omega)) ?_
          refine x_lreturn C Rt dL_value_111 ⟨Nat.le_of_ble_eq_true rfl, Nat.le_of_ble_eq_true rfl⟩ ?_
          exact ⟨_, rfl, ⟨_, by unfold LG; omega, rfl⟩, rfl⟩
        · refine x_aload_0 89 C dL_value_88 rfl ?_
          refine x_iload_1 90 C dL_value_89 rfl ?_
          refine x_ldc (v := 1000000) 92 C dL_value_90 rfl wq_L_131 ?_
          refine x_callSs 95 C S (c_L_cell K _ hL (k) (1000000) (by omega) (by decide) (by decide)) hy_L_cell ws_L_cell lk_L_41 dL_value_92 rfl ⟨Nat.le_of_ble_eq_true rfl, Nat.le_of_ble_eq_true rfl⟩ ⟨Nat.le_of_ble_eq_true rfl, Nat.le_of_ble_eq_true rfl⟩ (Nat.le_of_ble_eq_true rfl) rfl (k_0 rfl rfl (k_iq (fun r_u ⟨u, hu, eu⟩ => ?_)))
          subst eu
          refine x_i2l 96 C dL_value_95 rfl ?_
          refine x_topl (v' := lN u) (nI_l (by omega)) ?_
          refine x_iconst (v := 2) 97 C dL_value_96 rfl rfl ?_
          refine x_callS 100 C (c_L_power K _ u 2 (Or.inl rfl)) hy_L_power ws_L_power lk_L_14 dL_value_97 rfl ⟨Nat.le_of_ble_eq_true rfl, Nat.le_of_ble_eq_true rfl⟩ ⟨Nat.le_of_ble_eq_true rfl, Nat.le_of_ble_eq_true rfl⟩ (Nat.le_of_ble_eq_true rfl) rfl (k_0 rfl rfl (k_lp ?_))
          refine x_goto 111 C dL_value_100 rfl ?_
          refine x_lreturn C Rt dL_value_111 ⟨Nat.le_of_ble_eq_true rfl, Nat.le_of_ble_eq_true rfl⟩ ?_
          have h1 := pw_mono (k := 2) (show u ≤ 1000000 by omega)
          have h2 : pw 2 1000000 = 1000000000000 := by decide
          exact ⟨_, rfl, ⟨_, by unfold LG; omega, rfl⟩, rfl⟩
      · refine x_aload_0 67 C dL_value_66 rfl ?_
        refine x_iload_1 68 C dL_value_67 rfl ?_
        refine x_sipush (v := 10000) 71 C dL_value_68 rfl rfl ?_
        refine x_callSs 74 C S (c_L_cell K _ hL (k) (10000) (by omega) (by decide) (by decide)) hy_L_cell ws_L_cell lk_L_41 dL_value_71 rfl ⟨Nat.le_of_ble_eq_true rfl, Nat.le_of_ble_eq_true rfl⟩ ⟨Nat.le_of_ble_eq_true rfl, Nat.le_of_ble_eq_true rfl⟩ (Nat.le_of_ble_eq_true rfl) rfl (k_0 rfl rfl (k_iq (fun r_u ⟨u, hu, eu⟩ => ?_)))
        subst eu
        refine x_i2l 75 C dL_value_74 rfl ?_
        refine x_topl (v' := lN u) (nI_l (by omega)) ?_
        refine x_iconst (v := 3) 76 C dL_value_75 rfl rfl ?_
        refine x_callS 79 C (c_L_power K _ u 3 (Or.inr rfl)) hy_L_power ws_L_power lk_L_14 dL_value_76 rfl ⟨Nat.le_of_ble_eq_true rfl, Nat.le_of_ble_eq_true rfl⟩ ⟨Nat.le_of_ble_eq_true rfl, Nat.le_of_ble_eq_true rfl⟩ (Nat.le_of_ble_eq_true rfl) rfl (k_0 rfl rfl (k_lp ?_))
        refine x_goto 111 C dL_value_79 rfl ?_
        refine x_lreturn C Rt dL_value_111 ⟨Nat.le_of_ble_eq_true rfl, Nat.le_of_ble_eq_true rfl⟩ ?_
        have h1 := pw_mono (k := 3) (show u ≤ 10000 by omega)
        have h2 : pw 3 10000 = 1000000000000 := by decide
        exact ⟨_, rfl, ⟨_, by unfold LG; omega, rfl⟩, rfl⟩
    · refine x_ldc2 (v := 1000000000000) 48 C dL_value_45 rfl wq_L_27 ?_
      refine x_aload_0 49 C dL_value_48 rfl ?_
      refine x_iload_1 50 C dL_value_49 rfl ?_
      refine x_bipush (v := 100) 52 C dL_value_50 rfl rfl ?_
      refine x_callSs 55 C S (c_L_cell K _ hL (k) (100) (by omega) (by decide) (by decide)) hy_L_cell ws_L_cell lk_L_41 dL_value_52 rfl ⟨Nat.le_of_ble_eq_true rfl, Nat.le_of_ble_eq_true rfl⟩ ⟨Nat.le_of_ble_eq_true rfl, Nat.le_of_ble_eq_true rfl⟩ (Nat.le_of_ble_eq_true rfl) rfl (k_0 rfl rfl (k_iq (fun r_u ⟨u, hu, eu⟩ => ?_)))
      subst eu
      refine x_i2l 56 C dL_value_55 rfl ?_
      refine x_topl (v' := lN u) (nI_l (by omega)) ?_
      refine x_lsub 57 C dL_value_56 rfl ?_
      refine x_topl (v' := lN (LG - u)) (lN_sub (show u ≤ LG by unfold LG; omega)) ?_
      refine x_goto 111 C dL_value_57 rfl ?_
      refine x_lreturn C Rt dL_value_111 ⟨Nat.le_of_ble_eq_true rfl, Nat.le_of_ble_eq_true rfl⟩ ?_
      exact ⟨_, rfl, ⟨_, Nat.sub_le _ _, rfl⟩, rfl⟩
  · refine x_lload_2 36 C dL_value_35 rfl ?_
    refine x_goto 111 C dL_value_36 rfl ?_
    refine x_lreturn C Rt dL_value_111 ⟨Nat.le_of_ble_eq_true rfl, Nat.le_of_ble_eq_true rfl⟩ ?_
    have h1 : x * y ≤ 4194303 * 238418 := Nat.mul_le_mul (by omega) (by omega)
    exact ⟨_, rfl, ⟨_, by unfold LG; omega, rfl⟩, rfl⟩
