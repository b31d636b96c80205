theorem tl_0 : (0 : Int64).toInt = 0 := rfl
theorem tl_LG : (1000000000000 : Int64).toInt = 1000000000000 := rfl
theorem nI_ofInt {x : Int32} (h : 0 ≤ x.toInt) : x = nI x.toInt.toNat := by
  obtain ⟨j, hj, rfl⟩ := nI_of (x := x) (by rw [Int32.lt_iff_toInt_lt]; show ¬ x.toInt < 0; omega)
  rw [nI_toInt hj]; rfl
theorem in_nI {x : Int32} {b : Nat} (h : 0 ≤ x.toInt ∧ x.toInt ≤ (b : Int)) : ∃ j, j ≤ b ∧ x = nI j := ⟨x.toInt.toNat, by omega, nI_ofInt h.1⟩
theorem in_nI2 {x : Int32} {a b : Nat} (h : (a : Int) ≤ x.toInt ∧ x.toInt ≤ (b : Int)) : ∃ j, a ≤ j ∧ j ≤ b ∧ x = nI j := ⟨x.toInt.toNat, by omega, by omega, nI_ofInt (by omega)⟩
theorem in_lN {x : Int64} {b : Nat} (h : 0 ≤ x.toInt ∧ x.toInt ≤ (b : Int)) : ∃ j, j ≤ b ∧ x = lN j := by
  obtain ⟨j, hj, rfl⟩ := pk_lOf (x := x) (by rw [Int64.lt_iff_toInt_lt]; show ¬ x.toInt < 0; omega)
  rw [pk_lT hj] at h
  exact ⟨j, by omega, rfl⟩
theorem lN_toI {a : Nat} (h : a < 2 ^ 63) : (lN a).toInt = a := pk_lT h
theorem nI_toI {a : Nat} (h : a < 2 ^ 31) : (nI a).toInt = a := nI_toInt h
def tmn (a b : Nat) : Nat := if a ≠ 0 ∧ LG / a < b then LG + 1 else a * b
set_option maxHeartbeats 4000000 in
set_option maxRecDepth 100000 in
theorem c_X6_in (K : hKv) (M : hM) (v a b : Int32) : hC K Y_X6_in rm_X6_in [.int v, .int a, .int b] M (hPi fun r M1 => r = hB (decide (a.toInt ≤ v.toInt ∧ v.toInt ≤ b.toInt)) ∧ M1 = M) := by
  refine hC.of [some (.int v), some (.int a), some (.int b)] (by decide) (Nat.le_of_ble_eq_true rfl) rfl rfl ?_
  intro E C Rt
  have C : hCx E K cX6_in 3 RX6 "in" rm_X6_in := C
  refine x_iload_0 1 C dX6_in_0 rfl ?_
  refine x_iload_1 2 C dX6_in_1 rfl ?_
  refine x_icmp_lt 5 14 C dX6_in_2 rfl rfl (fun c_2 => ?_) (fun c_2 => ?_)
  · refine x_iconst (v := 0) 15 C dX6_in_14 rfl rfl ?_
    refine x_ireturn C Rt dX6_in_15 rfl ⟨Nat.le_of_ble_eq_true rfl, Nat.le_of_ble_eq_true rfl⟩ ?_
    first | exact ⟨_, rfl, (hB_if (by simp only [Int32.lt_iff_toInt_lt, Int32.le_iff_toInt_le] at *; omega)).symm, rfl⟩ | exact ⟨_, rfl, (hB_ifn (by simp only [Int32.lt_iff_toInt_lt, Int32.le_iff_toInt_le] at *; omega)).symm, rfl⟩
  · refine x_iload_0 6 C dX6_in_5 rfl ?_
    refine x_iload_2 7 C dX6_in_6 rfl ?_
    refine x_icmp_gt 10 14 C dX6_in_7 rfl rfl (fun c_7 => ?_) (fun c_7 => ?_)
    · refine x_iconst (v := 0) 15 C dX6_in_14 rfl rfl ?_
      refine x_ireturn C Rt dX6_in_15 rfl ⟨Nat.le_of_ble_eq_true rfl, Nat.le_of_ble_eq_true rfl⟩ ?_
      first | exact ⟨_, rfl, (hB_if (by simp only [Int32.lt_iff_toInt_lt, Int32.le_iff_toInt_le] at *; omega)).symm, rfl⟩ | exact ⟨_, rfl, (hB_ifn (by simp only [Int32.lt_iff_toInt_lt, Int32.le_iff_toInt_le] at *; omega)).symm, rfl⟩
    · refine x_iconst (v := 1) 11 C dX6_in_10 rfl rfl ?_
      refine x_goto 15 C dX6_in_11 rfl ?_
      refine x_ireturn C Rt dX6_in_15 rfl ⟨Nat.le_of_ble_eq_true rfl, Nat.le_of_ble_eq_true rfl⟩ ?_
      first | exact ⟨_, rfl, (hB_if (by simp only [Int32.lt_iff_toInt_lt, Int32.le_iff_toInt_le] at *; omega)).symm, rfl⟩ | exact ⟨_, rfl, (hB_ifn (by simp only [Int32.lt_iff_toInt_lt, Int32.le_iff_toInt_le] at *; omega)).symm, rfl⟩
set_option maxHeartbeats 4000000 in
set_option maxRecDepth 100000 in
theorem c_X6_isValue (K : hKv) (M : hM) (v : Int64) : hC K Y_X6_isValue rm_X6_isValue [.long v] M (hPi fun r M1 => r = hB (decide (0 ≤ v.toInt ∧ v.toInt ≤ 1000000000000)) ∧ M1 = M) := by
  refine hC.of [some (.long v), none] (by decide) (Nat.le_of_ble_eq_true rfl) rfl rfl ?_
  intro E C Rt
  have C : hCx E K cX6_isValue 2 RX6 "isValue" rm_X6_isValue := C
  refine x_lload_0 1 C dX6_isValue_0 rfl ?_
  refine x_lconst (v := 0) 2 C dX6_isValue_1 rfl rfl ?_
  refine x_lc_lt 6 18 C dX6_isValue_2 dX6_isValue_3 rfl rfl (fun c_2 => ?_) (fun c_2 => ?_)
  · refine x_iconst (v := 0) 19 C dX6_isValue_18 rfl rfl ?_
    refine x_ireturn C Rt dX6_isValue_19 rfl ⟨Nat.le_of_ble_eq_true rfl, Nat.le_of_ble_eq_true rfl⟩ ?_
    first | exact ⟨_, rfl, (hB_if (by simp only [Int64.lt_iff_toInt_lt, Int64.le_iff_toInt_le, tl_0, tl_LG] at *; omega)).symm, rfl⟩ | exact ⟨_, rfl, (hB_ifn (by simp only [Int64.lt_iff_toInt_lt, Int64.le_iff_toInt_le, tl_0, tl_LG] at *; omega)).symm, rfl⟩
  · refine x_lload_0 7 C dX6_isValue_6 rfl ?_
    refine x_ldc2 (v := 1000000000000) 10 C dX6_isValue_7 rfl wq_X6_51 ?_
    refine x_lc_gt 14 18 C dX6_isValue_10 dX6_isValue_11 rfl rfl (fun c_10 => ?_) (fun c_10 => ?_)
    · refine x_iconst (v := 0) 19 C dX6_isValue_18 rfl rfl ?_
      refine x_ireturn C Rt dX6_isValue_19 rfl ⟨Nat.le_of_ble_eq_true rfl, Nat.le_of_ble_eq_true rfl⟩ ?_
      first | exact ⟨_, rfl, (hB_if (by simp only [Int64.lt_iff_toInt_lt, Int64.le_iff_toInt_le, tl_0, tl_LG] at *; omega)).symm, rfl⟩ | exact ⟨_, rfl, (hB_ifn (by simp only [Int64.lt_iff_toInt_lt, Int64.le_iff_toInt_le, tl_0, tl_LG] at *; omega)).symm, rfl⟩
    · refine x_iconst (v := 1) 15 C dX6_isValue_14 rfl rfl ?_
      refine x_goto 19 C dX6_isValue_15 rfl ?_
      refine x_ireturn C Rt dX6_isValue_19 rfl ⟨Nat.le_of_ble_eq_true rfl, Nat.le_of_ble_eq_true rfl⟩ ?_
      first | exact ⟨_, rfl, (hB_if (by simp only [Int64.lt_iff_toInt_lt, Int64.le_iff_toInt_le, tl_0, tl_LG] at *; omega)).symm, rfl⟩ | exact ⟨_, rfl, (hB_ifn (by simp only [Int64.lt_iff_toInt_lt, Int64.le_iff_toInt_le, tl_0, tl_LG] at *; omega)).symm, rfl⟩
set_option maxHeartbeats 4000000 in
set_option maxRecDepth 100000 in
theorem c_X6_times (K : hKv) (M : hM) (a b : Nat) (ha : a ≤ LG) (hb : b ≤ LG) : hC K Y_X6_times rm_X6_times [.long (lN a), .long (lN b)] M (hPl fun r M1 => r = lN (tmn a b) ∧ M1 = M) := by
  refine hC.of [some (.long (lN a)), none, some (.long (lN b)), none] (by decide) (Nat.le_of_ble_eq_true rfl) rfl rfl ?_
  intro E C Rt
  have C : hCx E K cX6_times 4 RX6 "times" rm_X6_times := C
  unfold LG at ha hb
  refine x_lload_0 1 C dX6_times_0 rfl ?_
  refine x_lconst (v := 0) 2 C dX6_times_1 rfl rfl ?_
  refine x_lc_eq 6 22 C dX6_times_2 dX6_times_3 rfl rfl (fun c_2 => ?_) (fun c_2 => ?_)
  · refine x_lload_0 23 C dX6_times_22 rfl ?_
    refine x_lload_2 24 C dX6_times_23 rfl ?_
    refine x_lmul 25 C dX6_times_24 rfl ?_
    refine x_lreturn C Rt dX6_times_25 ⟨Nat.le_of_ble_eq_true rfl, Nat.le_of_ble_eq_true rfl⟩ ?_
    have h0 : a = 0 := (lN_eq' (b := 0) (by omega) (by decide)).mp c_2
    exact ⟨_, rfl, by rw [lN_mul, tmn, if_neg (fun z => z.1 h0)], rfl⟩
  · have ha0 : a ≠ 0 := fun z => c_2 (by rw [z]; rfl)
    refine x_lload_2 7 C dX6_times_6 rfl ?_
    refine x_ldc2 (v := 1000000000000) 10 C dX6_times_7 rfl wq_X6_51 ?_
    refine x_lload_0 11 C dX6_times_10 rfl ?_
    refine x_ldiv 12 C dX6_times_11 rfl (fun z => ha0 ((lN_eq' (b := 0) (by omega) (by decide)).mp z)) ?_
    refine x_topl (v' := lN (LG / a)) (pk_lDiv (a := LG) (by decide) (Nat.pos_of_ne_zero ha0) (by omega)) ?_
    refine x_lc_le 16 22 C dX6_times_12 dX6_times_13 rfl rfl (fun c_12 => ?_) (fun c_12 => ?_)
    · refine x_lload_0 23 C dX6_times_22 rfl ?_
      refine x_lload_2 24 C dX6_times_23 rfl ?_
      refine x_lmul 25 C dX6_times_24 rfl ?_
      refine x_lreturn C Rt dX6_times_25 ⟨Nat.le_of_ble_eq_true rfl, Nat.le_of_ble_eq_true rfl⟩ ?_
      exact ⟨_, rfl, by rw [lN_mul, tmn, if_neg (fun z => absurd ((lN_le' (by omega) (Nat.lt_of_le_of_lt (Nat.div_le_self _ _) (by decide))).mp c_12) (Nat.not_le.mpr z.2))], rfl⟩
    · refine x_ldc2 (v := 1000000000001) 19 C dX6_times_16 rfl wq_X6_138 ?_
      refine x_goto 25 C dX6_times_19 rfl ?_
      refine x_lreturn C Rt dX6_times_25 ⟨Nat.le_of_ble_eq_true rfl, Nat.le_of_ble_eq_true rfl⟩ ?_
      exact ⟨_, rfl, by rw [tmn, if_pos ⟨ha0, Nat.not_le.mp fun z => c_12 ((lN_le' (by omega) (Nat.lt_of_le_of_lt (Nat.div_le_self _ _) (by decide))).mpr z)⟩]; rfl, rfl⟩
set_option maxHeartbeats 4000000 in
set_option maxRecDepth 100000 in
theorem c_X6_rounded (K : hKv) (M : hM) {A : Nat → Nat} {z : Nat → Int32} {F : Nat → Nat → Int32} {G : Nat → Nat → Int64} (W : mW K A z F G M) (N k ρ : Nat) (hk : k = 2 ∨ k = 3) (hN : N < 2 ^ 60) (hρ : ρ ≤ 2) (h0 : F 1 0 = nI ρ) : hC K Y_X6_rounded rm_X6_rounded [.ref (A 0), .long (lN N), .int (nI k)] M (hPl fun r M1 => r = lN (rr k N ρ) ∧ M1 = M) := by
  refine hC.of [some (.ref (A 0)), some (.long (lN N)), none, some (.int (nI k)), none, none, none, none, none, none] (by decide) (Nat.le_of_ble_eq_true rfl) rfl rfl ?_
  intro E C Rt
  have C : hCx E K cX6_rounded 10 RX6 "rounded" rm_X6_rounded := C
  have hs := (sq_spec (k := k) hN).1
  have hlt := sq_lt (k := k) hN
  have e2 : nI ρ = 2 ↔ ρ = 2 := nI_eq (b := 2) (by omega) (by decide)
  have e1 : nI ρ = 1 ↔ ρ = 1 := nI_eq (b := 1) (by omega) (by decide)
  have m111 : ∀ b : Bool, rr k N ρ = cond b (sq k N + 1) (sq k N) → hX E 0 0 111 [some (.ref (A 0)), some (.long (lN N)), none, some (.int (nI k)), some (.long (lN (sq k N))), none, some (.long (lN (N - pw k (sq k N)))), none, some (.int (hB (near k N))), none] [.int (hB b)] M := by
    intro b hb
    refine x_istore_9 113 C dX6_rounded_111 rfl rfl ?_
    refine x_iload_9 115 C dX6_rounded_113 rfl ?_
    refine x_if_eq 118 125 C dX6_rounded_115 rfl rfl (fun c_115 => ?_) (fun c_115 => ?_)
    · refine x_lload_4 127 C dX6_rounded_125 rfl ?_
      refine x_lreturn C Rt dX6_rounded_127 ⟨Nat.le_of_ble_eq_true rfl, Nat.le_of_ble_eq_true rfl⟩ ?_
      exact ⟨_, rfl, by rw [hb, hB_0.mp c_115]; rfl, rfl⟩
    · refine x_lload_4 120 C dX6_rounded_118 rfl ?_
      refine x_lconst (v := 1) 121 C dX6_rounded_120 rfl rfl ?_
      refine x_ladd 122 C dX6_rounded_121 rfl ?_
      refine x_topl (v' := lN (sq k N + 1)) (lN_1 _) ?_
      refine x_goto 127 C dX6_rounded_122 rfl ?_
      refine x_lreturn C Rt dX6_rounded_127 ⟨Nat.le_of_ble_eq_true rfl, Nat.le_of_ble_eq_true rfl⟩ ?_
      exact ⟨_, rfl, by rw [hb, hB_n0.mp c_115]; rfl, rfl⟩
  have m64 : hX E 0 0 64 [some (.ref (A 0)), some (.long (lN N)), none, some (.int (nI k)), some (.long (lN (sq k N))), none, some (.long (lN (N - pw k (sq k N)))), none, none, none] [.int (hB (near k N))] M := by
    refine x_istore_8 66 C dX6_rounded_64 rfl rfl ?_
    refine x_aload_0 67 C dX6_rounded_66 rfl ?_
    refine mOg_now 70 C wf_X6_7 W.obj dX6_rounded_67 rfl ?_
    refine x_iconst (v := 0) 71 C dX6_rounded_70 rfl rfl ?_
    refine x_iald 72 (0) C W.now (rfl) (by decide) (by decide) dX6_rounded_71 rfl ?_
    refine x_topi h0 ?_
    refine x_iconst (v := 2) 73 C dX6_rounded_72 rfl rfl ?_
    refine x_icmp_ne 76 91 C dX6_rounded_73 rfl rfl (fun c_73 => ?_) (fun c_73 => ?_)
    · refine x_aload_0 92 C dX6_rounded_91 rfl ?_
      refine mOg_now 95 C wf_X6_7 W.obj dX6_rounded_92 rfl ?_
      refine x_iconst (v := 0) 96 C dX6_rounded_95 rfl rfl ?_
      refine x_iald 97 (0) C W.now (rfl) (by decide) (by decide) dX6_rounded_96 rfl ?_
      refine x_topi h0 ?_
      refine x_iconst (v := 1) 98 C dX6_rounded_97 rfl rfl ?_
      refine x_icmp_ne 101 110 C dX6_rounded_98 rfl rfl (fun c_98 => ?_) (fun c_98 => ?_)
      · refine x_iconst (v := 0) 111 C dX6_rounded_110 rfl rfl ?_
        exact m111 false (rr_0 (fun q => c_98 (e1.mpr q)) (fun q => c_73 (e2.mpr q)))
      · refine x_iload_8 103 C dX6_rounded_101 rfl ?_
        refine x_if_eq 106 110 C dX6_rounded_103 rfl rfl (fun c_103 => ?_) (fun c_103 => ?_)
        · refine x_iconst (v := 0) 111 C dX6_rounded_110 rfl rfl ?_
          exact m111 false (rr_1f (e1.mp c_98) (hB_0.mp c_103))
        · refine x_iconst (v := 1) 107 C dX6_rounded_106 rfl rfl ?_
          refine x_goto 111 C dX6_rounded_107 rfl ?_
          exact m111 true (rr_1t (e1.mp c_98) (hB_n0.mp c_103))
    · refine x_lload_6 78 C dX6_rounded_76 rfl ?_
      refine x_lconst (v := 0) 79 C dX6_rounded_78 rfl rfl ?_
      refine x_lc_eq 83 87 C dX6_rounded_79 dX6_rounded_80 rfl rfl (fun c_79 => ?_) (fun c_79 => ?_)
      · refine x_iconst (v := 0) 88 C dX6_rounded_87 rfl rfl ?_
        refine x_goto 111 C dX6_rounded_88 rfl ?_
        have h3 : ¬ pw k (sq k N) < N := fun q => absurd ((lN_eq' (b := 0) (by omega) (by decide)).mp c_79) (by omega)
        exact m111 false (rr_2f (e2.mp c_73) h3)
      · refine x_iconst (v := 1) 84 C dX6_rounded_83 rfl rfl ?_
        refine x_goto 111 C dX6_rounded_84 rfl ?_
        have h3 : pw k (sq k N) < N := by
          rcases Nat.lt_or_ge (pw k (sq k N)) N with q | q
          · exact q
          · exact absurd ((lN_eq' (b := 0) (by omega) (by decide)).mpr (by omega)) c_79
        exact m111 true (rr_2t (e2.mp c_73) h3)
  refine x_lload_1 1 C dX6_rounded_0 rfl ?_
  refine x_iload_3 2 C dX6_rounded_1 rfl ?_
  refine x_callS 5 C (c_X6_floorRoot K _ N k hk hN) hy_X6_floorRoot ws_X6_floorRoot lk_X6_133 dX6_rounded_2 rfl ⟨Nat.le_of_ble_eq_true rfl, Nat.le_of_ble_eq_true rfl⟩ ⟨Nat.le_of_ble_eq_true rfl, Nat.le_of_ble_eq_true rfl⟩ (Nat.le_of_ble_eq_true rfl) rfl (k_0 rfl rfl (k_lp ?_))
  refine x_lstore_4 7 C dX6_rounded_5 rfl rfl ?_
  refine x_lload_1 8 C dX6_rounded_7 rfl ?_
  refine x_lload_4 10 C dX6_rounded_8 rfl ?_
  refine x_iload_3 11 C dX6_rounded_10 rfl ?_
  refine x_callS 14 C (c_X6_power K _ (sq k N) k hk) hy_X6_power ws_X6_power lk_X6_126 dX6_rounded_11 rfl ⟨Nat.le_of_ble_eq_true rfl, Nat.le_of_ble_eq_true rfl⟩ ⟨Nat.le_of_ble_eq_true rfl, Nat.le_of_ble_eq_true rfl⟩ (Nat.le_of_ble_eq_true rfl) rfl (k_0 rfl rfl (k_lp ?_))
  refine x_lsub 15 C dX6_rounded_14 rfl ?_
  refine x_topl (v' := lN (N - pw k (sq k N))) (lN_sub hs) ?_
  refine x_lstore_6 17 C dX6_rounded_15 rfl rfl ?_
  refine x_iload_3 18 C dX6_rounded_17 rfl ?_
  refine x_iconst (v := 2) 19 C dX6_rounded_18 rfl rfl ?_
  refine x_icmp_ne 22 38 C dX6_rounded_19 rfl rfl (fun c_19 => ?_) (fun c_19 => ?_)
  · have h3 : k = 3 := Classical.not_not.mp fun q => c_19 ((c_kind2 hk).mpr q)
    refine x_ldc2 (v := 8) 41 C dX6_rounded_38 rfl wq_X6_136 ?_
    refine x_lload_1 42 C dX6_rounded_41 rfl ?_
    refine x_lmul 43 C dX6_rounded_42 rfl ?_
    refine x_topl (v' := lN (8 * N)) (lN_mul 8 N) ?_
    refine x_ldc2 (v := 2) 46 C dX6_rounded_43 rfl wq_X6_124 ?_
    refine x_lload_4 48 C dX6_rounded_46 rfl ?_
    refine x_lmul 49 C dX6_rounded_48 rfl ?_
    refine x_topl (v' := lN (2 * sq k N)) (lN_mul 2 _) ?_
    refine x_lconst (v := 1) 50 C dX6_rounded_49 rfl rfl ?_
    refine x_ladd 51 C dX6_rounded_50 rfl ?_
    refine x_topl (v' := lN (2 * sq k N + 1)) (lN_1 _) ?_
    refine x_iconst (v := 3) 52 C dX6_rounded_51 rfl rfl ?_
    refine x_callS 55 C (c_X6_power K _ (2 * sq k N + 1) 3 (Or.inr rfl)) hy_X6_power ws_X6_power lk_X6_126 dX6_rounded_52 rfl ⟨Nat.le_of_ble_eq_true rfl, Nat.le_of_ble_eq_true rfl⟩ ⟨Nat.le_of_ble_eq_true rfl, Nat.le_of_ble_eq_true rfl⟩ (Nat.le_of_ble_eq_true rfl) rfl (k_0 rfl rfl (k_lp ?_))
    refine x_lc_le 59 63 C dX6_rounded_55 dX6_rounded_56 rfl rfl (fun c_55 => ?_) (fun c_55 => ?_)
    · refine x_iconst (v := 0) 64 C dX6_rounded_63 rfl rfl ?_
      have hb := pw3_big h3 hN
      have h4 : ¬ pw 3 (2 * sq k N + 1) < 8 * N := fun q => absurd ((lN_le' (by omega) (by omega)).mp c_55) (by omega)
      exact x_topi (hB_f (near_3f h3 h4)).symm m64
    · refine x_iconst (v := 1) 60 C dX6_rounded_59 rfl rfl ?_
      refine x_goto 64 C dX6_rounded_60 rfl ?_
      have hb := pw3_big h3 hN
      have h4 : pw 3 (2 * sq k N + 1) < 8 * N := by
        rcases Nat.lt_or_ge (pw 3 (2 * sq k N + 1)) (8 * N) with q | q
        · exact q
        · exact absurd ((lN_le' (by omega) (by omega)).mpr q) c_55
      exact x_topi (hB_t (near_3t h3 h4)).symm m64
  · have h3 : ¬ k = 3 := (c_kind2 hk).mp c_19
    refine x_lload_6 24 C dX6_rounded_22 rfl ?_
    refine x_lload_4 26 C dX6_rounded_24 rfl ?_
    refine x_lc_le 30 34 C dX6_rounded_26 dX6_rounded_27 rfl rfl (fun c_26 => ?_) (fun c_26 => ?_)
    · refine x_iconst (v := 0) 35 C dX6_rounded_34 rfl rfl ?_
      refine x_goto 64 C dX6_rounded_35 rfl ?_
      have h4 : ¬ sq k N < N - pw k (sq k N) := fun q => absurd ((lN_le' (by omega) (by omega)).mp c_26) (by omega)
      exact x_topi (hB_f (near_2f h3 h4)).symm m64
    · refine x_iconst (v := 1) 31 C dX6_rounded_30 rfl rfl ?_
      refine x_goto 64 C dX6_rounded_31 rfl ?_
      have h4 : sq k N < N - pw k (sq k N) := by
        rcases Nat.lt_or_ge (sq k N) (N - pw k (sq k N)) with q | q
        · exact q
        · exact absurd ((lN_le' (by omega) (by omega)).mpr q) c_26
      exact x_topi (hB_t (near_2t h3 h4)).symm m64
