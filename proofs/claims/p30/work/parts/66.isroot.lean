/-! a root, its remainder and its bits -/
theorem shl_2 : ∀ e : Fin 62, (1 : Int64) <<< ((nI e.val).toInt64 &&& 63) = lN (2 ^ e.val) := by decide +kernel
/-- behind j bits the root so far is r -/
def bI (k N j r : Nat) : Prop := j ≤ nb k N ∧ r + 2 ^ (nb k N - j) ≤ 2 ^ nb k N ∧ (∀ (w : Nat) (s : Int), 0 ≤ s → bh k N w (nb k N) 0 ((j : Int) + s) = bh k N w (nb k N - j) r s) ∧ sq k N = rt k N (nb k N - j) r ∧ (j = 0 → r = 0) ∧ pw k r ≤ N
def bnx (k N j r : Nat) : Nat := if pw k (r + 2 ^ (nb k N - 1 - j)) ≤ N then r + 2 ^ (nb k N - 1 - j) else r
theorem bI_0 {k N : Nat} : bI k N 0 0 := ⟨Nat.zero_le _, by rw [Nat.zero_add]; exact Nat.le_refl _, fun w s _ => by rw [show ((0 : Nat) : Int) + s = s by omega]; rfl, rfl, fun _ => rfl, by rw [pw_00]; exact Nat.zero_le _⟩
theorem bI_s {k N j r : Nat} (h : bI k N j r) (hj : j < nb k N) : bI k N (j + 1) (bnx k N j r) := by
  obtain ⟨h1, h2, h3, h4, h5, h6⟩ := h
  have e : nb k N - j = (nb k N - 1 - j) + 1 := by omega
  have e2 : nb k N - (j + 1) = nb k N - 1 - j := by omega
  rw [e] at h2 h3 h4
  unfold bI
  rw [e2]
  refine ⟨hj, ?_, fun w s hs => ?_, by rw [h4]; rfl, fun q => absurd q (by omega), ?_⟩
  · rw [Nat.pow_succ] at h2
    unfold bnx
    split <;> omega
  · have := h3 w (s + 1) (by omega)
    rw [show ((j + 1 : Nat) : Int) + s = (j : Int) + (s + 1) by omega, this]
    show (if s + 1 = 0 then _ else bh k N w (nb k N - 1 - j) (if pw k (r + 2 ^ (nb k N - 1 - j)) ≤ N then r + 2 ^ (nb k N - 1 - j) else r) (s + 1 - 1)) = _
    rw [if_neg (by omega), show s + 1 - 1 = s by omega]
    rfl
  · unfold bnx
    split
    · next q => exact q
    · exact h6
theorem bI_v {k N j r : Nat} (h : bI k N j r) (hj : j < nb k N) (w : Nat) : bh k N w (nb k N) 0 (j : Int) = some (bsel w (2 ^ (nb k N - 1 - j)) (if pw k (r + 2 ^ (nb k N - 1 - j)) ≤ N then 1 else 0) (bnx k N j r) (N - pw k (bnx k N j r))) := by
  obtain ⟨h1, h2, h3, h4, h5, h6⟩ := h
  have e : nb k N - j = (nb k N - 1 - j) + 1 := by omega
  have := h3 w 0 (Int.le_refl _)
  rw [Int.add_zero, e] at this
  rw [this]
  rfl
theorem bI_e {k N r : Nat} (h : bI k N (nb k N) r) (w : Nat) : sq k N = r ∧ bh k N w (nb k N) 0 (nb k N : Int) = none := by
  obtain ⟨h1, h2, h3, h4, h5, h6⟩ := h
  rw [Nat.sub_self] at h3 h4
  have := h3 w 0 (Int.le_refl _)
  rw [Int.add_zero] at this
  exact ⟨h4, by rw [this]; rfl⟩
theorem nb_first {k N : Nat} (hN : N < 2 ^ 60) (h : 0 < nb k N) : pw k (0 + 2 ^ (nb k N - 1 - 0)) ≤ N := by
  unfold nb at h ⊢
  by_cases h0 : N = 0
  · rw [if_pos h0] at h; omega
  · rw [if_neg h0, Nat.zero_add, Nat.sub_zero, Nat.add_sub_cancel]
    exact (fe_top (k := k) (by omega) hN).1
theorem nb_last {k N : Nat} (hN : N < 2 ^ 60) : N < pw k (2 ^ nb k N) := by
  unfold nb
  by_cases h0 : N = 0
  · rw [if_pos h0, h0, Nat.pow_zero, pw_one]; decide
  · rw [if_neg h0, ← two_pow_succ]
    exact (fe_top (k := k) (by omega) hN).2.2
theorem sb_w {k N j r w : Nat} (hN : N ≤ LG) (hk : k = 2 ∨ k = 3) (h : bI k N j r) (hj : j < nb k N) (hw : w ≤ 3) : sp_bit (lN N) (nI k) (nI j) (nI w) = lN (bsel w (2 ^ (nb k N - 1 - j)) (if pw k (r + 2 ^ (nb k N - 1 - j)) ≤ N then 1 else 0) (bnx k N j r) (N - pw k (bnx k N j r))) := by
  have h30 := nb_le (k := k) (LG60 hN)
  have e : (nI j).toInt = (j : Int) := nI_toI (by omega)
  rw [sp_bit_ok hN hk hw (by rw [e]; omega), e, if_neg (by omega), bI_v h hj w]
  rfl
theorem sb_e {k N r : Nat} (hN : N ≤ LG) (hk : k = 2 ∨ k = 3) (h : bI k N (nb k N) r) : sp_bit (lN N) (nI k) (nI (nb k N)) 0 = -6 := by
  have h30 := nb_le (k := k) (LG60 hN)
  have e : (nI (nb k N)).toInt = (nb k N : Int) := nI_toI (by omega)
  have := sp_bit_ok (w := 0) hN hk (by decide) (show -1 ≤ (nI (nb k N)).toInt by rw [e]; omega)
  rw [e, if_neg (by omega), (bI_e h 0).2] at this
  exact this
theorem sb_n {k N : Nat} (hN : N ≤ LG) (hk : k = 2 ∨ k = 3) : sp_bit (lN N) (nI k) (-1) 0 = lN (nb k N) := by
  have := sp_bit_ok (w := 0) (step := -1) hN hk (by decide) (by decide)
  rw [if_pos (by decide)] at this
  exact this
set_option maxHeartbeats 4000000 in
set_option maxRecDepth 100000 in
theorem c_L_isRoot (K : hKv) (M : hM) {A : Nat → Nat} {σ : hSt} (X : cX K A σ M) (ho : okS σ) (N k : Nat) (hk : k = 2 ∨ k = 3) (hN : N ≤ LG) : hC K Y_L_isRoot rm_L_isRoot [.ref (A 36), .long (lN N), .int (nI k)] M (hPi fun r M' => r = 1 ∧ M' = M) := by
  refine hC.of [some (.ref (A 36)), some (.long (lN N)), none, some (.int (nI k)), none, none, none, none, none, none, none, none, none] (by decide) (Nat.le_of_ble_eq_true rfl) rfl rfl ?_
  intro E C Rt
  have C : hCx E K cL_isRoot 13 RL "isRoot" rm_L_isRoot := C
  obtain ⟨z_o, hO⟩ := X.obj
  have hρ : σ.1.1 ≤ 2 := ho.1.1
  have hN60 := LG60 hN
  have h30 := nb_le (k := k) hN60
  have hrr := rr_le (k := k) (N := N) (ρ := σ.1.1)
  have hsq := sq_lt (k := k) hN60
  have hs := (sq_spec (k := k) hN60).1
  have m212 : ∀ (r : Nat) (m10 m12 : Option Value), bI k N (nb k N) r → hX E 0 0 212 [some (.ref (A 36)), some (.long (lN N)), none, some (.int (nI k)), some (.long (lN (sq k N))), none, some (.long (lN r)), none, some (.int (nI (nb k N))), some (.int (nI (nb k N))), m10, none, m12] [] M := by
    intro r m10 m12 hI
    refine x_lload_6 214 C dL_isRoot_212 rfl ?_
    refine x_lload_4 216 C dL_isRoot_214 rfl ?_
    refine x_lc_ne 220 253 C dL_isRoot_216 dL_isRoot_217 rfl rfl (fun z => absurd ((by rw [(bI_e hI 0).1])) z) (fun _ => ?_)
    refine x_aload_0 221 C dL_isRoot_220 rfl ?_
    refine x_lload_1 222 C dL_isRoot_221 rfl ?_
    refine x_iload_3 223 C dL_isRoot_222 rfl ?_
    refine x_iload_8 225 C dL_isRoot_223 rfl ?_
    refine x_iconst (v := 0) 226 C dL_isRoot_225 rfl rfl ?_
    refine x_callV 229 C (c_X5_bit K _ (A 36) (lN N) (nI k) (nI (nb k N)) 0) hO wcl_X5 hy_X5_bit wv_X5_bit we_X5_bit lk_L_138 dL_isRoot_226 rfl ⟨Nat.le_of_ble_eq_true rfl, Nat.le_of_ble_eq_true rfl⟩ ⟨Nat.le_of_ble_eq_true rfl, Nat.le_of_ble_eq_true rfl⟩ (Nat.le_of_ble_eq_true rfl) rfl (k_0 rfl rfl (k_lp ?_))
    refine x_topl (v' := -6) (sb_e hN hk hI) ?_
    refine x_ldc2 (v := (-6)) 232 C dL_isRoot_229 rfl wq_L_142 ?_
    refine x_lc_ne 236 253 C dL_isRoot_232 dL_isRoot_233 rfl rfl (fun z => absurd (rfl) z) (fun _ => ?_)
    refine x_lconst (v := 1) 237 C dL_isRoot_236 rfl rfl ?_
    refine x_iload_8 239 C dL_isRoot_237 rfl ?_
    refine x_lshl 240 C dL_isRoot_239 rfl ?_
    refine x_topl (v' := lN (2 ^ nb k N)) (shl_2 ⟨nb k N, by omega⟩) ?_
    refine x_iload_3 241 C dL_isRoot_240 rfl ?_
    refine x_callS 244 C (c_L_power K _ (2 ^ nb k N) k hk) hy_L_power ws_L_power lk_L_14 dL_isRoot_241 rfl ⟨Nat.le_of_ble_eq_true rfl, Nat.le_of_ble_eq_true rfl⟩ ⟨Nat.le_of_ble_eq_true rfl, Nat.le_of_ble_eq_true rfl⟩ (Nat.le_of_ble_eq_true rfl) rfl (k_0 rfl rfl (k_lp ?_))
    refine x_lload_1 245 C dL_isRoot_244 rfl ?_
    refine x_lc_le 249 253 C dL_isRoot_245 dL_isRoot_246 rfl rfl (fun z => absurd z ((fun z => absurd ((lN_le' (nb_bd hN60) (by omega)).mp z) (Nat.not_le.mpr (nb_last hN60))))) (fun _ => ?_)
    refine x_iconst (v := 1) 250 C dL_isRoot_249 rfl rfl ?_
    refine x_goto 254 C dL_isRoot_250 rfl ?_
    refine x_ireturn C Rt dL_isRoot_254 rfl ⟨Nat.le_of_ble_eq_true rfl, Nat.le_of_ble_eq_true rfl⟩ ?_
    exact ⟨_, rfl, rfl, rfl⟩
  have lp : ∀ (d j r : Nat) (m10 m12 : Option Value), j + d = nb k N → bI k N j r → hX E 0 0 65 [some (.ref (A 36)), some (.long (lN N)), none, some (.int (nI k)), some (.long (lN (sq k N))), none, some (.long (lN r)), none, some (.int (nI (nb k N))), some (.int (nI j)), m10, none, m12] [] M := by
    intro d
    induction d with
    | zero =>
      intro j r m10 m12 hjd hI
      have hj : j = nb k N := by omega
      subst hj
      refine x_iload_9 67 C dL_isRoot_65 rfl ?_
      refine x_iload_8 69 C dL_isRoot_67 rfl ?_
      refine x_icmp_ge 72 212 C dL_isRoot_69 rfl rfl (fun _ => ?_) (fun z => absurd ((nI_le (Nat.le_refl _) (by omega))) z)
      exact m212 r _ _ hI
    | succ d ih =>
      intro j r m10 m12 hjd hI
      have hj : j < nb k N := by omega
      have hI2 := bI_s hI hj
      obtain ⟨-, h2, -, -, h5, h6⟩ := id hI
      have hpb : pw k (r + 2 ^ (nb k N - 1 - j)) < 2 ^ 63 := by
        rw [show nb k N - j = (nb k N - 1 - j) + 1 by omega, Nat.pow_succ] at h2
        exact Nat.lt_of_le_of_lt (pw_mono (by omega)) (nb_bd hN60)
      by_cases hc : pw k (r + 2 ^ (nb k N - 1 - j)) ≤ N
      · have hnx : bnx k N j r = r + 2 ^ (nb k N - 1 - j) := if_pos hc
        rw [hnx] at hI2
        refine x_iload_9 67 C dL_isRoot_65 rfl ?_
        refine x_iload_8 69 C dL_isRoot_67 rfl ?_
        refine x_icmp_ge 72 212 C dL_isRoot_69 rfl rfl (fun z => absurd z ((Int32.not_le.mpr ((nI_ltI (by omega) (by omega)).mpr hj)))) (fun _ => ?_)
        refine x_lconst (v := 1) 73 C dL_isRoot_72 rfl rfl ?_
        refine x_iload_8 75 C dL_isRoot_73 rfl ?_
        refine x_iconst (v := 1) 76 C dL_isRoot_75 rfl rfl ?_
        refine x_isub 77 C dL_isRoot_76 rfl ?_
        refine x_topi (v' := nI (nb k N - 1)) (pk_sub (b := 1) (by omega)) ?_
        refine x_iload_9 79 C dL_isRoot_77 rfl ?_
        refine x_isub 80 C dL_isRoot_79 rfl ?_
        refine x_topi (v' := nI (nb k N - 1 - j)) (pk_sub (by omega)) ?_
        refine x_lshl 81 C dL_isRoot_80 rfl ?_
        refine x_topl (v' := lN (2 ^ (nb k N - 1 - j))) (shl_2 ⟨nb k N - 1 - j, by omega⟩) ?_
        refine x_lstore_10 83 C dL_isRoot_81 rfl rfl ?_
        refine x_lload_6 85 C dL_isRoot_83 rfl ?_
        refine x_lload_10 87 C dL_isRoot_85 rfl ?_
        refine x_ladd 88 C dL_isRoot_87 rfl ?_
        refine x_topl (v' := lN (r + 2 ^ (nb k N - 1 - j))) (lN_add _ _) ?_
        refine x_iload_3 89 C dL_isRoot_88 rfl ?_
        refine x_callS 92 C (c_L_power K _ (r + 2 ^ (nb k N - 1 - j)) k hk) hy_L_power ws_L_power lk_L_14 dL_isRoot_89 rfl ⟨Nat.le_of_ble_eq_true rfl, Nat.le_of_ble_eq_true rfl⟩ ⟨Nat.le_of_ble_eq_true rfl, Nat.le_of_ble_eq_true rfl⟩ (Nat.le_of_ble_eq_true rfl) rfl (k_0 rfl rfl (k_lp ?_))
        refine x_lload_1 93 C dL_isRoot_92 rfl ?_
        refine x_lc_gt 97 101 C dL_isRoot_93 dL_isRoot_94 rfl rfl (fun z => absurd z ((fun z => absurd ((lN_lt' (by omega) hpb).mp z) (Nat.not_lt.mpr hc)))) (fun _ => ?_)
        refine x_iconst (v := 1) 98 C dL_isRoot_97 rfl rfl ?_
        refine x_goto 102 C dL_isRoot_98 rfl ?_
        refine x_istore_12 104 C dL_isRoot_102 rfl rfl ?_
        refine x_lload_6 106 C dL_isRoot_104 rfl ?_
        refine x_iload_12 108 C dL_isRoot_106 rfl ?_
        refine x_if_eq 111 116 C dL_isRoot_108 rfl rfl (fun z => absurd z ((by decide))) (fun _ => ?_)
        refine x_lload_10 113 C dL_isRoot_111 rfl ?_
        refine x_goto 117 C dL_isRoot_113 rfl ?_
        refine x_ladd 118 C dL_isRoot_117 rfl ?_
        refine x_topl (v' := lN (r + 2 ^ (nb k N - 1 - j))) (lN_add _ _) ?_
        refine x_lstore_6 120 C dL_isRoot_118 rfl rfl ?_
        refine x_aload_0 121 C dL_isRoot_120 rfl ?_
        refine x_lload_1 122 C dL_isRoot_121 rfl ?_
        refine x_iload_3 123 C dL_isRoot_122 rfl ?_
        refine x_iload_9 125 C dL_isRoot_123 rfl ?_
        refine x_iconst (v := 0) 126 C dL_isRoot_125 rfl rfl ?_
        refine x_callV 129 C (c_X5_bit K _ (A 36) (lN N) (nI k) (nI j) 0) hO wcl_X5 hy_X5_bit wv_X5_bit we_X5_bit lk_L_138 dL_isRoot_126 rfl ⟨Nat.le_of_ble_eq_true rfl, Nat.le_of_ble_eq_true rfl⟩ ⟨Nat.le_of_ble_eq_true rfl, Nat.le_of_ble_eq_true rfl⟩ (Nat.le_of_ble_eq_true rfl) rfl (k_0 rfl rfl (k_lp ?_))
        refine x_topl (v' := lN (2 ^ (nb k N - 1 - j))) ((sb_w (w := 0) hN hk hI hj (by decide)).trans rfl) ?_
        refine x_lload_10 131 C dL_isRoot_129 rfl ?_
        refine x_lc_ne 135 204 C dL_isRoot_131 dL_isRoot_132 rfl rfl (fun z => absurd (rfl) z) (fun _ => ?_)
        refine x_aload_0 136 C dL_isRoot_135 rfl ?_
        refine x_lload_1 137 C dL_isRoot_136 rfl ?_
        refine x_iload_3 138 C dL_isRoot_137 rfl ?_
        refine x_iload_9 140 C dL_isRoot_138 rfl ?_
        refine x_iconst (v := 1) 141 C dL_isRoot_140 rfl rfl ?_
        refine x_callV 144 C (c_X5_bit K _ (A 36) (lN N) (nI k) (nI j) 1) hO wcl_X5 hy_X5_bit wv_X5_bit we_X5_bit lk_L_138 dL_isRoot_141 rfl ⟨Nat.le_of_ble_eq_true rfl, Nat.le_of_ble_eq_true rfl⟩ ⟨Nat.le_of_ble_eq_true rfl, Nat.le_of_ble_eq_true rfl⟩ (Nat.le_of_ble_eq_true rfl) rfl (k_0 rfl rfl (k_lp ?_))
        refine x_topl (v' := lN 1) ((sb_w (w := 1) hN hk hI hj (by decide)).trans (by rw [if_pos hc]; rfl)) ?_
        refine x_iload_12 146 C dL_isRoot_144 rfl ?_
        refine x_if_eq 149 153 C dL_isRoot_146 rfl rfl (fun z => absurd z ((by decide))) (fun _ => ?_)
        refine x_lconst (v := 1) 150 C dL_isRoot_149 rfl rfl ?_
        refine x_goto 154 C dL_isRoot_150 rfl ?_
        refine x_lc_ne 158 204 C dL_isRoot_154 dL_isRoot_155 rfl rfl (fun z => absurd (rfl) z) (fun _ => ?_)
        refine x_aload_0 159 C dL_isRoot_158 rfl ?_
        refine x_lload_1 160 C dL_isRoot_159 rfl ?_
        refine x_iload_3 161 C dL_isRoot_160 rfl ?_
        refine x_iload_9 163 C dL_isRoot_161 rfl ?_
        refine x_iconst (v := 2) 164 C dL_isRoot_163 rfl rfl ?_
        refine x_callV 167 C (c_X5_bit K _ (A 36) (lN N) (nI k) (nI j) 2) hO wcl_X5 hy_X5_bit wv_X5_bit we_X5_bit lk_L_138 dL_isRoot_164 rfl ⟨Nat.le_of_ble_eq_true rfl, Nat.le_of_ble_eq_true rfl⟩ ⟨Nat.le_of_ble_eq_true rfl, Nat.le_of_ble_eq_true rfl⟩ (Nat.le_of_ble_eq_true rfl) rfl (k_0 rfl rfl (k_lp ?_))
        refine x_topl (v' := lN (r + 2 ^ (nb k N - 1 - j))) ((sb_w (w := 2) hN hk hI hj (by decide)).trans (by rw [hnx]; rfl)) ?_
        refine x_lload_6 169 C dL_isRoot_167 rfl ?_
        refine x_lc_ne 173 204 C dL_isRoot_169 dL_isRoot_170 rfl rfl (fun z => absurd (rfl) z) (fun _ => ?_)
        refine x_aload_0 174 C dL_isRoot_173 rfl ?_
        refine x_lload_1 175 C dL_isRoot_174 rfl ?_
        refine x_iload_3 176 C dL_isRoot_175 rfl ?_
        refine x_iload_9 178 C dL_isRoot_176 rfl ?_
        refine x_iconst (v := 3) 179 C dL_isRoot_178 rfl rfl ?_
        refine x_callV 182 C (c_X5_bit K _ (A 36) (lN N) (nI k) (nI j) 3) hO wcl_X5 hy_X5_bit wv_X5_bit we_X5_bit lk_L_138 dL_isRoot_179 rfl ⟨Nat.le_of_ble_eq_true rfl, Nat.le_of_ble_eq_true rfl⟩ ⟨Nat.le_of_ble_eq_true rfl, Nat.le_of_ble_eq_true rfl⟩ (Nat.le_of_ble_eq_true rfl) rfl (k_0 rfl rfl (k_lp ?_))
        refine x_topl (v' := lN (N - pw k (r + 2 ^ (nb k N - 1 - j)))) ((sb_w (w := 3) hN hk hI hj (by decide)).trans (by rw [hnx]; rfl)) ?_
        refine x_lload_1 183 C dL_isRoot_182 rfl ?_
        refine x_lload_6 185 C dL_isRoot_183 rfl ?_
        refine x_iload_3 186 C dL_isRoot_185 rfl ?_
        refine x_callS 189 C (c_L_power K _ (r + 2 ^ (nb k N - 1 - j)) k hk) hy_L_power ws_L_power lk_L_14 dL_isRoot_186 rfl ⟨Nat.le_of_ble_eq_true rfl, Nat.le_of_ble_eq_true rfl⟩ ⟨Nat.le_of_ble_eq_true rfl, Nat.le_of_ble_eq_true rfl⟩ (Nat.le_of_ble_eq_true rfl) rfl (k_0 rfl rfl (k_lp ?_))
        refine x_lsub 190 C dL_isRoot_189 rfl ?_
        refine x_topl (v' := lN (N - pw k (r + 2 ^ (nb k N - 1 - j)))) (lN_sub (hc)) ?_
        refine x_lc_ne 194 204 C dL_isRoot_190 dL_isRoot_191 rfl rfl (fun z => absurd (rfl) z) (fun _ => ?_)
        refine x_iload_9 196 C dL_isRoot_194 rfl ?_
        refine x_if_ne 199 206 C dL_isRoot_196 rfl rfl (fun c_196 => ?_) (fun c_196 => ?_)
        · refine x_iinc_9 209 C dL_isRoot_206 rfl rfl (nI_inc _) ?_
          refine x_goto 65 C dL_isRoot_209 rfl ?_
          exact ih (j + 1) _ _ _ (by omega) hI2
        · refine x_iload_12 201 C dL_isRoot_199 rfl ?_
          refine x_if_ne 204 206 C dL_isRoot_201 rfl rfl (fun _ => ?_) (fun z => absurd z ((by decide)))
          refine x_iinc_9 209 C dL_isRoot_206 rfl rfl (nI_inc _) ?_
          refine x_goto 65 C dL_isRoot_209 rfl ?_
          exact ih (j + 1) _ _ _ (by omega) hI2
      · have hnx : bnx k N j r = r := if_neg hc
        rw [hnx] at hI2
        refine x_iload_9 67 C dL_isRoot_65 rfl ?_
        refine x_iload_8 69 C dL_isRoot_67 rfl ?_
        refine x_icmp_ge 72 212 C dL_isRoot_69 rfl rfl (fun z => absurd z ((Int32.not_le.mpr ((nI_ltI (by omega) (by omega)).mpr hj)))) (fun _ => ?_)
        refine x_lconst (v := 1) 73 C dL_isRoot_72 rfl rfl ?_
        refine x_iload_8 75 C dL_isRoot_73 rfl ?_
        refine x_iconst (v := 1) 76 C dL_isRoot_75 rfl rfl ?_
        refine x_isub 77 C dL_isRoot_76 rfl ?_
        refine x_topi (v' := nI (nb k N - 1)) (pk_sub (b := 1) (by omega)) ?_
        refine x_iload_9 79 C dL_isRoot_77 rfl ?_
        refine x_isub 80 C dL_isRoot_79 rfl ?_
        refine x_topi (v' := nI (nb k N - 1 - j)) (pk_sub (by omega)) ?_
        refine x_lshl 81 C dL_isRoot_80 rfl ?_
        refine x_topl (v' := lN (2 ^ (nb k N - 1 - j))) (shl_2 ⟨nb k N - 1 - j, by omega⟩) ?_
        refine x_lstore_10 83 C dL_isRoot_81 rfl rfl ?_
        refine x_lload_6 85 C dL_isRoot_83 rfl ?_
        refine x_lload_10 87 C dL_isRoot_85 rfl ?_
        refine x_ladd 88 C dL_isRoot_87 rfl ?_
        refine x_topl (v' := lN (r + 2 ^ (nb k N - 1 - j))) (lN_add _ _) ?_
        refine x_iload_3 89 C dL_isRoot_88 rfl ?_
        refine x_callS 92 C (c_L_power K _ (r + 2 ^ (nb k N - 1 - j)) k hk) hy_L_power ws_L_power lk_L_14 dL_isRoot_89 rfl ⟨Nat.le_of_ble_eq_true rfl, Nat.le_of_ble_eq_true rfl⟩ ⟨Nat.le_of_ble_eq_true rfl, Nat.le_of_ble_eq_true rfl⟩ (Nat.le_of_ble_eq_true rfl) rfl (k_0 rfl rfl (k_lp ?_))
        refine x_lload_1 93 C dL_isRoot_92 rfl ?_
        refine x_lc_gt 97 101 C dL_isRoot_93 dL_isRoot_94 rfl rfl (fun _ => ?_) (fun z => absurd (((lN_lt' (by omega) hpb).mpr (Nat.not_le.mp hc))) z)
        refine x_iconst (v := 0) 102 C dL_isRoot_101 rfl rfl ?_
        refine x_istore_12 104 C dL_isRoot_102 rfl rfl ?_
        refine x_lload_6 106 C dL_isRoot_104 rfl ?_
        refine x_iload_12 108 C dL_isRoot_106 rfl ?_
        refine x_if_eq 111 116 C dL_isRoot_108 rfl rfl (fun _ => ?_) (fun z => absurd (rfl) z)
        refine x_lconst (v := 0) 117 C dL_isRoot_116 rfl rfl ?_
        refine x_ladd 118 C dL_isRoot_117 rfl ?_
        refine x_topl (v' := lN r) (Int64.add_zero _) ?_
        refine x_lstore_6 120 C dL_isRoot_118 rfl rfl ?_
        refine x_aload_0 121 C dL_isRoot_120 rfl ?_
        refine x_lload_1 122 C dL_isRoot_121 rfl ?_
        refine x_iload_3 123 C dL_isRoot_122 rfl ?_
        refine x_iload_9 125 C dL_isRoot_123 rfl ?_
        refine x_iconst (v := 0) 126 C dL_isRoot_125 rfl rfl ?_
        refine x_callV 129 C (c_X5_bit K _ (A 36) (lN N) (nI k) (nI j) 0) hO wcl_X5 hy_X5_bit wv_X5_bit we_X5_bit lk_L_138 dL_isRoot_126 rfl ⟨Nat.le_of_ble_eq_true rfl, Nat.le_of_ble_eq_true rfl⟩ ⟨Nat.le_of_ble_eq_true rfl, Nat.le_of_ble_eq_true rfl⟩ (Nat.le_of_ble_eq_true rfl) rfl (k_0 rfl rfl (k_lp ?_))
        refine x_topl (v' := lN (2 ^ (nb k N - 1 - j))) ((sb_w (w := 0) hN hk hI hj (by decide)).trans rfl) ?_
        refine x_lload_10 131 C dL_isRoot_129 rfl ?_
        refine x_lc_ne 135 204 C dL_isRoot_131 dL_isRoot_132 rfl rfl (fun z => absurd (rfl) z) (fun _ => ?_)
        refine x_aload_0 136 C dL_isRoot_135 rfl ?_
        refine x_lload_1 137 C dL_isRoot_136 rfl ?_
        refine x_iload_3 138 C dL_isRoot_137 rfl ?_
        refine x_iload_9 140 C dL_isRoot_138 rfl ?_
        refine x_iconst (v := 1) 141 C dL_isRoot_140 rfl rfl ?_
        refine x_callV 144 C (c_X5_bit K _ (A 36) (lN N) (nI k) (nI j) 1) hO wcl_X5 hy_X5_bit wv_X5_bit we_X5_bit lk_L_138 dL_isRoot_141 rfl ⟨Nat.le_of_ble_eq_true rfl, Nat.le_of_ble_eq_true rfl⟩ ⟨Nat.le_of_ble_eq_true rfl, Nat.le_of_ble_eq_true rfl⟩ (Nat.le_of_ble_eq_true rfl) rfl (k_0 rfl rfl (k_lp ?_))
        refine x_topl (v' := lN 0) ((sb_w (w := 1) hN hk hI hj (by decide)).trans (by rw [if_neg hc]; rfl)) ?_
        refine x_iload_12 146 C dL_isRoot_144 rfl ?_
        refine x_if_eq 149 153 C dL_isRoot_146 rfl rfl (fun _ => ?_) (fun z => absurd (rfl) z)
        refine x_lconst (v := 0) 154 C dL_isRoot_153 rfl rfl ?_
        refine x_lc_ne 158 204 C dL_isRoot_154 dL_isRoot_155 rfl rfl (fun z => absurd (rfl) z) (fun _ => ?_)
        refine x_aload_0 159 C dL_isRoot_158 rfl ?_
        refine x_lload_1 160 C dL_isRoot_159 rfl ?_
        refine x_iload_3 161 C dL_isRoot_160 rfl ?_
        refine x_iload_9 163 C dL_isRoot_161 rfl ?_
        refine x_iconst (v := 2) 164 C dL_isRoot_163 rfl rfl ?_
        refine x_callV 167 C (c_X5_bit K _ (A 36) (lN N) (nI k) (nI j) 2) hO wcl_X5 hy_X5_bit wv_X5_bit we_X5_bit lk_L_138 dL_isRoot_164 rfl ⟨Nat.le_of_ble_eq_true rfl, Nat.le_of_ble_eq_true rfl⟩ ⟨Nat.le_of_ble_eq_true rfl, Nat.le_of_ble_eq_true rfl⟩ (Nat.le_of_ble_eq_true rfl) rfl (k_0 rfl rfl (k_lp ?_))
        refine x_topl (v' := lN (r)) ((sb_w (w := 2) hN hk hI hj (by decide)).trans (by rw [hnx]; rfl)) ?_
        refine x_lload_6 169 C dL_isRoot_167 rfl ?_
        refine x_lc_ne 173 204 C dL_isRoot_169 dL_isRoot_170 rfl rfl (fun z => absurd (rfl) z) (fun _ => ?_)
        refine x_aload_0 174 C dL_isRoot_173 rfl ?_
        refine x_lload_1 175 C dL_isRoot_174 rfl ?_
        refine x_iload_3 176 C dL_isRoot_175 rfl ?_
        refine x_iload_9 178 C dL_isRoot_176 rfl ?_
        refine x_iconst (v := 3) 179 C dL_isRoot_178 rfl rfl ?_
        refine x_callV 182 C (c_X5_bit K _ (A 36) (lN N) (nI k) (nI j) 3) hO wcl_X5 hy_X5_bit wv_X5_bit we_X5_bit lk_L_138 dL_isRoot_179 rfl ⟨Nat.le_of_ble_eq_true rfl, Nat.le_of_ble_eq_true rfl⟩ ⟨Nat.le_of_ble_eq_true rfl, Nat.le_of_ble_eq_true rfl⟩ (Nat.le_of_ble_eq_true rfl) rfl (k_0 rfl rfl (k_lp ?_))
        refine x_topl (v' := lN (N - pw k (r))) ((sb_w (w := 3) hN hk hI hj (by decide)).trans (by rw [hnx]; rfl)) ?_
        refine x_lload_1 183 C dL_isRoot_182 rfl ?_
        refine x_lload_6 185 C dL_isRoot_183 rfl ?_
        refine x_iload_3 186 C dL_isRoot_185 rfl ?_
        refine x_callS 189 C (c_L_power K _ (r) k hk) hy_L_power ws_L_power lk_L_14 dL_isRoot_186 rfl ⟨Nat.le_of_ble_eq_true rfl, Nat.le_of_ble_eq_true rfl⟩ ⟨Nat.le_of_ble_eq_true rfl, Nat.le_of_ble_eq_true rfl⟩ (Nat.le_of_ble_eq_true rfl) rfl (k_0 rfl rfl (k_lp ?_))
        refine x_lsub 190 C dL_isRoot_189 rfl ?_
        refine x_topl (v' := lN (N - pw k (r))) (lN_sub (h6)) ?_
        refine x_lc_ne 194 204 C dL_isRoot_190 dL_isRoot_191 rfl rfl (fun z => absurd (rfl) z) (fun _ => ?_)
        refine x_iload_9 196 C dL_isRoot_194 rfl ?_
        refine x_if_ne 199 206 C dL_isRoot_196 rfl rfl (fun c_196 => ?_) (fun c_196 => ?_)
        · refine x_iinc_9 209 C dL_isRoot_206 rfl rfl (nI_inc _) ?_
          refine x_goto 65 C dL_isRoot_209 rfl ?_
          exact ih (j + 1) _ _ _ (by omega) hI2
        · have hj0 : j = 0 := (nI_eq (a := j) (b := 0) (by omega) (by decide)).mp (by first | exact c_196 | exact Decidable.not_not.mp c_196)
          subst hj0
          rw [h5 rfl] at hc
          exact absurd (nb_first hN60 hj) hc
  refine x_lload_1 1 C dL_isRoot_0 rfl ?_
  refine x_iload_3 2 C dL_isRoot_1 rfl ?_
  refine x_callS 5 C (c_L_root K _ N k hk hN) hy_L_root ws_L_root lk_L_20 dL_isRoot_2 rfl ⟨Nat.le_of_ble_eq_true rfl, Nat.le_of_ble_eq_true rfl⟩ ⟨Nat.le_of_ble_eq_true rfl, Nat.le_of_ble_eq_true rfl⟩ (Nat.le_of_ble_eq_true rfl) rfl (k_0 rfl rfl (k_lp ?_))
  refine x_lstore_4 7 C dL_isRoot_5 rfl rfl ?_
  refine x_aload_0 8 C dL_isRoot_7 rfl ?_
  refine x_lload_1 9 C dL_isRoot_8 rfl ?_
  refine x_iload_3 10 C dL_isRoot_9 rfl ?_
  refine x_callV 13 C (c_X5_root K _ X ho (lN N) (nI k)) hO wcl_X5 hy_X5_root wv_X5_root we_X5_root lk_L_132 dL_isRoot_10 rfl ⟨Nat.le_of_ble_eq_true rfl, Nat.le_of_ble_eq_true rfl⟩ ⟨Nat.le_of_ble_eq_true rfl, Nat.le_of_ble_eq_true rfl⟩ (Nat.le_of_ble_eq_true rfl) rfl (k_0 rfl rfl (k_ip ?_))
  refine x_topi (v' := nI (rr k N σ.1.1)) (sp_root_ok hN hk) ?_
  refine x_i2l 14 C dL_isRoot_13 rfl ?_
  refine x_topl (v' := lN (rr k N σ.1.1)) (nI_l (by omega)) ?_
  refine x_lload_1 15 C dL_isRoot_14 rfl ?_
  refine x_iload_3 16 C dL_isRoot_15 rfl ?_
  refine x_aload_0 17 C dL_isRoot_16 rfl ?_
  refine x_iconst (v := 3) 18 C dL_isRoot_17 rfl rfl ?_
  refine x_callV 21 C (c_X5_count K _ X ho 3) hO wcl_X5 hy_X5_count wv_X5_count we_X5_count lk_L_74 dL_isRoot_18 rfl ⟨Nat.le_of_ble_eq_true rfl, Nat.le_of_ble_eq_true rfl⟩ ⟨Nat.le_of_ble_eq_true rfl, Nat.le_of_ble_eq_true rfl⟩ (Nat.le_of_ble_eq_true rfl) rfl (k_0 rfl rfl (k_ip ?_))
  refine x_topi (v' := nI σ.1.1) sp_count3 ?_
  refine x_callS 24 C (c_L_rounded K _ N k σ.1.1 hk hN hρ) hy_L_rounded ws_L_rounded lk_L_78 dL_isRoot_21 rfl ⟨Nat.le_of_ble_eq_true rfl, Nat.le_of_ble_eq_true rfl⟩ ⟨Nat.le_of_ble_eq_true rfl, Nat.le_of_ble_eq_true rfl⟩ (Nat.le_of_ble_eq_true rfl) rfl (k_0 rfl rfl (k_lp ?_))
  refine x_lc_ne 28 46 C dL_isRoot_24 dL_isRoot_25 rfl rfl (fun z => absurd (rfl) z) (fun _ => ?_)
  refine x_aload_0 29 C dL_isRoot_28 rfl ?_
  refine x_lload_1 30 C dL_isRoot_29 rfl ?_
  refine x_iload_3 31 C dL_isRoot_30 rfl ?_
  refine x_callV 34 C (c_X5_remainder K _ (A 36) (lN N) (nI k)) hO wcl_X5 hy_X5_remainder wv_X5_remainder we_X5_remainder lk_L_135 dL_isRoot_31 rfl ⟨Nat.le_of_ble_eq_true rfl, Nat.le_of_ble_eq_true rfl⟩ ⟨Nat.le_of_ble_eq_true rfl, Nat.le_of_ble_eq_true rfl⟩ (Nat.le_of_ble_eq_true rfl) rfl (k_0 rfl rfl (k_lp ?_))
  refine x_topl (sp_rem_ok hN hk) ?_
  refine x_lload_1 35 C dL_isRoot_34 rfl ?_
  refine x_lload_4 37 C dL_isRoot_35 rfl ?_
  refine x_iload_3 38 C dL_isRoot_37 rfl ?_
  refine x_callS 41 C (c_L_power K _ (sq k N) k hk) hy_L_power ws_L_power lk_L_14 dL_isRoot_38 rfl ⟨Nat.le_of_ble_eq_true rfl, Nat.le_of_ble_eq_true rfl⟩ ⟨Nat.le_of_ble_eq_true rfl, Nat.le_of_ble_eq_true rfl⟩ (Nat.le_of_ble_eq_true rfl) rfl (k_0 rfl rfl (k_lp ?_))
  refine x_lsub 42 C dL_isRoot_41 rfl ?_
  refine x_topl (lN_sub hs) ?_
  refine x_lc_eq 46 48 C dL_isRoot_42 dL_isRoot_43 rfl rfl (fun _ => ?_) (fun z => absurd (rfl) z)
  refine x_lconst (v := 0) 49 C dL_isRoot_48 rfl rfl ?_
  refine x_lstore_6 51 C dL_isRoot_49 rfl rfl ?_
  refine x_aload_0 52 C dL_isRoot_51 rfl ?_
  refine x_lload_1 53 C dL_isRoot_52 rfl ?_
  refine x_iload_3 54 C dL_isRoot_53 rfl ?_
  refine x_iconst (v := (-1)) 55 C dL_isRoot_54 rfl rfl ?_
  refine x_iconst (v := 0) 56 C dL_isRoot_55 rfl rfl ?_
  refine x_callV 59 C (c_X5_bit K _ (A 36) (lN N) (nI k) ((-1)) 0) hO wcl_X5 hy_X5_bit wv_X5_bit we_X5_bit lk_L_138 dL_isRoot_56 rfl ⟨Nat.le_of_ble_eq_true rfl, Nat.le_of_ble_eq_true rfl⟩ ⟨Nat.le_of_ble_eq_true rfl, Nat.le_of_ble_eq_true rfl⟩ (Nat.le_of_ble_eq_true rfl) rfl (k_0 rfl rfl (k_lp ?_))
  refine x_topl (v' := lN (nb k N)) (sb_n hN hk) ?_
  refine x_l2i 60 C dL_isRoot_59 rfl ?_
  refine x_topi (v' := nI (nb k N)) l_i ?_
  refine x_istore_8 62 C dL_isRoot_60 rfl rfl ?_
  refine x_iconst (v := 0) 63 C dL_isRoot_62 rfl rfl ?_
  refine x_istore_9 65 C dL_isRoot_63 rfl rfl ?_
  exact lp (nb k N) 0 0 _ _ (by omega) bI_0
