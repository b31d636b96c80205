def lI (x : Int) : Int64 := Int64.ofInt x
def iI (x : Int) : Int32 := Int32.ofInt x
theorem lI_add (a b : Int) : lI a + lI b = lI (a + b) := (Int64.ofInt_add a b).symm
theorem lI_sub (a b : Int) : lI a - lI b = lI (a - b) := (Int64.ofInt_sub a b).symm
theorem lI_mul (a b : Int) : lI a * lI b = lI (a * b) := (Int64.ofInt_mul a b).symm
theorem lI_neg (a : Int) : -lI a = lI (-a) := (Int64.ofInt_neg a).symm
theorem iI_add (a b : Int) : iI a + iI b = iI (a + b) := (Int32.ofInt_add a b).symm
theorem iI_sub (a b : Int) : iI a - iI b = iI (a - b) := (Int32.ofInt_sub a b).symm
theorem iI_mul (a b : Int) : iI a * iI b = iI (a * b) := (Int32.ofInt_mul a b).symm
theorem iI_neg (a : Int) : -iI a = iI (-a) := (Int32.ofInt_neg a).symm
theorem lI_toI {a : Int} (h1 : -2 ^ 63 ≤ a) (h2 : a < 2 ^ 63) : (lI a).toInt = a := Int64.toInt_ofInt_of_le h1 h2
theorem iI_toI {a : Int} (h1 : -2 ^ 31 ≤ a) (h2 : a < 2 ^ 31) : (iI a).toInt = a := Int32.toInt_ofInt_of_le h1 h2
theorem lI_le {a b : Int} (h1 : -2 ^ 63 ≤ a ∧ a < 2 ^ 63) (h2 : -2 ^ 63 ≤ b ∧ b < 2 ^ 63) : lI a ≤ lI b ↔ a ≤ b := by rw [Int64.le_iff_toInt_le, lI_toI h1.1 h1.2, lI_toI h2.1 h2.2]
theorem lI_lt {a b : Int} (h1 : -2 ^ 63 ≤ a ∧ a < 2 ^ 63) (h2 : -2 ^ 63 ≤ b ∧ b < 2 ^ 63) : lI a < lI b ↔ a < b := by rw [Int64.lt_iff_toInt_lt, lI_toI h1.1 h1.2, lI_toI h2.1 h2.2]
theorem lI_l0 {a : Int} (h1 : -2 ^ 63 ≤ a ∧ a < 2 ^ 63) : lI a ≤ 0 ↔ a ≤ 0 := lI_le (b := 0) h1 (by decide)
theorem lI_0l {a : Int} (h1 : -2 ^ 63 ≤ a ∧ a < 2 ^ 63) : 0 ≤ lI a ↔ 0 ≤ a := lI_le (a := 0) (by decide) h1
theorem lI_0t {a : Int} (h1 : -2 ^ 63 ≤ a ∧ a < 2 ^ 63) : 0 < lI a ↔ 0 < a := lI_lt (a := 0) (by decide) h1
theorem lI_t0 {a : Int} (h1 : -2 ^ 63 ≤ a ∧ a < 2 ^ 63) : lI a < 0 ↔ a < 0 := lI_lt (b := 0) h1 (by decide)
theorem iI_0l {a : Int} (h1 : -2 ^ 31 ≤ a ∧ a < 2 ^ 31) : 0 ≤ iI a ↔ 0 ≤ a := by rw [Int32.le_iff_toInt_le, iI_toI h1.1 h1.2, ti_0]
theorem nI_iI (n : Nat) : nI n = iI n := (Int32.ofInt_eq_ofNat).symm
theorem lN_lI (n : Nat) : lN n = lI n := (Int64.ofInt_eq_ofNat).symm
theorem iI_l {a : Int} (h1 : -2 ^ 31 ≤ a) (h2 : a < 2 ^ 31) : (iI a).toInt64 = lI a := by
  apply Int64.toInt_inj.mp
  rw [Int32.toInt_toInt64, iI_toI h1 h2, lI_toI (by omega) (by omega)]
theorem nI_lI {a : Nat} (h : a < 2 ^ 31) : (nI a).toInt64 = lI a := by rw [nI_iI, iI_l (by omega) (by omega)]
theorem mul_bd {x y B C : Int} (hx : 0 ≤ x ∧ x ≤ B) (hy : 0 ≤ y ∧ y ≤ C) : 0 ≤ x * y ∧ x * y ≤ B * C :=
  ⟨Int.mul_nonneg hx.1 hy.1, Int.mul_le_mul hx.2 hy.2 hy.1 (Int.le_trans hx.1 hx.2)⟩
theorem sq_nn (p : Int) : 0 ≤ p * p := by
  rcases Int.le_total 0 p with h | h
  · exact Int.mul_nonneg h h
  · have := Int.mul_nonneg (show 0 ≤ -p by omega) (show 0 ≤ -p by omega)
    rw [Int.neg_mul_neg] at this
    exact this
theorem neg_sq (p : Int) : -p * -p = p * p := Int.neg_mul_neg p p
def cmpI (a b : Int) : Int := if a < b then -1 else if a = b then 0 else 1
theorem cmpI_bd (a b : Int) : -1 ≤ cmpI a b ∧ cmpI a b ≤ 1 := by unfold cmpI; split; exact ⟨by omega, by omega⟩; split <;> exact ⟨by omega, by omega⟩
theorem cmpI_neg (a b : Int) : -(cmpI a b) = cmpI b a := by unfold cmpI; split <;> split <;> (try split) <;> omega
def ag (p q d : Int) : Int := if p - q - d * d < 0 then -1 else cmpI ((p - q - d * d) * (p - q - d * d)) (4 * d * d * q)
def sr (p q d : Int) : Int := if d < 0 then -(ag q p (-d)) else ag p q d
def sd (p u v : Int) : Int := if 4 * v - 4 * u - p * p < 0 then 1 else cmpI (16 * p * p * u) ((4 * v - 4 * u - p * p) * (4 * v - 4 * u - p * p))
def cw (p u v : Int) : Int := if 0 < p ∧ u < v then sd p u v else if p < 0 ∧ v < u then -(sd (-p) v u) else if 0 < p ∨ v < u then 1 else if p < 0 ∨ u < v then -1 else 0
theorem ag_bd (p q d : Int) : -1 ≤ ag p q d ∧ ag p q d ≤ 1 := by unfold ag; split; exact ⟨by omega, by omega⟩; exact cmpI_bd _ _
theorem sd_bd (p u v : Int) : -1 ≤ sd p u v ∧ sd p u v ≤ 1 := by unfold sd; split; exact ⟨by omega, by omega⟩; exact cmpI_bd _ _
theorem sd_ag (p u v : Int) : sd p u v = -(ag (4 * v) (4 * u) p) := by
  unfold sd ag
  split
  · rfl
  · rw [cmpI_neg, show 4 * p * p * (4 * u) = 16 * p * p * u by grind]
theorem ag_neg {p q d : Int} (h : p - q - d * d < 0) : ag p q d = -1 := by rw [ag, if_pos h]
theorem cw_sr (p u v : Int) : cw p u v = sr (4 * u) (4 * v) (-p) := by
  have hp := sq_nn p
  rcases Int.lt_trichotomy p 0 with h | h | h
  · have e : sr (4 * u) (4 * v) (-p) = ag (4 * u) (4 * v) (-p) := by rw [sr, if_neg (by omega)]
    rw [e, cw, if_neg (by omega)]
    by_cases h2 : v < u
    · rw [if_pos ⟨h, h2⟩, sd_ag, Int.neg_neg]
    · rw [if_neg (by omega), if_neg (by omega), if_pos (Or.inl h), ag_neg]
      have h3 : 0 < -p * -p := Int.mul_pos (by omega) (by omega)
      omega
  · subst h
    have e : sr (4 * u) (4 * v) (-0) = ag (4 * u) (4 * v) 0 := by rw [Int.neg_zero, sr, if_neg (by omega)]
    rw [e, cw, if_neg (by omega), if_neg (by omega)]
    unfold ag
    by_cases h2 : v < u
    · rw [if_pos (Or.inr h2), if_neg (by omega)]
      have h3 : 0 < (4 * u - 4 * v) * (4 * u - 4 * v) := Int.mul_pos (by omega) (by omega)
      simp only [Int.mul_zero, Int.zero_mul, Int.sub_zero]
      unfold cmpI
      rw [if_neg (by omega), if_neg (by omega)]
    · rw [if_neg (by omega)]
      by_cases h3 : u < v
      · rw [if_pos (Or.inr h3), if_pos (by omega)]
      · have : u = v := by omega
        subst this
        rw [if_neg (by omega), if_neg (by omega)]
        simp only [Int.mul_zero, Int.zero_mul, Int.sub_zero, Int.sub_self]
        rfl
  · have e : sr (4 * u) (4 * v) (-p) = -(ag (4 * v) (4 * u) p) := by rw [sr, if_pos (by omega), Int.neg_neg]
    rw [e, cw]
    by_cases h2 : u < v
    · rw [if_pos ⟨h, h2⟩, sd_ag]
    · have h3 : 0 < p * p := Int.mul_pos h h
      rw [if_neg (by omega), if_neg (by omega), if_pos (Or.inl h), ag_neg (by omega)]
      rfl
theorem sg_0 {s : Int} (h : -1 ≤ s ∧ s ≤ 1) (c : iI s = 0) : (if s < 0 then (2 : Int32) else iI s) = 0 := by
  obtain rfl | rfl | rfl : s = -1 ∨ s = 0 ∨ s = 1 := by omega
  all_goals first | rfl | exact absurd c (by decide)
theorem sg_2 {s : Int} (h : -1 ≤ s ∧ s ≤ 1) (c : ¬ iI s = 0) (d : iI s ≤ 0) : (if s < 0 then (2 : Int32) else iI s) = 2 := by
  obtain rfl | rfl | rfl : s = -1 ∨ s = 0 ∨ s = 1 := by omega
  all_goals first | rfl | exact absurd c (by decide) | exact absurd d (by decide)
theorem sg_1 {s : Int} (h : -1 ≤ s ∧ s ≤ 1) (d : ¬ iI s ≤ 0) : (if s < 0 then (2 : Int32) else iI s) = 1 := by
  obtain rfl | rfl | rfl : s = -1 ∨ s = 0 ∨ s = 1 := by omega
  all_goals first | rfl | exact absurd d (by decide)
def cmpOk (a b c d : Int32) : Prop := (0 ≤ a.toInt ∧ a.toInt ≤ 10000) ∧ (0 ≤ b.toInt ∧ b.toInt ≤ 10000) ∧ (0 ≤ c.toInt ∧ c.toInt ≤ 10000) ∧ (0 ≤ d.toInt ∧ d.toInt ≤ 10000)
noncomputable def sp_compare (a b c d : Int32) : Int32 := spQ (cmpOk a b c d) (if sr (4 * a.toInt * b.toInt) (4 * c.toInt * d.toInt) (c.toInt + d.toInt - a.toInt - b.toInt) < 0 then 2 else iI (sr (4 * a.toInt * b.toInt) (4 * c.toInt * d.toInt) (c.toInt + d.toInt - a.toInt - b.toInt))) (-2)
set_option maxHeartbeats 4000000 in
set_option maxRecDepth 100000 in
theorem c_Long (K : hKv) (M : hM) (x y : Int64) : hC K Y_Long rm_Long [.long x, .long y] M (hPi fun r M1 => r = iI (cmpI x.toInt y.toInt) ∧ M1 = M) := by
  refine hC.of [some (.long x), none, some (.long y), none] (by decide) (Nat.le_of_ble_eq_true rfl) rfl rfl ?_
  intro E C Rt
  have C : hCx E K cLong 4 "java/lang/Long" "compare" rm_Long := C
  refine x_lload_0 1 C dLong_0 rfl ?_
  refine x_lload_2 2 C dLong_1 rfl ?_
  refine x_lc_ge 6 10 C dLong_2 dLong_3 rfl rfl (fun c_2 => ?_) (fun c_2 => ?_)
  · refine x_lload_0 11 C dLong_10 rfl ?_
    refine x_lload_2 12 C dLong_11 rfl ?_
    refine x_lc_ne 16 20 C dLong_12 dLong_13 rfl rfl (fun c_12 => ?_) (fun c_12 => ?_)
    · refine x_iconst (v := 1) 21 C dLong_20 rfl rfl ?_
      refine x_ireturn C Rt dLong_21 rfl ⟨Nat.le_of_ble_eq_true rfl, Nat.le_of_ble_eq_true rfl⟩ ?_
      exact ⟨_, rfl, by
        unfold cmpI
        simp only [Int64.lt_iff_toInt_lt, Int64.le_iff_toInt_le, ← Int64.toInt_inj] at *
        first
          | (rw [if_pos (by omega)]; rfl)
          | (rw [if_neg (by omega), if_pos (by omega)]; rfl)
          | (rw [if_neg (by omega), if_neg (by omega)]; rfl), rfl⟩
    · refine x_iconst (v := 0) 17 C dLong_16 rfl rfl ?_
      refine x_goto 21 C dLong_17 rfl ?_
      refine x_ireturn C Rt dLong_21 rfl ⟨Nat.le_of_ble_eq_true rfl, Nat.le_of_ble_eq_true rfl⟩ ?_
      exact ⟨_, rfl, by
        unfold cmpI
        simp only [Int64.lt_iff_toInt_lt, Int64.le_iff_toInt_le, ← Int64.toInt_inj] at *
        first
          | (rw [if_pos (by omega)]; rfl)
          | (rw [if_neg (by omega), if_pos (by omega)]; rfl)
          | (rw [if_neg (by omega), if_neg (by omega)]; rfl), rfl⟩
  · refine x_iconst (v := (-1)) 7 C dLong_6 rfl rfl ?_
    refine x_goto 21 C dLong_7 rfl ?_
    refine x_ireturn C Rt dLong_21 rfl ⟨Nat.le_of_ble_eq_true rfl, Nat.le_of_ble_eq_true rfl⟩ ?_
    exact ⟨_, rfl, by
      unfold cmpI
      simp only [Int64.lt_iff_toInt_lt, Int64.le_iff_toInt_le, ← Int64.toInt_inj] at *
      first
        | (rw [if_pos (by omega)]; rfl)
        | (rw [if_neg (by omega), if_pos (by omega)]; rfl)
        | (rw [if_neg (by omega), if_neg (by omega)]; rfl), rfl⟩
set_option maxHeartbeats 4000000 in
set_option maxRecDepth 100000 in
theorem c_X5_signOfRootsAgainst (K : hKv) (M : hM) (p q d : Int) (hp : 0 ≤ p ∧ p ≤ 400000000) (hq : 0 ≤ q ∧ q ≤ 400000000) (hd : 0 ≤ d ∧ d ≤ 20000) : hC K Y_X5_signOfRootsAgainst rm_X5_signOfRootsAgainst [.long (lI p), .long (lI q), .long (lI d)] M (hPi fun r M1 => r = iI (ag p q d) ∧ M1 = M) := by
  refine hC.of [some (.long (lI p)), none, some (.long (lI q)), none, some (.long (lI d)), none, none, none] (by decide) (Nat.le_of_ble_eq_true rfl) rfl rfl ?_
  intro E C Rt
  have C : hCx E K cX5_signOfRootsAgainst 8 RX5 "signOfRootsAgainst" rm_X5_signOfRootsAgainst := C
  have hdd := mul_bd hd hd
  have hL : -800000000 ≤ p - q - d * d ∧ p - q - d * d ≤ 400000000 := by omega
  have h4d := mul_bd (B := 80000) (show 0 ≤ 4 * d ∧ 4 * d ≤ 80000 by omega) hd
  have h4 := mul_bd (B := 1600000000) (show 0 ≤ 4 * d * d ∧ 4 * d * d ≤ 1600000000 by omega) hq
  refine x_lload_0 1 C dX5_signOfRootsAgainst_0 rfl ?_
  refine x_lload_2 2 C dX5_signOfRootsAgainst_1 rfl ?_
  refine x_lsub 3 C dX5_signOfRootsAgainst_2 rfl ?_
  refine x_topl (v' := lI (p - q)) (lI_sub p q) ?_
  refine x_lload_4 5 C dX5_signOfRootsAgainst_3 rfl ?_
  refine x_lload_4 7 C dX5_signOfRootsAgainst_5 rfl ?_
  refine x_lmul 8 C dX5_signOfRootsAgainst_7 rfl ?_
  refine x_topl (v' := lI (d * d)) (lI_mul d d) ?_
  refine x_lsub 9 C dX5_signOfRootsAgainst_8 rfl ?_
  refine x_topl (v' := lI (p - q - d * d)) (lI_sub _ _) ?_
  refine x_lstore_6 11 C dX5_signOfRootsAgainst_9 rfl rfl ?_
  refine x_lload_6 13 C dX5_signOfRootsAgainst_11 rfl ?_
  refine x_lconst (v := 0) 14 C dX5_signOfRootsAgainst_13 rfl rfl ?_
  refine x_lc_ge 18 20 C dX5_signOfRootsAgainst_14 dX5_signOfRootsAgainst_15 rfl rfl (fun c_14 => ?_) (fun c_14 => ?_)
  · have hL0 : 0 ≤ p - q - d * d := (lI_0l (by omega)).mp c_14
    have hLL := mul_bd (B := 400000000) (C := 400000000) (show 0 ≤ p - q - d * d ∧ _ by exact ⟨hL0, hL.2⟩) ⟨hL0, hL.2⟩
    refine x_lload_6 22 C dX5_signOfRootsAgainst_20 rfl ?_
    refine x_lload_6 24 C dX5_signOfRootsAgainst_22 rfl ?_
    refine x_lmul 25 C dX5_signOfRootsAgainst_24 rfl ?_
    refine x_topl (v' := lI ((p - q - d * d) * (p - q - d * d))) (lI_mul _ _) ?_
    refine x_ldc2 (v := 4) 28 C dX5_signOfRootsAgainst_25 rfl wq_X5_188 ?_
    refine x_lload_4 30 C dX5_signOfRootsAgainst_28 rfl ?_
    refine x_lmul 31 C dX5_signOfRootsAgainst_30 rfl ?_
    refine x_topl (v' := lI (4 * d)) (lI_mul 4 d) ?_
    refine x_lload_4 33 C dX5_signOfRootsAgainst_31 rfl ?_
    refine x_lmul 34 C dX5_signOfRootsAgainst_33 rfl ?_
    refine x_topl (v' := lI (4 * d * d)) (lI_mul _ _) ?_
    refine x_lload_2 35 C dX5_signOfRootsAgainst_34 rfl ?_
    refine x_lmul 36 C dX5_signOfRootsAgainst_35 rfl ?_
    refine x_topl (v' := lI (4 * d * d * q)) (lI_mul _ _) ?_
    refine x_callS 39 C (c_Long K _ _ _) hy_Long ws_Long lk_X5_258 dX5_signOfRootsAgainst_36 rfl ⟨Nat.le_of_ble_eq_true rfl, Nat.le_of_ble_eq_true rfl⟩ ⟨Nat.le_of_ble_eq_true rfl, Nat.le_of_ble_eq_true rfl⟩ (Nat.le_of_ble_eq_true rfl) rfl (k_0 rfl rfl (k_ip ?_))
    refine x_ireturn C Rt dX5_signOfRootsAgainst_39 rfl ⟨Nat.le_of_ble_eq_true rfl, Nat.le_of_ble_eq_true rfl⟩ ?_
    exact ⟨_, rfl, by rw [ag, if_neg (by omega), lI_toI (by omega) (by omega), lI_toI (by omega) (by omega)], rfl⟩
  · refine x_iconst (v := (-1)) 19 C dX5_signOfRootsAgainst_18 rfl rfl ?_
    refine x_ireturn C Rt dX5_signOfRootsAgainst_19 rfl ⟨Nat.le_of_ble_eq_true rfl, Nat.le_of_ble_eq_true rfl⟩ ?_
    exact ⟨_, rfl, by rw [ag, if_pos (Int.not_le.mp fun z => c_14 ((lI_0l (by omega)).mpr z))]; rfl, rfl⟩
set_option maxHeartbeats 4000000 in
set_option maxRecDepth 100000 in
theorem c_X5_signOfRoots (K : hKv) (M : hM) (p q d : Int) (hp : 0 ≤ p ∧ p ≤ 400000000) (hq : 0 ≤ q ∧ q ≤ 400000000) (hd : -20000 ≤ d ∧ d ≤ 20000) : hC K Y_X5_signOfRoots rm_X5_signOfRoots [.long (lI p), .long (lI q), .long (lI d)] M (hPi fun r M1 => r = iI (sr p q d) ∧ M1 = M) := by
  refine hC.of [some (.long (lI p)), none, some (.long (lI q)), none, some (.long (lI d)), none] (by decide) (Nat.le_of_ble_eq_true rfl) rfl rfl ?_
  intro E C Rt
  have C : hCx E K cX5_signOfRoots 6 RX5 "signOfRoots" rm_X5_signOfRoots := C
  refine x_lload_4 2 C dX5_signOfRoots_0 rfl ?_
  refine x_lconst (v := 0) 3 C dX5_signOfRoots_2 rfl rfl ?_
  refine x_lc_ge 7 17 C dX5_signOfRoots_3 dX5_signOfRoots_4 rfl rfl (fun c_3 => ?_) (fun c_3 => ?_)
  · have h0 : 0 ≤ d := (lI_0l (by omega)).mp c_3
    refine x_lload_0 18 C dX5_signOfRoots_17 rfl ?_
    refine x_lload_2 19 C dX5_signOfRoots_18 rfl ?_
    refine x_lload_4 21 C dX5_signOfRoots_19 rfl ?_
    refine x_callS 24 C (c_X5_signOfRootsAgainst K _ p q d hp hq (by omega)) hy_X5_signOfRootsAgainst ws_X5_signOfRootsAgainst lk_X5_255 dX5_signOfRoots_21 rfl ⟨Nat.le_of_ble_eq_true rfl, Nat.le_of_ble_eq_true rfl⟩ ⟨Nat.le_of_ble_eq_true rfl, Nat.le_of_ble_eq_true rfl⟩ (Nat.le_of_ble_eq_true rfl) rfl (k_0 rfl rfl (k_ip ?_))
    refine x_ireturn C Rt dX5_signOfRoots_24 rfl ⟨Nat.le_of_ble_eq_true rfl, Nat.le_of_ble_eq_true rfl⟩ ?_
    exact ⟨_, rfl, by rw [sr, if_neg (by omega)], rfl⟩
  · have h0 : d < 0 := Int.not_le.mp fun z => c_3 ((lI_0l (by omega)).mpr z)
    refine x_lload_2 8 C dX5_signOfRoots_7 rfl ?_
    refine x_lload_0 9 C dX5_signOfRoots_8 rfl ?_
    refine x_lload_4 11 C dX5_signOfRoots_9 rfl ?_
    refine x_lneg 12 C dX5_signOfRoots_11 rfl ?_
    refine x_topl (v' := lI (-d)) (lI_neg d) ?_
    refine x_callS 15 C (c_X5_signOfRootsAgainst K _ q p (-d) hq hp (by omega)) hy_X5_signOfRootsAgainst ws_X5_signOfRootsAgainst lk_X5_255 dX5_signOfRoots_12 rfl ⟨Nat.le_of_ble_eq_true rfl, Nat.le_of_ble_eq_true rfl⟩ ⟨Nat.le_of_ble_eq_true rfl, Nat.le_of_ble_eq_true rfl⟩ (Nat.le_of_ble_eq_true rfl) rfl (k_0 rfl rfl (k_ip ?_))
    refine x_ineg 16 C dX5_signOfRoots_15 rfl ?_
    refine x_ireturn C Rt dX5_signOfRoots_16 rfl ⟨Nat.le_of_ble_eq_true rfl, Nat.le_of_ble_eq_true rfl⟩ ?_
    exact ⟨_, rfl, by rw [sr, if_pos h0, iI_neg], rfl⟩
set_option maxHeartbeats 4000000 in
set_option maxRecDepth 100000 in
theorem c_X5_comparable (K : hKv) (M : hM) (x : Int32) : hC K Y_X5_comparable rm_X5_comparable [.int x] M (hPi fun r M1 => r = hB (decide (0 ≤ x.toInt ∧ x.toInt ≤ 10000)) ∧ M1 = M) := by
  refine hC.of [some (.int x)] (by decide) (Nat.le_of_ble_eq_true rfl) rfl rfl ?_
  intro E C Rt
  have C : hCx E K cX5_comparable 1 RX5 "comparable" rm_X5_comparable := C
  refine x_iload_0 1 C dX5_comparable_0 rfl ?_
  refine x_i2l 2 C dX5_comparable_1 rfl ?_
  refine x_lconst (v := 0) 3 C dX5_comparable_2 rfl rfl ?_
  refine x_ldc2 (v := 10000) 6 C dX5_comparable_3 rfl wq_X5_246 ?_
  refine x_callS 9 C (c_X5_within K _ _ _ _) hy_X5_within ws_X5_within lk_X5_48 dX5_comparable_6 rfl ⟨Nat.le_of_ble_eq_true rfl, Nat.le_of_ble_eq_true rfl⟩ ⟨Nat.le_of_ble_eq_true rfl, Nat.le_of_ble_eq_true rfl⟩ (Nat.le_of_ble_eq_true rfl) rfl (k_0 rfl rfl (k_ip ?_))
  refine x_ireturn C Rt dX5_comparable_9 hB_nar ⟨Nat.le_of_ble_eq_true rfl, Nat.le_of_ble_eq_true rfl⟩ ?_
  exact ⟨_, rfl, by rw [Int32.toInt_toInt64, tl_0, tl_10000], rfl⟩
set_option maxHeartbeats 4000000 in
set_option maxRecDepth 100000 in
theorem c_X5_compare (K : hKv) (M : hM) (x : Nat) (a0 b0 c0 d0 : Int32) : hC K Y_X5_compare rm_X5_compare [.ref x, .int a0, .int b0, .int c0, .int d0] M (hPi fun r M1 => r = sp_compare a0 b0 c0 d0 ∧ M1 = M) := by
  refine hC.of [some (.ref x), some (.int a0), some (.int b0), some (.int c0), some (.int d0), none] (by decide) (Nat.le_of_ble_eq_true rfl) rfl rfl ?_
  intro E C Rt
  have C : hCx E K cX5_compare 6 RX5 "compare" rm_X5_compare := C
  refine x_iload_1 1 C dX5_compare_0 rfl ?_
  refine x_callS 4 C (c_X5_comparable K _ _) hy_X5_comparable ws_X5_comparable lk_X5_184 dX5_compare_1 rfl ⟨Nat.le_of_ble_eq_true rfl, Nat.le_of_ble_eq_true rfl⟩ ⟨Nat.le_of_ble_eq_true rfl, Nat.le_of_ble_eq_true rfl⟩ (Nat.le_of_ble_eq_true rfl) rfl (k_0 rfl rfl (k_ip ?_))
  refine x_if_eq 7 29 C dX5_compare_4 rfl rfl (fun c_4 => ?_) (fun c_4 => ?_)
  · refine x_bipush (v := (-2)) 31 C dX5_compare_29 rfl rfl ?_
    refine x_ireturn C Rt dX5_compare_31 rfl ⟨Nat.le_of_ble_eq_true rfl, Nat.le_of_ble_eq_true rfl⟩ ?_
    simp only [Classical.not_not, hB_0p, hB_n0p, ti_0, ti_10000] at c_4
    exact ⟨_, rfl, by rw [sp_compare, spQ_f (by unfold cmpOk; omega)], rfl⟩
  · refine x_iload_2 8 C dX5_compare_7 rfl ?_
    refine x_callS 11 C (c_X5_comparable K _ _) hy_X5_comparable ws_X5_comparable lk_X5_184 dX5_compare_8 rfl ⟨Nat.le_of_ble_eq_true rfl, Nat.le_of_ble_eq_true rfl⟩ ⟨Nat.le_of_ble_eq_true rfl, Nat.le_of_ble_eq_true rfl⟩ (Nat.le_of_ble_eq_true rfl) rfl (k_0 rfl rfl (k_ip ?_))
    refine x_if_eq 14 29 C dX5_compare_11 rfl rfl (fun c_11 => ?_) (fun c_11 => ?_)
    · refine x_bipush (v := (-2)) 31 C dX5_compare_29 rfl rfl ?_
      refine x_ireturn C Rt dX5_compare_31 rfl ⟨Nat.le_of_ble_eq_true rfl, Nat.le_of_ble_eq_true rfl⟩ ?_
      simp only [Classical.not_not, hB_0p, hB_n0p, ti_0, ti_10000] at c_11
      exact ⟨_, rfl, by rw [sp_compare, spQ_f (by unfold cmpOk; omega)], rfl⟩
    · refine x_iload_3 15 C dX5_compare_14 rfl ?_
      refine x_callS 18 C (c_X5_comparable K _ _) hy_X5_comparable ws_X5_comparable lk_X5_184 dX5_compare_15 rfl ⟨Nat.le_of_ble_eq_true rfl, Nat.le_of_ble_eq_true rfl⟩ ⟨Nat.le_of_ble_eq_true rfl, Nat.le_of_ble_eq_true rfl⟩ (Nat.le_of_ble_eq_true rfl) rfl (k_0 rfl rfl (k_ip ?_))
      refine x_if_eq 21 29 C dX5_compare_18 rfl rfl (fun c_18 => ?_) (fun c_18 => ?_)
      · refine x_bipush (v := (-2)) 31 C dX5_compare_29 rfl rfl ?_
        refine x_ireturn C Rt dX5_compare_31 rfl ⟨Nat.le_of_ble_eq_true rfl, Nat.le_of_ble_eq_true rfl⟩ ?_
        simp only [Classical.not_not, hB_0p, hB_n0p, ti_0, ti_10000] at c_18
        exact ⟨_, rfl, by rw [sp_compare, spQ_f (by unfold cmpOk; omega)], rfl⟩
      · refine x_iload_4 23 C dX5_compare_21 rfl ?_
        refine x_callS 26 C (c_X5_comparable K _ _) hy_X5_comparable ws_X5_comparable lk_X5_184 dX5_compare_23 rfl ⟨Nat.le_of_ble_eq_true rfl, Nat.le_of_ble_eq_true rfl⟩ ⟨Nat.le_of_ble_eq_true rfl, Nat.le_of_ble_eq_true rfl⟩ (Nat.le_of_ble_eq_true rfl) rfl (k_0 rfl rfl (k_ip ?_))
        refine x_if_ne 29 32 C dX5_compare_26 rfl rfl (fun c_26 => ?_) (fun c_26 => ?_)
        · simp only [Classical.not_not, hB_0p, hB_n0p, ti_0, ti_10000] at c_4 c_11 c_18 c_26
          obtain ⟨a, h_a, rfl⟩ := in_nI (b := 10000) c_4
          obtain ⟨b, h_b, rfl⟩ := in_nI (b := 10000) c_11
          obtain ⟨c, h_c, rfl⟩ := in_nI (b := 10000) c_18
          obtain ⟨d, h_d, rfl⟩ := in_nI (b := 10000) c_26
          have hs : cmpOk (nI a) (nI b) (nI c) (nI d) := ⟨c_4, c_11, c_18, c_26⟩
          have ab := mul_bd (B := 10000) (C := 10000) (x := a) (y := b) (by omega) (by omega)
          have cd := mul_bd (B := 10000) (C := 10000) (x := c) (y := d) (by omega) (by omega)
          have hsp : sp_compare (nI a) (nI b) (nI c) (nI d) = if sr (4 * a * b) (4 * c * d) (c + d - a - b) < 0 then 2 else iI (sr (4 * a * b) (4 * c * d) (c + d - a - b)) := by
            rw [sp_compare, spQ_t hs, nI_toI (by omega), nI_toI (by omega), nI_toI (by omega), nI_toI (by omega)]
          refine x_ldc2 (v := 4) 35 C dX5_compare_32 rfl wq_X5_188 ?_
          refine x_iload_1 36 C dX5_compare_35 rfl ?_
          refine x_i2l 37 C dX5_compare_36 rfl ?_
          refine x_topl (v' := lI ((a : Int))) (nI_lI (by omega)) ?_
          refine x_lmul 38 C dX5_compare_37 rfl ?_
          refine x_topl (v' := lI (4 * a)) (lI_mul 4 a) ?_
          refine x_iload_2 39 C dX5_compare_38 rfl ?_
          refine x_i2l 40 C dX5_compare_39 rfl ?_
          refine x_topl (v' := lI ((b : Int))) (nI_lI (by omega)) ?_
          refine x_lmul 41 C dX5_compare_40 rfl ?_
          refine x_topl (v' := lI (4 * a * b)) (lI_mul _ _) ?_
          refine x_ldc2 (v := 4) 44 C dX5_compare_41 rfl wq_X5_188 ?_
          refine x_iload_3 45 C dX5_compare_44 rfl ?_
          refine x_i2l 46 C dX5_compare_45 rfl ?_
          refine x_topl (v' := lI ((c : Int))) (nI_lI (by omega)) ?_
          refine x_lmul 47 C dX5_compare_46 rfl ?_
          refine x_topl (v' := lI (4 * c)) (lI_mul 4 c) ?_
          refine x_iload_4 49 C dX5_compare_47 rfl ?_
          refine x_i2l 50 C dX5_compare_49 rfl ?_
          refine x_topl (v' := lI ((d : Int))) (nI_lI (by omega)) ?_
          refine x_lmul 51 C dX5_compare_50 rfl ?_
          refine x_topl (v' := lI (4 * c * d)) (lI_mul _ _) ?_
          refine x_iload_3 52 C dX5_compare_51 rfl ?_
          refine x_i2l 53 C dX5_compare_52 rfl ?_
          refine x_topl (v' := lI ((c : Int))) (nI_lI (by omega)) ?_
          refine x_iload_4 55 C dX5_compare_53 rfl ?_
          refine x_i2l 56 C dX5_compare_55 rfl ?_
          refine x_topl (v' := lI ((d : Int))) (nI_lI (by omega)) ?_
          refine x_ladd 57 C dX5_compare_56 rfl ?_
          refine x_topl (v' := lI ((c : Int) + d)) (lI_add _ _) ?_
          refine x_iload_1 58 C dX5_compare_57 rfl ?_
          refine x_i2l 59 C dX5_compare_58 rfl ?_
          refine x_topl (v' := lI ((a : Int))) (nI_lI (by omega)) ?_
          refine x_lsub 60 C dX5_compare_59 rfl ?_
          refine x_topl (v' := lI ((c : Int) + d - a)) (lI_sub _ _) ?_
          refine x_iload_2 61 C dX5_compare_60 rfl ?_
          refine x_i2l 62 C dX5_compare_61 rfl ?_
          refine x_topl (v' := lI ((b : Int))) (nI_lI (by omega)) ?_
          refine x_lsub 63 C dX5_compare_62 rfl ?_
          refine x_topl (v' := lI ((c : Int) + d - a - b)) (lI_sub _ _) ?_
          refine x_callS 66 C (c_X5_signOfRoots K _ (4 * a * b) (4 * c * d) (c + d - a - b) (by rw [Int.mul_assoc]; omega) (by rw [Int.mul_assoc]; omega) (by omega)) hy_X5_signOfRoots ws_X5_signOfRoots lk_X5_190 dX5_compare_63 rfl ⟨Nat.le_of_ble_eq_true rfl, Nat.le_of_ble_eq_true rfl⟩ ⟨Nat.le_of_ble_eq_true rfl, Nat.le_of_ble_eq_true rfl⟩ (Nat.le_of_ble_eq_true rfl) rfl (k_0 rfl rfl (k_ip ?_))
          have hbd : -1 ≤ sr (4 * a * b) (4 * c * d) (c + d - a - b) ∧ sr (4 * a * b) (4 * c * d) (c + d - a - b) ≤ 1 := by
            unfold sr
            split
            · have := ag_bd (4 * c * d) (4 * a * b) (-(↑c + ↑d - ↑a - ↑b)); omega
            · exact ag_bd _ _ _
          refine x_istore_5 68 C dX5_compare_66 rfl rfl ?_
          refine x_iload_5 70 C dX5_compare_68 rfl ?_
          refine x_if_ne 73 75 C dX5_compare_70 rfl rfl (fun c_70 => ?_) (fun c_70 => ?_)
          · refine x_iload_5 77 C dX5_compare_75 rfl ?_
            refine x_if_le 80 84 C dX5_compare_77 rfl rfl (fun c_77 => ?_) (fun c_77 => ?_)
            · refine x_iconst (v := 2) 85 C dX5_compare_84 rfl rfl ?_
              refine x_ireturn C Rt dX5_compare_85 rfl ⟨Nat.le_of_ble_eq_true rfl, Nat.le_of_ble_eq_true rfl⟩ ?_
              exact ⟨_, rfl, by rw [hsp, sg_2 hbd c_70 c_77], rfl⟩
            · refine x_iconst (v := 1) 81 C dX5_compare_80 rfl rfl ?_
              refine x_goto 85 C dX5_compare_81 rfl ?_
              refine x_ireturn C Rt dX5_compare_85 rfl ⟨Nat.le_of_ble_eq_true rfl, Nat.le_of_ble_eq_true rfl⟩ ?_
              exact ⟨_, rfl, by rw [hsp, sg_1 hbd c_77], rfl⟩
          · refine x_iconst (v := 0) 74 C dX5_compare_73 rfl rfl ?_
            refine x_ireturn C Rt dX5_compare_74 rfl ⟨Nat.le_of_ble_eq_true rfl, Nat.le_of_ble_eq_true rfl⟩ ?_
            exact ⟨_, rfl, by rw [hsp, sg_0 hbd c_70], rfl⟩
        · refine x_bipush (v := (-2)) 31 C dX5_compare_29 rfl rfl ?_
          refine x_ireturn C Rt dX5_compare_31 rfl ⟨Nat.le_of_ble_eq_true rfl, Nat.le_of_ble_eq_true rfl⟩ ?_
          simp only [Classical.not_not, hB_0p, hB_n0p, ti_0, ti_10000] at c_26
          exact ⟨_, rfl, by rw [sp_compare, spQ_f (by unfold cmpOk; omega)], rfl⟩
set_option maxHeartbeats 4000000 in
set_option maxRecDepth 100000 in
theorem c_X6_side (K : hKv) (M : hM) (p u v : Int) (hp : 0 ≤ p ∧ p ≤ 20000) (hu : 0 ≤ u ∧ u ≤ 100000000) (hv : 0 ≤ v ∧ v ≤ 100000000) : hC K Y_X6_side rm_X6_side [.long (lI p), .long (lI u), .long (lI v)] M (hPi fun r M1 => r = iI (sd p u v) ∧ M1 = M) := by
  refine hC.of [some (.long (lI p)), none, some (.long (lI u)), none, some (.long (lI v)), none, none, none, none, none, none, none] (by decide) (Nat.le_of_ble_eq_true rfl) rfl rfl ?_
  intro E C Rt
  have C : hCx E K cX6_side 12 RX6 "side" rm_X6_side := C
  have hpp := mul_bd hp hp
  have h16 := mul_bd (B := 320000) (show 0 ≤ 16 * p ∧ 16 * p ≤ 320000 by omega) hp
  have h4 := mul_bd (B := 6400000000) (show 0 ≤ 16 * p * p ∧ 16 * p * p ≤ 6400000000 by omega) hu
  refine x_ldc2 (v := 4) 3 C dX6_side_0 rfl wq_X6_180 ?_
  refine x_lload_4 5 C dX6_side_3 rfl ?_
  refine x_lmul 6 C dX6_side_5 rfl ?_
  refine x_topl (v' := lI (4 * v)) (lI_mul 4 v) ?_
  refine x_ldc2 (v := 4) 9 C dX6_side_6 rfl wq_X6_180 ?_
  refine x_lload_2 10 C dX6_side_9 rfl ?_
  refine x_lmul 11 C dX6_side_10 rfl ?_
  refine x_topl (v' := lI (4 * u)) (lI_mul 4 u) ?_
  refine x_lsub 12 C dX6_side_11 rfl ?_
  refine x_topl (v' := lI (4 * v - 4 * u)) (lI_sub _ _) ?_
  refine x_lload_0 13 C dX6_side_12 rfl ?_
  refine x_lload_0 14 C dX6_side_13 rfl ?_
  refine x_lmul 15 C dX6_side_14 rfl ?_
  refine x_topl (v' := lI (p * p)) (lI_mul p p) ?_
  refine x_lsub 16 C dX6_side_15 rfl ?_
  refine x_topl (v' := lI (4 * v - 4 * u - p * p)) (lI_sub _ _) ?_
  refine x_lstore_6 18 C dX6_side_16 rfl rfl ?_
  refine x_lload_6 20 C dX6_side_18 rfl ?_
  refine x_lconst (v := 0) 21 C dX6_side_20 rfl rfl ?_
  refine x_lc_ge 25 27 C dX6_side_21 dX6_side_22 rfl rfl (fun c_21 => ?_) (fun c_21 => ?_)
  · have h0 : 0 ≤ 4 * v - 4 * u - p * p := (lI_0l (by omega)).mp c_21
    have hrr := mul_bd (B := 400000000) (C := 400000000) (show 0 ≤ 4 * v - 4 * u - p * p ∧ 4 * v - 4 * u - p * p ≤ 400000000 by omega) (show 0 ≤ 4 * v - 4 * u - p * p ∧ 4 * v - 4 * u - p * p ≤ 400000000 by omega)
    refine x_ldc2 (v := 16) 30 C dX6_side_27 rfl wq_X6_182 ?_
    refine x_lload_0 31 C dX6_side_30 rfl ?_
    refine x_lmul 32 C dX6_side_31 rfl ?_
    refine x_topl (v' := lI (16 * p)) (lI_mul 16 p) ?_
    refine x_lload_0 33 C dX6_side_32 rfl ?_
    refine x_lmul 34 C dX6_side_33 rfl ?_
    refine x_topl (v' := lI (16 * p * p)) (lI_mul _ _) ?_
    refine x_lload_2 35 C dX6_side_34 rfl ?_
    refine x_lmul 36 C dX6_side_35 rfl ?_
    refine x_topl (v' := lI (16 * p * p * u)) (lI_mul _ _) ?_
    refine x_lstore_8 38 C dX6_side_36 rfl rfl ?_
    refine x_lload_6 40 C dX6_side_38 rfl ?_
    refine x_lload_6 42 C dX6_side_40 rfl ?_
    refine x_lmul 43 C dX6_side_42 rfl ?_
    refine x_topl (v' := lI ((4 * v - 4 * u - p * p) * (4 * v - 4 * u - p * p))) (lI_mul _ _) ?_
    refine x_lstore_10 45 C dX6_side_43 rfl rfl ?_
    refine x_lload_8 47 C dX6_side_45 rfl ?_
    refine x_lload_10 49 C dX6_side_47 rfl ?_
    refine x_lc_le 53 57 C dX6_side_49 dX6_side_50 rfl rfl (fun c_49 => ?_) (fun c_49 => ?_)
    · refine x_lload_8 59 C dX6_side_57 rfl ?_
      refine x_lload_10 61 C dX6_side_59 rfl ?_
      refine x_lc_ge 65 69 C dX6_side_61 dX6_side_62 rfl rfl (fun c_61 => ?_) (fun c_61 => ?_)
      · refine x_iconst (v := 0) 70 C dX6_side_69 rfl rfl ?_
        refine x_ireturn C Rt dX6_side_70 rfl ⟨Nat.le_of_ble_eq_true rfl, Nat.le_of_ble_eq_true rfl⟩ ?_
        rw [lI_le (by omega) (by omega)] at c_49 c_61
        exact ⟨_, rfl, by rw [sd, if_neg (by omega), cmpI, if_neg (by omega), if_pos (by omega)]; rfl, rfl⟩
      · refine x_iconst (v := (-1)) 66 C dX6_side_65 rfl rfl ?_
        refine x_goto 70 C dX6_side_66 rfl ?_
        refine x_ireturn C Rt dX6_side_70 rfl ⟨Nat.le_of_ble_eq_true rfl, Nat.le_of_ble_eq_true rfl⟩ ?_
        rw [lI_le (by omega) (by omega)] at c_61
        exact ⟨_, rfl, by rw [sd, if_neg (by omega), cmpI, if_pos (by omega)]; rfl, rfl⟩
    · refine x_iconst (v := 1) 54 C dX6_side_53 rfl rfl ?_
      refine x_goto 70 C dX6_side_54 rfl ?_
      refine x_ireturn C Rt dX6_side_70 rfl ⟨Nat.le_of_ble_eq_true rfl, Nat.le_of_ble_eq_true rfl⟩ ?_
      rw [lI_le (by omega) (by omega)] at c_49
      exact ⟨_, rfl, by rw [sd, if_neg (by omega), cmpI, if_neg (by omega), if_neg (by omega)]; rfl, rfl⟩
  · refine x_iconst (v := 1) 26 C dX6_side_25 rfl rfl ?_
    refine x_ireturn C Rt dX6_side_26 rfl ⟨Nat.le_of_ble_eq_true rfl, Nat.le_of_ble_eq_true rfl⟩ ?_
    exact ⟨_, rfl, by rw [sd, if_pos (Int.not_le.mp fun z => c_21 ((lI_0l (by omega)).mpr z))]; rfl, rfl⟩
set_option maxHeartbeats 4000000 in
set_option maxRecDepth 100000 in
theorem c_X6_compare (K : hKv) (M : hM) (x : Nat) (a0 b0 c0 d0 : Int32) : hC K Y_X6_compare rm_X6_compare [.ref x, .int a0, .int b0, .int c0, .int d0] M (hPi fun r M1 => r = sp_compare a0 b0 c0 d0 ∧ M1 = M) := by
  refine hC.of [some (.ref x), some (.int a0), some (.int b0), some (.int c0), some (.int d0), none, none, none, none, none, none, none] (by decide) (Nat.le_of_ble_eq_true rfl) rfl rfl ?_
  intro E C Rt
  have C : hCx E K cX6_compare 12 RX6 "compare" rm_X6_compare := C
  refine x_iload_1 1 C dX6_compare_0 rfl ?_
  refine x_iconst (v := 0) 2 C dX6_compare_1 rfl rfl ?_
  refine x_sipush (v := 10000) 5 C dX6_compare_2 rfl rfl ?_
  refine x_callS 8 C (c_X6_in K _ _ _ _) hy_X6_in ws_X6_in lk_X6_57 dX6_compare_5 rfl ⟨Nat.le_of_ble_eq_true rfl, Nat.le_of_ble_eq_true rfl⟩ ⟨Nat.le_of_ble_eq_true rfl, Nat.le_of_ble_eq_true rfl⟩ (Nat.le_of_ble_eq_true rfl) rfl (k_0 rfl rfl (k_ip ?_))
  refine x_if_eq 11 45 C dX6_compare_8 rfl rfl (fun c_8 => ?_) (fun c_8 => ?_)
  · refine x_bipush (v := (-2)) 47 C dX6_compare_45 rfl rfl ?_
    refine x_ireturn C Rt dX6_compare_47 rfl ⟨Nat.le_of_ble_eq_true rfl, Nat.le_of_ble_eq_true rfl⟩ ?_
    simp only [Classical.not_not, hB_0p, hB_n0p, ti_0, ti_10000] at c_8
    exact ⟨_, rfl, by rw [sp_compare, spQ_f (by unfold cmpOk; omega)], rfl⟩
  · refine x_iload_2 12 C dX6_compare_11 rfl ?_
    refine x_iconst (v := 0) 13 C dX6_compare_12 rfl rfl ?_
    refine x_sipush (v := 10000) 16 C dX6_compare_13 rfl rfl ?_
    refine x_callS 19 C (c_X6_in K _ _ _ _) hy_X6_in ws_X6_in lk_X6_57 dX6_compare_16 rfl ⟨Nat.le_of_ble_eq_true rfl, Nat.le_of_ble_eq_true rfl⟩ ⟨Nat.le_of_ble_eq_true rfl, Nat.le_of_ble_eq_true rfl⟩ (Nat.le_of_ble_eq_true rfl) rfl (k_0 rfl rfl (k_ip ?_))
    refine x_if_eq 22 45 C dX6_compare_19 rfl rfl (fun c_19 => ?_) (fun c_19 => ?_)
    · refine x_bipush (v := (-2)) 47 C dX6_compare_45 rfl rfl ?_
      refine x_ireturn C Rt dX6_compare_47 rfl ⟨Nat.le_of_ble_eq_true rfl, Nat.le_of_ble_eq_true rfl⟩ ?_
      simp only [Classical.not_not, hB_0p, hB_n0p, ti_0, ti_10000] at c_19
      exact ⟨_, rfl, by rw [sp_compare, spQ_f (by unfold cmpOk; omega)], rfl⟩
    · refine x_iload_3 23 C dX6_compare_22 rfl ?_
      refine x_iconst (v := 0) 24 C dX6_compare_23 rfl rfl ?_
      refine x_sipush (v := 10000) 27 C dX6_compare_24 rfl rfl ?_
      refine x_callS 30 C (c_X6_in K _ _ _ _) hy_X6_in ws_X6_in lk_X6_57 dX6_compare_27 rfl ⟨Nat.le_of_ble_eq_true rfl, Nat.le_of_ble_eq_true rfl⟩ ⟨Nat.le_of_ble_eq_true rfl, Nat.le_of_ble_eq_true rfl⟩ (Nat.le_of_ble_eq_true rfl) rfl (k_0 rfl rfl (k_ip ?_))
      refine x_if_eq 33 45 C dX6_compare_30 rfl rfl (fun c_30 => ?_) (fun c_30 => ?_)
      · refine x_bipush (v := (-2)) 47 C dX6_compare_45 rfl rfl ?_
        refine x_ireturn C Rt dX6_compare_47 rfl ⟨Nat.le_of_ble_eq_true rfl, Nat.le_of_ble_eq_true rfl⟩ ?_
        simp only [Classical.not_not, hB_0p, hB_n0p, ti_0, ti_10000] at c_30
        exact ⟨_, rfl, by rw [sp_compare, spQ_f (by unfold cmpOk; omega)], rfl⟩
      · refine x_iload_4 35 C dX6_compare_33 rfl ?_
        refine x_iconst (v := 0) 36 C dX6_compare_35 rfl rfl ?_
        refine x_sipush (v := 10000) 39 C dX6_compare_36 rfl rfl ?_
        refine x_callS 42 C (c_X6_in K _ _ _ _) hy_X6_in ws_X6_in lk_X6_57 dX6_compare_39 rfl ⟨Nat.le_of_ble_eq_true rfl, Nat.le_of_ble_eq_true rfl⟩ ⟨Nat.le_of_ble_eq_true rfl, Nat.le_of_ble_eq_true rfl⟩ (Nat.le_of_ble_eq_true rfl) rfl (k_0 rfl rfl (k_ip ?_))
        refine x_if_ne 45 48 C dX6_compare_42 rfl rfl (fun c_42 => ?_) (fun c_42 => ?_)
        · simp only [Classical.not_not, hB_0p, hB_n0p, ti_0, ti_10000] at c_8 c_19 c_30 c_42
          obtain ⟨a, h_a, rfl⟩ := in_nI (b := 10000) c_8
          obtain ⟨b, h_b, rfl⟩ := in_nI (b := 10000) c_19
          obtain ⟨c, h_c, rfl⟩ := in_nI (b := 10000) c_30
          obtain ⟨d, h_d, rfl⟩ := in_nI (b := 10000) c_42
          have hs : cmpOk (nI a) (nI b) (nI c) (nI d) := ⟨c_8, c_19, c_30, c_42⟩
          have ab := mul_bd (B := 10000) (C := 10000) (x := a) (y := b) (by omega) (by omega)
          have cd := mul_bd (B := 10000) (C := 10000) (x := c) (y := d) (by omega) (by omega)
          have hsp : sp_compare (nI a) (nI b) (nI c) (nI d) = if sr (4 * a * b) (4 * c * d) (c + d - a - b) < 0 then 2 else iI (sr (4 * a * b) (4 * c * d) (c + d - a - b)) := by
            rw [sp_compare, spQ_t hs, nI_toI (by omega), nI_toI (by omega), nI_toI (by omega), nI_toI (by omega)]
          have m175 : ∀ (p u v s : Int), -1 ≤ s ∧ s ≤ 1 → s = sr (4 * a * b) (4 * c * d) (c + d - a - b) → hX E 0 0 175 [some (.ref x), some (.int (nI a)), some (.int (nI b)), some (.int (nI c)), some (.int (nI d)), some (.long (lI p)), none, some (.long (lI u)), none, some (.long (lI v)), none, some (.int (iI s))] [] M := by
            intro p u v s hb hs
            refine x_iload_11 177 C dX6_compare_175 rfl ?_
            refine x_if_ge 180 184 C dX6_compare_177 rfl rfl (fun c_177 => ?_) (fun c_177 => ?_)
            · refine x_iload_11 186 C dX6_compare_184 rfl ?_
              refine x_ireturn C Rt dX6_compare_186 rfl ⟨Nat.le_of_ble_eq_true rfl, Nat.le_of_ble_eq_true rfl⟩ ?_
              exact ⟨_, rfl, by rw [hsp, if_neg (by rw [← hs]; exact Int.not_lt.mpr ((iI_0l (by omega)).mp c_177)), ← hs], rfl⟩
            · refine x_iconst (v := 2) 181 C dX6_compare_180 rfl rfl ?_
              refine x_goto 186 C dX6_compare_181 rfl ?_
              refine x_ireturn C Rt dX6_compare_186 rfl ⟨Nat.le_of_ble_eq_true rfl, Nat.le_of_ble_eq_true rfl⟩ ?_
              exact ⟨_, rfl, by rw [hsp, if_pos (by rw [← hs]; exact Int.not_le.mp fun z => c_177 ((iI_0l (by omega)).mpr z))], rfl⟩
          have m74 : ∀ (p u v : Int), -20000 ≤ p ∧ p ≤ 20000 → 0 ≤ u ∧ u ≤ 100000000 → 0 ≤ v ∧ v ≤ 100000000 → cw p u v = sr (4 * a * b) (4 * c * d) (c + d - a - b) → hX E 0 0 74 [some (.ref x), some (.int (nI a)), some (.int (nI b)), some (.int (nI c)), some (.int (nI d)), some (.long (lI p)), none, some (.long (lI u)), none, some (.long (lI v)), none, none] [] M := by
            intro p u v hp hu hv hw
            have m134 : ¬ (0 < p ∧ u < v) → ¬ (p < 0 ∧ v < u) → hX E 0 0 134 [some (.ref x), some (.int (nI a)), some (.int (nI b)), some (.int (nI c)), some (.int (nI d)), some (.long (lI p)), none, some (.long (lI u)), none, some (.long (lI v)), none, none] [] M := by
              intro g1 g2
              refine x_lload_5 136 C dX6_compare_134 rfl ?_
              refine x_lconst (v := 0) 137 C dX6_compare_136 rfl rfl ?_
              refine x_lc_gt 141 149 C dX6_compare_137 dX6_compare_138 rfl rfl (fun c_137 => ?_) (fun c_137 => ?_)
              · rw [lI_0t (by omega)] at c_137
                have h_w : cw p u v = 1 := by rw [cw, if_neg g1, if_neg g2, if_pos (by omega)]
                refine x_iconst (v := 1) 150 C dX6_compare_149 rfl rfl ?_
                refine x_goto 173 C dX6_compare_150 rfl ?_
                refine x_istore_11 175 C dX6_compare_173 rfl rfl ?_
                exact m175 p u v 1 (by decide) (h_w.symm.trans hw)
              · rw [lI_0t (by omega)] at c_137
                refine x_lload_7 143 C dX6_compare_141 rfl ?_
                refine x_lload_9 145 C dX6_compare_143 rfl ?_
                refine x_lc_le 149 153 C dX6_compare_145 dX6_compare_146 rfl rfl (fun c_145 => ?_) (fun c_145 => ?_)
                · rw [lI_le (by omega) (by omega)] at c_145
                  refine x_lload_5 155 C dX6_compare_153 rfl ?_
                  refine x_lconst (v := 0) 156 C dX6_compare_155 rfl rfl ?_
                  refine x_lc_lt 160 168 C dX6_compare_156 dX6_compare_157 rfl rfl (fun c_156 => ?_) (fun c_156 => ?_)
                  · rw [lI_t0 (by omega)] at c_156
                    have h_w : cw p u v = -1 := by rw [cw, if_neg g1, if_neg g2, if_neg (by omega), if_pos (by omega)]
                    refine x_iconst (v := (-1)) 169 C dX6_compare_168 rfl rfl ?_
                    refine x_goto 173 C dX6_compare_169 rfl ?_
                    refine x_istore_11 175 C dX6_compare_173 rfl rfl ?_
                    exact m175 p u v (-1) (by decide) (h_w.symm.trans hw)
                  · rw [lI_t0 (by omega)] at c_156
                    refine x_lload_7 162 C dX6_compare_160 rfl ?_
                    refine x_lload_9 164 C dX6_compare_162 rfl ?_
                    refine x_lc_ge 168 172 C dX6_compare_164 dX6_compare_165 rfl rfl (fun c_164 => ?_) (fun c_164 => ?_)
                    · rw [lI_le (by omega) (by omega)] at c_164
                      have h_w : cw p u v = 0 := by rw [cw, if_neg g1, if_neg g2, if_neg (by omega), if_neg (by omega)]
                      refine x_iconst (v := 0) 173 C dX6_compare_172 rfl rfl ?_
                      refine x_istore_11 175 C dX6_compare_173 rfl rfl ?_
                      exact m175 p u v 0 (by decide) (h_w.symm.trans hw)
                    · rw [lI_le (by omega) (by omega)] at c_164
                      have h_w : cw p u v = -1 := by rw [cw, if_neg g1, if_neg g2, if_neg (by omega), if_pos (by omega)]
                      refine x_iconst (v := (-1)) 169 C dX6_compare_168 rfl rfl ?_
                      refine x_goto 173 C dX6_compare_169 rfl ?_
                      refine x_istore_11 175 C dX6_compare_173 rfl rfl ?_
                      exact m175 p u v (-1) (by decide) (h_w.symm.trans hw)
                · rw [lI_le (by omega) (by omega)] at c_145
                  have h_w : cw p u v = 1 := by rw [cw, if_neg g1, if_neg g2, if_pos (by omega)]
                  refine x_iconst (v := 1) 150 C dX6_compare_149 rfl rfl ?_
                  refine x_goto 173 C dX6_compare_150 rfl ?_
                  refine x_istore_11 175 C dX6_compare_173 rfl rfl ?_
                  exact m175 p u v 1 (by decide) (h_w.symm.trans hw)
            refine x_lload_5 76 C dX6_compare_74 rfl ?_
            refine x_lconst (v := 0) 77 C dX6_compare_76 rfl rfl ?_
            refine x_lc_le 81 103 C dX6_compare_77 dX6_compare_78 rfl rfl (fun c_77 => ?_) (fun c_77 => ?_)
            · rw [lI_l0 (by omega)] at c_77
              refine x_lload_5 105 C dX6_compare_103 rfl ?_
              refine x_lconst (v := 0) 106 C dX6_compare_105 rfl rfl ?_
              refine x_lc_ge 110 134 C dX6_compare_106 dX6_compare_107 rfl rfl (fun c_106 => ?_) (fun c_106 => ?_)
              · exact m134 (by first | omega | (rw [lI_le (by omega) (by omega)] at c_85; omega) | (rw [lI_l0 (by omega)] at c_77; omega)) (by first | omega | (rw [lI_0l (by omega)] at c_106; omega) | (rw [lI_le (by omega) (by omega)] at c_114; omega))
              · rw [lI_0l (by omega)] at c_106
                refine x_lload_7 112 C dX6_compare_110 rfl ?_
                refine x_lload_9 114 C dX6_compare_112 rfl ?_
                refine x_lc_le 118 134 C dX6_compare_114 dX6_compare_115 rfl rfl (fun c_114 => ?_) (fun c_114 => ?_)
                · exact m134 (by first | omega | (rw [lI_le (by omega) (by omega)] at c_85; omega) | (rw [lI_l0 (by omega)] at c_77; omega)) (by first | omega | (rw [lI_0l (by omega)] at c_106; omega) | (rw [lI_le (by omega) (by omega)] at c_114; omega))
                · rw [lI_le (by omega) (by omega)] at c_114
                  have h_w : cw p u v = -(sd (-p) v u) := by rw [cw, if_neg (by omega), if_pos (by omega)]
                  refine x_lload_5 120 C dX6_compare_118 rfl ?_
                  
                  refine x_lneg 121 C dX6_compare_120 rfl ?_
                  refine x_topl (v' := lI (-p)) (lI_neg p) ?_
                  refine x_lload_9 123 C dX6_compare_121 rfl ?_
                  refine x_lload_7 125 C dX6_compare_123 rfl ?_
                  refine x_callS 128 C (c_X6_side K _ (-p) v u (by omega) hv hu) hy_X6_side ws_X6_side lk_X6_184 dX6_compare_125 rfl ⟨Nat.le_of_ble_eq_true rfl, Nat.le_of_ble_eq_true rfl⟩ ⟨Nat.le_of_ble_eq_true rfl, Nat.le_of_ble_eq_true rfl⟩ (Nat.le_of_ble_eq_true rfl) rfl (k_0 rfl rfl (k_ip ?_))
                  refine x_ineg 129 C dX6_compare_128 rfl ?_
                  refine x_topi (iI_neg _) ?_
                  refine x_istore_11 131 C dX6_compare_129 rfl rfl ?_
                  refine x_goto 175 C dX6_compare_131 rfl ?_
                  exact m175 p u v _ (by have := sd_bd (-p) v u; omega) (h_w.symm.trans hw)
            · rw [lI_l0 (by omega)] at c_77
              refine x_lload_7 83 C dX6_compare_81 rfl ?_
              refine x_lload_9 85 C dX6_compare_83 rfl ?_
              refine x_lc_ge 89 103 C dX6_compare_85 dX6_compare_86 rfl rfl (fun c_85 => ?_) (fun c_85 => ?_)
              · rw [lI_le (by omega) (by omega)] at c_85
                refine x_lload_5 105 C dX6_compare_103 rfl ?_
                refine x_lconst (v := 0) 106 C dX6_compare_105 rfl rfl ?_
                refine x_lc_ge 110 134 C dX6_compare_106 dX6_compare_107 rfl rfl (fun c_106 => ?_) (fun c_106 => ?_)
                · exact m134 (by first | omega | (rw [lI_le (by omega) (by omega)] at c_85; omega) | (rw [lI_l0 (by omega)] at c_77; omega)) (by first | omega | (rw [lI_0l (by omega)] at c_106; omega) | (rw [lI_le (by omega) (by omega)] at c_114; omega))
                · rw [lI_0l (by omega)] at c_106
                  refine x_lload_7 112 C dX6_compare_110 rfl ?_
                  refine x_lload_9 114 C dX6_compare_112 rfl ?_
                  refine x_lc_le 118 134 C dX6_compare_114 dX6_compare_115 rfl rfl (fun c_114 => ?_) (fun c_114 => ?_)
                  · exact m134 (by first | omega | (rw [lI_le (by omega) (by omega)] at c_85; omega) | (rw [lI_l0 (by omega)] at c_77; omega)) (by first | omega | (rw [lI_0l (by omega)] at c_106; omega) | (rw [lI_le (by omega) (by omega)] at c_114; omega))
                  · rw [lI_le (by omega) (by omega)] at c_114
                    have h_w : cw p u v = -(sd (-p) v u) := by rw [cw, if_neg (by omega), if_pos (by omega)]
                    refine x_lload_5 120 C dX6_compare_118 rfl ?_
                    
                    refine x_lneg 121 C dX6_compare_120 rfl ?_
                    refine x_topl (v' := lI (-p)) (lI_neg p) ?_
                    refine x_lload_9 123 C dX6_compare_121 rfl ?_
                    refine x_lload_7 125 C dX6_compare_123 rfl ?_
                    refine x_callS 128 C (c_X6_side K _ (-p) v u (by omega) hv hu) hy_X6_side ws_X6_side lk_X6_184 dX6_compare_125 rfl ⟨Nat.le_of_ble_eq_true rfl, Nat.le_of_ble_eq_true rfl⟩ ⟨Nat.le_of_ble_eq_true rfl, Nat.le_of_ble_eq_true rfl⟩ (Nat.le_of_ble_eq_true rfl) rfl (k_0 rfl rfl (k_ip ?_))
                    refine x_ineg 129 C dX6_compare_128 rfl ?_
                    refine x_topi (iI_neg _) ?_
                    refine x_istore_11 131 C dX6_compare_129 rfl rfl ?_
                    refine x_goto 175 C dX6_compare_131 rfl ?_
                    exact m175 p u v _ (by have := sd_bd (-p) v u; omega) (h_w.symm.trans hw)
              · rw [lI_le (by omega) (by omega)] at c_85
                have h_w : cw p u v = sd p u v := by rw [cw, if_pos (by omega)]
                refine x_lload_5 91 C dX6_compare_89 rfl ?_
                refine x_lload_7 93 C dX6_compare_91 rfl ?_
                refine x_lload_9 95 C dX6_compare_93 rfl ?_
                refine x_callS 98 C (c_X6_side K _ p u v (by omega) hu hv) hy_X6_side ws_X6_side lk_X6_184 dX6_compare_95 rfl ⟨Nat.le_of_ble_eq_true rfl, Nat.le_of_ble_eq_true rfl⟩ ⟨Nat.le_of_ble_eq_true rfl, Nat.le_of_ble_eq_true rfl⟩ (Nat.le_of_ble_eq_true rfl) rfl (k_0 rfl rfl (k_ip ?_))
                refine x_istore_11 100 C dX6_compare_98 rfl rfl ?_
                refine x_goto 175 C dX6_compare_100 rfl ?_
                exact m175 p u v _ (sd_bd _ _ _) (h_w.symm.trans hw)
          refine x_iload_1 49 C dX6_compare_48 rfl ?_
          refine x_iload_2 50 C dX6_compare_49 rfl ?_
          refine x_iadd 51 C dX6_compare_50 rfl ?_
          refine x_iload_3 52 C dX6_compare_51 rfl ?_
          refine x_isub 53 C dX6_compare_52 rfl ?_
          refine x_iload_4 55 C dX6_compare_53 rfl ?_
          refine x_isub 56 C dX6_compare_55 rfl ?_
          refine x_i2l 57 C dX6_compare_56 rfl ?_
          refine x_topl (v' := lI ((a : Int) + b - c - d)) (by rw [nI_iI, nI_iI, nI_iI, nI_iI, iI_add, iI_sub, iI_sub, iI_l (by omega) (by omega)]) ?_
          refine x_lstore_5 59 C dX6_compare_57 rfl rfl ?_
          refine x_iload_1 60 C dX6_compare_59 rfl ?_
          refine x_i2l 61 C dX6_compare_60 rfl ?_
          refine x_topl (v' := lI ((a : Int))) (nI_lI (by omega)) ?_
          refine x_iload_2 62 C dX6_compare_61 rfl ?_
          refine x_i2l 63 C dX6_compare_62 rfl ?_
          refine x_topl (v' := lI ((b : Int))) (nI_lI (by omega)) ?_
          refine x_lmul 64 C dX6_compare_63 rfl ?_
          refine x_topl (v' := lI ((a : Int) * b)) (lI_mul _ _) ?_
          refine x_lstore_7 66 C dX6_compare_64 rfl rfl ?_
          refine x_iload_3 67 C dX6_compare_66 rfl ?_
          refine x_i2l 68 C dX6_compare_67 rfl ?_
          refine x_topl (v' := lI ((c : Int))) (nI_lI (by omega)) ?_
          refine x_iload_4 70 C dX6_compare_68 rfl ?_
          refine x_i2l 71 C dX6_compare_70 rfl ?_
          refine x_topl (v' := lI ((d : Int))) (nI_lI (by omega)) ?_
          refine x_lmul 72 C dX6_compare_71 rfl ?_
          refine x_topl (v' := lI ((c : Int) * d)) (lI_mul _ _) ?_
          refine x_lstore_9 74 C dX6_compare_72 rfl rfl ?_
          exact m74 _ _ _ (by omega) (by omega) (by omega) (by rw [cw_sr, Int.mul_assoc, Int.mul_assoc]; congr 1; omega)
        · refine x_bipush (v := (-2)) 47 C dX6_compare_45 rfl rfl ?_
          refine x_ireturn C Rt dX6_compare_47 rfl ⟨Nat.le_of_ble_eq_true rfl, Nat.le_of_ble_eq_true rfl⟩ ?_
          simp only [Classical.not_not, hB_0p, hB_n0p, ti_0, ti_10000] at c_42
          exact ⟨_, rfl, by rw [sp_compare, spQ_f (by unfold cmpOk; omega)], rfl⟩
