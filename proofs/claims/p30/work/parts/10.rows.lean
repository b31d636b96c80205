section Rows4
variable {E : hEv} {K : hKv} {cc : ByteArray} {n : Nat} {own nm : String} {R : Room} {cells slots pc : Nat} {lo : List (Option Value)} {st : List Value} {M : hM}
theorem x_up {M : hM} {a t : Nat} {e : va_E} (kk : ∀ M' : hM, M' a = some (t, e) → (∀ b, b ≠ a → M' b = M b) → M' = hU M a t e → hX E cells slots pc lo st M') : hX E cells slots pc lo st (hU M a t e) := kk _ hU_s (fun b h => hU_n h) rfl
theorem x_lc_eq (q t : Nat) (C : hCx E K cc n own nm R) {off : Int} {x y : Int64} (hd : decode cc pc = .ok (.lcmp, 1)) (hd2 : decode cc (pc + 1) = .ok (.ifCond .eq off, 3)) (hq : pc + 4 = q) (ht : ((pc + 1 : Nat) : Int) + off = (t : Int)) (kt : x = y → hX E cells slots t lo st M) (kf : ¬ x = y → hX E cells slots q lo st M) : hX E cells slots pc lo (.long y :: .long x :: st) M :=
  x_lcmp (pc + 1) C hd rfl (x_if_eq q t C hd2 (by omega) ht (fun z => kt ((lg_cmp_eq x y).mp z)) (fun z => kf (fun w => z ((lg_cmp_eq x y).mpr w))))
theorem x_lc_ne (q t : Nat) (C : hCx E K cc n own nm R) {off : Int} {x y : Int64} (hd : decode cc pc = .ok (.lcmp, 1)) (hd2 : decode cc (pc + 1) = .ok (.ifCond .ne off, 3)) (hq : pc + 4 = q) (ht : ((pc + 1 : Nat) : Int) + off = (t : Int)) (kt : ¬ x = y → hX E cells slots t lo st M) (kf : x = y → hX E cells slots q lo st M) : hX E cells slots pc lo (.long y :: .long x :: st) M :=
  x_lcmp (pc + 1) C hd rfl (x_if_ne q t C hd2 (by omega) ht (fun z => kt (fun w => z ((lg_cmp_eq x y).mpr w))) (fun z => kf ((lg_cmp_eq x y).mp z)))
theorem x_lc_lt (q t : Nat) (C : hCx E K cc n own nm R) {off : Int} {x y : Int64} (hd : decode cc pc = .ok (.lcmp, 1)) (hd2 : decode cc (pc + 1) = .ok (.ifCond .lt off, 3)) (hq : pc + 4 = q) (ht : ((pc + 1 : Nat) : Int) + off = (t : Int)) (kt : x < y → hX E cells slots t lo st M) (kf : ¬ x < y → hX E cells slots q lo st M) : hX E cells slots pc lo (.long y :: .long x :: st) M :=
  x_lcmp (pc + 1) C hd rfl (x_if_lt q t C hd2 (by omega) ht (fun z => kt ((lg_cmp_lt x y).mp z)) (fun z => kf (fun w => z ((lg_cmp_lt x y).mpr w))))
theorem x_lc_ge (q t : Nat) (C : hCx E K cc n own nm R) {off : Int} {x y : Int64} (hd : decode cc pc = .ok (.lcmp, 1)) (hd2 : decode cc (pc + 1) = .ok (.ifCond .ge off, 3)) (hq : pc + 4 = q) (ht : ((pc + 1 : Nat) : Int) + off = (t : Int)) (kt : y ≤ x → hX E cells slots t lo st M) (kf : ¬ y ≤ x → hX E cells slots q lo st M) : hX E cells slots pc lo (.long y :: .long x :: st) M :=
  x_lcmp (pc + 1) C hd rfl (x_if_ge q t C hd2 (by omega) ht (fun z => kt ((lg_cmp_ge x y).mp z)) (fun z => kf (fun w => z ((lg_cmp_ge x y).mpr w))))
theorem x_lc_gt (q t : Nat) (C : hCx E K cc n own nm R) {off : Int} {x y : Int64} (hd : decode cc pc = .ok (.lcmp, 1)) (hd2 : decode cc (pc + 1) = .ok (.ifCond .gt off, 3)) (hq : pc + 4 = q) (ht : ((pc + 1 : Nat) : Int) + off = (t : Int)) (kt : y < x → hX E cells slots t lo st M) (kf : ¬ y < x → hX E cells slots q lo st M) : hX E cells slots pc lo (.long y :: .long x :: st) M :=
  x_lcmp (pc + 1) C hd rfl (x_if_gt q t C hd2 (by omega) ht (fun z => kt ((lg_cmp_gt x y).mp z)) (fun z => kf (fun w => z ((lg_cmp_gt x y).mpr w))))
theorem x_lc_le (q t : Nat) (C : hCx E K cc n own nm R) {off : Int} {x y : Int64} (hd : decode cc pc = .ok (.lcmp, 1)) (hd2 : decode cc (pc + 1) = .ok (.ifCond .le off, 3)) (hq : pc + 4 = q) (ht : ((pc + 1 : Nat) : Int) + off = (t : Int)) (kt : x ≤ y → hX E cells slots t lo st M) (kf : ¬ x ≤ y → hX E cells slots q lo st M) : hX E cells slots pc lo (.long y :: .long x :: st) M :=
  x_lcmp (pc + 1) C hd rfl (x_if_le q t C hd2 (by omega) ht (fun z => kt ((lg_cmp_le x y).mp z)) (fun z => kf (fun w => z ((lg_cmp_le x y).mpr w))))
theorem k_iq {P : Int32 → Prop} (h : ∀ r, P r → hX E cells slots pc lo (.int r :: st) M) : ∀ v M', hPi (fun r M' => P r ∧ M' = M) v M' → hX E cells slots pc lo (v.toList ++ st) M' := fun v M' ⟨r, hr, hp⟩ => by obtain ⟨h1, h2⟩ := hp; subst hr; subst h2; exact h r h1
theorem k_lq {P : Int64 → Prop} (h : ∀ r, P r → hX E cells slots pc lo (.long r :: st) M) : ∀ v M', hPl (fun r M' => P r ∧ M' = M) v M' → hX E cells slots pc lo (v.toList ++ st) M' := fun v M' ⟨r, hr, hp⟩ => by obtain ⟨h1, h2⟩ := hp; subst hr; subst h2; exact h r h1
theorem k_qq {P : Option Nat → Prop} (h : ∀ r, P r → hX E cells slots pc lo (va_rf r :: st) M) : ∀ v M', hPq (fun r M' => P r ∧ M' = M) v M' → hX E cells slots pc lo (v.toList ++ st) M' := fun v M' ⟨r, hr, hp⟩ => by obtain ⟨h1, h2⟩ := hp; subst hr; subst h2; exact h r h1
end Rows4
theorem nI_inc (a : Nat) : nI a + Int32.ofInt 1 = nI (a + 1) := nI_1 a
def hB (b : Bool) : Int32 := cond b 1 0
theorem hB_0 {b : Bool} : hB b = 0 ↔ b = false := by cases b <;> decide
theorem hB_n0 {b : Bool} : ¬ hB b = 0 ↔ b = true := by cases b <;> decide
theorem hB_t {b : Bool} (h : b = true) : hB b = 1 := by rw [h]; rfl
theorem hB_f {b : Bool} (h : b = false) : hB b = 0 := by rw [h]; rfl
theorem hB_nar {b : Bool} : narrow .boolean (.int (hB b)) = .int (hB b) := by cases b <;> rfl
theorem hB_if {p : Prop} [Decidable p] (h : p) : hB (decide p) = 1 := by rw [decide_eq_true h]; rfl
theorem hB_ifn {p : Prop} [Decidable p] (h : ¬ p) : hB (decide p) = 0 := by rw [decide_eq_false h]; rfl
theorem hB_0p {p : Prop} [Decidable p] : hB (decide p) = 0 ↔ ¬ p := by rw [hB_0, decide_eq_false_iff_not]
theorem hB_n0p {p : Prop} [Decidable p] : ¬ hB (decide p) = 0 ↔ p := by rw [hB_n0, decide_eq_true_iff]
theorem h_ne_OA {M : hM} {a b t u ci : Nat} {fs : List Value} {x : ClassId × vp_A} (ha : M a = some (t, eO ci fs)) (hb : M b = some (u, .inl x)) : a ≠ b := by
  rintro rfl
  rw [ha] at hb
  cases hb
theorem h_ne_OO {M : hM} {a b t u ci cj : Nat} {fs gs : List Value} (ha : M a = some (t, eO ci fs)) (hb : M b = some (u, eO cj gs)) (h : ci ≠ cj) : a ≠ b := by
  rintro rfl
  rw [ha] at hb
  cases hb
  exact h rfl
def hKd : va_E → Nat
  | .inl (_, _, .inl _) => 0
  | .inl (_, _, .inr (.inl _)) => 1
  | .inl (_, _, .inr (.inr (.inl _))) => 2
  | .inl (_, _, .inr (.inr (.inr (.inl _)))) => 3
  | .inl (_, _, .inr (.inr (.inr (.inr _)))) => 4
  | .inr (k, _) => 5 + k
theorem h_ne_kd {M : hM} {a b t u : Nat} {e f : va_E} (ha : M a = some (t, e)) (hb : M b = some (u, f)) (h : hKd e ≠ hKd f) : a ≠ b := by
  rintro rfl
  rw [ha] at hb
  exact h (congrArg (fun o => match o with | some (_, e) => hKd e | none => 0) hb)
abbrev rm_X0_init : Room := { frames := 1, cells := 1, slots := 60, locals := 21 }
abbrev rm_X0_cellsNamed : Room := { frames := 1, cells := 0, slots := 0, locals := 25 }
abbrev rm_X0_rootsInside : Room := { frames := 0, cells := 0, slots := 0, locals := 0 }
abbrev rm_X1_init : Room := { frames := 1, cells := 0, slots := 0, locals := 20 }
abbrev rm_X2_init : Room := { frames := 1, cells := 2, slots := 120, locals := 20 }
abbrev rm_X2_faultOf : Room := { frames := 5, cells := 0, slots := 0, locals := 106 }
abbrev rm_X2_takes : Room := { frames := 4, cells := 0, slots := 0, locals := 85 }
abbrev rm_X2_takesFactor : Room := { frames := 1, cells := 0, slots := 0, locals := 25 }
abbrev rm_X2_takesDigit : Room := { frames := 0, cells := 0, slots := 0, locals := 0 }
abbrev rm_X2_takesBehind : Room := { frames := 3, cells := 0, slots := 0, locals := 63 }
abbrev rm_X2_closeBracket : Room := { frames := 2, cells := 0, slots := 0, locals := 42 }
abbrev rm_X2_release : Room := { frames := 1, cells := 0, slots := 0, locals := 21 }
abbrev rm_X2_strengthOf : Room := { frames := 0, cells := 0, slots := 0, locals := 0 }
abbrev rm_X2_isDigit : Room := { frames := 0, cells := 0, slots := 0, locals := 0 }
abbrev rm_X2_addStep : Room := { frames := 0, cells := 0, slots := 0, locals := 0 }
abbrev rm_X2_push : Room := { frames := 0, cells := 0, slots := 0, locals := 0 }
abbrev rm_X2_top : Room := { frames := 0, cells := 0, slots := 0, locals := 0 }
abbrev rm_X3_init : Room := { frames := 1, cells := 2, slots := 120, locals := 20 }
abbrev rm_X3_reckon : Room := { frames := 5, cells := 0, slots := 0, locals := 125 }
abbrev rm_X3_numberOf : Room := { frames := 4, cells := 0, slots := 0, locals := 100 }
abbrev rm_X3_product : Room := { frames := 0, cells := 0, slots := 0, locals := 0 }
abbrev rm_X3_result : Room := { frames := 1, cells := 0, slots := 0, locals := 21 }
abbrev rm_X3_valueOf : Room := { frames := 0, cells := 0, slots := 0, locals := 0 }
abbrev rm_X3_push : Room := { frames := 0, cells := 0, slots := 0, locals := 0 }
abbrev rm_X3_pop : Room := { frames := 0, cells := 0, slots := 0, locals := 0 }
abbrev rm_X4_init : Room := { frames := 1, cells := 3, slots := 16, locals := 20 }
abbrev rm_X4_become : Room := { frames := 1, cells := 0, slots := 0, locals := 21 }
abbrev rm_X4_setting : Room := { frames := 0, cells := 0, slots := 0, locals := 0 }
abbrev rm_X4_changeSetting : Room := { frames := 0, cells := 0, slots := 0, locals := 0 }
abbrev rm_X4_cellValue : Room := { frames := 0, cells := 0, slots := 0, locals := 0 }
abbrev rm_X4_changeCell : Room := { frames := 0, cells := 0, slots := 0, locals := 0 }
abbrev rm_X4_formula : Room := { frames := 0, cells := 0, slots := 0, locals := 0 }
abbrev rm_X4_changeFormula : Room := { frames := 0, cells := 0, slots := 0, locals := 0 }
abbrev rm_X4_formulasThere : Room := { frames := 0, cells := 0, slots := 0, locals := 0 }
abbrev rm_X4_cellsNotZero : Room := { frames := 0, cells := 0, slots := 0, locals := 0 }
abbrev rm_X5_init : Room := { frames := 2, cells := 49, slots := 511, locals := 40 }
abbrev rm_X5_set : Room := { frames := 3, cells := 0, slots := 0, locals := 64 }
abbrev rm_X5_setCell : Room := { frames := 3, cells := 0, slots := 0, locals := 64 }
abbrev rm_X5_cell : Room := { frames := 1, cells := 0, slots := 0, locals := 25 }
abbrev rm_X5_put : Room := { frames := 2, cells := 0, slots := 0, locals := 49 }
abbrev rm_X5_wipe : Room := { frames := 0, cells := 0, slots := 0, locals := 0 }
abbrev rm_X5_fault : Room := { frames := 6, cells := 0, slots := 0, locals := 129 }
abbrev rm_X5_load : Room := { frames := 6, cells := 2, slots := 61, locals := 129 }
abbrev rm_X5_assign : Room := { frames := 6, cells := 0, slots := 0, locals := 150 }
abbrev rm_X5_settle : Room := { frames := 6, cells := 0, slots := 0, locals := 150 }
abbrev rm_X5_value : Room := { frames := 6, cells := 0, slots := 0, locals := 150 }
abbrev rm_X5_ofFormula : Room := { frames := 6, cells := 0, slots := 0, locals := 150 }
abbrev rm_X5_stepValue : Room := { frames := 6, cells := 0, slots := 0, locals := 150 }
abbrev rm_X5_count : Room := { frames := 1, cells := 0, slots := 0, locals := 22 }
abbrev rm_X5_root : Room := { frames := 4, cells := 0, slots := 0, locals := 100 }
abbrev rm_X5_remainder : Room := { frames := 3, cells := 0, slots := 0, locals := 72 }
abbrev rm_X5_bit : Room := { frames := 3, cells := 0, slots := 0, locals := 76 }
abbrev rm_X5_save : Room := { frames := 2, cells := 4, slots := 19, locals := 43 }
abbrev rm_X5_restore : Room := { frames := 3, cells := 0, slots := 0, locals := 64 }
abbrev rm_X5_keepState : Room := { frames := 2, cells := 0, slots := 0, locals := 43 }
abbrev rm_X5_stateIn : Room := { frames := 0, cells := 0, slots := 0, locals := 0 }
abbrev rm_X5_sizeOf : Room := { frames := 1, cells := 0, slots := 0, locals := 25 }
abbrev rm_X5_addToPad : Room := { frames := 0, cells := 0, slots := 0, locals := 0 }
abbrev rm_X5_within : Room := { frames := 0, cells := 0, slots := 0, locals := 0 }
abbrev rm_X5_power : Room := { frames := 0, cells := 0, slots := 0, locals := 0 }
abbrev rm_X5_firstBit : Room := { frames := 1, cells := 0, slots := 0, locals := 22 }
abbrev rm_X5_rootDown : Room := { frames := 2, cells := 0, slots := 0, locals := 46 }
abbrev rm_X5_rootRounded : Room := { frames := 3, cells := 0, slots := 0, locals := 72 }
abbrev rm_X5_bitsOfRoot : Room := { frames := 2, cells := 0, slots := 0, locals := 46 }
abbrev rm_X5_behindBit : Room := { frames := 2, cells := 0, slots := 0, locals := 46 }
abbrev rm_L_cell : Room := { frames := 0, cells := 0, slots := 0, locals := 0 }
abbrev rm_L_power : Room := { frames := 0, cells := 0, slots := 0, locals := 0 }
abbrev rm_L_root : Room := { frames := 1, cells := 0, slots := 0, locals := 22 }
abbrev rm_L_rounded : Room := { frames := 2, cells := 0, slots := 0, locals := 50 }
abbrev rm_L_step : Room := { frames := 0, cells := 0, slots := 0, locals := 0 }
abbrev rm_L_times : Room := { frames := 0, cells := 0, slots := 0, locals := 0 }
abbrev rm_L_number : Room := { frames := 3, cells := 0, slots := 0, locals := 73 }
abbrev rm_L_atom : Room := { frames := 4, cells := 0, slots := 0, locals := 97 }
abbrev rm_L_apply : Room := { frames := 1, cells := 0, slots := 0, locals := 23 }
abbrev rm_L_factor : Room := { frames := 5, cells := 0, slots := 0, locals := 123 }
abbrev rm_L_isLoaded : Room := { frames := 7, cells := 2, slots := 61, locals := 155 }
abbrev rm_L_isFormula : Room := { frames := 7, cells := 0, slots := 0, locals := 173 }
abbrev rm_L_isAssigned : Room := { frames := 7, cells := 0, slots := 0, locals := 173 }
abbrev rm_L_isSettled : Room := { frames := 7, cells := 4, slots := 19, locals := 175 }
abbrev rm_L_isCell : Room := { frames := 4, cells := 0, slots := 0, locals := 89 }
abbrev rm_L_value : Room := { frames := 1, cells := 0, slots := 0, locals := 22 }
abbrev rm_L_isRoot : Room := { frames := 5, cells := 0, slots := 0, locals := 123 }
abbrev rm_L_isAct : Room := { frames := 8, cells := 4, slots := 61, locals := 207 }
