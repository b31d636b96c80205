theorem spI_0 {p : Prop} : spQ p (1 : Int32) 0 = 0 ↔ ¬ p := by
  constructor
  · intro h q; rw [spQ_t q] at h; exact absurd h (by decide)
  · intro q; exact spQ_f q
theorem spI_n0 {p : Prop} : ¬ spQ p (1 : Int32) 0 = 0 ↔ p := by rw [spI_0]; exact Classical.not_not
/-- the formula is there -/
def isF (τ : hS1) (a : Int32) : Prop := (0 ≤ a.toInt ∧ a.toInt ≤ 5) ∧ τ.2.2.2 a.toInt.toNat ≠ []
def gF (τ : hS1) (a : Int32) : List (Nat × Nat) := τ.2.2.2 a.toInt.toNat
noncomputable def sp_load (σ : hSt) (a : Int32) : Int32 × hSt := spQ (0 ≤ a.toInt ∧ a.toInt ≤ 5) (match fltN σ.2.2.2 with
  | some _ => (-3, σ)
  | none => (nI (stpN σ.2.2.2).length, ((σ.1.1, σ.1.2.1, σ.1.2.2.1, va_up σ.1.2.2.2 a.toInt.toNat (stpN σ.2.2.2)), psh σ.2.1 σ.1, σ.2.2.1, []))) (-1, σ)
/-- which cells a formula names -/
def cOf (l : List (Nat × Nat)) : Nat → Int32
  | 0 => 0
  | n + 1 => cOf l n ||| (if (l.getD n (0, 0)).1 = 1 then 1 <<< (nI (l.getD n (0, 0)).2 &&& 31) else 0)
def rOf (l : List (Nat × Nat)) : Nat → Nat
  | 0 => 0
  | n + 1 => rOf l n + (if (l.getD n (0, 0)).1 = 113 ∨ (l.getD n (0, 0)).1 = 107 then 1 else 0)
theorem cOf_t {l : List (Nat × Nat)} {n : Nat} (h : (l.getD n (0, 0)).1 = 1) : cOf l (n + 1) = cOf l n ||| 1 <<< (nI (l.getD n (0, 0)).2 &&& 31) := by rw [cOf, if_pos h]
theorem cOf_f {l : List (Nat × Nat)} {n : Nat} (h : ¬ (l.getD n (0, 0)).1 = 1) : cOf l (n + 1) = cOf l n ||| 0 := by rw [cOf, if_neg h]
theorem rOf_t {l : List (Nat × Nat)} {n : Nat} (h : (l.getD n (0, 0)).1 = 113 ∨ (l.getD n (0, 0)).1 = 107) : nI (rOf l n) + 1 = nI (rOf l (n + 1)) := by rw [nI_1, rOf, if_pos h]
theorem rOf_f {l : List (Nat × Nat)} {n : Nat} (h : ¬ ((l.getD n (0, 0)).1 = 113 ∨ (l.getD n (0, 0)).1 = 107)) : nI (rOf l n) + 0 = nI (rOf l (n + 1)) := by rw [rOf, if_neg h]; exact Int32.add_zero _
theorem okP_n {s : Nat × Nat} (h : okP s) : s.1 < 128 ∧ s.2 ≤ 9999 := by
  rcases h with ⟨a, b⟩ | ⟨a, b⟩ | ⟨a, b⟩ <;> constructor <;> omega
theorem wf_at {l : List (Nat × Nat)} (h : wfF l) {k : Nat} (hk : k < l.length) : okP (l.getD k (0, 0)) := by
  apply h.1
  rw [List.getD_eq_getElem?_getD, List.getElem?_eq_getElem hk]
  exact List.getElem_mem hk
/-- the steps of a formula, put one after the other -/
def stM (g f : Nat → Int32) (b : Nat) (l : List (Nat × Nat)) (n : Nat) : Prop := (∀ k, (k < b ∨ b + 2 * n ≤ k) → f k = g k) ∧ ∀ k, k < n → f (b + 2 * k) = nI (l.getD k (0, 0)).1 ∧ f (b + 2 * k + 1) = nI (l.getD k (0, 0)).2
theorem stM_s {g f : Nat → Int32} {b n : Nat} {l : List (Nat × Nat)} (h : stM g f b l n) : stM g (va_up (va_up f (b + 2 * n) (nI (l.getD n (0, 0)).1)) (b + 2 * n + 1) (nI (l.getD n (0, 0)).2)) b l (n + 1) := by
  refine ⟨fun k hk => ?_, fun k hk => ?_⟩
  · rw [va_up_ne _ _ (by omega), va_up_ne _ _ (by omega)]; exact h.1 k (by omega)
  · by_cases e : k = n
    · subst e
      exact ⟨by rw [va_up_ne _ _ (by omega), va_up_self], va_up_self _ _ _⟩
    · rw [va_up_ne _ _ (by omega), va_up_ne _ _ (by omega), va_up_ne _ _ (by omega), va_up_ne _ _ (by omega)]
      exact h.2 k (by omega)
theorem encN_load {τ : hS1} {g f : Nat → Int32} {a : Nat} {l : List (Nat × Nat)} (h : encN τ g) (hl : ∀ i, i < 6 → (τ.2.2.2 i).length ≤ 60) (ha : a < 6) (hl60 : l.length ≤ 60) (hs : stM (va_up g (2 + a) (nI l.length)) f (8 + 120 * a) l l.length) : encN (τ.1, τ.2.1, τ.2.2.1, va_up τ.2.2.2 a l) f := by
  obtain ⟨h1, h2, h3⟩ := h
  refine ⟨?_, ?_, fun i hi => ?_⟩
  · rw [hs.1 0 (by omega), va_up_ne _ _ (by omega)]; exact h1
  · rw [hs.1 1 (by omega), va_up_ne _ _ (by omega)]; exact h2
  · by_cases e : i = a
    · subst e
      show f (2 + i) = nI (va_up τ.2.2.2 i l i).length ∧ ∀ k, k < (va_up τ.2.2.2 i l i).length → f (8 + 120 * i + 2 * k) = nI ((va_up τ.2.2.2 i l i).getD k (0, 0)).1 ∧ f (8 + 120 * i + 2 * k + 1) = nI ((va_up τ.2.2.2 i l i).getD k (0, 0)).2
      rw [va_up_self]
      exact ⟨by rw [hs.1 _ (by omega), va_up_self], hs.2⟩
    · show f (2 + i) = nI (va_up τ.2.2.2 a l i).length ∧ ∀ k, k < (va_up τ.2.2.2 a l i).length → f (8 + 120 * i + 2 * k) = nI ((va_up τ.2.2.2 a l i).getD k (0, 0)).1 ∧ f (8 + 120 * i + 2 * k + 1) = nI ((va_up τ.2.2.2 a l i).getD k (0, 0)).2
      rw [va_up_ne _ _ e]
      have hli := hl i hi
      obtain ⟨q1, q2⟩ := h3 i hi
      refine ⟨by rw [hs.1 _ (by omega), va_up_ne _ _ (by omega)]; exact q1, fun k hk => ?_⟩
      obtain ⟨p1, p2⟩ := q2 k hk
      exact ⟨by rw [hs.1 _ (by omega), va_up_ne _ _ (by omega)]; exact p1, by rw [hs.1 _ (by omega), va_up_ne _ _ (by omega)]; exact p2⟩
set_option maxHeartbeats 4000000 in
set_option maxRecDepth 100000 in
theorem c_X6_isFormula (K : hKv) (M : hM) {A : Nat → Nat} {z : Nat → Int32} {F : Nat → Nat → Int32} {G : Nat → Nat → Int64} (W : mW K A z F G M) {τ : hS1} (hr : encN τ (F 1)) (ho : ok1 τ) (a : Int32) : hC K Y_X6_isFormula rm_X6_isFormula [.ref (A 0), .int a] M (hPi fun r M' => r = spQ (isF τ a) 1 0 ∧ M' = M) := by
  refine hC.of [some (.ref (A 0)), some (.int a)] (by decide) (Nat.le_of_ble_eq_true rfl) rfl rfl ?_
  intro E C Rt
  have C : hCx E K cX6_isFormula 2 RX6 "isFormula" rm_X6_isFormula := C
  refine x_iload_1 1 C dX6_isFormula_0 rfl ?_
  refine x_iconst (v := 0) 2 C dX6_isFormula_1 rfl rfl ?_
  refine x_iconst (v := 5) 3 C dX6_isFormula_2 rfl rfl ?_
  refine x_callS 6 C (c_X6_in K _ _ _ _) hy_X6_in ws_X6_in lk_X6_57 dX6_isFormula_3 rfl ⟨Nat.le_of_ble_eq_true rfl, Nat.le_of_ble_eq_true rfl⟩ ⟨Nat.le_of_ble_eq_true rfl, Nat.le_of_ble_eq_true rfl⟩ (Nat.le_of_ble_eq_true rfl) rfl (k_0 rfl rfl (k_ip ?_))
  refine x_if_eq 9 24 C dX6_isFormula_6 rfl rfl (fun c_6 => ?_) (fun c_6 => ?_)
  · refine x_iconst (v := 0) 25 C dX6_isFormula_24 rfl rfl ?_
    refine x_ireturn C Rt dX6_isFormula_25 rfl ⟨Nat.le_of_ble_eq_true rfl, Nat.le_of_ble_eq_true rfl⟩ ?_
    exact ⟨_, rfl, by rw [spQ_f (fun q => hB_0p.mp c_6 q.1)], rfl⟩
  · have hin := hB_n0p.mp c_6
    obtain ⟨j, hj, rfl⟩ := in_nI (b := 5) hin
    obtain ⟨q1, -⟩ := hr.2.2 j (by omega)
    have hl := ho.len j (by omega)
    refine x_aload_0 10 C dX6_isFormula_9 rfl ?_
    refine mOg_now 13 C wf_X6_7 W.obj dX6_isFormula_10 rfl ?_
    refine x_iconst (v := 2) 14 C dX6_isFormula_13 rfl rfl ?_
    refine x_iload_1 15 C dX6_isFormula_14 rfl ?_
    refine x_iadd 16 C dX6_isFormula_15 rfl ?_
    refine x_topi (nI_add 2 j) ?_
    refine x_iald 17 (2 + j) C W.now (rfl) (by omega) (by decide) dX6_isFormula_16 rfl ?_
    refine x_topi q1 ?_
    refine x_if_le 20 24 C dX6_isFormula_17 rfl rfl (fun c_17 => ?_) (fun c_17 => ?_)
    · refine x_iconst (v := 0) 25 C dX6_isFormula_24 rfl rfl ?_
      refine x_ireturn C Rt dX6_isFormula_25 rfl ⟨Nat.le_of_ble_eq_true rfl, Nat.le_of_ble_eq_true rfl⟩ ?_
      refine ⟨_, rfl, ?_, rfl⟩
      rw [spQ_f]
      intro q
      have h0 : (τ.2.2.2 j).length ≤ 0 := (nI_leI (b := 0) (by omega) (by decide)).mp c_17
      exact q.2 (by rw [nI_toN (by omega)]; exact List.length_eq_zero_iff.mp (by omega))
    · refine x_iconst (v := 1) 21 C dX6_isFormula_20 rfl rfl ?_
      refine x_goto 25 C dX6_isFormula_21 rfl ?_
      refine x_ireturn C Rt dX6_isFormula_25 rfl ⟨Nat.le_of_ble_eq_true rfl, Nat.le_of_ble_eq_true rfl⟩ ?_
      refine ⟨_, rfl, ?_, rfl⟩
      rw [spQ_t]
      exact ⟨hin, fun q => by rw [nI_toN (by omega)] at q; exact c_17 (by rw [q]; decide)⟩
set_option maxHeartbeats 4000000 in
set_option maxRecDepth 100000 in
theorem c_X6_cellsOf (K : hKv) (M : hM) {A : Nat → Nat} {z : Nat → Int32} {F : Nat → Nat → Int32} {G : Nat → Nat → Int64} (W : mW K A z F G M) {τ : hS1} (hr : encN τ (F 1)) (ho : ok1 τ) (j : Nat) (hj : j < 6) (hw : wfF (τ.2.2.2 j)) : hC K Y_X6_cellsOf rm_X6_cellsOf [.ref (A 0), .int (nI j)] M (hPi fun r M' => r = cOf (τ.2.2.2 j) (τ.2.2.2 j).length ∧ M' = M) := by
  refine hC.of [some (.ref (A 0)), some (.int (nI j)), none, none, none] (by decide) (Nat.le_of_ble_eq_true rfl) rfl rfl ?_
  intro E C Rt
  have C : hCx E K cX6_cellsOf 5 RX6 "cellsOf" rm_X6_cellsOf := C
  have hl := hw.2.2
  obtain ⟨q1, q2⟩ := hr.2.2 j hj
  have lp : ∀ (d n : Nat), n + d = (τ.2.2.2 j).length → ∀ l4 : Option Value, hX E 0 0 4 [some (.ref (A 0)), some (.int (nI j)), some (.int (cOf (τ.2.2.2 j) n)), some (.int (nI n)), l4] [] M := by
    intro d
    induction d with
    | zero =>
      intro n hn l4
      have hn : n = (τ.2.2.2 j).length := by omega
      subst hn
      refine x_iload_3 5 C dX6_cellsOf_4 rfl ?_
      refine x_aload_0 6 C dX6_cellsOf_5 rfl ?_
      refine mOg_now 9 C wf_X6_7 W.obj dX6_cellsOf_6 rfl ?_
      refine x_iconst (v := 2) 10 C dX6_cellsOf_9 rfl rfl ?_
      refine x_iload_1 11 C dX6_cellsOf_10 rfl ?_
      refine x_iadd 12 C dX6_cellsOf_11 rfl ?_
      refine x_topi (nI_add 2 j) ?_
      refine x_iald 13 (2 + j) C W.now (rfl) (by omega) (by decide) dX6_cellsOf_12 rfl ?_
      refine x_topi q1 ?_
      refine x_icmp_ge 16 64 C dX6_cellsOf_13 rfl rfl (fun _ => ?_) (fun z => absurd (nI_le (Nat.le_refl _) (by omega)) z)
      refine x_iload_2 65 C dX6_cellsOf_64 rfl ?_
      refine x_ireturn C Rt dX6_cellsOf_65 rfl ⟨Nat.le_of_ble_eq_true rfl, Nat.le_of_ble_eq_true rfl⟩ ?_
      exact ⟨_, rfl, rfl, rfl⟩
    | succ d ih =>
      intro n hn l4
      have hn8 : n < (τ.2.2.2 j).length := by omega
      obtain ⟨p1, p2⟩ := q2 n hn8
      have hok := okP_n (wf_at hw hn8)
      refine x_iload_3 5 C dX6_cellsOf_4 rfl ?_
      refine x_aload_0 6 C dX6_cellsOf_5 rfl ?_
      refine mOg_now 9 C wf_X6_7 W.obj dX6_cellsOf_6 rfl ?_
      refine x_iconst (v := 2) 10 C dX6_cellsOf_9 rfl rfl ?_
      refine x_iload_1 11 C dX6_cellsOf_10 rfl ?_
      refine x_iadd 12 C dX6_cellsOf_11 rfl ?_
      refine x_topi (nI_add 2 j) ?_
      refine x_iald 13 (2 + j) C W.now (rfl) (by omega) (by decide) dX6_cellsOf_12 rfl ?_
      refine x_topi q1 ?_
      refine x_icmp_ge 16 64 C dX6_cellsOf_13 rfl rfl (fun z => absurd z (nI_ge hn8 (by omega))) (fun _ => ?_)
      refine x_bipush (v := 8) 18 C dX6_cellsOf_16 rfl rfl ?_
      refine x_bipush (v := 120) 20 C dX6_cellsOf_18 rfl rfl ?_
      refine x_iload_1 21 C dX6_cellsOf_20 rfl ?_
      refine x_imul 22 C dX6_cellsOf_21 rfl ?_
      refine x_topi (pk_mul 120 j) ?_
      refine x_iadd 23 C dX6_cellsOf_22 rfl ?_
      refine x_topi (nI_add 8 _) ?_
      refine x_iconst (v := 2) 24 C dX6_cellsOf_23 rfl rfl ?_
      refine x_iload_3 25 C dX6_cellsOf_24 rfl ?_
      refine x_imul 26 C dX6_cellsOf_25 rfl ?_
      refine x_topi (pk_mul 2 n) ?_
      refine x_iadd 27 C dX6_cellsOf_26 rfl ?_
      refine x_topi (nI_add _ _) ?_
      refine x_istore_4 29 C dX6_cellsOf_27 rfl rfl ?_
      refine x_iload_2 30 C dX6_cellsOf_29 rfl ?_
      refine x_aload_0 31 C dX6_cellsOf_30 rfl ?_
      refine mOg_now 34 C wf_X6_7 W.obj dX6_cellsOf_31 rfl ?_
      refine x_iload_4 36 C dX6_cellsOf_34 rfl ?_
      refine x_iald 37 (8 + 120 * j + 2 * n) C W.now (rfl) (by omega) (by decide) dX6_cellsOf_36 rfl ?_
      refine x_topi p1 ?_
      refine x_iconst (v := 1) 38 C dX6_cellsOf_37 rfl rfl ?_
      refine x_icmp_ne 41 55 C dX6_cellsOf_38 rfl rfl (fun c_38 => ?_) (fun c_38 => ?_)
      · have hk : ¬ ((τ.2.2.2 j).getD n (0, 0)).1 = 1 := fun q => c_38 (by rw [q]; rfl)
        refine x_iconst (v := 0) 56 C dX6_cellsOf_55 rfl rfl ?_
        refine x_ior 57 C dX6_cellsOf_56 rfl ?_
        refine x_istore_2 58 C dX6_cellsOf_57 rfl rfl ?_
        refine x_iinc_3 61 C dX6_cellsOf_58 rfl rfl (nI_inc _) ?_
        refine x_goto 4 C dX6_cellsOf_61 rfl ?_
        first | rw [← cOf_t hk] | rw [← cOf_f hk]
        exact ih (n + 1) (by omega) _
      · have hk : ((τ.2.2.2 j).getD n (0, 0)).1 = 1 := (nI_c (k := 1) (by omega) (by decide)).mp (by first | exact c_38 | exact Decidable.not_not.mp c_38)
        refine x_iconst (v := 1) 42 C dX6_cellsOf_41 rfl rfl ?_
        refine x_aload_0 43 C dX6_cellsOf_42 rfl ?_
        refine mOg_now 46 C wf_X6_7 W.obj dX6_cellsOf_43 rfl ?_
        refine x_iload_4 48 C dX6_cellsOf_46 rfl ?_
        refine x_iconst (v := 1) 49 C dX6_cellsOf_48 rfl rfl ?_
        refine x_iadd 50 C dX6_cellsOf_49 rfl ?_
        refine x_topi (nI_1 _) ?_
        refine x_iald 51 (8 + 120 * j + 2 * n + 1) C W.now (rfl) (by omega) (by decide) dX6_cellsOf_50 rfl ?_
        refine x_topi p2 ?_
        refine x_ishl 52 C dX6_cellsOf_51 rfl ?_
        refine x_goto 56 C dX6_cellsOf_52 rfl ?_
        refine x_ior 57 C dX6_cellsOf_56 rfl ?_
        refine x_istore_2 58 C dX6_cellsOf_57 rfl rfl ?_
        refine x_iinc_3 61 C dX6_cellsOf_58 rfl rfl (nI_inc _) ?_
        refine x_goto 4 C dX6_cellsOf_61 rfl ?_
        first | rw [← cOf_t hk] | rw [← cOf_f hk]
        exact ih (n + 1) (by omega) _
  refine x_iconst (v := 0) 1 C dX6_cellsOf_0 rfl rfl ?_
  refine x_istore_2 2 C dX6_cellsOf_1 rfl rfl ?_
  refine x_iconst (v := 0) 3 C dX6_cellsOf_2 rfl rfl ?_
  refine x_istore_3 4 C dX6_cellsOf_3 rfl rfl ?_
  exact lp _ 0 (Nat.zero_add _) none
set_option maxHeartbeats 4000000 in
set_option maxRecDepth 100000 in
theorem c_X6_rootsOf (K : hKv) (M : hM) {A : Nat → Nat} {z : Nat → Int32} {F : Nat → Nat → Int32} {G : Nat → Nat → Int64} (W : mW K A z F G M) {τ : hS1} (hr : encN τ (F 1)) (ho : ok1 τ) (j : Nat) (hj : j < 6) (hw : wfF (τ.2.2.2 j)) : hC K Y_X6_rootsOf rm_X6_rootsOf [.ref (A 0), .int (nI j)] M (hPi fun r M' => r = nI (rOf (τ.2.2.2 j) (τ.2.2.2 j).length) ∧ M' = M) := by
  refine hC.of [some (.ref (A 0)), some (.int (nI j)), none, none, none] (by decide) (Nat.le_of_ble_eq_true rfl) rfl rfl ?_
  intro E C Rt
  have C : hCx E K cX6_rootsOf 5 RX6 "rootsOf" rm_X6_rootsOf := C
  have hl := hw.2.2
  obtain ⟨q1, q2⟩ := hr.2.2 j hj
  have lp : ∀ (d n : Nat), n + d = (τ.2.2.2 j).length → ∀ l4 : Option Value, hX E 0 0 4 [some (.ref (A 0)), some (.int (nI j)), some (.int (nI (rOf (τ.2.2.2 j) n))), some (.int (nI n)), l4] [] M := by
    intro d
    induction d with
    | zero =>
      intro n hn l4
      have hn : n = (τ.2.2.2 j).length := by omega
      subst hn
      refine x_iload_3 5 C dX6_rootsOf_4 rfl ?_
      refine x_aload_0 6 C dX6_rootsOf_5 rfl ?_
      refine mOg_now 9 C wf_X6_7 W.obj dX6_rootsOf_6 rfl ?_
      refine x_iconst (v := 2) 10 C dX6_rootsOf_9 rfl rfl ?_
      refine x_iload_1 11 C dX6_rootsOf_10 rfl ?_
      refine x_iadd 12 C dX6_rootsOf_11 rfl ?_
      refine x_topi (nI_add 2 j) ?_
      refine x_iald 13 (2 + j) C W.now (rfl) (by omega) (by decide) dX6_rootsOf_12 rfl ?_
      refine x_topi q1 ?_
      refine x_icmp_ge 16 62 C dX6_rootsOf_13 rfl rfl (fun _ => ?_) (fun z => absurd (nI_le (Nat.le_refl _) (by omega)) z)
      refine x_iload_2 63 C dX6_rootsOf_62 rfl ?_
      refine x_ireturn C Rt dX6_rootsOf_63 rfl ⟨Nat.le_of_ble_eq_true rfl, Nat.le_of_ble_eq_true rfl⟩ ?_
      exact ⟨_, rfl, rfl, rfl⟩
    | succ d ih =>
      intro n hn l4
      have hn8 : n < (τ.2.2.2 j).length := by omega
      obtain ⟨p1, p2⟩ := q2 n hn8
      have hok := okP_n (wf_at hw hn8)
      refine x_iload_3 5 C dX6_rootsOf_4 rfl ?_
      refine x_aload_0 6 C dX6_rootsOf_5 rfl ?_
      refine mOg_now 9 C wf_X6_7 W.obj dX6_rootsOf_6 rfl ?_
      refine x_iconst (v := 2) 10 C dX6_rootsOf_9 rfl rfl ?_
      refine x_iload_1 11 C dX6_rootsOf_10 rfl ?_
      refine x_iadd 12 C dX6_rootsOf_11 rfl ?_
      refine x_topi (nI_add 2 j) ?_
      refine x_iald 13 (2 + j) C W.now (rfl) (by omega) (by decide) dX6_rootsOf_12 rfl ?_
      refine x_topi q1 ?_
      refine x_icmp_ge 16 62 C dX6_rootsOf_13 rfl rfl (fun z => absurd z (nI_ge hn8 (by omega))) (fun _ => ?_)
      refine x_aload_0 17 C dX6_rootsOf_16 rfl ?_
      refine mOg_now 20 C wf_X6_7 W.obj dX6_rootsOf_17 rfl ?_
      refine x_bipush (v := 8) 22 C dX6_rootsOf_20 rfl rfl ?_
      refine x_bipush (v := 120) 24 C dX6_rootsOf_22 rfl rfl ?_
      refine x_iload_1 25 C dX6_rootsOf_24 rfl ?_
      refine x_imul 26 C dX6_rootsOf_25 rfl ?_
      refine x_topi (pk_mul 120 j) ?_
      refine x_iadd 27 C dX6_rootsOf_26 rfl ?_
      refine x_topi (nI_add 8 _) ?_
      refine x_iconst (v := 2) 28 C dX6_rootsOf_27 rfl rfl ?_
      refine x_iload_3 29 C dX6_rootsOf_28 rfl ?_
      refine x_imul 30 C dX6_rootsOf_29 rfl ?_
      refine x_topi (pk_mul 2 n) ?_
      refine x_iadd 31 C dX6_rootsOf_30 rfl ?_
      refine x_topi (nI_add _ _) ?_
      refine x_iald 32 (8 + 120 * j + 2 * n) C W.now (rfl) (by omega) (by decide) dX6_rootsOf_31 rfl ?_
      refine x_topi p1 ?_
      refine x_istore_4 34 C dX6_rootsOf_32 rfl rfl ?_
      refine x_iload_2 35 C dX6_rootsOf_34 rfl ?_
      refine x_iload_4 37 C dX6_rootsOf_35 rfl ?_
      refine x_bipush (v := 113) 39 C dX6_rootsOf_37 rfl rfl ?_
      refine x_icmp_eq 42 49 C dX6_rootsOf_39 rfl rfl (fun c_39 => ?_) (fun c_39 => ?_)
      · have hk : ((τ.2.2.2 j).getD n (0, 0)).1 = 113 ∨ ((τ.2.2.2 j).getD n (0, 0)).1 = 107 := Or.inl ((nI_c (k := 113) (by omega) (by decide)).mp c_39)
        refine x_iconst (v := 1) 50 C dX6_rootsOf_49 rfl rfl ?_
        refine x_goto 54 C dX6_rootsOf_50 rfl ?_
        refine x_iadd 55 C dX6_rootsOf_54 rfl ?_
        
        refine x_istore_2 56 C dX6_rootsOf_55 rfl rfl ?_
        refine x_iinc_3 59 C dX6_rootsOf_56 rfl rfl (nI_inc _) ?_
        refine x_goto 4 C dX6_rootsOf_59 rfl ?_
        first | rw [rOf_t hk] | rw [rOf_f hk]
        exact ih (n + 1) (by omega) _
      · refine x_iload_4 44 C dX6_rootsOf_42 rfl ?_
        refine x_bipush (v := 107) 46 C dX6_rootsOf_44 rfl rfl ?_
        refine x_icmp_ne 49 53 C dX6_rootsOf_46 rfl rfl (fun c_46 => ?_) (fun c_46 => ?_)
        · have hk : ¬ (((τ.2.2.2 j).getD n (0, 0)).1 = 113 ∨ ((τ.2.2.2 j).getD n (0, 0)).1 = 107) := by
            rintro (q | q)
            · exact c_39 (by rw [q]; rfl)
            · exact c_46 (by rw [q]; rfl)
          refine x_iconst (v := 0) 54 C dX6_rootsOf_53 rfl rfl ?_
          refine x_iadd 55 C dX6_rootsOf_54 rfl ?_
          
          refine x_istore_2 56 C dX6_rootsOf_55 rfl rfl ?_
          refine x_iinc_3 59 C dX6_rootsOf_56 rfl rfl (nI_inc _) ?_
          refine x_goto 4 C dX6_rootsOf_59 rfl ?_
          first | rw [rOf_t hk] | rw [rOf_f hk]
          exact ih (n + 1) (by omega) _
        · have hk : ((τ.2.2.2 j).getD n (0, 0)).1 = 113 ∨ ((τ.2.2.2 j).getD n (0, 0)).1 = 107 := Or.inr ((nI_c (k := 107) (by omega) (by decide)).mp (by first | exact c_46 | exact Decidable.not_not.mp c_46))
          refine x_iconst (v := 1) 50 C dX6_rootsOf_49 rfl rfl ?_
          refine x_goto 54 C dX6_rootsOf_50 rfl ?_
          refine x_iadd 55 C dX6_rootsOf_54 rfl ?_
          
          refine x_istore_2 56 C dX6_rootsOf_55 rfl rfl ?_
          refine x_iinc_3 59 C dX6_rootsOf_56 rfl rfl (nI_inc _) ?_
          refine x_goto 4 C dX6_rootsOf_59 rfl ?_
          first | rw [rOf_t hk] | rw [rOf_f hk]
          exact ih (n + 1) (by omega) _
  refine x_iconst (v := 0) 1 C dX6_rootsOf_0 rfl rfl ?_
  refine x_istore_2 2 C dX6_rootsOf_1 rfl rfl ?_
  refine x_iconst (v := 0) 3 C dX6_rootsOf_2 rfl rfl ?_
  refine x_istore_3 4 C dX6_rootsOf_3 rfl rfl ?_
  exact lp _ 0 (Nat.zero_add _) none
set_option maxHeartbeats 4000000 in
set_option maxRecDepth 100000 in
theorem c_X6_load (K : hKv) (M : hM) {A : Nat → Nat} {z : Nat → Int32} {F : Nat → Nat → Int32} {G : Nat → Nat → Int64} (W : mW K A z F G M) {σ : hSt} (hr : repM z F G σ) (ho : okS σ) (a : Int32) : hC K Y_X6_load rm_X6_load [.ref (A 0), .int a] M (hPi fun r M' => r = (sp_load σ a).1 ∧ mP K A M (sp_load σ a).2 M') := by
  refine hC.of [some (.ref (A 0)), some (.int a), none] (by decide) (Nat.le_of_ble_eq_true rfl) rfl rfl ?_
  intro E C Rt
  have C : hCx E K cX6_load 3 RX6 "load" rm_X6_load := C
  have lp : ∀ (j : Nat) (z1 : Nat → Int32) (F1 : Nat → Nat → Int32) (G1 : Nat → Nat → Int64) (l : List (Nat × Nat)) (M0 : hM) (fin : ∀ (f : Nat → Int32) (M2 : hM), stM (F1 1) f (8 + 120 * j) l l.length → mW K A (va_up z1 1 0) (va_up F1 1 f) G1 M2 → hFr 100 200 M0 M2 → hPi (fun r M' => r = (sp_load σ a).1 ∧ mP K A M (sp_load σ a).2 M') (some (.int (nI l.length))) M2), j < 6 → l.length ≤ 60 → z1 2 = nI l.length → (∀ k, k < l.length → F1 9 k = nI (l.getD k (0, 0)).1 ∧ F1 10 k = nI (l.getD k (0, 0)).2) → ∀ (d n : Nat), n + d = l.length → ∀ (f : Nat → Int32) (M1 : hM), stM (F1 1) f (8 + 120 * j) l n → mW K A z1 (va_up F1 1 f) G1 M1 → hFr 100 200 M0 M1 → hX E 0 0 41 [some (.ref (A 0)), some (.int (nI j)), some (.int (nI n))] [] M1 := by
    intro j z1 F1 G1 l M0 fin hj hl60 hz2 hrow d
    induction d with
    | zero =>
      intro n hn f M1 hs W fr
      have hn : n = l.length := by omega
      subst hn
      refine x_iload_2 42 C dX6_load_41 rfl ?_
      refine x_aload_0 43 C dX6_load_42 rfl ?_
      refine mOg_read 46 C wf_X6_80 W.obj dX6_load_43 rfl ?_
      refine x_topi hz2 ?_
      refine x_icmp_ge 49 101 C dX6_load_46 rfl rfl (fun _ => ?_) (fun z => absurd (nI_le (Nat.le_refl _) (by omega)) z)
      refine x_aload_0 102 C dX6_load_101 rfl ?_
      refine x_iconst (v := 0) 103 C dX6_load_102 rfl rfl ?_
      refine mOp_signs 106 C wf_X6_74 W.obj dX6_load_103 rfl ?_
      refine x_m_obj W (fun M_1 W o_1 => ?_)
      refine x_aload_0 107 C dX6_load_106 rfl ?_
      refine mOg_read 110 C wf_X6_80 W.obj dX6_load_107 rfl ?_
      refine x_topi hz2 ?_
      refine x_ireturn C Rt dX6_load_110 rfl ⟨Nat.le_of_ble_eq_true rfl, Nat.le_of_ble_eq_true rfl⟩ ?_
      exact fin f _ hs W (fr.tr (o_1))
    | succ d ih =>
      intro n hn f M1 hs W fr
      have hn8 : n < l.length := by omega
      obtain ⟨r1, r2⟩ := hrow n hn8
      refine x_iload_2 42 C dX6_load_41 rfl ?_
      refine x_aload_0 43 C dX6_load_42 rfl ?_
      refine mOg_read 46 C wf_X6_80 W.obj dX6_load_43 rfl ?_
      refine x_topi hz2 ?_
      refine x_icmp_ge 49 101 C dX6_load_46 rfl rfl (fun z => absurd z (nI_ge hn8 (by omega))) (fun _ => ?_)
      refine x_aload_0 50 C dX6_load_49 rfl ?_
      refine mOg_now 53 C wf_X6_7 W.obj dX6_load_50 rfl ?_
      refine x_bipush (v := 8) 55 C dX6_load_53 rfl rfl ?_
      refine x_bipush (v := 120) 57 C dX6_load_55 rfl rfl ?_
      refine x_iload_1 58 C dX6_load_57 rfl ?_
      refine x_imul 59 C dX6_load_58 rfl ?_
      refine x_topi (pk_mul 120 j) ?_
      refine x_iadd 60 C dX6_load_59 rfl ?_
      refine x_topi (nI_add 8 _) ?_
      refine x_iconst (v := 2) 61 C dX6_load_60 rfl rfl ?_
      refine x_iload_2 62 C dX6_load_61 rfl ?_
      refine x_imul 63 C dX6_load_62 rfl ?_
      refine x_topi (pk_mul 2 n) ?_
      refine x_iadd 64 C dX6_load_63 rfl ?_
      refine x_topi (nI_add _ _) ?_
      refine x_aload_0 65 C dX6_load_64 rfl ?_
      refine mOg_kind 68 C wf_X6_36 W.obj dX6_load_65 rfl ?_
      refine x_iload_2 69 C dX6_load_68 rfl ?_
      refine x_iald 70 (n) C W.kind (rfl) (by omega) (by decide) dX6_load_69 rfl ?_
      refine x_topi r1 ?_
      refine x_iast 71 (8 + 120 * j + 2 * n) C W.now (rfl) (by omega) (by decide) dX6_load_70 rfl ?_
      refine x_m_now W (fun M_1 W o_1 => ?_)
      refine x_aload_0 72 C dX6_load_71 rfl ?_
      refine mOg_now 75 C wf_X6_7 W.obj dX6_load_72 rfl ?_
      refine x_bipush (v := 8) 77 C dX6_load_75 rfl rfl ?_
      refine x_bipush (v := 120) 79 C dX6_load_77 rfl rfl ?_
      refine x_iload_1 80 C dX6_load_79 rfl ?_
      refine x_imul 81 C dX6_load_80 rfl ?_
      refine x_topi (pk_mul 120 j) ?_
      refine x_iadd 82 C dX6_load_81 rfl ?_
      refine x_topi (nI_add 8 _) ?_
      refine x_iconst (v := 2) 83 C dX6_load_82 rfl rfl ?_
      refine x_iload_2 84 C dX6_load_83 rfl ?_
      refine x_imul 85 C dX6_load_84 rfl ?_
      refine x_topi (pk_mul 2 n) ?_
      refine x_iadd 86 C dX6_load_85 rfl ?_
      refine x_topi (nI_add _ _) ?_
      refine x_iconst (v := 1) 87 C dX6_load_86 rfl rfl ?_
      refine x_iadd 88 C dX6_load_87 rfl ?_
      refine x_topi (nI_1 _) ?_
      refine x_aload_0 89 C dX6_load_88 rfl ?_
      refine mOg_arg 92 C wf_X6_39 W.obj dX6_load_89 rfl ?_
      refine x_iload_2 93 C dX6_load_92 rfl ?_
      refine x_iald 94 (n) C W.arg (rfl) (by omega) (by decide) dX6_load_93 rfl ?_
      refine x_topi r2 ?_
      refine x_iast 95 (8 + 120 * j + 2 * n + 1) C W.now (rfl) (by omega) (by decide) dX6_load_94 rfl ?_
      refine x_m_now W (fun M_2 W o_2 => ?_)
      refine x_iinc_2 98 C dX6_load_95 rfl rfl (nI_inc _) ?_
      refine x_goto 41 C dX6_load_98 rfl ?_
      rw [va_uu, va_uu] at W
      exact ih (n + 1) (by omega) _ _ (stM_s hs) W (fr.tr ((o_1).tr o_2))
  refine x_iload_1 1 C dX6_load_0 rfl ?_
  refine x_iconst (v := 0) 2 C dX6_load_1 rfl rfl ?_
  refine x_iconst (v := 5) 3 C dX6_load_2 rfl rfl ?_
  refine x_callS 6 C (c_X6_in K _ _ _ _) hy_X6_in ws_X6_in lk_X6_57 dX6_load_3 rfl ⟨Nat.le_of_ble_eq_true rfl, Nat.le_of_ble_eq_true rfl⟩ ⟨Nat.le_of_ble_eq_true rfl, Nat.le_of_ble_eq_true rfl⟩ (Nat.le_of_ble_eq_true rfl) rfl (k_0 rfl rfl (k_ip ?_))
  refine x_if_ne 9 11 C dX6_load_6 rfl rfl (fun c_6 => ?_) (fun c_6 => ?_)
  · have hin : 0 ≤ a.toInt ∧ a.toInt ≤ 5 := hB_n0p.mp c_6
    obtain ⟨j, hj, rfl⟩ := in_nI (b := 5) hin
    refine x_aload_0 12 C dX6_load_11 rfl ?_
    refine x_callV 15 C (c_X6_readPad K _ W hr.2.1 hr.2.2.2.2.2.2 ho.2.2.2.2.1 ho.2.2.2.2.2) W.obj wcl_X6 hy_X6_readPad wv_X6_readPad we_X6_readPad lk_X6_121 dX6_load_12 rfl ⟨Nat.le_of_ble_eq_true rfl, Nat.le_of_ble_eq_true rfl⟩ ⟨Nat.le_of_ble_eq_true rfl, Nat.le_of_ble_eq_true rfl⟩ (Nat.le_of_ble_eq_true rfl) rfl (k_0 rfl rfl (k_i (fun r_p M_1 h_1 => ?_)))
    obtain ⟨z_2, F_2, W, ms_2, fr_2, hs, hn⟩ := h_1
    have hr2 := repM_ms hr ms_2
    refine x_bipush (v := (-6)) 17 C dX6_load_15 rfl rfl ?_
    refine x_icmp_eq 20 23 C dX6_load_17 rfl rfl (fun c_17 => ?_) (fun c_17 => ?_)
    · have hf : fltN σ.2.2.2 = none := by
        cases hf : fltN σ.2.2.2 with
        | none => rfl
        | some i =>
          exfalso
          have h1 := fltN_le hf
          have h2 := hs i hf
          have h3 := ho.2.2.2.2.1
          have h4 : nI i = -6 := by rw [← h2]; first | exact c_17 | exact Decidable.not_not.mp c_17
          have h5 := congrArg Int32.toInt h4
          rw [nI_toI (by omega), show (-6 : Int32).toInt = -6 from rfl] at h5
          omega
      obtain ⟨-, hz2, hrow⟩ := hn hf
      have hwf := stp_wf ho.2.2.2.2.1 hf
      have hl60 := hwf.2.2
      have hsp : sp_load σ (nI j) = (nI (stpN σ.2.2.2).length, ((σ.1.1, σ.1.2.1, σ.1.2.2.1, va_up σ.1.2.2.2 j (stpN σ.2.2.2)), psh σ.2.1 σ.1, σ.2.2.1, [])) := by rw [sp_load, spQ_t hin, hf, nI_toN (by omega)]
      refine x_aload_0 24 C dX6_load_23 rfl ?_
      refine x_callV 27 C (c_X6_record K _ W σ.2.1.1 ho.2.1 hr2.1) W.obj wcl_X6 hy_X6_record wv_X6_record we_X6_record lk_X6_61 dX6_load_24 rfl ⟨Nat.le_of_ble_eq_true rfl, Nat.le_of_ble_eq_true rfl⟩ ⟨Nat.le_of_ble_eq_true rfl, Nat.le_of_ble_eq_true rfl⟩ (Nat.le_of_ble_eq_true rfl) rfl (k_0 rfl rfl (k_v (fun M_2 hp_2 => ?_)))
      obtain ⟨f_h, g_h, W, o_2, p1, p2, p3, p4⟩ := hp_2
      have hh := hist_psh ho.2.1 hr2.2.2.2.2.1 hr2.2.2.1 hr2.2.2.2.1 ho.1 ho.2.2.1 p1 p2 p3 p4
      rw [← psh_n (n := σ.1)] at W
      refine x_aload_0 28 C dX6_load_27 rfl ?_
      refine mOg_now 31 C wf_X6_7 W.obj dX6_load_28 rfl ?_
      refine x_iconst (v := 2) 32 C dX6_load_31 rfl rfl ?_
      refine x_iload_1 33 C dX6_load_32 rfl ?_
      refine x_iadd 34 C dX6_load_33 rfl ?_
      refine x_topi (nI_add 2 j) ?_
      refine x_aload_0 35 C dX6_load_34 rfl ?_
      refine mOg_read 38 C wf_X6_80 W.obj dX6_load_35 rfl ?_
      refine x_topi hz2 ?_
      refine x_iast 39 (2 + j) C W.now (rfl) (by omega) (by decide) dX6_load_38 rfl ?_
      refine x_m_now W (fun M_3 W o_3 => ?_)
      refine x_iconst (v := 0) 40 C dX6_load_39 rfl rfl ?_
      refine x_istore_2 41 C dX6_load_40 rfl rfl ?_
      obtain ⟨F1, hF1⟩ : ∃ F1, F1 = va_up (va_up F_2 3 f_h) 1 (va_up (va_up F_2 3 f_h 1) (2 + j) (nI (stpN σ.2.2.2).length)) := ⟨_, rfl⟩
      rw [← hF1] at W
      refine lp j (va_up z_2 0 (nI (psh σ.2.1 σ.1).1)) F1 _ (stpN σ.2.2.2) M (fun f M2 hst W fr => ?_) (by omega) hl60 hz2 (by rw [hF1]; exact hrow) (stpN σ.2.2.2).length 0 (Nat.zero_add _) (F1 1) _ ⟨fun _ _ => rfl, fun k hk => absurd hk (Nat.not_lt_zero _)⟩ (by rw [va_id]; exact W) (fr_2.tr ((o_2).tr o_3))
      rw [hF1] at hst W
      rw [va_uu] at W
      exact ⟨_, rfl, by rw [hsp], by rw [hsp]; exact ⟨⟨_, _, _, W, rfl, rfl, encN_load hr2.2.2.1 ho.1.len (by omega) hl60 hst, hr2.2.2.2.1, hh, hr2.2.2.2.2.2.1, fun k hk => absurd hk (Nat.not_lt_zero _)⟩, fr⟩⟩
    · refine x_bipush (v := (-3)) 22 C dX6_load_20 rfl rfl ?_
      refine x_ireturn C Rt dX6_load_22 rfl ⟨Nat.le_of_ble_eq_true rfl, Nat.le_of_ble_eq_true rfl⟩ ?_
      cases hf : fltN σ.2.2.2 with
      | none => exact absurd (hn hf).1 c_17
      | some i =>
        have hsp : sp_load σ (nI j) = (-3, σ) := by rw [sp_load, spQ_t hin, hf]
        exact ⟨_, rfl, by rw [hsp], by rw [hsp]; exact ⟨⟨z_2, F_2, G, W, hr2⟩, fr_2⟩⟩
  · refine x_iconst (v := (-1)) 10 C dX6_load_9 rfl rfl ?_
    refine x_ireturn C Rt dX6_load_10 rfl ⟨Nat.le_of_ble_eq_true rfl, Nat.le_of_ble_eq_true rfl⟩ ?_
    have hno : ¬ (0 ≤ a.toInt ∧ a.toInt ≤ 5) := hB_0p.mp c_6
    exact ⟨_, rfl, by rw [sp_load, spQ_f hno], by rw [sp_load, spQ_f hno]; exact ⟨⟨z, F, G, W, hr⟩, hFr.rf⟩⟩
