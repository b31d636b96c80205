theorem nI_n0 {j : Nat} (h : j < 2 ^ 31) : ¬ nI j < 0 := fun q => by
  have := Int32.lt_iff_toInt_lt.mp q
  rw [nI_toI h] at this
  have h0 : (0 : Int32).toInt = 0 := rfl
  omega
theorem nI_dn (j : Nat) : nI j + Int32.ofInt (-1) = iI ((j : Int) - 1) := by
  rw [nI_iI]
  show Int32.ofInt j + Int32.ofInt (-1) = Int32.ofInt ((j : Int) - 1)
  rw [← Int32.ofInt_add]; rfl
theorem iI_up0 (j : Nat) : iI (((j + 1 : Nat) : Int) - 1) = nI j := by rw [nI_iI]; congr 1; omega
theorem nI_s1 {j : Nat} (h : 1 ≤ j) : nI j - 1 = iI ((j : Int) - 1) := by
  obtain ⟨i, rfl⟩ : ∃ i, j = i + 1 := ⟨j - 1, by omega⟩
  rw [iI_up0]
  exact pk_sub (a := i + 1) (b := 1) h
theorem iI_up (j : Nat) : iI (((j + 1 : Nat) : Int) - 1) = nI j := by rw [nI_iI]; congr 1; omega
theorem repM_ms {z z2 : Nat → Int32} {F F2 : Nat → Nat → Int32} {G : Nat → Nat → Int64} {σ : hSt} (h : repM z F G σ) (m : msP z z2 F F2) : repM z2 F2 G σ := by
  obtain ⟨m0, m1, mF⟩ := m
  obtain ⟨a, b, c, d, e, f, g⟩ := h
  refine ⟨m0.trans a, m1.trans b, ?_, d, ?_, ?_, ?_⟩
  · rw [mF 1 (by decide)]; exact c
  · rw [mF 3 (by decide)]; exact e
  · rw [mF 7 (by decide), mF 5 (by decide)]; exact f
  · rw [mF 8 (by decide)]; exact g
theorem pad_app {f g : Nat → Int32} {p l : List Nat} (h1 : ∀ k, k < p.length → g k = f k) (hf : padM f p) (h2 : ∀ k, k < l.length → g (p.length + k) = nI (l.getD k 0)) : padM g (p ++ l) := by
  intro k hk
  rw [List.length_append] at hk
  rcases Nat.lt_or_ge k p.length with q | q
  · rw [h1 k q, hf k q, List.getD_eq_getElem?_getD, List.getD_eq_getElem?_getD, List.getElem?_append_left q]
  · have := h2 (k - p.length) (by omega)
    rw [show p.length + (k - p.length) = k by omega] at this
    rw [this, List.getD_eq_getElem?_getD, List.getD_eq_getElem?_getD, List.getElem?_append_right q]
set_option maxHeartbeats 4000000 in
set_option maxRecDepth 100000 in
theorem c_X6_put (K : hKv) (M : hM) {A : Nat → Nat} {z : Nat → Int32} {F : Nat → Nat → Int32} {G : Nat → Nat → Int64} (W : mW K A z F G M) {σ : hSt} (hr : repM z F G σ) (ho : okS σ) (a : Int64) : hC K Y_X6_put rm_X6_put [.ref (A 0), .long a] M (hPi fun r M' => r = (sp_put σ a).1 ∧ mP K A M (sp_put σ a).2 M') := by
  refine hC.of [some (.ref (A 0)), some (.long a), none, none, none, none, none] (by decide) (Nat.le_of_ble_eq_true rfl) rfl rfl ?_
  intro E C Rt
  have C : hCx E K cX6_put 7 RX6 "put" rm_X6_put := C
  obtain ⟨u, hu, rfl, hua⟩ := l_of a
  have hc8 : chars (lN u) = match chs 8 u with | none => none | some [] => none | some l => some l := by unfold chars; rw [l_bits hu]; rfl
  have m63 : ∀ (l : List Nat) (x : Int64), chs 8 u = some l → l ≠ [] → hX E 0 0 63 [some (.ref (A 0)), some (.long (lN u)), none, some (.int (nI l.length)), some (.long x), none, none] [] M := by
    intro l x hl hne
    have hch : chars (lN u) = some l := by
      rw [hc8, hl]
      cases l with
      | nil => exact absurd rfl hne
      | cons c l => rfl
    obtain ⟨hl8, hl1, hok⟩ := chars_ok hch
    obtain ⟨hby, -⟩ := chs_byt 8 u l hl
    have hp60 : σ.2.2.2.length ≤ 60 := ho.2.2.2.2.1
    have lp : 60 ≥ σ.2.2.2.length + l.length → ∀ (j : Nat), j ≤ l.length → ∀ (f8 : Nat → Int32) (M1 : hM), mW K A z (va_up F 8 f8) G M1 → (∀ k, k < σ.2.2.2.length → f8 k = F 8 k) → (∀ k, j ≤ k → k < l.length → f8 (σ.2.2.2.length + k) = nI (l.getD k 0)) → hFr 100 200 M M1 → hX E 0 0 85 [some (.ref (A 0)), some (.long (lN u)), none, some (.int (nI l.length)), some (.long (lN (u / 256 ^ (l.length - j)))), none, some (.int (iI ((j : Int) - 1)))] [] M1 := by
      intro h60 j
      induction j with
      | zero =>
        intro hj f8 M1 W h1 h2 fr
        refine x_iload_6 87 C dX6_put_85 rfl ?_
        refine x_if_lt 90 122 C dX6_put_87 rfl rfl (fun _ => ?_) (fun z => absurd (by decide) z)
        refine x_aload_0 123 C dX6_put_122 rfl ?_
        refine x_dup 124 C dX6_put_123 rfl rfl ?_
        refine mOg_signs 127 C wf_X6_74 W.obj dX6_put_124 rfl ?_
        refine x_topi hr.2.1 ?_
        refine x_iload_3 128 C dX6_put_127 rfl ?_
        refine x_iadd 129 C dX6_put_128 rfl ?_
        refine x_topi (nI_add _ _) ?_
        refine mOp_signs 132 C wf_X6_74 W.obj dX6_put_129 rfl ?_
        refine x_m_obj W (fun M_1 W o_1 => ?_)
        refine x_aload_0 133 C dX6_put_132 rfl ?_
        refine mOg_signs 136 C wf_X6_74 W.obj dX6_put_133 rfl ?_
        refine x_topi (va_up_self _ _ _) ?_
        refine x_ireturn C Rt dX6_put_136 rfl ⟨Nat.le_of_ble_eq_true rfl, Nat.le_of_ble_eq_true rfl⟩ ?_
        have hsp : sp_put σ (lN u) = (nI (σ.2.2.2.length + l.length), (σ.1, σ.2.1, σ.2.2.1, σ.2.2.2 ++ l)) := by rw [sp_put, hch]; exact spQ_f (by omega)
        exact ⟨_, rfl, by rw [hsp], by rw [hsp]; exact ⟨⟨_, _, _, W, hr.1, by rw [va_up_self, List.length_append], hr.2.2.1, hr.2.2.2.1, hr.2.2.2.2.1, hr.2.2.2.2.2.1, pad_app h1 hr.2.2.2.2.2.2 (fun k hk => h2 k (Nat.zero_le _) hk)⟩, fr.tr (o_1)⟩⟩
      | succ j ih =>
        intro hj f8 M1 W h1 h2 fr
        rw [iI_up]
        have hu1 : u / 256 ^ (l.length - (j + 1)) < 2 ^ 64 := Nat.lt_of_le_of_lt (Nat.div_le_self _ _) hu
        refine x_iload_6 87 C dX6_put_85 rfl ?_
        refine x_if_lt 90 122 C dX6_put_87 rfl rfl (fun z => absurd z (nI_n0 (by omega))) (fun _ => ?_)
        refine x_aload_0 91 C dX6_put_90 rfl ?_
        refine mOg_pad 94 C wf_X6_33 W.obj dX6_put_91 rfl ?_
        refine x_aload_0 95 C dX6_put_94 rfl ?_
        refine mOg_signs 98 C wf_X6_74 W.obj dX6_put_95 rfl ?_
        refine x_topi hr.2.1 ?_
        refine x_iload_6 100 C dX6_put_98 rfl ?_
        refine x_iadd 101 C dX6_put_100 rfl ?_
        refine x_topi (nI_add _ _) ?_
        refine x_lload_4 103 C dX6_put_101 rfl ?_
        refine x_ldc2 (v := 255) 106 C dX6_put_103 rfl wq_X6_72 ?_
        refine x_land 107 C dX6_put_106 rfl ?_
        refine x_topl (l_and8 hu1) ?_
        refine x_l2i 108 C dX6_put_107 rfl ?_
        refine x_topi l_i ?_
        refine x_iast 109 (σ.2.2.2.length + j) C W.pad (rfl) (by omega) (by decide) dX6_put_108 rfl ?_
        refine x_m_pad W (fun M_1 W o_1 => ?_)
        refine x_lload_4 111 C dX6_put_109 rfl ?_
        refine x_bipush (v := 8) 113 C dX6_put_111 rfl rfl ?_
        refine x_lushr 114 C dX6_put_113 rfl ?_
        refine x_topl (l_shr8 hu1) ?_
        refine x_lstore_4 116 C dX6_put_114 rfl rfl ?_
        refine x_iinc_6 119 C dX6_put_116 rfl rfl (nI_dn j) ?_
        refine x_goto 85 C dX6_put_119 rfl ?_
        rw [va_uu] at W
        rw [Nat.div_div_eq_div_mul, ← Nat.pow_succ, show (l.length - (j + 1)).succ = l.length - j by omega]
        refine ih (by omega) _ _ W (fun k hk => (va_up_ne _ _ (by omega)).trans (h1 k hk)) (fun k hk hk2 => ?_) (fr.tr (o_1))
        by_cases e : k = j
        · subst e
          rw [va_up_self]
          have := hby (l.length - (k + 1)) (by omega)
          rw [show l.length - 1 - (l.length - (k + 1)) = k by omega] at this
          rw [this]; rfl
        · rw [va_up_ne _ _ (by omega)]; exact h2 k (by omega) hk2
    refine x_aload_0 64 C dX6_put_63 rfl ?_
    refine mOg_signs 67 C wf_X6_74 W.obj dX6_put_64 rfl ?_
    refine x_topi hr.2.1 ?_
    refine x_iload_3 68 C dX6_put_67 rfl ?_
    refine x_iadd 69 C dX6_put_68 rfl ?_
    refine x_topi (nI_add _ _) ?_
    refine x_bipush (v := 60) 71 C dX6_put_69 rfl rfl ?_
    refine x_icmp_le 74 77 C dX6_put_71 rfl rfl (fun c_71 => ?_) (fun c_71 => ?_)
    · have hle : σ.2.2.2.length + l.length ≤ 60 := (nI_leI (b := 60) (by omega) (by decide)).mp c_71
      refine x_lload_1 78 C dX6_put_77 rfl ?_
      refine x_lstore_4 80 C dX6_put_78 rfl rfl ?_
      refine x_iload_3 81 C dX6_put_80 rfl ?_
      refine x_iconst (v := 1) 82 C dX6_put_81 rfl rfl ?_
      refine x_isub 83 C dX6_put_82 rfl ?_
      refine x_topi (nI_s1 hl1) ?_
      refine x_istore_6 85 C dX6_put_83 rfl rfl ?_
      have h := lp hle l.length (Nat.le_refl _) (F 8) M (by rw [va_id]; exact W) (fun _ _ => rfl) (fun k hk hk2 => absurd hk2 (by omega)) hFr.rf
      rw [Nat.sub_self, Nat.pow_zero, Nat.div_one] at h
      exact h
    · refine x_bipush (v := (-4)) 76 C dX6_put_74 rfl rfl ?_
      refine x_ireturn C Rt dX6_put_76 rfl ⟨Nat.le_of_ble_eq_true rfl, Nat.le_of_ble_eq_true rfl⟩ ?_
      have hgt : ¬ σ.2.2.2.length + l.length ≤ 60 := fun q => c_71 (nI_le q (by decide))
      have hsp : sp_put σ (lN u) = (-4, σ) := by rw [sp_put, hch]; exact spQ_t (by omega)
      exact ⟨_, rfl, by rw [hsp], by rw [hsp]; exact ⟨⟨z, F, G, W, hr⟩, hFr.rf⟩⟩
  have bad : chars (lN u) = none → hPi (fun r M' => r = (sp_put σ (lN u)).1 ∧ mP K A M (sp_put σ (lN u)).2 M') (some (.int (-2))) M := fun q => ⟨_, rfl, by rw [sp_put, q], by rw [sp_put, q]; exact ⟨⟨z, F, G, W, hr⟩, hFr.rf⟩⟩
  have m49 : ∀ (n : Nat), chs 8 u = none ∨ (∃ l, chs 8 u = some l ∧ l.length = n) → ∀ x : Int64, (x ≠ 0 → chs 8 u = none) → (x = 0 → ∃ l, chs 8 u = some l ∧ l.length = n) → n ≤ 8 → hX E 0 0 49 [some (.ref (A 0)), some (.long (lN u)), none, some (.int (nI n)), some (.long x), none, none] [] M := by
    intro n hn x hx hx0 hn8
    refine x_lload_4 51 C dX6_put_49 rfl ?_
    refine x_lconst (v := 0) 52 C dX6_put_51 rfl rfl ?_
    refine x_lc_ne 56 60 C dX6_put_52 dX6_put_53 rfl rfl (fun c_52 => ?_) (fun c_52 => ?_)
    · have hb := hx c_52
      refine x_bipush (v := (-2)) 62 C dX6_put_60 rfl rfl ?_
      refine x_ireturn C Rt dX6_put_62 rfl ⟨Nat.le_of_ble_eq_true rfl, Nat.le_of_ble_eq_true rfl⟩ ?_
      exact bad (by rw [hc8, hx c_52])
    · obtain ⟨l, hl, rfl⟩ := hx0 (by first | exact c_52 | exact Decidable.not_not.mp c_52)
      refine x_iload_3 57 C dX6_put_56 rfl ?_
      refine x_if_ne 60 63 C dX6_put_57 rfl rfl (fun c_57 => ?_) (fun c_57 => ?_)
      · exact m63 l _ hl (fun q => c_57 (by rw [q]; rfl))
      · have hb : True := trivial
        refine x_bipush (v := (-2)) 62 C dX6_put_60 rfl rfl ?_
        refine x_ireturn C Rt dX6_put_62 rfl ⟨Nat.le_of_ble_eq_true rfl, Nat.le_of_ble_eq_true rfl⟩ ?_
        have h0 : l = [] := List.length_eq_zero_iff.mp ((nI_c (k := 0) (by omega) (by decide)).mp c_57)
        exact bad (by rw [hc8, hl, h0])
  have lp : ∀ (f n u1 : Nat), n + f = 8 → u1 < 256 ^ f → (chs f u1 = none → chs 8 u = none) → (∀ l, chs f u1 = some l → ∃ l2, chs 8 u = some l2 ∧ l2.length = n + l.length) → hX E 0 0 5 [some (.ref (A 0)), some (.long (lN u)), none, some (.int (nI n)), some (.long (lN u1)), none, none] [] M := by
    intro f
    induction f with
    | zero =>
      intro n u1 hn h1 hno hso
      have h0 : u1 = 0 := by rw [Nat.pow_zero] at h1; omega
      subst h0
      obtain ⟨l2, hl2, hle⟩ := hso [] rfl
      refine x_lload_4 7 C dX6_put_5 rfl ?_
      refine x_ldc2 (v := 255) 10 C dX6_put_7 rfl wq_X6_72 ?_
      refine x_land 11 C dX6_put_10 rfl ?_
      refine x_lconst (v := 0) 12 C dX6_put_11 rfl rfl ?_
      refine x_lc_eq 16 49 C dX6_put_12 dX6_put_13 rfl rfl (fun _ => ?_) (fun z => absurd (rfl) z)
      exact m49 n (Or.inr ⟨l2, hl2, hle⟩) _ (fun q => absurd rfl q) (fun _ => ⟨l2, hl2, hle⟩) (by omega)
    | succ f ih =>
      intro n u1 hn h1 hno hso
      have hu1 : u1 < 2 ^ 64 := Nat.lt_of_lt_of_le h1 (by rw [show (2 : Nat) ^ 64 = 256 ^ 8 from rfl]; exact Nat.pow_le_pow_right (by decide) (by omega))
      have hd1 : u1 / 256 < 256 ^ f := by rw [Nat.pow_succ] at h1; exact Nat.div_lt_of_lt_mul (by rw [Nat.mul_comm]; exact h1)
      refine x_lload_4 7 C dX6_put_5 rfl ?_
      refine x_ldc2 (v := 255) 10 C dX6_put_7 rfl wq_X6_72 ?_
      refine x_land 11 C dX6_put_10 rfl ?_
      refine x_topl (l_and8 hu1) ?_
      refine x_lconst (v := 0) 12 C dX6_put_11 rfl rfl ?_
      refine x_lc_eq 16 49 C dX6_put_12 dX6_put_13 rfl rfl (fun c_12 => ?_) (fun c_12 => ?_)
      · have hb0 : u1 % 256 = 0 := (l_eq0 (by omega)).mp c_12
        by_cases h0 : u1 = 0
        · subst h0
          obtain ⟨l2, hl2, hle⟩ := hso [] (by rw [chs, if_pos rfl])
          exact m49 n (Or.inr ⟨l2, hl2, hle⟩) _ (fun q => absurd rfl q) (fun _ => ⟨l2, hl2, hle⟩) (by omega)
        · have hnn := hno (by rw [chs, if_neg h0, if_neg (by omega)])
          exact m49 n (Or.inl hnn) _ (fun _ => hnn) (fun q => absurd ((l_eq0 hu1).mp q) h0) (by omega)
      · refine x_lload_4 18 C dX6_put_16 rfl ?_
        refine x_ldc2 (v := 255) 21 C dX6_put_18 rfl wq_X6_72 ?_
        refine x_land 22 C dX6_put_21 rfl ?_
        refine x_topl (l_and8 hu1) ?_
        refine x_l2i 23 C dX6_put_22 rfl ?_
        refine x_topi l_i ?_
        refine x_bipush (v := 33) 25 C dX6_put_23 rfl rfl ?_
        refine x_bipush (v := 126) 27 C dX6_put_25 rfl rfl ?_
        refine x_callS 30 C (c_X6_in K _ _ _ _) hy_X6_in ws_X6_in lk_X6_57 dX6_put_27 rfl ⟨Nat.le_of_ble_eq_true rfl, Nat.le_of_ble_eq_true rfl⟩ ⟨Nat.le_of_ble_eq_true rfl, Nat.le_of_ble_eq_true rfl⟩ (Nat.le_of_ble_eq_true rfl) rfl (k_0 rfl rfl (k_ip ?_))
        have hr8 : (33 : Int32).toInt ≤ (nI (u1 % 256)).toInt ∧ (nI (u1 % 256)).toInt ≤ (126 : Int32).toInt ↔ 33 ≤ u1 % 256 ∧ u1 % 256 ≤ 126 := by
          rw [nI_toI (by omega), show (33 : Int32).toInt = 33 from rfl, show (126 : Int32).toInt = 126 from rfl]; omega
        have hb0 : ¬ u1 % 256 = 0 := fun q => c_12 (by rw [q]; rfl)
        have h0 : ¬ u1 = 0 := fun q => hb0 (by rw [q])
        refine x_if_ne 33 36 C dX6_put_30 rfl rfl (fun c_30 => ?_) (fun c_30 => ?_)
        · have hin := hr8.mp (hB_n0p.mp c_30)
          have hch : chs (f + 1) u1 = match chs f (u1 / 256) with | none => none | some l => some (l ++ [u1 % 256]) := by rw [chs, if_neg h0, if_pos hin]; rfl
          refine x_iinc_3 39 C dX6_put_36 rfl rfl (nI_inc _) ?_
          refine x_lload_4 41 C dX6_put_39 rfl ?_
          refine x_bipush (v := 8) 43 C dX6_put_41 rfl rfl ?_
          refine x_lushr 44 C dX6_put_43 rfl ?_
          refine x_topl (l_shr8 hu1) ?_
          refine x_lstore_4 46 C dX6_put_44 rfl rfl ?_
          refine x_goto 5 C dX6_put_46 rfl ?_
          refine ih (n + 1) (u1 / 256) (by omega) hd1 (fun q => hno (by rw [hch, q])) (fun l q => ?_)
          obtain ⟨l2, hl2, hle⟩ := hso (l ++ [u1 % 256]) (by rw [hch, q])
          exact ⟨l2, hl2, by rw [hle, List.length_append]; simp only [List.length_cons, List.length_nil]; omega⟩
        · refine x_bipush (v := (-2)) 35 C dX6_put_33 rfl rfl ?_
          refine x_ireturn C Rt dX6_put_35 rfl ⟨Nat.le_of_ble_eq_true rfl, Nat.le_of_ble_eq_true rfl⟩ ?_
          exact bad (by rw [hc8, hno (by rw [chs, if_neg h0, if_neg (fun q => hB_0p.mp c_30 (hr8.mpr q))])])
  refine x_iconst (v := 0) 1 C dX6_put_0 rfl rfl ?_
  refine x_istore_3 2 C dX6_put_1 rfl rfl ?_
  refine x_lload_1 3 C dX6_put_2 rfl ?_
  refine x_lstore_4 5 C dX6_put_3 rfl rfl ?_
  exact lp 8 0 u rfl (by rw [show (256 : Nat) ^ 8 = 2 ^ 64 from rfl]; exact hu) (fun q => q) (fun l q => ⟨l, q, by omega⟩)
