theorem l_shrk {u j : Nat} (h : u < 2 ^ 64) (hj : j < 8) : ((lN u).toUInt64 >>> ((nI (8 * j)).toInt64.toUInt64 &&& Int64.toUInt64 63)).toInt64 = lN (u / 256 ^ j) := by
  have e : ((nI (8 * j)).toInt64.toUInt64 &&& Int64.toUInt64 63).toNat = 8 * j := by
    rcases (show j = 0 ∨ j = 1 ∨ j = 2 ∨ j = 3 ∨ j = 4 ∨ j = 5 ∨ j = 6 ∨ j = 7 by omega) with rfl | rfl | rfl | rfl | rfl | rfl | rfl | rfl <;> decide
  apply l_ext
  show ((lN u).toUInt64 >>> ((nI (8 * j)).toInt64.toUInt64 &&& Int64.toUInt64 63)).toNat = _
  rw [UInt64.toNat_shiftRight, e]
  show (lN u).toBitVec.toNat >>> (8 * j % 64) = _
  rw [Nat.mod_eq_of_lt (by omega), l_bits h, Nat.shiftRight_eq_div_pow, Nat.pow_mul]
def csz (d u : Nat) : Nat := match chs d u with
  | none => 0
  | some l => l.length
set_option maxHeartbeats 4000000 in
set_option maxRecDepth 100000 in
theorem c_X5_sizeOf (K : hKv) (M : hM) (u : Nat) (hu : u < 2 ^ 64) : hC K Y_X5_sizeOf rm_X5_sizeOf [.long (lN u)] M (hPi fun r M' => r = nI (csz 8 u) ∧ M' = M) := by
  refine hC.of [some (.long (lN u)), none, none, none, none] (by decide) (Nat.le_of_ble_eq_true rfl) rfl rfl ?_
  intro E C Rt
  have C : hCx E K cX5_sizeOf 5 RX5 "sizeOf" rm_X5_sizeOf := C
  have lp : ∀ (d n v : Nat), n + d = 8 → v < 256 ^ d → v < 2 ^ 64 → (∀ l, chs d v = some l → csz 8 u = n + l.length) → (chs d v = none → csz 8 u = 0) → hX E 0 0 5 [some (.long (lN u)), none, some (.long (lN v)), none, some (.int (nI n))] [] M := by
    intro d
    induction d with
    | zero =>
      intro n v hn hv hv2 h1 h2
      have hv0 : v = 0 := by rw [Nat.pow_zero] at hv; omega
      subst hv0
      have hr := h1 [] rfl
      refine x_lload_2 6 C dX5_sizeOf_5 rfl ?_
      refine x_lconst (v := 0) 7 C dX5_sizeOf_6 rfl rfl ?_
      refine x_lc_eq 11 48 C dX5_sizeOf_7 dX5_sizeOf_8 rfl rfl (fun _ => ?_) (fun z => absurd (rfl) z)
      refine x_iload_4 50 C dX5_sizeOf_48 rfl ?_
      refine x_ireturn C Rt dX5_sizeOf_50 rfl ⟨Nat.le_of_ble_eq_true rfl, Nat.le_of_ble_eq_true rfl⟩ ?_
      exact ⟨_, rfl, by rw [hr]; rfl, rfl⟩
    | succ d ih =>
      intro n v hn hv hv2 h1 h2
      have hmod : v % 256 < 2 ^ 63 := by omega
      refine x_lload_2 6 C dX5_sizeOf_5 rfl ?_
      refine x_lconst (v := 0) 7 C dX5_sizeOf_6 rfl rfl ?_
      refine x_lc_eq 11 48 C dX5_sizeOf_7 dX5_sizeOf_8 rfl rfl (fun c_7 => ?_) (fun c_7 => ?_)
      · have hv0 : v = 0 := (l_eq0 hv2).mp c_7
        have hr := h1 [] (by rw [chs, if_pos hv0])
        refine x_iload_4 50 C dX5_sizeOf_48 rfl ?_
        refine x_ireturn C Rt dX5_sizeOf_50 rfl ⟨Nat.le_of_ble_eq_true rfl, Nat.le_of_ble_eq_true rfl⟩ ?_
        exact ⟨_, rfl, by rw [hr]; rfl, rfl⟩
      · have hv0 : ¬ v = 0 := fun q => c_7 ((l_eq0 hv2).mpr q)
        refine x_iload_4 13 C dX5_sizeOf_11 rfl ?_
        refine x_bipush (v := 8) 15 C dX5_sizeOf_13 rfl rfl ?_
        refine x_icmp_ge 18 48 C dX5_sizeOf_15 rfl rfl (fun z => absurd z (nI_ge (show n < 8 by omega) (by decide))) (fun _ => ?_)
        refine x_lload_2 19 C dX5_sizeOf_18 rfl ?_
        refine x_ldc2 (v := 255) 22 C dX5_sizeOf_19 rfl wq_X5_91 ?_
        refine x_land 23 C dX5_sizeOf_22 rfl ?_
        refine x_topl (l_and8 hv2) ?_
        refine x_ldc2 (v := 33) 26 C dX5_sizeOf_23 rfl wq_X5_242 ?_
        refine x_ldc2 (v := 126) 29 C dX5_sizeOf_26 rfl wq_X5_244 ?_
        refine x_callS 32 C (c_X5_within K _ _ _ _) hy_X5_within ws_X5_within lk_X5_48 dX5_sizeOf_29 rfl ⟨Nat.le_of_ble_eq_true rfl, Nat.le_of_ble_eq_true rfl⟩ ⟨Nat.le_of_ble_eq_true rfl, Nat.le_of_ble_eq_true rfl⟩ (Nat.le_of_ble_eq_true rfl) rfl (k_0 rfl rfl (k_ip ?_))
        have hti : (lN (v % 256)).toInt = ((v % 256 : Nat) : Int) := lN_toI hmod
        refine x_if_ne 35 37 C dX5_sizeOf_32 rfl rfl (fun c_32 => ?_) (fun c_32 => ?_)
        · have hb : 33 ≤ v % 256 ∧ v % 256 ≤ 126 := by
            rw [hti, tl_33, tl_126] at c_32
            have := hB_n0p.mp c_32
            omega
          refine x_lload_2 38 C dX5_sizeOf_37 rfl ?_
          refine x_bipush (v := 8) 40 C dX5_sizeOf_38 rfl rfl ?_
          refine x_lushr 41 C dX5_sizeOf_40 rfl ?_
          refine x_topl (l_shr8 hv2) ?_
          refine x_lstore_2 42 C dX5_sizeOf_41 rfl rfl ?_
          refine x_iinc_4 45 C dX5_sizeOf_42 rfl rfl (nI_inc _) ?_
          refine x_goto 5 C dX5_sizeOf_45 rfl ?_
          refine ih (n + 1) (v / 256) (by omega) (by rw [Nat.pow_succ] at hv; omega) (by omega) (fun l hl => ?_) (fun hl => ?_)
          · have := h1 (l ++ [v % 256]) (by rw [chs, if_neg hv0, if_pos hb, hl])
            rw [this, List.length_append]
            simp only [List.length_cons, List.length_nil]
            omega
          · exact h2 (by rw [chs, if_neg hv0, if_pos hb, hl])
        · refine x_iconst (v := 0) 36 C dX5_sizeOf_35 rfl rfl ?_
          refine x_ireturn C Rt dX5_sizeOf_36 rfl ⟨Nat.le_of_ble_eq_true rfl, Nat.le_of_ble_eq_true rfl⟩ ?_
          have hb : ¬ (33 ≤ v % 256 ∧ v % 256 ≤ 126) := fun q => by
            rw [hti, tl_33, tl_126] at c_32
            exact hB_0p.mp c_32 ⟨by omega, by omega⟩
          exact ⟨_, rfl, by rw [h2 (by rw [chs, if_neg hv0, if_neg hb])]; rfl, rfl⟩
  refine x_lload_0 1 C dX5_sizeOf_0 rfl ?_
  refine x_lstore_2 2 C dX5_sizeOf_1 rfl rfl ?_
  refine x_iconst (v := 0) 3 C dX5_sizeOf_2 rfl rfl ?_
  refine x_istore_4 5 C dX5_sizeOf_3 rfl rfl ?_
  exact lp 8 0 u (by decide) hu hu (fun l hl => by rw [csz, hl]; exact (Nat.zero_add _).symm) (fun hl => by rw [csz, hl])
set_option maxHeartbeats 4000000 in
set_option maxRecDepth 100000 in
theorem c_X5_addToPad (K : hKv) (M : hM) {A : Nat → Nat} {z pd : Nat → Int32} {sl : Nat → Option Nat} (W : cW K A z pd sl M) (n : Nat) (h0 : z 0 = nI n) (hn : n < 60) (c : Nat) (hc : c < 65536) : hC K Y_X5_addToPad rm_X5_addToPad [.ref (A 36), .int (nI c)] M (hPv fun M' => cW K A (va_up z 0 (nI (n + 1))) (va_up pd n (nI c)) sl M' ∧ hFr 37 41 M M') := by
  refine hC.of [some (.ref (A 36)), some (.int (nI c))] (by decide) (Nat.le_of_ble_eq_true rfl) rfl rfl ?_
  intro E C Rt
  have C : hCx E K cX5_addToPad 2 RX5 "addToPad" rm_X5_addToPad := C
  refine x_aload_0 1 C dX5_addToPad_0 rfl ?_
  refine xOg_padLength 4 C wf_X5_87 W.obj dX5_addToPad_1 rfl ?_
  refine x_topi h0 ?_
  refine x_if_lt 7 39 C dX5_addToPad_4 rfl rfl (fun z => absurd z (nI_n0 (by omega))) (fun _ => ?_)
  refine x_aload_0 8 C dX5_addToPad_7 rfl ?_
  refine xOg_padLength 11 C wf_X5_87 W.obj dX5_addToPad_8 rfl ?_
  refine x_topi h0 ?_
  refine x_aload_0 12 C dX5_addToPad_11 rfl ?_
  refine xOg_pad 15 C wf_X5_23 W.obj dX5_addToPad_12 rfl ?_
  refine x_alenC 16 C W.pad dX5_addToPad_15 rfl ?_
  refine x_icmp_ge 19 39 C dX5_addToPad_16 rfl rfl (fun z => absurd z (nI_ge hn (by decide))) (fun _ => ?_)
  refine x_aload_0 20 C dX5_addToPad_19 rfl ?_
  refine xOg_pad 23 C wf_X5_23 W.obj dX5_addToPad_20 rfl ?_
  refine x_aload_0 24 C dX5_addToPad_23 rfl ?_
  refine xOg_padLength 27 C wf_X5_87 W.obj dX5_addToPad_24 rfl ?_
  refine x_topi h0 ?_
  refine x_iload_1 28 C dX5_addToPad_27 rfl ?_
  refine x_cast 29 (n) C W.pad (rfl) (hn) (by decide) (char_ok hc) dX5_addToPad_28 rfl ?_
  refine x_c_pad W (fun M_1 W o_1 => ?_)
  refine x_aload_0 30 C dX5_addToPad_29 rfl ?_
  refine x_dup 31 C dX5_addToPad_30 rfl rfl ?_
  refine xOg_padLength 34 C wf_X5_87 W.obj dX5_addToPad_31 rfl ?_
  refine x_topi h0 ?_
  refine x_iconst (v := 1) 35 C dX5_addToPad_34 rfl rfl ?_
  refine x_iadd 36 C dX5_addToPad_35 rfl ?_
  refine x_topi (nI_1 _) ?_
  refine xOp_padLength 39 C wf_X5_87 W.obj dX5_addToPad_36 rfl ?_
  refine x_c_obj W (fun M_2 W o_2 => ?_)
  refine x_vreturn C Rt dX5_addToPad_39 ⟨Nat.le_of_ble_eq_true rfl, Nat.le_of_ble_eq_true rfl⟩ ?_
  exact ⟨rfl, W, ((o_1).tr o_2)⟩
set_option maxHeartbeats 4000000 in
set_option maxRecDepth 100000 in
theorem c_X5_put (K : hKv) (M : hM) {A : Nat → Nat} {σ : hSt} (X : cX K A σ M) (ho : okS σ) (a : Int64) : hC K Y_X5_put rm_X5_put [.ref (A 36), .long a] M (hPi fun r M' => r = (sp_put σ a).1 ∧ cP K A M (sp_put σ a).2 M') := by
  refine hC.of [some (.ref (A 36)), some (.long a), none, none, none] (by decide) (Nat.le_of_ble_eq_true rfl) rfl rfl ?_
  intro E C Rt
  have C : hCx E K cX5_put 5 RX5 "put" rm_X5_put := C
  obtain ⟨z, pd, sl, h, W, hc, N, H, SL, IR, IK, IG⟩ := X
  obtain ⟨zz, hzz⟩ : ∃ zz, zz = z := ⟨_, rfl⟩
  obtain ⟨pp, hpp⟩ : ∃ pp, pp = pd := ⟨_, rfl⟩
  obtain ⟨u, hu, rfl, hua⟩ := l_of a
  obtain ⟨c0, c1, crest⟩ := hc
  have hp60 : σ.2.2.2.length ≤ 60 := ho.2.2.2.2.1
  have hc8 : chars (lN u) = match chs 8 u with | none => none | some [] => none | some l => some l := by unfold chars; rw [l_bits hu]; rfl
  obtain ⟨M0, hM0⟩ : ∃ M0 : hM, M0 = M := ⟨_, rfl⟩
  rw [← hM0] at Rt
  have lp : ∀ (l : List Nat), chars (lN u) = some l → chs 8 u = some l → σ.2.2.2.length + l.length ≤ 60 → ∀ (j : Nat), j ≤ l.length → ∀ (z pd : Nat → Int32) (M : hM), cW K A z pd sl M → (∀ i, i ≠ 0 → z i = zz i) → z 0 = nI (σ.2.2.2.length + (l.length - j)) → (∀ k, k < σ.2.2.2.length → pd k = pp k) → (∀ k, k < l.length - j → pd (σ.2.2.2.length + k) = nI (l.getD k 0)) → stW K M 9 (A 0) σ.1 → cH K A M h → cSl K M sl σ.2.2.1 → cIR K A M → cIK K A M → cIG A M → hFr 1 100 M0 M → hX E 0 0 31 [some (.ref (A 36)), some (.long (lN u)), none, some (.int (nI l.length)), some (.int (iI ((j : Int) - 1)))] [] M := by
    intro l hch hl h60 j
    obtain ⟨hl8, hl1, hok⟩ := chars_ok hch
    obtain ⟨hby, -⟩ := chs_byt 8 u l hl
    induction j with
    | zero =>
      intro hj z pd M W hz z0 h1 h2 N H SL IR IK IG fr
      rw [Nat.sub_zero] at z0 h2
      refine x_iload_4 33 C dX5_put_31 rfl ?_
      refine x_if_lt 36 59 C dX5_put_33 rfl rfl (fun _ => ?_) (fun z => absurd (by decide) z)
      refine x_aload_0 60 C dX5_put_59 rfl ?_
      refine xOg_padLength 63 C wf_X5_87 W.obj dX5_put_60 rfl ?_
      refine x_topi z0 ?_
      refine x_ireturn C Rt dX5_put_63 rfl ⟨Nat.le_of_ble_eq_true rfl, Nat.le_of_ble_eq_true rfl⟩ ?_
      have hsp : sp_put σ (lN u) = (nI (σ.2.2.2.length + l.length), (σ.1, σ.2.1, σ.2.2.1, σ.2.2.2 ++ l)) := by rw [sp_put, hch]; exact spQ_f (by omega)
      exact ⟨_, rfl, by rw [hsp], by rw [hsp]; exact ⟨⟨_, _, _, _, W, ⟨by rw [List.length_append]; exact z0, pad_app h1 (by rw [hpp]; exact c1) h2, by rw [hz 2 (by decide), hz 1 (by decide), hzz]; exact crest⟩, N, H, SL, IR, IK, IG⟩, fr⟩⟩
    | succ j ih =>
      intro hj z pd M W hz z0 h1 h2 N H SL IR IK IG fr
      rw [iI_up]
      have hu1 : u / 256 ^ j < 2 ^ 64 := Nat.lt_of_le_of_lt (Nat.div_le_self _ _) hu
      have hb : u / 256 ^ j % 256 < 256 := Nat.mod_lt _ (by decide)
      have hb2 := (sb_byte _ hb).2.1
      refine x_iload_4 33 C dX5_put_31 rfl ?_
      refine x_if_lt 36 59 C dX5_put_33 rfl rfl (fun z => absurd z (nI_n0 (by omega))) (fun _ => ?_)
      refine x_aload_0 37 C dX5_put_36 rfl ?_
      refine x_lload_1 38 C dX5_put_37 rfl ?_
      refine x_bipush (v := 8) 40 C dX5_put_38 rfl rfl ?_
      refine x_iload_4 42 C dX5_put_40 rfl ?_
      refine x_imul 43 C dX5_put_42 rfl ?_
      refine x_topi (pk_mul 8 j) ?_
      refine x_lushr 44 C dX5_put_43 rfl ?_
      refine x_topl (l_shrk hu (by omega)) ?_
      refine x_ldc2 (v := 255) 47 C dX5_put_44 rfl wq_X5_91 ?_
      refine x_land 48 C dX5_put_47 rfl ?_
      refine x_topl (l_and8 hu1) ?_
      refine x_l2i 49 C dX5_put_48 rfl ?_
      refine x_topi l_i ?_
      refine x_i2c 50 C dX5_put_49 rfl ?_
      refine x_topi hb2 ?_
      refine x_callV 53 C (c_X5_addToPad K _ W _ z0 (by omega) _ (by omega)) W.obj wcl_X5 hy_X5_addToPad wv_X5_addToPad we_X5_addToPad lk_X5_93 dX5_put_50 rfl ⟨Nat.le_of_ble_eq_true rfl, Nat.le_of_ble_eq_true rfl⟩ ⟨Nat.le_of_ble_eq_true rfl, Nat.le_of_ble_eq_true rfl⟩ (Nat.le_of_ble_eq_true rfl) rfl (k_0 rfl rfl (k_v (fun M_1 h_1 => ?_)))
      obtain ⟨W, o_p⟩ := h_1
      have N := N.kept o_p (by decide) (by decide)
      have H := H.kept o_p (by decide) (by decide)
      have SL := SL.kept o_p (by decide) (by decide)
      have IR := IR.kept o_p (by decide)
      have IK := IK.kept o_p (by decide)
      have IG := IG.kept o_p (by decide)
      refine x_iinc_4 56 C dX5_put_53 rfl rfl (nI_dn j) ?_
      refine x_goto 31 C dX5_put_56 rfl ?_
      refine ih (by omega) _ _ _ W (fun i hi => (va_up_ne _ _ hi).trans (hz i hi)) ?_ (fun k hk => (va_up_ne _ _ (by omega)).trans (h1 k hk)) (fun k hk => ?_) N H SL IR IK IG (fr.tr ((cfr o_p (by decide))))
      · rw [va_up_self]; congr 1; omega
      · by_cases e : k = l.length - (j + 1)
        · rw [e, va_up_self]
          have := hby j (by omega)
          rw [show l.length - 1 - j = l.length - (j + 1) by omega] at this
          rw [this]; rfl
        · rw [va_up_ne _ _ (by omega)]; exact h2 k (by omega)
  refine x_lload_1 1 C dX5_put_0 rfl ?_
  refine x_callS 4 C (c_X5_sizeOf K _ u hu) hy_X5_sizeOf ws_X5_sizeOf lk_X5_83 dX5_put_1 rfl ⟨Nat.le_of_ble_eq_true rfl, Nat.le_of_ble_eq_true rfl⟩ ⟨Nat.le_of_ble_eq_true rfl, Nat.le_of_ble_eq_true rfl⟩ (Nat.le_of_ble_eq_true rfl) rfl (k_0 rfl rfl (k_ip ?_))
  refine x_istore_3 5 C dX5_put_4 rfl rfl ?_
  have hz8 : csz 8 u ≤ 8 := by
    unfold csz
    cases hq : chs 8 u with
    | none => exact Nat.zero_le _
    | some l => exact (chs_ok 8 u l hq).1
  refine x_iload_3 6 C dX5_put_5 rfl ?_
  refine x_if_ne 9 12 C dX5_put_6 rfl rfl (fun c_6 => ?_) (fun c_6 => ?_)
  · have h00 : ¬ csz 8 u = 0 := fun q => c_6 (by rw [q]; rfl)
    obtain ⟨l, hl, hll⟩ : ∃ l, chs 8 u = some l ∧ l.length = csz 8 u := by
      cases hq : chs 8 u with
      | none => exact absurd (by rw [csz, hq]) h00
      | some l => exact ⟨l, rfl, by rw [csz, hq]⟩
    rw [← hll] at h00 ⊢
    have hch : chars (lN u) = some l := by
      rw [hc8, hl]
      cases l with
      | nil => exact absurd rfl h00
      | cons c l => rfl
    obtain ⟨hl8, hl1, hok⟩ := chars_ok hch
    refine x_aload_0 13 C dX5_put_12 rfl ?_
    refine xOg_padLength 16 C wf_X5_87 W.obj dX5_put_13 rfl ?_
    refine x_topi c0 ?_
    refine x_iload_3 17 C dX5_put_16 rfl ?_
    refine x_iadd 18 C dX5_put_17 rfl ?_
    refine x_topi (nI_add _ _) ?_
    refine x_bipush (v := 60) 20 C dX5_put_18 rfl rfl ?_
    refine x_icmp_le 23 26 C dX5_put_20 rfl rfl (fun c_20 => ?_) (fun c_20 => ?_)
    · have hle : σ.2.2.2.length + l.length ≤ 60 := (nI_leI (b := 60) (by omega) (by decide)).mp c_20
      refine x_iload_3 27 C dX5_put_26 rfl ?_
      refine x_iconst (v := 1) 28 C dX5_put_27 rfl rfl ?_
      refine x_isub 29 C dX5_put_28 rfl ?_
      refine x_topi (nI_s1 hl1) ?_
      refine x_istore_4 31 C dX5_put_29 rfl rfl ?_
      exact lp l hch hl hle l.length (Nat.le_refl _) z pd M W (fun i _ => by rw [hzz]) (by rw [Nat.sub_self]; exact c0) (fun k _ => by rw [hpp]) (fun k hk => absurd hk (by omega)) N H SL IR IK IG (by rw [hM0]; exact hFr.rf)
    · refine x_bipush (v := (-4)) 25 C dX5_put_23 rfl rfl ?_
      refine x_ireturn C Rt dX5_put_25 rfl ⟨Nat.le_of_ble_eq_true rfl, Nat.le_of_ble_eq_true rfl⟩ ?_
      have hgt : ¬ σ.2.2.2.length + l.length ≤ 60 := fun q => c_20 (nI_le q (by decide))
      have hsp : sp_put σ (lN u) = (-4, σ) := by rw [sp_put, hch]; exact spQ_t (by omega)
      exact ⟨_, rfl, by rw [hsp], by rw [hsp]; exact ⟨⟨z, pd, sl, h, W, ⟨c0, c1, crest⟩, N, H, SL, IR, IK, IG⟩, (by rw [hM0]; exact hFr.rf)⟩⟩
  · refine x_bipush (v := (-2)) 11 C dX5_put_9 rfl rfl ?_
    refine x_ireturn C Rt dX5_put_11 rfl ⟨Nat.le_of_ble_eq_true rfl, Nat.le_of_ble_eq_true rfl⟩ ?_
    have h00 : csz 8 u = 0 := (nI_eq (b := 0) (by omega) (by decide)).mp (by first | exact c_6 | exact Decidable.not_not.mp c_6)
    have hch : chars (lN u) = none := by
      rw [hc8]
      cases hq : chs 8 u with
      | none => rfl
      | some l =>
        rw [csz, hq] at h00
        rw [List.length_eq_zero_iff.mp h00]
    have hsp : sp_put σ (lN u) = (-2, σ) := by rw [sp_put, hch]
    exact ⟨_, rfl, by rw [hsp], by rw [hsp]; exact ⟨⟨z, pd, sl, h, W, ⟨c0, c1, crest⟩, N, H, SL, IR, IK, IG⟩, (by rw [hM0]; exact hFr.rf)⟩⟩
