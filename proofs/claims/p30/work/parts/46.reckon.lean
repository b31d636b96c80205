theorem lI_LG : (1000000000000 : Int64) = lI 1000000000000 := by decide
/-- what reckoning leaves behind in the class's reckoner -/
def kQ (K : hKv) (A : Nat → Nat) (M : hM) (R : List Nat × Nat) (M' : hM) : Prop :=
  ∃ z2 G2, kW K A z2 G2 M' ∧ hFr 44 47 M M' ∧ valM (G2 0) R.1 ∧ z2 1 = nI R.1.length ∧ z2 2 = nI R.2
set_option maxHeartbeats 4000000 in
set_option maxRecDepth 100000 in
theorem c_X3_reckon (K : hKv) (M : hM) {A : Nat → Nat} {z : Nat → Int32} {G : Nat → Nat → Int64} (W : kW K A z G M) {τ : hS1} (ho : ok1 τ) {L : List (Nat × Nat)} (hw : wfF L) {y b : Nat} {fb : Nat → Int32} (hY : M y = some (0, eO 0 [.ref b])) (hb : M b = some (0, eI K L.length fb)) (hbf : ∀ k, k < L.length → fb k = nI (cdS (L.getD k (0, 0)))) {S a1 a2 a3 tS t1 t2 : Nat} {f : Nat → Int32} {g : Nat → Int64} (hS : M S = some (tS, eO 4 [.ref a1, .ref a2, .ref a3])) (hS1 : M a1 = some (t1, eI K 2 f)) (hS2 : M a2 = some (t2, eJ K 8 g)) (hf : f 0 = nI τ.1) (hg : ∀ i, i < 8 → g i = lN (τ.2.2.1 i)) (htS : tS < 44 ∨ 47 ≤ tS) (ht1 : t1 < 44 ∨ 47 ≤ t1) (ht2 : t2 < 44 ∨ 47 ≤ t2) : hC K Y_X3_reckon rm_X3_reckon [.ref (A 43), .ref y, .ref S] M (hPv fun M' => kQ K A M (rkR τ L) M') := by
  refine hC.of [some (.ref (A 43)), some (.ref y), some (.ref S), none, none, none] (by decide) (Nat.le_of_ble_eq_true rfl) rfl rfl ?_
  intro E C Rt
  have C : hCx E K cX3_reckon 6 RX3 "reckon" rm_X3_reckon := C
  have hl60 := hw.2.2
  obtain ⟨M0, hM0⟩ : ∃ M0 : hM, M0 = M := ⟨_, rfl⟩
  rw [← hM0] at Rt hY hb hS hS1 hS2
  have hY0 := hY
  have hb0 := hb
  have hS0 := hS
  have hS10 := hS1
  have hS20 := hS2
  have lp : ∀ (r : List (Nat × Nat)) (p vs : List Nat) (z1 : Nat → Int32) (G1 : Nat → Nat → Int64) (M : hM) (l4 : Option Value), L.drop vs.length = r → vs.length ≤ L.length → hgt r p.length = some 1 → p.length ≤ vs.length → (∀ x ∈ p, x ≤ LG) → valM (G1 0) vs → pilM (G1 1) p → rk τ L [] [] = rk τ r p vs → z1 0 = nI p.length → z1 1 = nI vs.length → z1 2 = nI 0 → kW K A z1 G1 M → hFr 44 47 M0 M → hX E 0 0 17 [some (.ref (A 43)), some (.ref y), some (.ref S), some (.int (nI vs.length)), l4, none] [] M := by
    intro r
    induction r with
    | nil =>
      intro p vs z1 G1 M l4 hd hvl hh hpv hp hv hpi hrk hz0 hz1 hz2 W fr
      have hY := fr _ _ _ (Or.inl (by decide)) hY0
      have hb := fr _ _ _ (Or.inl (by decide)) hb0
      have hS := fr _ _ _ htS hS0
      have hS1 := fr _ _ _ ht1 hS10
      have hS2 := fr _ _ _ ht2 hS20
      have hle : L.length ≤ vs.length := by
        have := congrArg List.length hd
        rw [List.length_drop] at this
        simp only [List.length_nil] at this
        omega
      refine x_iload_3 18 C dX3_reckon_17 rfl ?_
      refine x_aload_1 19 C dX3_reckon_18 rfl ?_
      refine xg_X0_steps 22 C wf_X3_28 hY dX3_reckon_19 rfl ?_
      refine x_alenI 23 C hb dX3_reckon_22 rfl ?_
      refine x_icmp_ge 26 106 C dX3_reckon_23 rfl rfl (fun _ => ?_) (fun z => absurd (nI_le hle (by omega)) z)
      refine x_vreturn C Rt dX3_reckon_106 ⟨Nat.le_of_ble_eq_true rfl, Nat.le_of_ble_eq_true rfl⟩ ?_
      have hR : rkR τ L = (vs, 0) := hrk
      exact ⟨rfl, _, _, W, fr, by rw [hR]; exact hv, by rw [hR]; exact hz1, by rw [hR]; exact hz2⟩
    | cons s r ih =>
      intro p vs z1 G1 M l4 hd hvl hh hpv hp hv hpi hrk hz0 hz1 hz2 W fr
      have hY := fr _ _ _ (Or.inl (by decide)) hY0
      have hb := fr _ _ _ (Or.inl (by decide)) hb0
      have hS := fr _ _ _ htS hS0
      have hS1 := fr _ _ _ ht1 hS10
      have hS2 := fr _ _ _ ht2 hS20
      obtain ⟨hk, hgs, hd1⟩ := dropn_s hd
      have hok := wf_at hw hk
      rw [hgs] at hok
      have hn := okP_n hok
      obtain ⟨hh1, hu, hb2⟩ := hgt_k hh
      have hbd := rkv_bd (p := p) ho.2.2.1 hok hp
      obtain ⟨kp1, kp2⟩ := rkp_bd (s := s) hp
      have hLG : LG = 1000000000000 := rfl
      generalize hx : rkv τ s p = x at hbd
      refine x_iload_3 18 C dX3_reckon_17 rfl ?_
      refine x_aload_1 19 C dX3_reckon_18 rfl ?_
      refine xg_X0_steps 22 C wf_X3_28 hY dX3_reckon_19 rfl ?_
      refine x_alenI 23 C hb dX3_reckon_22 rfl ?_
      refine x_icmp_ge 26 106 C dX3_reckon_23 rfl rfl (fun z => absurd z (nI_ge hk (by omega))) (fun _ => ?_)
      refine x_iload_3 27 C dX3_reckon_26 rfl ?_
      refine x_aload_0 28 C dX3_reckon_27 rfl ?_
      refine kOg_values 31 C wf_X3_9 W.obj dX3_reckon_28 rfl ?_
      refine x_alenJ 32 C W.values dX3_reckon_31 rfl ?_
      refine x_icmp_ge 35 106 C dX3_reckon_32 rfl rfl (fun z => absurd z (nI_ge (show vs.length < 60 by omega) (by decide))) (fun _ => ?_)
      refine x_aload_0 36 C dX3_reckon_35 rfl ?_
      refine x_aload_1 37 C dX3_reckon_36 rfl ?_
      refine xg_X0_steps 40 C wf_X3_28 hY dX3_reckon_37 rfl ?_
      refine x_iload_3 41 C dX3_reckon_40 rfl ?_
      refine x_iald 42 (vs.length) C hb (rfl) (hk) (by omega) dX3_reckon_41 rfl ?_
      refine x_topi (v' := nI (cdS s)) ((hbf _ hk).trans (by rw [hgs])) ?_
      refine x_aload_2 43 C dX3_reckon_42 rfl ?_
      refine x_callV 46 C (c_X3_numberOf K _ W hok hz0 (by omega) hpi hp hu hb2 ho.1 hS hS1 hS2 hf hg htS ht1) W.obj wcl_X3 hy_X3_numberOf wv_X3_numberOf we_X3_numberOf lk_X3_34 dX3_reckon_43 rfl ⟨Nat.le_of_ble_eq_true rfl, Nat.le_of_ble_eq_true rfl⟩ ⟨Nat.le_of_ble_eq_true rfl, Nat.le_of_ble_eq_true rfl⟩ (Nat.le_of_ble_eq_true rfl) rfl (k_0 rfl rfl (k_l (fun r_1 M_1 h_1 => ?_)))
      obtain ⟨rfl, z_2, W, e0, e1, e2, o_n⟩ := h_1
      rw [hx]
      refine x_lstore_4 48 C dX3_reckon_46 rfl rfl ?_
      refine x_lload_4 50 C dX3_reckon_48 rfl ?_
      refine x_ldc2 (v := 1000000000000) 53 C dX3_reckon_50 rfl wq_X3_38 ?_
      refine x_topl lI_LG ?_
      refine x_lc_le 57 63 C dX3_reckon_53 dX3_reckon_54 rfl rfl (fun c_53 => ?_) (fun c_53 => ?_)
      · have h1 : x ≤ 1000000000000 := (lI_le (by omega) (by decide)).mp c_53
        refine x_lload_4 65 C dX3_reckon_63 rfl ?_
        refine x_lconst (v := 0) 66 C dX3_reckon_65 rfl rfl ?_
        refine x_lc_ge 70 76 C dX3_reckon_66 dX3_reckon_67 rfl rfl (fun c_66 => ?_) (fun c_66 => ?_)
        · have h0 : 0 ≤ x := (lI_0l (by omega)).mp c_66
          have hxN : lI x = lN x.toNat := by rw [lN_lI]; congr 1; omega
          refine x_aload_0 77 C dX3_reckon_76 rfl ?_
          refine kOg_values 80 C wf_X3_9 W.obj dX3_reckon_77 rfl ?_
          refine x_iload_3 81 C dX3_reckon_80 rfl ?_
          refine x_lload_4 83 C dX3_reckon_81 rfl ?_
          refine x_topl hxN ?_
          refine x_last 84 (vs.length) C W.values (rfl) (by omega) (by decide) dX3_reckon_83 rfl ?_
          refine x_k_values W (fun M_2 W o_2 => ?_)
          refine x_aload_0 85 C dX3_reckon_84 rfl ?_
          refine x_dup 86 C dX3_reckon_85 rfl rfl ?_
          refine kOg_reached 89 C wf_X3_22 W.obj dX3_reckon_86 rfl ?_
          refine x_topi (e1.trans hz1) ?_
          refine x_iconst (v := 1) 90 C dX3_reckon_89 rfl rfl ?_
          refine x_iadd 91 C dX3_reckon_90 rfl ?_
          refine x_topi (nI_1 _) ?_
          refine kOp_reached 94 C wf_X3_22 W.obj dX3_reckon_91 rfl ?_
          refine x_k_obj W (fun M_3 W o_3 => ?_)
          refine x_aload_0 95 C dX3_reckon_94 rfl ?_
          refine x_lload_4 97 C dX3_reckon_95 rfl ?_
          refine x_topl hxN ?_
          refine x_callV 100 C (c_X3_push K _ W (rkp s p).length ((va_up_ne _ _ (by decide)).trans e0) (by omega) (lN x.toNat)) W.obj wcl_X3 hy_X3_push wv_X3_push we_X3_push lk_X3_40 dX3_reckon_97 rfl ⟨Nat.le_of_ble_eq_true rfl, Nat.le_of_ble_eq_true rfl⟩ ⟨Nat.le_of_ble_eq_true rfl, Nat.le_of_ble_eq_true rfl⟩ (Nat.le_of_ble_eq_true rfl) rfl (k_0 rfl rfl (k_v (fun M_4 h_4 => ?_)))
          obtain ⟨W, o_p⟩ := h_4
          refine x_iinc_3 103 C dX3_reckon_100 rfl rfl (nI_inc _) ?_
          refine x_goto 17 C dX3_reckon_103 rfl ?_
          have hR := hrk.trans (rk_s0 (by rw [hx]; omega) (by rw [hx]; omega))
          rw [hx] at hR
          have h := ih (x.toNat :: rkp s p) (vs ++ [x.toNat]) _ _ _ (some (.long (lI x))) (by rw [List.length_append]; exact hd1) (by rw [List.length_append]; exact hk) (by rw [List.length_cons]; exact hh1) (by rw [List.length_cons, List.length_append]; simp only [List.length_cons, List.length_nil]; omega) (fun y hy => by
            rcases List.mem_cons.mp hy with q | q
            · rw [q]; omega
            · exact kp1 y q) (valM_app hv x.toNat) (pilM_cons (pilM_rkp hpi s) x.toNat) hR (by rw [List.length_cons]; rfl) (by rw [List.length_append]; rfl) ((va_up_ne _ _ (by decide)).trans ((va_up_ne _ _ (by decide)).trans (e2.trans hz2))) W (fr.tr ((((o_n).tr o_2).tr o_3).tr o_p))
          rw [List.length_append] at h
          exact h
        · refine x_aload_0 71 C dX3_reckon_70 rfl ?_
          refine x_iconst (v := 2) 72 C dX3_reckon_71 rfl rfl ?_
          refine kOp_reason 75 C wf_X3_25 W.obj dX3_reckon_72 rfl ?_
          refine x_k_obj W (fun M_5 W o_5 => ?_)
          refine x_vreturn C Rt dX3_reckon_75 ⟨Nat.le_of_ble_eq_true rfl, Nat.le_of_ble_eq_true rfl⟩ ?_
          have h0 : x < 0 := Decidable.by_contra fun q => c_66 ((lI_0l (by omega)).mpr (by omega))
          have hR : rkR τ L = (vs, 2) := hrk.trans (rk_s2 (by rw [hx]; exact h0))
          exact ⟨rfl, _, _, W, fr.tr ((o_n).tr o_5), by rw [hR]; exact hv, by rw [hR]; exact (va_up_ne _ _ (by decide)).trans (e1.trans hz1), by rw [hR]; rfl⟩
      · refine x_aload_0 58 C dX3_reckon_57 rfl ?_
        refine x_iconst (v := 1) 59 C dX3_reckon_58 rfl rfl ?_
        refine kOp_reason 62 C wf_X3_25 W.obj dX3_reckon_59 rfl ?_
        refine x_k_obj W (fun M_6 W o_6 => ?_)
        refine x_vreturn C Rt dX3_reckon_62 ⟨Nat.le_of_ble_eq_true rfl, Nat.le_of_ble_eq_true rfl⟩ ?_
        have h1 : (LG : Int) < x := Decidable.by_contra fun q => c_53 ((lI_le (by omega) (by decide)).mpr (by omega))
        have hR : rkR τ L = (vs, 1) := hrk.trans (rk_s1 (by rw [hx]; omega) (by rw [hx]; exact h1))
        exact ⟨rfl, _, _, W, fr.tr ((o_n).tr o_6), by rw [hR]; exact hv, by rw [hR]; exact (va_up_ne _ _ (by decide)).trans (e1.trans hz1), by rw [hR]; rfl⟩
  refine x_aload_0 1 C dX3_reckon_0 rfl ?_
  refine x_iconst (v := 0) 2 C dX3_reckon_1 rfl rfl ?_
  refine kOp_height 5 C wf_X3_18 W.obj dX3_reckon_2 rfl ?_
  refine x_k_obj W (fun M_1 W o_1 => ?_)
  refine x_aload_0 6 C dX3_reckon_5 rfl ?_
  refine x_iconst (v := 0) 7 C dX3_reckon_6 rfl rfl ?_
  refine kOp_reached 10 C wf_X3_22 W.obj dX3_reckon_7 rfl ?_
  refine x_k_obj W (fun M_2 W o_2 => ?_)
  refine x_aload_0 11 C dX3_reckon_10 rfl ?_
  refine x_iconst (v := 0) 12 C dX3_reckon_11 rfl rfl ?_
  refine kOp_reason 15 C wf_X3_25 W.obj dX3_reckon_12 rfl ?_
  refine x_k_obj W (fun M_3 W o_3 => ?_)
  refine x_iconst (v := 0) 16 C dX3_reckon_15 rfl rfl ?_
  refine x_istore_3 17 C dX3_reckon_16 rfl rfl ?_
  exact lp L [] [] (va_up (va_up (va_up z 0 0) 1 0) 2 0) G _ none rfl (Nat.zero_le _) hw.2.1 (Nat.le_refl _) (fun x hx => absurd hx List.not_mem_nil) (fun i hi => absurd hi (Nat.not_lt_zero _)) (fun i hi => absurd hi (Nat.not_lt_zero _)) rfl rfl rfl rfl W (by rw [hM0]; exact (((o_1).tr o_2).tr o_3))
