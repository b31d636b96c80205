set_option maxHeartbeats 4000000 in
set_option maxRecDepth 100000 in
theorem c_X2_faultOf (K : hKv) (M : hM) {A : Nat → Nat} {z : Nat → Int32} {F : Nat → Nat → Int32} (W : rW K A z F M) {b t : Nat} {g : Nat → Int32} (hb : M b = some (t, eC K 60 g)) (ht : t < 41 ∨ 44 ≤ t) {pad : List Nat} (hg : padM g pad) (hl : pad.length ≤ 60) (hpc : ∀ c ∈ pad, 33 ≤ c ∧ c ≤ 126) : hC K Y_X2_faultOf rm_X2_faultOf [.ref (A 40), .ref b, .int (nI pad.length)] M (hPi fun r M' => ∃ z F, rW K A z F M' ∧ hFr 41 44 M M' ∧ (∀ i, fltN pad = some i → r = nI i) ∧ (fltN pad = none → r = -6 ∧ z 0 = nI (stpN pad).length ∧ ∀ k, k < (stpN pad).length → F 0 k = nI (cdS ((stpN pad).getD k (0, 0))))) := by
  refine hC.of [some (.ref (A 40)), some (.ref b), some (.int (nI pad.length)), none] (by decide) (Nat.le_of_ble_eq_true rfl) rfl rfl ?_
  intro E C Rt
  have C : hCx E K cX2_faultOf 4 RX2 "faultOf" rm_X2_faultOf := C
  obtain ⟨M0, hM0⟩ : ∃ M0 : hM, M0 = M := ⟨_, rfl⟩
  rw [← hM0] at Rt
  have lp : ∀ (d i : Nat), i + d = pad.length → ∀ (st : List (Nat × Nat)) (wt : List Nat) (op nx : Nat) (z : Nat → Int32) (F : Nat → Nat → Int32) (M : hM), rW K A z F M → prM z F (st, wt, op, nx) → hFr 41 44 M0 M → M b = some (t, eC K 60 g) → PI (st, wt, op, nx) i → prs ps0 pad 0 = prs (st, wt, op, nx) (pad.drop i) i → hX E 0 0 22 [some (.ref (A 40)), some (.ref b), some (.int (nI pad.length)), some (.int (nI i))] [] M := by
    intro d
    induction d with
    | zero =>
      intro i hi st wt op nx z F M W pr fr hb hP he
      have hi : i = pad.length := by omega
      subst hi
      rw [drop_e (Nat.le_refl _), prs_e] at he
      have hlen : st.length + wt.length ≤ pad.length := hP.1
      have hop60 : op ≤ 60 := PI_sm hP hl
      have hnx : nx ≤ 3 := hP.2.2.2.2.2.2
      refine x_iload_3 23 C dX2_faultOf_22 rfl ?_
      refine x_iload_2 24 C dX2_faultOf_23 rfl ?_
      refine x_icmp_ge 27 51 C dX2_faultOf_24 rfl rfl (fun _ => ?_) (fun z => absurd (nI_le (Nat.le_refl _) (by omega)) z)
      refine x_aload_0 52 C dX2_faultOf_51 rfl ?_
      refine rOg_next 55 C wf_X2_29 W.obj dX2_faultOf_52 rfl ?_
      refine x_topi (v' := nI nx) pr.2.2.2.1 ?_
      refine x_if_eq 58 73 C dX2_faultOf_55 rfl rfl (fun c_55 => ?_) (fun c_55 => ?_)
      · refine x_iload_2 74 C dX2_faultOf_73 rfl ?_
        refine x_ireturn C Rt dX2_faultOf_74 rfl ⟨Nat.le_of_ble_eq_true rfl, Nat.le_of_ble_eq_true rfl⟩ ?_
        have hf : fltN pad = some pad.length := by rw [flt_is, he, fin_e, if_pos (Or.inl ((nI_c (k := 0) (by omega) (by decide)).mp c_55))]
        exact ⟨_, rfl, z, F, W, fr, fun i hi => (by rw [hf] at hi; cases hi; rfl), fun q => (by rw [hf] at q; cases q)⟩
      · refine x_aload_0 59 C dX2_faultOf_58 rfl ?_
        refine rOg_next 62 C wf_X2_29 W.obj dX2_faultOf_59 rfl ?_
        refine x_topi (v' := nI nx) pr.2.2.2.1 ?_
        refine x_iconst (v := 1) 63 C dX2_faultOf_62 rfl rfl ?_
        refine x_icmp_eq 66 73 C dX2_faultOf_63 rfl rfl (fun c_63 => ?_) (fun c_63 => ?_)
        · refine x_iload_2 74 C dX2_faultOf_73 rfl ?_
          refine x_ireturn C Rt dX2_faultOf_74 rfl ⟨Nat.le_of_ble_eq_true rfl, Nat.le_of_ble_eq_true rfl⟩ ?_
          have hf : fltN pad = some pad.length := by rw [flt_is, he, fin_e, if_pos (Or.inr (Or.inl ((nI_c (k := 1) (by omega) (by decide)).mp c_63)))]
          exact ⟨_, rfl, z, F, W, fr, fun i hi => (by rw [hf] at hi; cases hi; rfl), fun q => (by rw [hf] at q; cases q)⟩
        · refine x_aload_0 67 C dX2_faultOf_66 rfl ?_
          refine rOg_open 70 C wf_X2_26 W.obj dX2_faultOf_67 rfl ?_
          refine x_topi (v' := nI op) pr.2.2.1 ?_
          refine x_if_le 73 75 C dX2_faultOf_70 rfl rfl (fun c_70 => ?_) (fun c_70 => ?_)
          · have n0 : ¬ nx = 0 := fun q => c_55 (by rw [q]; rfl)
            have n1 : ¬ nx = 1 := fun q => c_63 (by rw [q]; rfl)
            have hop : op ≤ 0 := (nI_leI (a := op) (b := 0) (by omega) (by decide)).mp c_70
            refine x_aload_0 76 C dX2_faultOf_75 rfl ?_
            refine x_iconst (v := 1) 77 C dX2_faultOf_76 rfl rfl ?_
            refine x_topi (v' := nI 1) rfl ?_
            refine x_callV 80 C (c_X2_release K _ W pr (by omega) hP.2.2.1 1 (by decide)) W.obj wcl_X2 hy_X2_release wv_X2_release we_X2_release lk_X2_36 dX2_faultOf_77 rfl ⟨Nat.le_of_ble_eq_true rfl, Nat.le_of_ble_eq_true rfl⟩ ⟨Nat.le_of_ble_eq_true rfl, Nat.le_of_ble_eq_true rfl⟩ (Nat.le_of_ble_eq_true rfl) rfl (k_0 rfl rfl (k_v (fun M_1 h_1 => ?_)))
            obtain ⟨z_1, F_1, W, pr_1, o_r⟩ := h_1
            refine x_bipush (v := (-6)) 82 C dX2_faultOf_80 rfl rfl ?_
            refine x_ireturn C Rt dX2_faultOf_82 rfl ⟨Nat.le_of_ble_eq_true rfl, Nat.le_of_ble_eq_true rfl⟩ ?_
            have hs : stpN pad = (rel 1 wt st).2 := by unfold stpN; rw [he]
            have hfn : fltN pad = none := by rw [flt_is, he, fin_e, if_neg (by simp only []; omega)]
            refine ⟨_, rfl, z_1, F_1, W, fr.tr o_r, fun i hi => (by rw [hfn] at hi; cases hi), fun _ => ⟨rfl, ?_, ?_⟩⟩
            · rw [hs]; exact pr_1.1
            · rw [hs]; exact pr_1.2.2.2.2.1
          · refine x_iload_2 74 C dX2_faultOf_73 rfl ?_
            refine x_ireturn C Rt dX2_faultOf_74 rfl ⟨Nat.le_of_ble_eq_true rfl, Nat.le_of_ble_eq_true rfl⟩ ?_
            have hf : fltN pad = some pad.length := by rw [flt_is, he, fin_e, if_pos (Or.inr (Or.inr (show 0 < op from Decidable.by_contra fun q => c_70 (nI_le (by omega) (by decide)))))]
            exact ⟨_, rfl, z, F, W, fr, fun i hi => (by rw [hf] at hi; cases hi; rfl), fun q => (by rw [hf] at q; cases q)⟩
    | succ d ih =>
      intro i hi st wt op nx z F M W pr fr hb hP he
      have hi8 : i < pad.length := by omega
      have hdr := drop_c hi8
      have hc := getD_lt hpc i
      refine x_iload_3 23 C dX2_faultOf_22 rfl ?_
      refine x_iload_2 24 C dX2_faultOf_23 rfl ?_
      refine x_icmp_ge 27 51 C dX2_faultOf_24 rfl rfl (fun z => absurd z (nI_ge hi8 (by omega))) (fun _ => ?_)
      refine x_iload_3 28 C dX2_faultOf_27 rfl ?_
      refine x_aload_1 29 C dX2_faultOf_28 rfl ?_
      refine x_alenC 30 C hb dX2_faultOf_29 rfl ?_
      refine x_icmp_ge 33 51 C dX2_faultOf_30 rfl rfl (fun z => absurd z (nI_ge (show i < 60 by omega) (by decide))) (fun _ => ?_)
      refine x_aload_0 34 C dX2_faultOf_33 rfl ?_
      refine x_aload_1 35 C dX2_faultOf_34 rfl ?_
      refine x_iload_3 36 C dX2_faultOf_35 rfl ?_
      refine x_cald 37 (i) C hb (rfl) (by omega) (by decide) dX2_faultOf_36 rfl ?_
      refine x_topi (hg i hi8) ?_
      refine x_callV 40 C (c_X2_takes K _ W pr hP (by omega) (pad.getD i 0) (by omega)) W.obj wcl_X2 hy_X2_takes wv_X2_takes we_X2_takes lk_X2_32 dX2_faultOf_37 rfl ⟨Nat.le_of_ble_eq_true rfl, Nat.le_of_ble_eq_true rfl⟩ ⟨Nat.le_of_ble_eq_true rfl, Nat.le_of_ble_eq_true rfl⟩ (Nat.le_of_ble_eq_true rfl) rfl (k_0 rfl rfl (k_i (fun r_1 M_1 h_1 => ?_)))
      rcases h_1 with ⟨rfl, p, ht, hq⟩ | ⟨rfl, ht, z2, F2, W2, fr2⟩
      · skip
        refine x_if_ne 43 45 C dX2_faultOf_40 rfl rfl (fun _ => ?_) (fun z => absurd z (by decide))
        refine x_iinc_3 48 C dX2_faultOf_45 rfl rfl (nI_inc _) ?_
        refine x_goto 22 C dX2_faultOf_48 rfl ?_
        obtain ⟨z2, F2, W2, pr2, fr2⟩ := hq
        exact ih (i + 1) (by omega) p.1 p.2.1 p.2.2.1 p.2.2.2 _ _ _ W2 pr2 (fr.tr fr2) (fr2 _ _ _ (by omega) hb) (PI_tk hP ht) (by rw [he, hdr, prs_s ht])
      · skip
        refine x_if_ne 43 45 C dX2_faultOf_40 rfl rfl (fun z => absurd (rfl) z) (fun _ => ?_)
        refine x_iload_3 44 C dX2_faultOf_43 rfl ?_
        refine x_ireturn C Rt dX2_faultOf_44 rfl ⟨Nat.le_of_ble_eq_true rfl, Nat.le_of_ble_eq_true rfl⟩ ?_
        have hf : fltN pad = some i := by rw [flt_is, he, hdr, prs_n ht]; rfl
        exact ⟨_, rfl, z2, F2, W2, fr.tr fr2, fun j hj => (by rw [hf] at hj; cases hj; rfl), fun q => (by rw [hf] at q; cases q)⟩
  refine x_aload_0 1 C dX2_faultOf_0 rfl ?_
  refine x_iconst (v := 0) 2 C dX2_faultOf_1 rfl rfl ?_
  refine rOp_size 5 C wf_X2_19 W.obj dX2_faultOf_2 rfl ?_
  refine x_r_obj W (fun M_1 W o_1 => ?_)
  refine x_aload_0 6 C dX2_faultOf_5 rfl ?_
  refine x_iconst (v := 0) 7 C dX2_faultOf_6 rfl rfl ?_
  refine rOp_waits 10 C wf_X2_23 W.obj dX2_faultOf_7 rfl ?_
  refine x_r_obj W (fun M_2 W o_2 => ?_)
  refine x_aload_0 11 C dX2_faultOf_10 rfl ?_
  refine x_iconst (v := 0) 12 C dX2_faultOf_11 rfl rfl ?_
  refine rOp_open 15 C wf_X2_26 W.obj dX2_faultOf_12 rfl ?_
  refine x_r_obj W (fun M_3 W o_3 => ?_)
  refine x_aload_0 16 C dX2_faultOf_15 rfl ?_
  refine x_iconst (v := 0) 17 C dX2_faultOf_16 rfl rfl ?_
  refine rOp_next 20 C wf_X2_29 W.obj dX2_faultOf_17 rfl ?_
  refine x_r_obj W (fun M_4 W o_4 => ?_)
  refine x_iconst (v := 0) 21 C dX2_faultOf_20 rfl rfl ?_
  refine x_istore_3 22 C dX2_faultOf_21 rfl rfl ?_
  refine lp pad.length 0 (Nat.zero_add _) [] [] 0 0 _ _ _ W ⟨rfl, rfl, rfl, rfl, fun k hk => absurd hk (Nat.not_lt_zero _), fun k hk => absurd hk (Nat.not_lt_zero _)⟩ ?_ ?_ PI_0 rfl
  · rw [hM0]; exact ((((o_1).tr o_2).tr o_3).tr o_4)
  · exact ((((o_1).tr o_2).tr o_3).tr o_4) _ _ _ (by omega) hb
