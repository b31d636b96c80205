theorem ps_eta {p : hPs} {n : Nat} (h : p.2.2.2 = n) : (p.1, p.2.1, p.2.2.1, n) = p := by subst h; rfl
theorem tk_x {p : hPs} {c : Nat} (h : p.2.2.2 = 3) : tk p c = bhd p c := by rw [tk, if_neg (by omega), if_neg (by omega), if_neg (by omega)]
theorem flt_is {pad : List Nat} : fltN pad = fin1 (prs ps0 pad 0) pad.length := rfl
theorem PI_sm {p : hPs} {i : Nat} (h : PI p i) (hi : i ≤ 60) : p.2.2.1 ≤ 60 := by
  have h1 := h.2.1
  have h2 := nB_len p.2.1
  have h3 := h.1
  omega
theorem fltN_le {pad : List Nat} {i : Nat} (h : fltN pad = some i) : i ≤ pad.length := by
  have g : ∀ (cs : List Nat) (p : hPs) (i j : Nat), (prs p cs i).2 = some j → j ≤ i + cs.length := by
    intro cs
    induction cs with
    | nil => intro p i j h; cases h
    | cons c r ih =>
      intro p i j h
      rw [List.length_cons]
      cases ht : tk p c with
      | none => rw [prs_n ht] at h; cases h; omega
      | some p' => rw [prs_s ht] at h; have := ih p' (i + 1) j h; omega
  unfold fltN fin1 at h
  cases hr : (prs ps0 pad 0).2 with
  | some j => rw [hr] at h; cases h; have := g pad ps0 0 i hr; omega
  | none =>
    rw [hr] at h
    by_cases q : (prs ps0 pad 0).1.2.2.2 = 0 ∨ (prs ps0 pad 0).1.2.2.2 = 1 ∨ 0 < (prs ps0 pad 0).1.2.2.1
    · simp only [if_pos q] at h; cases h; exact Nat.le_refl _
    · simp only [if_neg q] at h; cases h
set_option maxHeartbeats 4000000 in
set_option maxRecDepth 100000 in
theorem c_X6_readPad (K : hKv) (M : hM) {A : Nat → Nat} {z : Nat → Int32} {F : Nat → Nat → Int32} {G : Nat → Nat → Int64} (W : mW K A z F G M) {pad : List Nat} (hz1 : z 1 = nI pad.length) (hpd : padM (F 8) pad) (hl : pad.length ≤ 60) (hpc : ∀ c ∈ pad, 33 ≤ c ∧ c ≤ 126) : hC K Y_X6_readPad rm_X6_readPad [.ref (A 0)] M (hPi fun r M' => ∃ z2 F2, mW K A z2 F2 G M' ∧ msP z z2 F F2 ∧ hFr 100 200 M M' ∧ (∀ i, fltN pad = some i → r = nI i) ∧ (fltN pad = none → r = -6 ∧ z2 2 = nI (stpN pad).length ∧ ∀ k, k < (stpN pad).length → F2 9 k = nI ((stpN pad).getD k (0, 0)).1 ∧ F2 10 k = nI ((stpN pad).getD k (0, 0)).2)) := by
  refine hC.of [some (.ref (A 0)), none, none, none] (by decide) (Nat.le_of_ble_eq_true rfl) rfl rfl ?_
  intro E C Rt
  have C : hCx E K cX6_readPad 4 RX6 "readPad" rm_X6_readPad := C
  obtain ⟨M0, hM0⟩ : ∃ M0 : hM, M0 = M := ⟨_, rfl⟩
  rw [← hM0] at Rt
  have fail : ∀ (j : Nat) (z1 : Nat → Int32) (F1 : Nat → Nat → Int32) (M : hM) (l1 l2 l3 : Option Value), fltN pad = some j → mW K A z1 F1 G M → msP z z1 F F1 → z1 5 = nI j → hFr 100 200 M0 M → hX E 0 0 118 [some (.ref (A 0)), l1, l2, l3] [] M := by
    intro j z1 F1 M l1 l2 l3 hf W ms h5 fr
    refine x_aload_0 119 C dX6_readPad_118 rfl ?_
    refine mOg_place 122 C wf_X6_77 W.obj dX6_readPad_119 rfl ?_
    refine x_topi h5 ?_
    refine x_ireturn C Rt dX6_readPad_122 rfl ⟨Nat.le_of_ble_eq_true rfl, Nat.le_of_ble_eq_true rfl⟩ ?_
    exact ⟨_, rfl, z1, F1, W, ms, fr, fun i hi => (by rw [hf] at hi; cases hi; rfl), fun q => (by rw [hf] at q; cases q)⟩
  have fail0 : ∀ (j : Nat) (z1 : Nat → Int32) (F1 : Nat → Nat → Int32) (M : hM) (l1 l3 : Option Value), fltN pad = some j → mW K A z1 F1 G M → msP z z1 F F1 → z1 5 = nI j → hFr 100 200 M0 M → hX E 0 0 24 [some (.ref (A 0)), l1, some (.int 0), l3] [] M := by
    intro j z1 F1 M l1 l3 hf W ms h5 fr
    refine x_iload_2 25 C dX6_readPad_24 rfl ?_
    refine x_if_eq 28 103 C dX6_readPad_25 rfl rfl (fun _ => ?_) (fun z => absurd (rfl) z)
    refine x_iload_2 104 C dX6_readPad_103 rfl ?_
    refine x_if_eq 107 118 C dX6_readPad_104 rfl rfl (fun _ => ?_) (fun z => absurd (rfl) z)
    exact fail j z1 F1 M l1 _ l3 hf W ms h5 fr
  have lp : ∀ (d i : Nat), i + d = pad.length → ∀ (st : List (Nat × Nat)) (wt : List Nat) (op n : Nat) (l1 : Int32) (z1 : Nat → Int32) (F1 : Nat → Nat → Int32) (M : hM) (l3 : Option Value), ((l1 = 1 ∧ n = 0) ∨ (l1 = 0 ∧ 2 ≤ n)) → PI (st, wt, op, n) i → (2 ≤ n → ∀ c r, pad.drop i = c :: r → tk (st, wt, op, n) c = bhd (st, wt, op, n) c) → prs ps0 pad 0 = prs (st, wt, op, n) (pad.drop i) i → mW K A z1 F1 G M → msP z z1 F F1 → pmM z1 F1 st wt op i → hFr 100 200 M0 M → hX E 0 0 24 [some (.ref (A 0)), some (.int l1), some (.int 1), l3] [] M := by
    intro d
    induction d using Nat.strongRecOn with
    | ind d ih =>
      intro i hid st wt op n l1 z1 F1 M l3 hl1 hP hstop he W ms pm fr
      have z5 := pm.2.2.2.1
      have hz1b : z1 1 = nI pad.length := ms.2.1.trans hz1
      have hpdb : padM (F1 8) pad := by rw [ms.2.2 8 (Nat.le_refl _)]; exact hpd
      have hop9 : op ≤ 60 := PI_sm hP (by omega)
      rcases Nat.lt_or_ge i pad.length with hi | hge
      · have hdr := drop_c hi
        rcases hl1 with ⟨rfl, rfl⟩ | ⟨rfl, hn⟩
        · skip
          refine x_iload_2 25 C dX6_readPad_24 rfl ?_
          refine x_if_eq 28 103 C dX6_readPad_25 rfl rfl (fun z => absurd z (by decide)) (fun _ => ?_)
          refine x_aload_0 29 C dX6_readPad_28 rfl ?_
          refine mOg_place 32 C wf_X6_77 W.obj dX6_readPad_29 rfl ?_
          refine x_topi z5 ?_
          refine x_aload_0 33 C dX6_readPad_32 rfl ?_
          refine mOg_signs 36 C wf_X6_74 W.obj dX6_readPad_33 rfl ?_
          refine x_topi hz1b ?_
          refine x_icmp_ge 39 103 C dX6_readPad_36 rfl rfl (fun z => absurd z (nI_ge hi (by omega))) (fun _ => ?_)
          refine x_iload_1 40 C dX6_readPad_39 rfl ?_
          refine x_if_eq 43 78 C dX6_readPad_40 rfl rfl (fun z => absurd z (by decide)) (fun _ => ?_)
          refine x_aload_0 44 C dX6_readPad_43 rfl ?_
          refine x_callV 47 C (c_X6_readOperand K _ W pm hz1b hpdb hl hpc hi hP) W.obj wcl_X6 hy_X6_readOperand wv_X6_readOperand we_X6_readOperand lk_X6_111 dX6_readPad_44 rfl ⟨Nat.le_of_ble_eq_true rfl, Nat.le_of_ble_eq_true rfl⟩ ⟨Nat.le_of_ble_eq_true rfl, Nat.le_of_ble_eq_true rfl⟩ (Nat.le_of_ble_eq_true rfl) rfl (k_0 rfl rfl (k_i (fun r_r M_r h_r => ?_)))
          rcases h_r with ⟨rfl, p, j, ⟨z2, F2, W2, ms2, pm2, fr2⟩, hn2, hPj, hij, hjl, hej, hst2⟩ | ⟨rfl, rfl, hnd, hnl⟩
          · skip
            refine x_istore_3 48 C dX6_readPad_47 rfl rfl ?_
            refine x_iload_3 49 C dX6_readPad_48 rfl ?_
            refine x_if_ne 52 59 C dX6_readPad_49 rfl rfl (fun _ => ?_) (fun z => absurd z (by decide))
            refine x_iconst (v := 1) 60 C dX6_readPad_59 rfl rfl ?_
            refine x_goto 64 C dX6_readPad_60 rfl ?_
            refine x_istore_2 65 C dX6_readPad_64 rfl rfl ?_
            refine x_iload_3 66 C dX6_readPad_65 rfl ?_
            refine x_if_ne 69 73 C dX6_readPad_66 rfl rfl (fun _ => ?_) (fun z => absurd z (by decide))
            refine x_iconst (v := 0) 74 C dX6_readPad_73 rfl rfl ?_
            refine x_istore_1 75 C dX6_readPad_74 rfl rfl ?_
            refine x_goto 24 C dX6_readPad_75 rfl ?_
            exact ih (pad.length - j) (by omega) j (by omega) p.1 p.2.1 p.2.2.1 p.2.2.2 _ _ _ _ _ (Or.inr ⟨rfl, hn2⟩) hPj (fun _ => hst2) (he.trans hej) W2 (ms.tr ms2) pm2 (fr.tr fr2)
          · skip
            refine x_istore_3 48 C dX6_readPad_47 rfl rfl ?_
            refine x_iload_3 49 C dX6_readPad_48 rfl ?_
            refine x_if_ne 52 59 C dX6_readPad_49 rfl rfl (fun z => absurd (by decide) z) (fun _ => ?_)
            refine x_aload_0 53 C dX6_readPad_52 rfl ?_
            refine x_callV 56 C (c_X6_readOpening K _ W pm hz1b hpdb hl hpc hi hP hnd hnl) W.obj wcl_X6 hy_X6_readOpening wv_X6_readOpening we_X6_readOpening lk_X6_115 dX6_readPad_53 rfl ⟨Nat.le_of_ble_eq_true rfl, Nat.le_of_ble_eq_true rfl⟩ ⟨Nat.le_of_ble_eq_true rfl, Nat.le_of_ble_eq_true rfl⟩ (Nat.le_of_ble_eq_true rfl) rfl (k_0 rfl rfl (k_i (fun r_1 M_1 h_1 => ?_)))
            rcases h_1 with ⟨rfl, p, j, ⟨z2, F2, W2, ms2, pm2, fr2⟩, hn2, hPj, hij, hjl, hej⟩ | ⟨rfl, j, hij, ⟨z2, F2, W2, ms2, pm2, fr2⟩, hfj⟩
            · skip
              refine x_if_eq 59 63 C dX6_readPad_56 rfl rfl (fun z => absurd z (by decide)) (fun _ => ?_)
              refine x_iconst (v := 1) 60 C dX6_readPad_59 rfl rfl ?_
              refine x_goto 64 C dX6_readPad_60 rfl ?_
              refine x_istore_2 65 C dX6_readPad_64 rfl rfl ?_
              refine x_iload_3 66 C dX6_readPad_65 rfl ?_
              refine x_if_ne 69 73 C dX6_readPad_66 rfl rfl (fun z => absurd (by decide) z) (fun _ => ?_)
              refine x_iconst (v := 1) 70 C dX6_readPad_69 rfl rfl ?_
              refine x_goto 74 C dX6_readPad_70 rfl ?_
              refine x_istore_1 75 C dX6_readPad_74 rfl rfl ?_
              refine x_goto 24 C dX6_readPad_75 rfl ?_
              refine ih (pad.length - j) (by omega) j (by omega) p.1 p.2.1 p.2.2.1 0 _ _ _ _ _ (Or.inl ⟨rfl, rfl⟩) (by rw [ps_eta hn2]; exact hPj) (fun q => by omega) ?_ W2 (ms.tr ms2) pm2 (fr.tr fr2)
              rw [ps_eta hn2]; exact he.trans hej
            · skip
              refine x_if_eq 59 63 C dX6_readPad_56 rfl rfl (fun _ => ?_) (fun z => absurd (rfl) z)
              refine x_iconst (v := 0) 64 C dX6_readPad_63 rfl rfl ?_
              refine x_istore_2 65 C dX6_readPad_64 rfl rfl ?_
              refine x_iload_3 66 C dX6_readPad_65 rfl ?_
              refine x_if_ne 69 73 C dX6_readPad_66 rfl rfl (fun z => absurd (by decide) z) (fun _ => ?_)
              refine x_iconst (v := 1) 70 C dX6_readPad_69 rfl rfl ?_
              refine x_goto 74 C dX6_readPad_70 rfl ?_
              refine x_istore_1 75 C dX6_readPad_74 rfl rfl ?_
              refine x_goto 24 C dX6_readPad_75 rfl ?_
              exact fail0 j _ _ _ _ _ (by rw [flt_is, he]; exact hfj) W2 (ms.tr ms2) pm2.2.2.2.1 (fr.tr fr2)
        · have hc := getD_lt hpc i
          have htk := hstop hn _ _ hdr
          have h41 : nI (pad.getD i 0) = 41 ↔ pad.getD i 0 = 41 := nI_c (k := 41) (by omega) (by decide)
          refine x_iload_2 25 C dX6_readPad_24 rfl ?_
          refine x_if_eq 28 103 C dX6_readPad_25 rfl rfl (fun z => absurd z (by decide)) (fun _ => ?_)
          refine x_aload_0 29 C dX6_readPad_28 rfl ?_
          refine mOg_place 32 C wf_X6_77 W.obj dX6_readPad_29 rfl ?_
          refine x_topi z5 ?_
          refine x_aload_0 33 C dX6_readPad_32 rfl ?_
          refine mOg_signs 36 C wf_X6_74 W.obj dX6_readPad_33 rfl ?_
          refine x_topi hz1b ?_
          refine x_icmp_ge 39 103 C dX6_readPad_36 rfl rfl (fun z => absurd z (nI_ge hi (by omega))) (fun _ => ?_)
          refine x_iload_1 40 C dX6_readPad_39 rfl ?_
          refine x_if_eq 43 78 C dX6_readPad_40 rfl rfl (fun _ => ?_) (fun z => absurd (rfl) z)
          refine x_aload_0 79 C dX6_readPad_78 rfl ?_
          refine x_callV 82 C (c_X6_sign K _ W (pad := pad) hz1b hpdb hl (i := i) (by omega) z5) W.obj wcl_X6 hy_X6_sign wv_X6_sign we_X6_sign lk_X6_94 dX6_readPad_79 rfl ⟨Nat.le_of_ble_eq_true rfl, Nat.le_of_ble_eq_true rfl⟩ ⟨Nat.le_of_ble_eq_true rfl, Nat.le_of_ble_eq_true rfl⟩ (Nat.le_of_ble_eq_true rfl) rfl (k_0 rfl rfl (k_ip ?_))
          refine x_istore_3 83 C dX6_readPad_82 rfl rfl ?_
          refine x_aload_0 84 C dX6_readPad_83 rfl ?_
          refine x_callV 87 C (c_X6_readBehind K _ W pm hz1b hpdb hl hpc hi hP hn) W.obj wcl_X6 hy_X6_readBehind wv_X6_readBehind we_X6_readBehind lk_X6_118 dX6_readPad_84 rfl ⟨Nat.le_of_ble_eq_true rfl, Nat.le_of_ble_eq_true rfl⟩ ⟨Nat.le_of_ble_eq_true rfl, Nat.le_of_ble_eq_true rfl⟩ (Nat.le_of_ble_eq_true rfl) rfl (k_0 rfl rfl (k_i (fun r_r M_r h_r => ?_)))
          rcases h_r with ⟨rfl, p, hb, ⟨z2, F2, W2, ms2, pm2, fr2⟩⟩ | ⟨rfl, rfl, hb⟩
          · have ht := htk.trans hb
            have hPj := PI_tk hP ht
            have hej : prs ps0 pad 0 = prs p (pad.drop (i + 1)) (i + 1) := by rw [he, hdr, prs_s ht]
            refine x_istore_2 88 C dX6_readPad_87 rfl rfl ?_
            refine x_iload_3 89 C dX6_readPad_88 rfl ?_
            refine x_bipush (v := 41) 91 C dX6_readPad_89 rfl rfl ?_
            refine x_icmp_eq 94 98 C dX6_readPad_91 rfl rfl (fun c_91 => ?_) (fun c_91 => ?_)
            · refine x_iconst (v := 0) 99 C dX6_readPad_98 rfl rfl ?_
              refine x_istore_1 100 C dX6_readPad_99 rfl rfl ?_
              refine x_goto 24 C dX6_readPad_100 rfl ?_
              obtain ⟨-, hn3⟩ : pad.getD i 0 = 41 ∧ p.2.2.2 = 3 := by
                rcases bhd_nx hb with q | q
                · exact q
                · exact absurd (h41.mp c_91) q.1
              exact ih (pad.length - (i + 1)) (by omega) (i + 1) (by omega) p.1 p.2.1 p.2.2.1 p.2.2.2 _ _ _ _ _ (Or.inr ⟨rfl, by omega⟩) hPj (fun _ c r _ => tk_x hn3) hej W2 (ms.tr ms2) pm2 (fr.tr fr2)
            · refine x_iconst (v := 1) 95 C dX6_readPad_94 rfl rfl ?_
              refine x_goto 99 C dX6_readPad_95 rfl ?_
              refine x_istore_1 100 C dX6_readPad_99 rfl rfl ?_
              refine x_goto 24 C dX6_readPad_100 rfl ?_
              obtain ⟨-, hn3⟩ : ¬ pad.getD i 0 = 41 ∧ p.2.2.2 = 0 := by
                rcases bhd_nx hb with q | q
                · exact absurd (h41.mpr q.1) c_91
                · exact q
              exact ih (pad.length - (i + 1)) (by omega) (i + 1) (by omega) p.1 p.2.1 p.2.2.1 0 _ _ _ _ _ (Or.inl ⟨rfl, rfl⟩) (by rw [ps_eta hn3]; exact hPj) (fun q => by omega) (by rw [ps_eta hn3]; exact hej) W2 (ms.tr ms2) pm2 (fr.tr fr2)
          · skip
            refine x_istore_2 88 C dX6_readPad_87 rfl rfl ?_
            refine x_iload_3 89 C dX6_readPad_88 rfl ?_
            refine x_bipush (v := 41) 91 C dX6_readPad_89 rfl rfl ?_
            refine x_icmp_eq 94 98 C dX6_readPad_91 rfl rfl (fun c_91 => ?_) (fun c_91 => ?_)
            · refine x_iconst (v := 0) 99 C dX6_readPad_98 rfl rfl ?_
              refine x_istore_1 100 C dX6_readPad_99 rfl rfl ?_
              refine x_goto 24 C dX6_readPad_100 rfl ?_
              exact fail0 i _ _ _ _ _ (by rw [flt_is, he, hdr, prs_n (htk.trans hb)]; rfl) W ms z5 fr
            · refine x_iconst (v := 1) 95 C dX6_readPad_94 rfl rfl ?_
              refine x_goto 99 C dX6_readPad_95 rfl ?_
              refine x_istore_1 100 C dX6_readPad_99 rfl rfl ?_
              refine x_goto 24 C dX6_readPad_100 rfl ?_
              exact fail0 i _ _ _ _ _ (by rw [flt_is, he, hdr, prs_n (htk.trans hb)]; rfl) W ms z5 fr
      · have hin : i = pad.length := by omega
        have hdr := drop_e hge
        rw [hdr, prs_e] at he
        rcases hl1 with ⟨rfl, rfl⟩ | ⟨rfl, hn⟩
        · skip
          refine x_iload_2 25 C dX6_readPad_24 rfl ?_
          refine x_if_eq 28 103 C dX6_readPad_25 rfl rfl (fun z => absurd z (by decide)) (fun _ => ?_)
          refine x_aload_0 29 C dX6_readPad_28 rfl ?_
          refine mOg_place 32 C wf_X6_77 W.obj dX6_readPad_29 rfl ?_
          refine x_topi z5 ?_
          refine x_aload_0 33 C dX6_readPad_32 rfl ?_
          refine mOg_signs 36 C wf_X6_74 W.obj dX6_readPad_33 rfl ?_
          refine x_topi hz1b ?_
          refine x_icmp_ge 39 103 C dX6_readPad_36 rfl rfl (fun _ => ?_) (fun z => absurd (nI_le hge (by omega)) z)
          refine x_iload_2 104 C dX6_readPad_103 rfl ?_
          refine x_if_eq 107 118 C dX6_readPad_104 rfl rfl (fun z => absurd z (by decide)) (fun _ => ?_)
          refine x_iload_1 108 C dX6_readPad_107 rfl ?_
          refine x_if_ne 111 118 C dX6_readPad_108 rfl rfl (fun _ => ?_) (fun z => absurd z (by decide))
          exact fail i _ _ _ _ _ _ (by rw [flt_is, he, fin_e, if_pos (Or.inl rfl), hin]) W ms z5 fr
        · skip
          refine x_iload_2 25 C dX6_readPad_24 rfl ?_
          refine x_if_eq 28 103 C dX6_readPad_25 rfl rfl (fun z => absurd z (by decide)) (fun _ => ?_)
          refine x_aload_0 29 C dX6_readPad_28 rfl ?_
          refine mOg_place 32 C wf_X6_77 W.obj dX6_readPad_29 rfl ?_
          refine x_topi z5 ?_
          refine x_aload_0 33 C dX6_readPad_32 rfl ?_
          refine mOg_signs 36 C wf_X6_74 W.obj dX6_readPad_33 rfl ?_
          refine x_topi hz1b ?_
          refine x_icmp_ge 39 103 C dX6_readPad_36 rfl rfl (fun _ => ?_) (fun z => absurd (nI_le hge (by omega)) z)
          refine x_iload_2 104 C dX6_readPad_103 rfl ?_
          refine x_if_eq 107 118 C dX6_readPad_104 rfl rfl (fun z => absurd z (by decide)) (fun _ => ?_)
          refine x_iload_1 108 C dX6_readPad_107 rfl ?_
          refine x_if_ne 111 118 C dX6_readPad_108 rfl rfl (fun z => absurd (by decide) z) (fun _ => ?_)
          refine x_aload_0 112 C dX6_readPad_111 rfl ?_
          refine mOg_depth 115 C wf_X6_105 W.obj dX6_readPad_112 rfl ?_
          refine x_topi pm.2.2.1 ?_
          refine x_if_le 118 123 C dX6_readPad_115 rfl rfl (fun c_115 => ?_) (fun c_115 => ?_)
          · have hop : op ≤ 0 := (nI_leI (a := op) (b := 0) (by omega) (by decide)).mp c_115
            refine x_aload_0 124 C dX6_readPad_123 rfl ?_
            refine x_bipush (v := 43) 126 C dX6_readPad_124 rfl rfl ?_
            refine x_topi (v' := nI 43) rfl ?_
            refine x_callV 129 C (c_X6_close K _ W pm 43 (Or.inl rfl) (by have := hP.1; simp only [] at this; omega) (PI_256 hP)) W.obj wcl_X6 hy_X6_close wv_X6_close we_X6_close lk_X6_108 dX6_readPad_126 rfl ⟨Nat.le_of_ble_eq_true rfl, Nat.le_of_ble_eq_true rfl⟩ ⟨Nat.le_of_ble_eq_true rfl, Nat.le_of_ble_eq_true rfl⟩ (Nat.le_of_ble_eq_true rfl) rfl (k_0 rfl rfl (k_v (fun M_1 h_1 => ?_)))
            obtain ⟨z_2, F_2, W, ms_2, pm_2, o_c⟩ := h_1
            rw [show strg 43 = 1 from rfl] at pm_2
            refine x_bipush (v := (-6)) 131 C dX6_readPad_129 rfl rfl ?_
            refine x_ireturn C Rt dX6_readPad_131 rfl ⟨Nat.le_of_ble_eq_true rfl, Nat.le_of_ble_eq_true rfl⟩ ?_
            have hs : stpN pad = (rel 1 wt st).2 := by unfold stpN; rw [he]
            have hfn : fltN pad = none := by rw [flt_is, he, fin_e, if_neg (by simp only []; omega)]
            refine ⟨_, rfl, z_2, F_2, W, ms.tr ms_2, fr.tr o_c, fun i hi => (by rw [hfn] at hi; cases hi), fun _ => ⟨rfl, ?_, ?_⟩⟩
            · rw [hs]; exact pm_2.1
            · rw [hs]; exact pm_2.2.2.2.2.1
          · have hop : ¬ op ≤ 0 := fun q => c_115 (nI_le q (by decide))
            exact fail i _ _ _ _ _ _ (by rw [flt_is, he, fin_e, if_pos (Or.inr (Or.inr (by simp only []; omega))), hin]) W ms z5 fr
  refine x_aload_0 1 C dX6_readPad_0 rfl ?_
  refine x_iconst (v := 0) 2 C dX6_readPad_1 rfl rfl ?_
  refine mOp_read 5 C wf_X6_80 W.obj dX6_readPad_2 rfl ?_
  refine x_m_obj W (fun M_1 W o_1 => ?_)
  refine x_aload_0 6 C dX6_readPad_5 rfl ?_
  refine x_iconst (v := 0) 7 C dX6_readPad_6 rfl rfl ?_
  refine mOp_opened 10 C wf_X6_83 W.obj dX6_readPad_7 rfl ?_
  refine x_m_obj W (fun M_2 W o_2 => ?_)
  refine x_aload_0 11 C dX6_readPad_10 rfl ?_
  refine x_iconst (v := 0) 12 C dX6_readPad_11 rfl rfl ?_
  refine mOp_depth 15 C wf_X6_105 W.obj dX6_readPad_12 rfl ?_
  refine x_m_obj W (fun M_3 W o_3 => ?_)
  refine x_aload_0 16 C dX6_readPad_15 rfl ?_
  refine x_iconst (v := 0) 17 C dX6_readPad_16 rfl rfl ?_
  refine mOp_place 20 C wf_X6_77 W.obj dX6_readPad_17 rfl ?_
  refine x_m_obj W (fun M_4 W o_4 => ?_)
  refine x_iconst (v := 1) 21 C dX6_readPad_20 rfl rfl ?_
  refine x_istore_1 22 C dX6_readPad_21 rfl rfl ?_
  refine x_iconst (v := 1) 23 C dX6_readPad_22 rfl rfl ?_
  refine x_istore_2 24 C dX6_readPad_23 rfl rfl ?_
  exact lp pad.length 0 (by omega) [] [] 0 0 _ _ _ _ _ (Or.inl ⟨rfl, rfl⟩) PI_0 (fun q => by omega) rfl W ((msP.z (by decide)).tr ((msP.z (by decide)).tr ((msP.z (by decide)).tr (msP.z (by decide))))) ⟨rfl, rfl, rfl, rfl, fun k hk => (by cases hk), fun k hk => (by cases hk)⟩ (by rw [hM0]; exact ((((o_1).tr o_2).tr o_3).tr o_4))
set_option maxHeartbeats 4000000 in
set_option maxRecDepth 100000 in
theorem c_X6_fault (K : hKv) (M : hM) {A : Nat → Nat} {z : Nat → Int32} {F : Nat → Nat → Int32} {G : Nat → Nat → Int64} (W : mW K A z F G M) {pad : List Nat} (hz1 : z 1 = nI pad.length) (hpd : padM (F 8) pad) (hl : pad.length ≤ 60) (hpc : ∀ c ∈ pad, 33 ≤ c ∧ c ≤ 126) : hC K Y_X6_fault rm_X6_fault [.ref (A 0)] M (hPi fun r M' => (∃ z2 F2, mW K A z2 F2 G M' ∧ msP z z2 F F2) ∧ hFr 100 200 M M' ∧ r = match fltN pad with | some i => nI i | none => -6) := by
  refine hC.of [some (.ref (A 0))] (by decide) (Nat.le_of_ble_eq_true rfl) rfl rfl ?_
  intro E C Rt
  have C : hCx E K cX6_fault 1 RX6 "fault" rm_X6_fault := C
  refine x_aload_0 1 C dX6_fault_0 rfl ?_
  refine x_callV 4 C (c_X6_readPad K _ W hz1 hpd hl hpc) W.obj wcl_X6 hy_X6_readPad wv_X6_readPad we_X6_readPad lk_X6_121 dX6_fault_1 rfl ⟨Nat.le_of_ble_eq_true rfl, Nat.le_of_ble_eq_true rfl⟩ ⟨Nat.le_of_ble_eq_true rfl, Nat.le_of_ble_eq_true rfl⟩ (Nat.le_of_ble_eq_true rfl) rfl (k_0 rfl rfl (k_i (fun r_1 M_1 h_1 => ?_)))
  obtain ⟨z_2, F_2, W_2, ms_2, fr_2, hs, hn⟩ := h_1
  refine x_ireturn C Rt dX6_fault_4 rfl ⟨Nat.le_of_ble_eq_true rfl, Nat.le_of_ble_eq_true rfl⟩ ?_
  refine ⟨_, rfl, ⟨z_2, F_2, W_2, ms_2⟩, fr_2, ?_⟩
  cases hf : fltN pad with
  | some i => exact hs i hf
  | none => exact (hn hf).1
