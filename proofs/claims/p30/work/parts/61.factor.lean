/-! a factor, said and reckoned -/
theorem sp_count3 {σ : hSt} : sp_count σ 3 = nI σ.1.1 := by
  rw [sp_count, if_neg (by decide), if_neg (by decide), if_neg (by decide), if_pos (by decide)]
theorem sp_count0 {σ : hSt} : sp_count σ 0 = fset σ.1 := by rw [sp_count, if_pos (by decide)]
theorem sp_count1 {σ : hSt} : sp_count σ 1 = nI σ.2.2.2.length := by
  rw [sp_count, if_neg (by decide), if_pos (by decide)]
theorem lMa_3 {τ : hS1} {L : List (Nat × Nat)} {fv : Nat → Int64} {fm : Nat → Int32} (H : lMa τ L fv fm) (v : Int32) : lMa τ L fv (va_up fm 3 v) := by
  refine ⟨by rw [va_up_ne _ _ (by decide)]; exact H.1, fun q => ?_, fun q => ?_, H.2.2.2⟩
  · rw [va_up_ne _ _ (by decide), va_up_ne _ _ (by decide)]; exact H.2.1 q
  · rw [va_up_ne _ _ (by decide), va_up_ne _ _ (by decide)]; exact H.2.2.1 q
theorem lMb_3 {L : List (Nat × Nat)} {fm : Nat → Int32} (h : lMb L fm) : lMb L (va_up fm 3 (fm 3 + 0)) := ⟨by rw [va_up_self, Int32.add_zero]; exact h.1, by rw [va_up_ne _ _ (by decide)]; exact h.2⟩
theorem lMb_q {L : List (Nat × Nat)} {fm fm2 : Nat → Int32} {c : Nat} (h : lMb L fm) (hc : c = 113 ∨ c = 107) (h3 : fm2 3 = va_up fm 3 (fm 3 + 1) 3) (h4 : fm2 4 = va_up fm 3 (fm 3 + 1) 4) : lMb (L ++ [(c, 0)]) fm2 := by
  refine ⟨?_, ?_⟩
  · rw [h3, va_up_self, h.1, rO_1, if_pos (show (c, 0).1 = 113 ∨ (c, 0).1 = 107 from hc)]; exact nI_1 _
  · rw [h4, va_up_ne _ _ (by decide), h.2, cO_1, if_neg (by show ¬ c = 1; omega), i_or0]
theorem rkv_115 {τ : hS1} {w : Nat} {p : List Nat} : rkv τ (115, 0) (w :: p) = (tmn w w : Int) := rfl
theorem rkv_113 {τ : hS1} {w : Nat} {p : List Nat} : rkv τ (113, 0) (w :: p) = (rr 2 w τ.1 : Int) := rfl
theorem rkv_107 {τ : hS1} {w : Nat} {p : List Nat} : rkv τ (107, 0) (w :: p) = (rr 3 w τ.1 : Int) := rfl
theorem pfx_len {g : Nat} : (pfx g).length ≤ 2 := by unfold pfx; split <;> simp
set_option maxHeartbeats 4000000 in
set_option maxRecDepth 100000 in
theorem c_L_factor (K : hKv) (M : hM) {b L : Nat} {xs : Nat → Int32} (hL : L ≤ 260) {A : Nat → Nat} {σ : hSt} (X : cX K A σ M) (ho : okS σ) {V N : Nat} {fv : Nat → Int64} {fm : Nat → Int32} (HV : M V = some (100, eJ K 64 fv)) (HN : M N = some (101, eI K 5 fm)) (L1 : List (Nat × Nat)) (H : lMa σ.1 L1 fv fm) (HB : lMb L1 fm) (hl : L1.length + 4 ≤ 60) (k n w : Nat) (hk : k ≤ 700) (hw : w = 4 ∧ n = 10000 ∨ w = 2 ∧ n = 100) (hpd : σ.2.2.2.length + 8 ≤ 60) : hCs K b L xs Y_L_factor rm_L_factor [.ref (A 36), .ref V, .ref N, .ref b, .int (nI k), .int (nI n)] M (hPl fun r M' => ∃ X1 T fv2 fm2, X1.length ≤ 4 ∧ T.length ≤ 8 ∧ on X1 ∧ pz X1 T ∧ cX K A (pA σ T) M' ∧ okS (pA σ T) ∧ M' V = some (100, eJ K 64 fv2) ∧ M' N = some (101, eI K 5 fm2) ∧ lMa σ.1 (L1 ++ X1) fv2 fm2 ∧ lMb (L1 ++ X1) fm2 ∧ r = lN (rvN σ.1 (L1 ++ X1))) := by
  refine hCs.of [some (.ref (A 36)), some (.ref V), some (.ref N), some (.ref b), some (.int (nI k)), some (.int (nI n)), none, none, none, none, none, none, none] (by decide) (Nat.le_of_ble_eq_true rfl) rfl rfl ?_
  intro E C Rt S
  have C : hCx E K cL_factor 13 RL "factor" rm_L_factor := C
  have m169 : ∀ (u g : Nat) (Y : List (Nat × Nat)) (T0 : List Nat) (M1 : hM) (fv : Nat → Int64) (fm : Nat → Int32) (m9 m10 m11 : Option Value), (u = 2 ∧ g = 40 ∨ u = 3 ∧ g = 113 ∨ u = 4 ∧ g = 107 ∨ u = 5 ∧ g = 115) → on Y → Y.length ≤ 3 → T0.length ≤ 7 → pz (Y ++ sfx g) (T0 ++ [41]) → cX K A (pA σ T0) M1 → okS (pA σ T0) → M1 V = some (100, eJ K 64 fv) → M1 N = some (101, eI K 5 fm) → lMa σ.1 (L1 ++ Y) fv fm → lMb (L1 ++ Y) fm → hX E 0 0 169 [some (.ref (A 36)), some (.ref V), some (.ref N), some (.ref b), some (.int (nI k)), some (.int (nI n)), some (.int (nI u)), some (.long (lN (rvN σ.1 (L1 ++ Y)))), none, m9, m10, m11, none] [] M1 := by
    intro u g Y T0 M1 fv fm m9 m10 m11 hug hon hY hT0 hz X ho HV HN H HB
    have hρ : σ.1.1 ≤ 2 := ho.1.1
    obtain ⟨z_o, hO⟩ := X.obj
    have fr : hFr 100 102 M1 M1 := hFr.rf
    rcases hug with ⟨rfl, rfl⟩ | ⟨rfl, rfl⟩ | ⟨rfl, rfl⟩ | ⟨rfl, rfl⟩
    · skip
      refine x_aload_0 170 C dL_factor_169 rfl ?_
      refine x_ldc2 (v := 41) 173 C dL_factor_170 rfl wq_L_72 ?_
      refine x_callV 176 C (c_put1 K _ X ho (41) (by decide) (by rw [pA_len]; omega)) hO wcl_X5 hy_X5_put wv_X5_put we_X5_put lk_L_31 dL_factor_173 rfl ⟨Nat.le_of_ble_eq_true rfl, Nat.le_of_ble_eq_true rfl⟩ ⟨Nat.le_of_ble_eq_true rfl, Nat.le_of_ble_eq_true rfl⟩ (Nat.le_of_ble_eq_true rfl) rfl (k_0 rfl rfl (k_i (fun r_1 M_1 h_1 => ?_)))
      obtain ⟨X, ho, g_1⟩ := h_1
      obtain ⟨z_o, hO⟩ := X.obj
      have HV := g_1 _ _ _ (Or.inr (by decide)) HV
      have HN := g_1 _ _ _ (Or.inr (by decide)) HN
      have fr : hFr 100 102 M_1 M_1 := hFr.rf
      rw [pA_pA] at X ho
      refine x_pop 177 C dL_factor_176 rfl rfl ?_
      refine x_aload_2 178 C dL_factor_177 rfl ?_
      refine x_iconst (v := 3) 179 C dL_factor_178 rfl rfl ?_
      refine x_dup2 180 C dL_factor_179 rfl rfl rfl ?_
      refine x_iald 181 (3) C HN (rfl) (by decide) (by decide) dL_factor_180 rfl ?_
      refine x_iload_6 183 C dL_factor_181 rfl ?_
      refine x_iconst (v := 3) 184 C dL_factor_183 rfl rfl ?_
      refine x_icmp_eq 187 193 C dL_factor_184 rfl rfl (fun z => absurd z ((by decide))) (fun _ => ?_)
      refine x_iload_6 189 C dL_factor_187 rfl ?_
      refine x_iconst (v := 4) 190 C dL_factor_189 rfl rfl ?_
      refine x_icmp_ne 193 197 C dL_factor_190 rfl rfl (fun _ => ?_) (fun z => absurd z ((by decide)))
      refine x_iconst (v := 0) 198 C dL_factor_197 rfl rfl ?_
      refine x_iadd 199 C dL_factor_198 rfl ?_
      refine x_iast 200 (3) C HN (rfl) (by decide) (by decide) dL_factor_199 rfl ?_
      refine x_up (fun M_2 g_2 o_2 e_2 => ?_)
      have fr := fr.tr (M2 := M_2) (by rw [e_2]; exact hFr.put HN (by omega))
      have hO := (o_2 _ (hT_ne hO HN (by omega))).trans hO
      have HV := (o_2 _ (hT_ne HV HN (by omega))).trans HV
      have HN := g_2
      refine x_iload_6 202 C dL_factor_200 rfl ?_
      refine x_iconst (v := 2) 203 C dL_factor_202 rfl rfl ?_
      refine x_icmp_ne 206 211 C dL_factor_203 rfl rfl (fun z => absurd (rfl) z) (fun _ => ?_)
      refine x_lload_7 208 C dL_factor_206 rfl ?_
      refine x_goto 253 C dL_factor_208 rfl ?_
      refine x_lreturn C Rt dL_factor_253 ⟨Nat.le_of_ble_eq_true rfl, Nat.le_of_ble_eq_true rfl⟩ ?_
      exact ⟨_, rfl, Y, T0 ++ [41], fv, _, by omega, by rw [List.length_append, List.length_singleton]; omega, hon, (by rw [sfx, if_pos rfl, List.append_nil] at hz; exact hz), X.kept (fr.mono (by decide) (by decide)), ho, HV, HN, lMa_3 H _, lMb_3 HB, rfl⟩
    · skip
      have hrr := rr_le (k := 2) (N := rvN σ.1 (L1 ++ Y)) (ρ := σ.1.1)
      have hsq := sq_lt (k := 2) (N := rvN σ.1 (L1 ++ Y)) (LG60 rvN_le)
      refine x_aload_0 170 C dL_factor_169 rfl ?_
      refine x_ldc2 (v := 41) 173 C dL_factor_170 rfl wq_L_72 ?_
      refine x_callV 176 C (c_put1 K _ X ho (41) (by decide) (by rw [pA_len]; omega)) hO wcl_X5 hy_X5_put wv_X5_put we_X5_put lk_L_31 dL_factor_173 rfl ⟨Nat.le_of_ble_eq_true rfl, Nat.le_of_ble_eq_true rfl⟩ ⟨Nat.le_of_ble_eq_true rfl, Nat.le_of_ble_eq_true rfl⟩ (Nat.le_of_ble_eq_true rfl) rfl (k_0 rfl rfl (k_i (fun r_1 M_1 h_1 => ?_)))
      obtain ⟨X, ho, g_1⟩ := h_1
      obtain ⟨z_o, hO⟩ := X.obj
      have HV := g_1 _ _ _ (Or.inr (by decide)) HV
      have HN := g_1 _ _ _ (Or.inr (by decide)) HN
      have fr : hFr 100 102 M_1 M_1 := hFr.rf
      rw [pA_pA] at X ho
      refine x_pop 177 C dL_factor_176 rfl rfl ?_
      refine x_aload_2 178 C dL_factor_177 rfl ?_
      refine x_iconst (v := 3) 179 C dL_factor_178 rfl rfl ?_
      refine x_dup2 180 C dL_factor_179 rfl rfl rfl ?_
      refine x_iald 181 (3) C HN (rfl) (by decide) (by decide) dL_factor_180 rfl ?_
      refine x_iload_6 183 C dL_factor_181 rfl ?_
      refine x_iconst (v := 3) 184 C dL_factor_183 rfl rfl ?_
      refine x_icmp_eq 187 193 C dL_factor_184 rfl rfl (fun _ => ?_) (fun z => absurd (rfl) z)
      refine x_iconst (v := 1) 194 C dL_factor_193 rfl rfl ?_
      refine x_goto 198 C dL_factor_194 rfl ?_
      refine x_iadd 199 C dL_factor_198 rfl ?_
      refine x_iast 200 (3) C HN (rfl) (by decide) (by decide) dL_factor_199 rfl ?_
      refine x_up (fun M_2 g_2 o_2 e_2 => ?_)
      have fr := fr.tr (M2 := M_2) (by rw [e_2]; exact hFr.put HN (by omega))
      have hO := (o_2 _ (hT_ne hO HN (by omega))).trans hO
      have HV := (o_2 _ (hT_ne HV HN (by omega))).trans HV
      have HN := g_2
      refine x_iload_6 202 C dL_factor_200 rfl ?_
      refine x_iconst (v := 2) 203 C dL_factor_202 rfl rfl ?_
      refine x_icmp_ne 206 211 C dL_factor_203 rfl rfl (fun _ => ?_) (fun z => absurd z ((by decide)))
      refine x_aload_1 212 C dL_factor_211 rfl ?_
      refine x_aload_2 213 C dL_factor_212 rfl ?_
      refine x_iload_6 215 C dL_factor_213 rfl ?_
      refine x_iconst (v := 5) 216 C dL_factor_215 rfl rfl ?_
      refine x_icmp_ne 219 229 C dL_factor_216 rfl rfl (fun _ => ?_) (fun z => absurd z ((by decide)))
      refine x_lload_7 231 C dL_factor_229 rfl ?_
      refine x_iload_6 233 C dL_factor_231 rfl ?_
      refine x_iconst (v := 3) 234 C dL_factor_233 rfl rfl ?_
      refine x_icmp_ne 237 241 C dL_factor_234 rfl rfl (fun z => absurd (rfl) z) (fun _ => ?_)
      refine x_iconst (v := 2) 238 C dL_factor_237 rfl rfl ?_
      refine x_goto 242 C dL_factor_238 rfl ?_
      refine x_aload_0 243 C dL_factor_242 rfl ?_
      refine x_iconst (v := 3) 244 C dL_factor_243 rfl rfl ?_
      refine x_callV 247 C (c_X5_count K _ (X.kept (fr.mono (by decide) (by decide))) ho 3) hO wcl_X5 hy_X5_count wv_X5_count we_X5_count lk_L_74 dL_factor_244 rfl ⟨Nat.le_of_ble_eq_true rfl, Nat.le_of_ble_eq_true rfl⟩ ⟨Nat.le_of_ble_eq_true rfl, Nat.le_of_ble_eq_true rfl⟩ (Nat.le_of_ble_eq_true rfl) rfl (k_0 rfl rfl (k_ip ?_))
      refine x_topi (v' := nI σ.1.1) sp_count3 ?_
      refine x_callS 250 C (c_L_rounded K _ (rvN σ.1 (L1 ++ Y)) 2 σ.1.1 (Or.inl rfl) rvN_le hρ) hy_L_rounded ws_L_rounded lk_L_78 dL_factor_247 rfl ⟨Nat.le_of_ble_eq_true rfl, Nat.le_of_ble_eq_true rfl⟩ ⟨Nat.le_of_ble_eq_true rfl, Nat.le_of_ble_eq_true rfl⟩ (Nat.le_of_ble_eq_true rfl) rfl (k_0 rfl rfl (k_lp ?_))
      refine x_topl (v' := lI (rr 2 (rvN σ.1 (L1 ++ Y)) σ.1.1 : Int)) (lN_lI _) ?_
      refine x_callS 253 C (c_L_step K _ HV HN σ.1 (L1 ++ Y) (113, 0) (by rw [List.length_append]; omega) (lMa_3 H _) ((rr 2 (rvN σ.1 (L1 ++ Y)) σ.1.1 : Int)) ⟨by omega, by omega⟩ (fun q => by rw [qP_on hon q]; exact rkv_113.symm)) hy_L_step ws_L_step lk_L_37 dL_factor_250 rfl ⟨Nat.le_of_ble_eq_true rfl, Nat.le_of_ble_eq_true rfl⟩ ⟨Nat.le_of_ble_eq_true rfl, Nat.le_of_ble_eq_true rfl⟩ (Nat.le_of_ble_eq_true rfl) rfl (k_0 rfl rfl (k_l (fun r_3 M_3 h_3 => ?_)))
      obtain ⟨e_3, fv2, fm2, HV, HN, H2, h3, h4, f_s⟩ := h_3
      subst e_3
      refine x_lreturn C Rt dL_factor_253 ⟨Nat.le_of_ble_eq_true rfl, Nat.le_of_ble_eq_true rfl⟩ ?_
      exact ⟨_, rfl, Y ++ [(113, 0)], T0 ++ [41], fv2, fm2, by rw [List.length_append, List.length_singleton]; omega, by rw [List.length_append, List.length_singleton]; omega, on_un hon (Or.inl rfl), hz, X.kept ((fr.tr f_s).mono (by decide) (by decide)), ho, HV, HN, by rw [← List.append_assoc]; exact H2, by rw [← List.append_assoc]; exact lMb_q HB (Or.inl rfl) h3 h4, by rw [← List.append_assoc]⟩
    · skip
      have hrr := rr_le (k := 3) (N := rvN σ.1 (L1 ++ Y)) (ρ := σ.1.1)
      have hsq := sq_lt (k := 3) (N := rvN σ.1 (L1 ++ Y)) (LG60 rvN_le)
      refine x_aload_0 170 C dL_factor_169 rfl ?_
      refine x_ldc2 (v := 41) 173 C dL_factor_170 rfl wq_L_72 ?_
      refine x_callV 176 C (c_put1 K _ X ho (41) (by decide) (by rw [pA_len]; omega)) hO wcl_X5 hy_X5_put wv_X5_put we_X5_put lk_L_31 dL_factor_173 rfl ⟨Nat.le_of_ble_eq_true rfl, Nat.le_of_ble_eq_true rfl⟩ ⟨Nat.le_of_ble_eq_true rfl, Nat.le_of_ble_eq_true rfl⟩ (Nat.le_of_ble_eq_true rfl) rfl (k_0 rfl rfl (k_i (fun r_1 M_1 h_1 => ?_)))
      obtain ⟨X, ho, g_1⟩ := h_1
      obtain ⟨z_o, hO⟩ := X.obj
      have HV := g_1 _ _ _ (Or.inr (by decide)) HV
      have HN := g_1 _ _ _ (Or.inr (by decide)) HN
      have fr : hFr 100 102 M_1 M_1 := hFr.rf
      rw [pA_pA] at X ho
      refine x_pop 177 C dL_factor_176 rfl rfl ?_
      refine x_aload_2 178 C dL_factor_177 rfl ?_
      refine x_iconst (v := 3) 179 C dL_factor_178 rfl rfl ?_
      refine x_dup2 180 C dL_factor_179 rfl rfl rfl ?_
      refine x_iald 181 (3) C HN (rfl) (by decide) (by decide) dL_factor_180 rfl ?_
      refine x_iload_6 183 C dL_factor_181 rfl ?_
      refine x_iconst (v := 3) 184 C dL_factor_183 rfl rfl ?_
      refine x_icmp_eq 187 193 C dL_factor_184 rfl rfl (fun z => absurd z ((by decide))) (fun _ => ?_)
      refine x_iload_6 189 C dL_factor_187 rfl ?_
      refine x_iconst (v := 4) 190 C dL_factor_189 rfl rfl ?_
      refine x_icmp_ne 193 197 C dL_factor_190 rfl rfl (fun z => absurd (rfl) z) (fun _ => ?_)
      refine x_iconst (v := 1) 194 C dL_factor_193 rfl rfl ?_
      refine x_goto 198 C dL_factor_194 rfl ?_
      refine x_iadd 199 C dL_factor_198 rfl ?_
      refine x_iast 200 (3) C HN (rfl) (by decide) (by decide) dL_factor_199 rfl ?_
      refine x_up (fun M_2 g_2 o_2 e_2 => ?_)
      have fr := fr.tr (M2 := M_2) (by rw [e_2]; exact hFr.put HN (by omega))
      have hO := (o_2 _ (hT_ne hO HN (by omega))).trans hO
      have HV := (o_2 _ (hT_ne HV HN (by omega))).trans HV
      have HN := g_2
      refine x_iload_6 202 C dL_factor_200 rfl ?_
      refine x_iconst (v := 2) 203 C dL_factor_202 rfl rfl ?_
      refine x_icmp_ne 206 211 C dL_factor_203 rfl rfl (fun _ => ?_) (fun z => absurd z ((by decide)))
      refine x_aload_1 212 C dL_factor_211 rfl ?_
      refine x_aload_2 213 C dL_factor_212 rfl ?_
      refine x_iload_6 215 C dL_factor_213 rfl ?_
      refine x_iconst (v := 5) 216 C dL_factor_215 rfl rfl ?_
      refine x_icmp_ne 219 229 C dL_factor_216 rfl rfl (fun _ => ?_) (fun z => absurd z ((by decide)))
      refine x_lload_7 231 C dL_factor_229 rfl ?_
      refine x_iload_6 233 C dL_factor_231 rfl ?_
      refine x_iconst (v := 3) 234 C dL_factor_233 rfl rfl ?_
      refine x_icmp_ne 237 241 C dL_factor_234 rfl rfl (fun _ => ?_) (fun z => absurd z ((by decide)))
      refine x_iconst (v := 3) 242 C dL_factor_241 rfl rfl ?_
      refine x_aload_0 243 C dL_factor_242 rfl ?_
      refine x_iconst (v := 3) 244 C dL_factor_243 rfl rfl ?_
      refine x_callV 247 C (c_X5_count K _ (X.kept (fr.mono (by decide) (by decide))) ho 3) hO wcl_X5 hy_X5_count wv_X5_count we_X5_count lk_L_74 dL_factor_244 rfl ⟨Nat.le_of_ble_eq_true rfl, Nat.le_of_ble_eq_true rfl⟩ ⟨Nat.le_of_ble_eq_true rfl, Nat.le_of_ble_eq_true rfl⟩ (Nat.le_of_ble_eq_true rfl) rfl (k_0 rfl rfl (k_ip ?_))
      refine x_topi (v' := nI σ.1.1) sp_count3 ?_
      refine x_callS 250 C (c_L_rounded K _ (rvN σ.1 (L1 ++ Y)) 3 σ.1.1 (Or.inr rfl) rvN_le hρ) hy_L_rounded ws_L_rounded lk_L_78 dL_factor_247 rfl ⟨Nat.le_of_ble_eq_true rfl, Nat.le_of_ble_eq_true rfl⟩ ⟨Nat.le_of_ble_eq_true rfl, Nat.le_of_ble_eq_true rfl⟩ (Nat.le_of_ble_eq_true rfl) rfl (k_0 rfl rfl (k_lp ?_))
      refine x_topl (v' := lI (rr 3 (rvN σ.1 (L1 ++ Y)) σ.1.1 : Int)) (lN_lI _) ?_
      refine x_callS 253 C (c_L_step K _ HV HN σ.1 (L1 ++ Y) (107, 0) (by rw [List.length_append]; omega) (lMa_3 H _) ((rr 3 (rvN σ.1 (L1 ++ Y)) σ.1.1 : Int)) ⟨by omega, by omega⟩ (fun q => by rw [qP_on hon q]; exact rkv_107.symm)) hy_L_step ws_L_step lk_L_37 dL_factor_250 rfl ⟨Nat.le_of_ble_eq_true rfl, Nat.le_of_ble_eq_true rfl⟩ ⟨Nat.le_of_ble_eq_true rfl, Nat.le_of_ble_eq_true rfl⟩ (Nat.le_of_ble_eq_true rfl) rfl (k_0 rfl rfl (k_l (fun r_3 M_3 h_3 => ?_)))
      obtain ⟨e_3, fv2, fm2, HV, HN, H2, h3, h4, f_s⟩ := h_3
      subst e_3
      refine x_lreturn C Rt dL_factor_253 ⟨Nat.le_of_ble_eq_true rfl, Nat.le_of_ble_eq_true rfl⟩ ?_
      exact ⟨_, rfl, Y ++ [(107, 0)], T0 ++ [41], fv2, fm2, by rw [List.length_append, List.length_singleton]; omega, by rw [List.length_append, List.length_singleton]; omega, on_un hon (Or.inr (Or.inl rfl)), hz, X.kept ((fr.tr f_s).mono (by decide) (by decide)), ho, HV, HN, by rw [← List.append_assoc]; exact H2, by rw [← List.append_assoc]; exact lMb_q HB (Or.inr rfl) h3 h4, by rw [← List.append_assoc]⟩
    · skip
      have htm := tmn_le (a := rvN σ.1 (L1 ++ Y)) (b := rvN σ.1 (L1 ++ Y))
      unfold LG at htm
      refine x_aload_0 170 C dL_factor_169 rfl ?_
      refine x_ldc2 (v := 41) 173 C dL_factor_170 rfl wq_L_72 ?_
      refine x_callV 176 C (c_put1 K _ X ho (41) (by decide) (by rw [pA_len]; omega)) hO wcl_X5 hy_X5_put wv_X5_put we_X5_put lk_L_31 dL_factor_173 rfl ⟨Nat.le_of_ble_eq_true rfl, Nat.le_of_ble_eq_true rfl⟩ ⟨Nat.le_of_ble_eq_true rfl, Nat.le_of_ble_eq_true rfl⟩ (Nat.le_of_ble_eq_true rfl) rfl (k_0 rfl rfl (k_i (fun r_1 M_1 h_1 => ?_)))
      obtain ⟨X, ho, g_1⟩ := h_1
      obtain ⟨z_o, hO⟩ := X.obj
      have HV := g_1 _ _ _ (Or.inr (by decide)) HV
      have HN := g_1 _ _ _ (Or.inr (by decide)) HN
      have fr : hFr 100 102 M_1 M_1 := hFr.rf
      rw [pA_pA] at X ho
      refine x_pop 177 C dL_factor_176 rfl rfl ?_
      refine x_aload_2 178 C dL_factor_177 rfl ?_
      refine x_iconst (v := 3) 179 C dL_factor_178 rfl rfl ?_
      refine x_dup2 180 C dL_factor_179 rfl rfl rfl ?_
      refine x_iald 181 (3) C HN (rfl) (by decide) (by decide) dL_factor_180 rfl ?_
      refine x_iload_6 183 C dL_factor_181 rfl ?_
      refine x_iconst (v := 3) 184 C dL_factor_183 rfl rfl ?_
      refine x_icmp_eq 187 193 C dL_factor_184 rfl rfl (fun z => absurd z ((by decide))) (fun _ => ?_)
      refine x_iload_6 189 C dL_factor_187 rfl ?_
      refine x_iconst (v := 4) 190 C dL_factor_189 rfl rfl ?_
      refine x_icmp_ne 193 197 C dL_factor_190 rfl rfl (fun _ => ?_) (fun z => absurd z ((by decide)))
      refine x_iconst (v := 0) 198 C dL_factor_197 rfl rfl ?_
      refine x_iadd 199 C dL_factor_198 rfl ?_
      refine x_iast 200 (3) C HN (rfl) (by decide) (by decide) dL_factor_199 rfl ?_
      refine x_up (fun M_2 g_2 o_2 e_2 => ?_)
      have fr := fr.tr (M2 := M_2) (by rw [e_2]; exact hFr.put HN (by omega))
      have hO := (o_2 _ (hT_ne hO HN (by omega))).trans hO
      have HV := (o_2 _ (hT_ne HV HN (by omega))).trans HV
      have HN := g_2
      refine x_iload_6 202 C dL_factor_200 rfl ?_
      refine x_iconst (v := 2) 203 C dL_factor_202 rfl rfl ?_
      refine x_icmp_ne 206 211 C dL_factor_203 rfl rfl (fun _ => ?_) (fun z => absurd z ((by decide)))
      refine x_aload_1 212 C dL_factor_211 rfl ?_
      refine x_aload_2 213 C dL_factor_212 rfl ?_
      refine x_iload_6 215 C dL_factor_213 rfl ?_
      refine x_iconst (v := 5) 216 C dL_factor_215 rfl rfl ?_
      refine x_icmp_ne 219 229 C dL_factor_216 rfl rfl (fun z => absurd (rfl) z) (fun _ => ?_)
      refine x_lload_7 221 C dL_factor_219 rfl ?_
      refine x_lload_7 223 C dL_factor_221 rfl ?_
      refine x_callS 226 C (c_L_times K _ (rvN σ.1 (L1 ++ Y)) (rvN σ.1 (L1 ++ Y)) rvN_le rvN_le) hy_L_times ws_L_times lk_L_52 dL_factor_223 rfl ⟨Nat.le_of_ble_eq_true rfl, Nat.le_of_ble_eq_true rfl⟩ ⟨Nat.le_of_ble_eq_true rfl, Nat.le_of_ble_eq_true rfl⟩ (Nat.le_of_ble_eq_true rfl) rfl (k_0 rfl rfl (k_lp ?_))
      refine x_topl (v' := lI (tmn (rvN σ.1 (L1 ++ Y)) (rvN σ.1 (L1 ++ Y)) : Int)) (lN_lI _) ?_
      refine x_goto 250 C dL_factor_226 rfl ?_
      refine x_callS 253 C (c_L_step K _ HV HN σ.1 (L1 ++ Y) (115, 0) (by rw [List.length_append]; omega) (lMa_3 H _) ((tmn (rvN σ.1 (L1 ++ Y)) (rvN σ.1 (L1 ++ Y)) : Int)) ⟨by omega, by omega⟩ (fun q => by rw [qP_on hon q]; exact rkv_115.symm)) hy_L_step ws_L_step lk_L_37 dL_factor_250 rfl ⟨Nat.le_of_ble_eq_true rfl, Nat.le_of_ble_eq_true rfl⟩ ⟨Nat.le_of_ble_eq_true rfl, Nat.le_of_ble_eq_true rfl⟩ (Nat.le_of_ble_eq_true rfl) rfl (k_0 rfl rfl (k_l (fun r_3 M_3 h_3 => ?_)))
      obtain ⟨e_3, fv2, fm2, HV, HN, H2, h3, h4, f_s⟩ := h_3
      subst e_3
      refine x_lreturn C Rt dL_factor_253 ⟨Nat.le_of_ble_eq_true rfl, Nat.le_of_ble_eq_true rfl⟩ ?_
      exact ⟨_, rfl, Y ++ [(115, 0)], T0 ++ [41], fv2, fm2, by rw [List.length_append, List.length_singleton]; omega, by rw [List.length_append, List.length_singleton]; omega, on_un hon (Or.inr (Or.inr rfl)), hz, X.kept ((fr.tr f_s).mono (by decide) (by decide)), ho, HV, HN, by rw [← List.append_assoc]; exact H2, by rw [← List.append_assoc]; exact lMb_o (lMb_3 HB) (by decide) h3 h4, by rw [← List.append_assoc]⟩
  have m131 : ∀ (u g c : Nat) (P : List (Nat × Nat)) (UP : List Nat) (M1 : hM) (fv : Nat → Int64) (fm : Nat → Int32) (m9 : Int32), (u = 2 ∧ g = 40 ∨ u = 3 ∧ g = 113 ∨ u = 4 ∧ g = 107 ∨ u = 5 ∧ g = 115) → isO c → on P → P.length ≤ 1 → UP.length ≤ 2 → pz P UP → cX K A (pA σ (pfx g ++ UP)) M1 → okS (pA σ (pfx g ++ UP)) → M1 V = some (100, eJ K 64 fv) → M1 N = some (101, eI K 5 fm) → lMa σ.1 (L1 ++ P) fv fm → lMb (L1 ++ P) fm → hX E 0 0 131 [some (.ref (A 36)), some (.ref V), some (.ref N), some (.ref b), some (.int (nI k)), some (.int (nI n)), some (.int (nI u)), some (.long (lN (rvN σ.1 (L1 ++ P)))), none, (some (.int m9)), none, none, none] [.int (nI c)] M1 := by
    intro u g c P UP M1 fv fm m9 hug hc honP hlP hUP hzP X ho HV HN H HB
    have hpf := pfx_len (g := g)
    have hgB : isB g := by unfold isB; omega
    have hc2 : c = 43 ∨ c = 45 ∨ c = 42 := hc
    obtain ⟨z_o, hO⟩ := X.obj
    have fr : hFr 100 102 M1 M1 := hFr.rf
    refine x_istore_10 133 C dL_factor_131 rfl rfl ?_
    refine x_aload_0 134 C dL_factor_133 rfl ?_
    refine x_iload_10 136 C dL_factor_134 rfl ?_
    refine x_i2l 137 C dL_factor_136 rfl ?_
    refine x_topl (v' := lN c) (nI_l (by omega)) ?_
    refine x_callV 140 C (c_put1 K _ X ho (c) (⟨by omega, by omega⟩) (by rw [pA_len]; simp only [List.length_append]; omega)) hO wcl_X5 hy_X5_put wv_X5_put we_X5_put lk_L_31 dL_factor_137 rfl ⟨Nat.le_of_ble_eq_true rfl, Nat.le_of_ble_eq_true rfl⟩ ⟨Nat.le_of_ble_eq_true rfl, Nat.le_of_ble_eq_true rfl⟩ (Nat.le_of_ble_eq_true rfl) rfl (k_0 rfl rfl (k_i (fun r_1 M_1 h_1 => ?_)))
    obtain ⟨X, ho, g_1⟩ := h_1
    obtain ⟨z_o, hO⟩ := X.obj
    have HV := g_1 _ _ _ (Or.inr (by decide)) HV
    have HN := g_1 _ _ _ (Or.inr (by decide)) HN
    have fr : hFr 100 102 M_1 M_1 := hFr.rf
    rw [pA_pA] at X ho
    refine x_pop 141 C dL_factor_140 rfl rfl ?_
    refine x_aload_0 142 C dL_factor_141 rfl ?_
    refine x_aload_1 143 C dL_factor_142 rfl ?_
    refine x_aload_2 144 C dL_factor_143 rfl ?_
    refine x_aload_3 145 C dL_factor_144 rfl ?_
    refine x_iload_4 147 C dL_factor_145 rfl ?_
    refine x_iconst (v := 4) 148 C dL_factor_147 rfl rfl ?_
    refine x_iadd 149 C dL_factor_148 rfl ?_
    refine x_topi (v' := nI (k + 4)) (nI_add k 4) ?_
    refine x_bipush (v := 100) 151 C dL_factor_149 rfl rfl ?_
    refine x_callSs 154 C S (c_L_atom K _ hL X ho HV HN (L1 ++ P) H HB (by first | omega | (simp only [List.length_append]; omega)) (k + 4) 100 2 (by omega) (Or.inr ⟨rfl, rfl⟩) (by rw [pA_len]; first | omega | (simp only [List.length_append, List.length_singleton]; omega))) hy_L_atom ws_L_atom lk_L_56 dL_factor_151 rfl ⟨Nat.le_of_ble_eq_true rfl, Nat.le_of_ble_eq_true rfl⟩ ⟨Nat.le_of_ble_eq_true rfl, Nat.le_of_ble_eq_true rfl⟩ (Nat.le_of_ble_eq_true rfl) rfl (k_0 rfl rfl (k_l (fun r_2 M_2 h_2 => ?_)))
    obtain ⟨Q, UQ, fv, fm, hlQ, hUQ, honQ, hzQ, X, ho, HV, HN, H, HB, e_2⟩ := h_2
    subst e_2
    rw [pA_pA] at X ho
    have H : lMa σ.1 (L1 ++ P ++ Q) fv fm := H
    have fr : hFr 100 102 M_2 M_2 := hFr.rf
    obtain ⟨z_o, hO⟩ := X.obj
    refine x_lstore_11 156 C dL_factor_154 rfl rfl ?_
    refine x_aload_1 157 C dL_factor_156 rfl ?_
    refine x_aload_2 158 C dL_factor_157 rfl ?_
    refine x_iload_10 160 C dL_factor_158 rfl ?_
    refine x_lload_7 162 C dL_factor_160 rfl ?_
    refine x_lload_11 164 C dL_factor_162 rfl ?_
    refine x_callS 167 C (c_L_apply K _ HV HN σ.1 (L1 ++ P ++ Q) c hc (by simp only [List.length_append]; omega) H (rvN σ.1 (L1 ++ P)) (rvN σ.1 (L1 ++ P ++ Q)) rvN_le rvN_le (fun q => ⟨_, by rw [qP_on honQ q, qP_on honP (qR_pre q)]⟩)) hy_L_apply ws_L_apply lk_L_68 dL_factor_164 rfl ⟨Nat.le_of_ble_eq_true rfl, Nat.le_of_ble_eq_true rfl⟩ ⟨Nat.le_of_ble_eq_true rfl, Nat.le_of_ble_eq_true rfl⟩ (Nat.le_of_ble_eq_true rfl) rfl (k_0 rfl rfl (k_l (fun r_3 M_3 h_3 => ?_)))
    obtain ⟨e_3, fv2, fm2, HV, HN, H2, h3, h4, f_s⟩ := h_3
    subst e_3
    refine x_lstore_7 169 C dL_factor_167 rfl rfl ?_
    have HB2 : lMb (L1 ++ P ++ Q ++ [(c, 0)]) fm2 := lMb_o HB (by omega) h3 h4
    rw [show L1 ++ P ++ Q ++ [(c, 0)] = L1 ++ (P ++ Q ++ [(c, 0)]) by simp only [List.append_assoc]] at H2 HB2 ⊢
    exact m169 u g (P ++ Q ++ [(c, 0)]) (pfx g ++ UP ++ [c] ++ UQ) _ fv2 fm2 _ _ _ hug (on_bin honP honQ hc) (by simp only [List.length_append, List.length_singleton]; omega) (by simp only [List.length_append, List.length_singleton]; omega) (pz_br2 hzP hzQ hgB hc) (X.kept (f_s.mono (by decide) (by decide))) ho HV HN H2 HB2
  have m68 : ∀ (u g : Nat) (T0 : List Nat) (M1 : hM), (u = 2 ∧ g = 40 ∨ u = 3 ∧ g = 113 ∨ u = 4 ∧ g = 107 ∨ u = 5 ∧ g = 115) → T0 ++ [40] = pfx g → cX K A (pA σ T0) M1 → okS (pA σ T0) → M1 V = some (100, eJ K 64 fv) → M1 N = some (101, eI K 5 fm) → hX E 0 0 68 [some (.ref (A 36)), some (.ref V), some (.ref N), some (.ref b), some (.int (nI k)), some (.int (nI n)), some (.int (nI u)), none, none, none, none, none, none] [] M1 := by
    intro u g T0 M1 hug hT0 X ho HV HN
    have hpf := pfx_len (g := g)
    have hT2 := congrArg List.length hT0
    rw [List.length_append, List.length_singleton] at hT2
    have hgB : isB g := by unfold isB; omega
    obtain ⟨z_o, hO⟩ := X.obj
    have fr : hFr 100 102 M1 M1 := hFr.rf
    refine x_aload_0 69 C dL_factor_68 rfl ?_
    refine x_ldc2 (v := 40) 72 C dL_factor_69 rfl wq_L_66 ?_
    refine x_callV 75 C (c_put1 K _ X ho (40) (by decide) (by rw [pA_len]; omega)) hO wcl_X5 hy_X5_put wv_X5_put we_X5_put lk_L_31 dL_factor_72 rfl ⟨Nat.le_of_ble_eq_true rfl, Nat.le_of_ble_eq_true rfl⟩ ⟨Nat.le_of_ble_eq_true rfl, Nat.le_of_ble_eq_true rfl⟩ (Nat.le_of_ble_eq_true rfl) rfl (k_0 rfl rfl (k_i (fun r_1 M_1 h_1 => ?_)))
    obtain ⟨X, ho, g_1⟩ := h_1
    obtain ⟨z_o, hO⟩ := X.obj
    have HV := g_1 _ _ _ (Or.inr (by decide)) HV
    have HN := g_1 _ _ _ (Or.inr (by decide)) HN
    have fr : hFr 100 102 M_1 M_1 := hFr.rf
    rw [pA_pA, hT0] at X ho
    refine x_pop 76 C dL_factor_75 rfl rfl ?_
    refine x_aload_0 77 C dL_factor_76 rfl ?_
    refine x_aload_1 78 C dL_factor_77 rfl ?_
    refine x_aload_2 79 C dL_factor_78 rfl ?_
    refine x_aload_3 80 C dL_factor_79 rfl ?_
    refine x_iload_4 82 C dL_factor_80 rfl ?_
    refine x_iconst (v := 1) 83 C dL_factor_82 rfl rfl ?_
    refine x_iadd 84 C dL_factor_83 rfl ?_
    refine x_topi (v' := nI (k + 1)) (nI_1 k) ?_
    refine x_bipush (v := 100) 86 C dL_factor_84 rfl rfl ?_
    refine x_callSs 89 C S (c_L_atom K _ hL X ho HV HN (L1) H HB (by first | omega | (simp only [List.length_append]; omega)) (k + 1) 100 2 (by omega) (Or.inr ⟨rfl, rfl⟩) (by rw [pA_len]; first | omega | (simp only [List.length_append, List.length_singleton]; omega))) hy_L_atom ws_L_atom lk_L_56 dL_factor_86 rfl ⟨Nat.le_of_ble_eq_true rfl, Nat.le_of_ble_eq_true rfl⟩ ⟨Nat.le_of_ble_eq_true rfl, Nat.le_of_ble_eq_true rfl⟩ (Nat.le_of_ble_eq_true rfl) rfl (k_0 rfl rfl (k_l (fun r_2 M_2 h_2 => ?_)))
    obtain ⟨P, UP, fv, fm, hlP, hUP, honP, hzP, X, ho, HV, HN, H, HB, e_2⟩ := h_2
    subst e_2
    rw [pA_pA] at X ho
    have H : lMa σ.1 (L1 ++ P) fv fm := H
    have fr : hFr 100 102 M_2 M_2 := hFr.rf
    obtain ⟨z_o, hO⟩ := X.obj
    refine x_lstore_7 91 C dL_factor_89 rfl rfl ?_
    refine x_aload_3 92 C dL_factor_91 rfl ?_
    refine x_iload_4 94 C dL_factor_92 rfl ?_
    refine x_iconst (v := 3) 95 C dL_factor_94 rfl rfl ?_
    refine x_iadd 96 C dL_factor_95 rfl ?_
    refine x_topi (v' := nI (k + 3)) (nI_add k 3) ?_
    refine x_iconst (v := 4) 97 C dL_factor_96 rfl rfl ?_
    refine x_callSs 100 C S (c_L_cell K _ hL (k + 3) (4) (by omega) (by omega) (by omega)) hy_L_cell ws_L_cell lk_L_41 dL_factor_97 rfl ⟨Nat.le_of_ble_eq_true rfl, Nat.le_of_ble_eq_true rfl⟩ ⟨Nat.le_of_ble_eq_true rfl, Nat.le_of_ble_eq_true rfl⟩ (Nat.le_of_ble_eq_true rfl) rfl (k_0 rfl rfl (k_iq (fun r_v ⟨v, hv, ev⟩ => ?_)))
    subst ev
    refine x_istore_9 102 C dL_factor_100 rfl rfl ?_
    refine x_iload_9 104 C dL_factor_102 rfl ?_
    refine x_if_le 107 169 C dL_factor_104 rfl rfl (fun c_104 => ?_) (fun c_104 => ?_)
    · exact m169 u g P (pfx g ++ UP) _ fv fm _ _ _ hug honP (by omega) (by simp only [List.length_append]; omega) (pz_br1 hzP hgB) X ho HV HN H HB
    · refine x_iload_9 109 C dL_factor_107 rfl ?_
      refine x_iconst (v := 1) 110 C dL_factor_109 rfl rfl ?_
      refine x_icmp_ne 113 118 C dL_factor_110 rfl rfl (fun c_110 => ?_) (fun c_110 => ?_)
      · refine x_iload_9 120 C dL_factor_118 rfl ?_
        refine x_iconst (v := 2) 121 C dL_factor_120 rfl rfl ?_
        refine x_icmp_ne 124 129 C dL_factor_121 rfl rfl (fun c_121 => ?_) (fun c_121 => ?_)
        · refine x_bipush (v := 45) 131 C dL_factor_129 rfl rfl ?_
          exact x_topi (v' := nI 45) rfl (m131 u g 45 P UP _ fv fm _ hug (Or.inr (Or.inl rfl)) honP hlP hUP hzP X ho HV HN H HB)
        · refine x_bipush (v := 42) 126 C dL_factor_124 rfl rfl ?_
          refine x_goto 131 C dL_factor_126 rfl ?_
          exact x_topi (v' := nI 42) rfl (m131 u g 42 P UP _ fv fm _ hug (Or.inr (Or.inr rfl)) honP hlP hUP hzP X ho HV HN H HB)
      · refine x_bipush (v := 43) 115 C dL_factor_113 rfl rfl ?_
        refine x_goto 131 C dL_factor_115 rfl ?_
        exact x_topi (v' := nI 43) rfl (m131 u g 43 P UP _ fv fm _ hug (Or.inl rfl) honP hlP hUP hzP X ho HV HN H HB)
  obtain ⟨z_o, hO⟩ := X.obj
  have fr : hFr 100 102 M M := hFr.rf
  refine x_aload_3 1 C dL_factor_0 rfl ?_
  refine x_iload_4 3 C dL_factor_1 rfl ?_
  refine x_bipush (v := 6) 5 C dL_factor_3 rfl rfl ?_
  refine x_callSs 8 C S (c_L_cell K _ hL (k) (6) (by omega) (by omega) (by omega)) hy_L_cell ws_L_cell lk_L_41 dL_factor_5 rfl ⟨Nat.le_of_ble_eq_true rfl, Nat.le_of_ble_eq_true rfl⟩ ⟨Nat.le_of_ble_eq_true rfl, Nat.le_of_ble_eq_true rfl⟩ (Nat.le_of_ble_eq_true rfl) rfl (k_0 rfl rfl (k_iq (fun r_u ⟨u, hu, eu⟩ => ?_)))
  subst eu
  refine x_istore_6 10 C dL_factor_8 rfl rfl ?_
  refine x_iload_6 12 C dL_factor_10 rfl ?_
  refine x_iconst (v := 2) 13 C dL_factor_12 rfl rfl ?_
  refine x_icmp_ge 16 30 C dL_factor_13 rfl rfl (fun c_13 => ?_) (fun c_13 => ?_)
  · have hu2 : ¬ u < 2 := fun z => Int32.not_lt.mpr c_13 ((nI_ltI (b := 2) (by omega) (by decide)).mpr z)
    refine x_iload_6 32 C dL_factor_30 rfl ?_
    refine x_iconst (v := 2) 33 C dL_factor_32 rfl rfl ?_
    refine x_icmp_le 36 68 C dL_factor_33 rfl rfl (fun c_33 => ?_) (fun c_33 => ?_)
    · have hu3 : u ≤ 2 := (nI_leI (b := 2) (by omega) (by decide)).mp c_33
      exact m68 u 40 [] M (Or.inl ⟨by omega, rfl⟩) rfl (by rw [pA_nil]; exact X) (by rw [pA_nil]; exact ho) HV HN
    · refine x_aload_0 37 C dL_factor_36 rfl ?_
      refine x_iload_6 39 C dL_factor_37 rfl ?_
      refine x_iconst (v := 3) 40 C dL_factor_39 rfl rfl ?_
      refine x_icmp_ne 43 49 C dL_factor_40 rfl rfl (fun c_40 => ?_) (fun c_40 => ?_)
      · refine x_iload_6 51 C dL_factor_49 rfl ?_
        refine x_iconst (v := 4) 52 C dL_factor_51 rfl rfl ?_
        refine x_icmp_ne 55 61 C dL_factor_52 rfl rfl (fun c_52 => ?_) (fun c_52 => ?_)
        · refine x_ldc2 (v := 115) 64 C dL_factor_61 rfl wq_L_64 ?_
          refine x_callV 67 C (c_put1 K _ X ho (115) (by decide) (by omega)) hO wcl_X5 hy_X5_put wv_X5_put we_X5_put lk_L_31 dL_factor_64 rfl ⟨Nat.le_of_ble_eq_true rfl, Nat.le_of_ble_eq_true rfl⟩ ⟨Nat.le_of_ble_eq_true rfl, Nat.le_of_ble_eq_true rfl⟩ (Nat.le_of_ble_eq_true rfl) rfl (k_0 rfl rfl (k_i (fun r_2 M_2 h_2 => ?_)))
          obtain ⟨X, ho, g_2⟩ := h_2
          obtain ⟨z_o, hO⟩ := X.obj
          have HV := g_2 _ _ _ (Or.inr (by decide)) HV
          have HN := g_2 _ _ _ (Or.inr (by decide)) HN
          have fr : hFr 100 102 M_2 M_2 := hFr.rf
          refine x_pop 68 C dL_factor_67 rfl rfl ?_
          have hu4 : ¬ u = 4 := fun z => c_52 (by rw [z]; rfl)
          have hu3 : ¬ u = 3 := fun z => c_40 (by rw [z]; rfl)
          have hu5 : ¬ u ≤ 2 := fun z => c_33 ((nI_leI (b := 2) (by omega) (by decide)).mpr z)
          exact m68 u 115 [115] _ (Or.inr (Or.inr (Or.inr ⟨by omega, rfl⟩))) rfl X ho HV HN
        · refine x_ldc2 (v := 107) 58 C dL_factor_55 rfl wq_L_62 ?_
          refine x_goto 64 C dL_factor_58 rfl ?_
          refine x_callV 67 C (c_put1 K _ X ho (107) (by decide) (by omega)) hO wcl_X5 hy_X5_put wv_X5_put we_X5_put lk_L_31 dL_factor_64 rfl ⟨Nat.le_of_ble_eq_true rfl, Nat.le_of_ble_eq_true rfl⟩ ⟨Nat.le_of_ble_eq_true rfl, Nat.le_of_ble_eq_true rfl⟩ (Nat.le_of_ble_eq_true rfl) rfl (k_0 rfl rfl (k_i (fun r_3 M_3 h_3 => ?_)))
          obtain ⟨X, ho, g_3⟩ := h_3
          obtain ⟨z_o, hO⟩ := X.obj
          have HV := g_3 _ _ _ (Or.inr (by decide)) HV
          have HN := g_3 _ _ _ (Or.inr (by decide)) HN
          have fr : hFr 100 102 M_3 M_3 := hFr.rf
          refine x_pop 68 C dL_factor_67 rfl rfl ?_
          have hu3 : u = 4 := (nI_eq (b := 4) (by omega) (by decide)).mp c_52
          exact m68 u 107 [107] _ (Or.inr (Or.inr (Or.inl ⟨hu3, rfl⟩))) rfl X ho HV HN
      · refine x_ldc2 (v := 113) 46 C dL_factor_43 rfl wq_L_60 ?_
        refine x_goto 64 C dL_factor_46 rfl ?_
        refine x_callV 67 C (c_put1 K _ X ho (113) (by decide) (by omega)) hO wcl_X5 hy_X5_put wv_X5_put we_X5_put lk_L_31 dL_factor_64 rfl ⟨Nat.le_of_ble_eq_true rfl, Nat.le_of_ble_eq_true rfl⟩ ⟨Nat.le_of_ble_eq_true rfl, Nat.le_of_ble_eq_true rfl⟩ (Nat.le_of_ble_eq_true rfl) rfl (k_0 rfl rfl (k_i (fun r_4 M_4 h_4 => ?_)))
        obtain ⟨X, ho, g_4⟩ := h_4
        obtain ⟨z_o, hO⟩ := X.obj
        have HV := g_4 _ _ _ (Or.inr (by decide)) HV
        have HN := g_4 _ _ _ (Or.inr (by decide)) HN
        have fr : hFr 100 102 M_4 M_4 := hFr.rf
        refine x_pop 68 C dL_factor_67 rfl rfl ?_
        have hu3 : u = 3 := (nI_eq (b := 3) (by omega) (by decide)).mp c_40
        exact m68 u 113 [113] _ (Or.inr (Or.inl ⟨hu3, rfl⟩)) rfl X ho HV HN
  · refine x_aload_0 17 C dL_factor_16 rfl ?_
    refine x_aload_1 18 C dL_factor_17 rfl ?_
    refine x_aload_2 19 C dL_factor_18 rfl ?_
    refine x_aload_3 20 C dL_factor_19 rfl ?_
    refine x_iload_4 22 C dL_factor_20 rfl ?_
    refine x_iconst (v := 1) 23 C dL_factor_22 rfl rfl ?_
    refine x_iadd 24 C dL_factor_23 rfl ?_
    refine x_topi (v' := nI (k + 1)) (nI_1 k) ?_
    refine x_iload_5 26 C dL_factor_24 rfl ?_
    refine x_callSs 29 C S (c_L_atom K _ hL X ho HV HN L1 H HB (by omega) (k + 1) n w (by omega) hw (by omega)) hy_L_atom ws_L_atom lk_L_56 dL_factor_26 rfl ⟨Nat.le_of_ble_eq_true rfl, Nat.le_of_ble_eq_true rfl⟩ ⟨Nat.le_of_ble_eq_true rfl, Nat.le_of_ble_eq_true rfl⟩ (Nat.le_of_ble_eq_true rfl) rfl (k_0 rfl rfl (k_l (fun r_5 M_5 h_5 => ?_)))
    obtain ⟨P, UP, fv, fm, hlP, hUP, honP, hzP, X, ho, HV, HN, H, HB, e_5⟩ := h_5
    subst e_5
    refine x_lreturn C Rt dL_factor_29 ⟨Nat.le_of_ble_eq_true rfl, Nat.le_of_ble_eq_true rfl⟩ ?_
    exact ⟨_, rfl, P, UP, fv, fm, by omega, by omega, honP, hzP, X, ho, HV, HN, H, HB, rfl⟩
