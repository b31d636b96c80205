/-! a formula is said and loaded -/
theorem ek_congr {τ τ2 : hS1} (h : ∀ s p, rkv τ s p = rkv τ2 s p) : ∀ (L : List (Nat × Nat)) (p vs : List Nat), ek τ L p vs = ek τ2 L p vs
  | [], _, _ => rfl
  | s :: r, p, vs => by
    rw [ek, ek, h s p, ek_congr h r]
theorem lMa_congr {τ τ2 : hS1} (h : ∀ s p, rkv τ s p = rkv τ2 s p) {L : List (Nat × Nat)} {fv : Nat → Int64} {fm : Nat → Int32} (H : lMa τ L fv fm) : lMa τ2 L fv fm := by
  have e : qS τ2 L = qS τ L := (ek_congr h L [] []).symm
  have e1 : qR τ2 L = qR τ L := congrArg (fun z => z.2) e
  have e2 : qV τ2 L = qV τ L := congrArg (fun z => z.1.2) e
  unfold lMa
  rw [e1, e2]
  exact H
def pb (b0 b1 b2 b3 b4 b5 : Bool) : Nat → Bool
  | 0 => b0
  | 1 => b1
  | 2 => b2
  | 3 => b3
  | 4 => b4
  | _ => b5
theorem fbv_pb (p : Nat → Bool) : fbv p 6 = fbv (pb (p 0) (p 1) (p 2) (p 3) (p 4) (p 5)) 6 := fbv_congr 6 (fun i hi => by
  match i, hi with
  | 0, _ => rfl
  | 1, _ => rfl
  | 2, _ => rfl
  | 3, _ => rfl
  | 4, _ => rfl
  | 5, _ => rfl
  | i + 6, h => exact absurd h (by omega))
theorem pb_set : ∀ f : Fin 6, ∀ b0 b1 b2 b3 b4 b5 : Bool, fbv (fun i => pb b0 b1 b2 b3 b4 b5 i || i == f.val) 6 = fbv (pb b0 b1 b2 b3 b4 b5) 6 ||| (1 <<< (nI f.val &&& 31)) := by decide +kernel
theorem pb_bit : ∀ f : Fin 6, ∀ b0 b1 b2 b3 b4 b5 : Bool, (fbv (pb b0 b1 b2 b3 b4 b5) 6 >>> (nI f.val &&& 31)) &&& 1 = hB (pb b0 b1 b2 b3 b4 b5 f.val) := by decide +kernel
theorem fbv_set {p q : Nat → Bool} {f : Nat} (hf : f < 6) (h : ∀ i, i < 6 → q i = (p i || i == f)) : fbv q 6 = fbv p 6 ||| (1 <<< (nI f &&& 31)) := by
  rw [fbv_congr 6 h, fbv_pb p, ← pb_set ⟨f, hf⟩, fbv_pb]
  rfl
theorem fbv_bit {p : Nat → Bool} {f : Nat} (hf : f < 6) : (fbv p 6 >>> (nI f &&& 31)) &&& 1 = hB (p f) := by
  rw [fbv_pb p, pb_bit ⟨f, hf⟩]
  match f, hf with
  | 0, _ => rfl
  | 1, _ => rfl
  | 2, _ => rfl
  | 3, _ => rfl
  | 4, _ => rfl
  | 5, _ => rfl
  | f + 6, h => exact absurd h (by omega)
theorem fset_set {τ : hS1} {f a b : Nat} {L : List (Nat × Nat)} {c : Nat → Nat} (hf : f < 6) (hL : L ≠ []) : fset (a, b, c, va_up τ.2.2.2 f L) = fset τ ||| (1 <<< (nI f &&& 31)) := by
  refine fbv_set hf fun i hi => ?_
  show (!(va_up τ.2.2.2 f L i).isEmpty) = _
  by_cases e : i = f
  · subst e
    rw [va_up_self]
    cases L with
    | nil => exact absurd rfl hL
    | cons => simp
  · rw [va_up_ne _ _ e]
    simp [e]
theorem fset_bit {τ : hS1} {f : Nat} (hf : f < 6) : (fset τ >>> (nI f &&& 31)) &&& 1 = hB (!(τ.2.2.2 f).isEmpty) := fbv_bit hf
/-- the state behind a load -/
def lS (σ : hSt) (f : Nat) (L : List (Nat × Nat)) : hSt := ((σ.1.1, σ.1.2.1, σ.1.2.2.1, va_up σ.1.2.2.2 f L), psh σ.2.1 σ.1, σ.2.2.1, [])
theorem c_fault1 (K : hKv) (M : hM) {A : Nat → Nat} {σ : hSt} (X : cX K A σ M) (ho : okS σ) (hf : fltN σ.2.2.2 = none) : hC K Y_X5_fault rm_X5_fault [.ref (A 36)] M (hPi fun r M' => r = -6 ∧ cP K A M σ M') := by
  refine hC.post (c_X5_fault K M X ho) ?_
  rintro v M' ⟨r, hv, hr, h⟩
  rw [hf] at hr
  exact ⟨r, hv, hr, h⟩
theorem sp_load1 {σ : hSt} {f : Nat} {L : List (Nat × Nat)} (h6 : f < 6) (hf : fltN σ.2.2.2 = none) (hL : stpN σ.2.2.2 = L) : sp_load σ (nI f) = (nI L.length, lS σ f L) := by
  rw [sp_load, spQ_t (by rw [nI_toI (by omega)]; omega), hf, hL, nI_toN (by omega)]
  rfl
theorem c_load1 (K : hKv) (M : hM) {A : Nat → Nat} {σ : hSt} (X : cX K A σ M) (ho : okS σ) {f : Nat} {L : List (Nat × Nat)} (h6 : f < 6) (hf : fltN σ.2.2.2 = none) (hL : stpN σ.2.2.2 = L) : hC K Y_X5_load rm_X5_load [.ref (A 36), .int (nI f)] M (hPi fun r M' => r = nI L.length ∧ cX K A (lS σ f L) M' ∧ okS (lS σ f L) ∧ hFr 1 100 M M') := by
  refine hC.post (c_X5_load K M X ho (nI f)) ?_
  rintro v M' ⟨r, hv, hr, X2, g⟩
  have h2 := okS_load ho (nI f)
  rw [sp_load1 h6 hf hL] at hr X2 h2
  exact ⟨r, hv, hr, X2, h2, g⟩
def st_w (σ : hSt) : hSt := (σ.1, σ.2.1, σ.2.2.1, [])
set_option maxHeartbeats 4000000 in
set_option maxRecDepth 100000 in
theorem c_L_isLoaded (K : hKv) (M : hM) {b L : Nat} {xs : Nat → Int32} (hL : L ≤ 260) {A : Nat → Nat} {σ : hSt} (X : cX K A σ M) (ho : okS σ) {V N : Nat} {fv : Nat → Int64} {fm : Nat → Int32} (HV : M V = some (100, eJ K 64 fv)) (HN : M N = some (101, eI K 5 fm)) (f k : Nat) (h6 : f < 6) (hk : k ≤ 600) : hCs K b L xs Y_L_isLoaded rm_L_isLoaded [.ref (A 36), .int (nI f), .ref b, .int (nI k), .ref V, .ref N] M (hPi fun r M' => r = 1 ∧ ∃ σ2 L2 fv2 fm2, cX K A σ2 M' ∧ okS σ2 ∧ M' V = some (100, eJ K 64 fv2) ∧ M' N = some (101, eI K 5 fm2) ∧ σ2.1.2.2.2 f = L2 ∧ wfF L2 ∧ lMa σ2.1 L2 fv2 fm2 ∧ lMb L2 fm2) := by
  refine hCs.of [some (.ref (A 36)), some (.int (nI f)), some (.ref b), some (.int (nI k)), some (.ref V), some (.ref N), none, none, none, none, none, none, none, none, none] (by decide) (Nat.le_of_ble_eq_true rfl) rfl rfl ?_
  intro E C Rt S
  have C : hCx E K cL_isLoaded 15 RL "isLoaded" rm_L_isLoaded := C
  have m214 : ∀ (T : List Nat) (L : List (Nat × Nat)) (M1 : hM) (fv : Nat → Int64) (fm : Nat → Int32) (t i : Nat) (m10 m11 m13 : Option Value), tI T L → cX K A (pA (st_w σ) T) M1 → okS (pA (st_w σ) T) → M1 V = some (100, eJ K 64 fv) → M1 N = some (101, eI K 5 fm) → lMa σ.1 L fv fm → lMb L fm → hX E 0 0 214 [some (.ref (A 36)), some (.int (nI f)), some (.ref b), some (.int (nI k)), some (.ref V), some (.ref N), some (.long (lN (rvN σ.1 L))), none, some (.int (nI t)), some (.int (nI i)), m10, m11, none, m13, none] [] M1 := by
    intro T L M1 fv fm t i m10 m11 m13 hI X ho HV HN H HB
    obtain ⟨z_o, hO⟩ := X.obj
    have fr : hFr 100 102 M1 M1 := hFr.rf
    have hfl : fltN (pA (st_w σ) T).2.2.2 = none := (tI_is hI).1
    have hst : stpN (pA (st_w σ) T).2.2.2 = L := (tI_is hI).2
    have hwf : wfF L := by rw [← hst]; exact stp_wf ho.2.2.2.2.1 hfl
    have hne := wfF_ne hwf
    refine x_aload_0 215 C dL_isLoaded_214 rfl ?_
    refine x_iconst (v := 0) 216 C dL_isLoaded_215 rfl rfl ?_
    refine x_callV 219 C (c_X5_count K _ X ho 0) hO wcl_X5 hy_X5_count wv_X5_count we_X5_count lk_L_74 dL_isLoaded_216 rfl ⟨Nat.le_of_ble_eq_true rfl, Nat.le_of_ble_eq_true rfl⟩ ⟨Nat.le_of_ble_eq_true rfl, Nat.le_of_ble_eq_true rfl⟩ (Nat.le_of_ble_eq_true rfl) rfl (k_0 rfl rfl (k_ip ?_))
    refine x_topi (v' := fset σ.1) sp_count0 ?_
    refine x_istore_9 221 C dL_isLoaded_219 rfl rfl ?_
    refine x_aload_0 222 C dL_isLoaded_221 rfl ?_
    refine x_callV 225 C (c_fault1 K _ X ho hfl) hO wcl_X5 hy_X5_fault wv_X5_fault we_X5_fault lk_L_91 dL_isLoaded_222 rfl ⟨Nat.le_of_ble_eq_true rfl, Nat.le_of_ble_eq_true rfl⟩ ⟨Nat.le_of_ble_eq_true rfl, Nat.le_of_ble_eq_true rfl⟩ (Nat.le_of_ble_eq_true rfl) rfl (k_0 rfl rfl (k_i (fun r_1 M_1 h_1 => ?_)))
    obtain ⟨e_1, X, g_1⟩ := h_1
    subst e_1
    have fr : hFr 100 102 M_1 M_1 := hFr.rf
    have HV := g_1 _ _ _ (Or.inr (by decide)) HV
    have HN := g_1 _ _ _ (Or.inr (by decide)) HN
    obtain ⟨z_o, hO⟩ := X.obj
    refine x_bipush (v := (-6)) 227 C dL_isLoaded_225 rfl rfl ?_
    refine x_icmp_ne 230 268 C dL_isLoaded_227 rfl rfl (fun z => absurd (rfl) z) (fun _ => ?_)
    refine x_aload_0 231 C dL_isLoaded_230 rfl ?_
    refine x_iload_1 232 C dL_isLoaded_231 rfl ?_
    refine x_callV 235 C (c_load1 K _ X ho h6 hfl hst) hO wcl_X5 hy_X5_load wv_X5_load we_X5_load lk_L_94 dL_isLoaded_232 rfl ⟨Nat.le_of_ble_eq_true rfl, Nat.le_of_ble_eq_true rfl⟩ ⟨Nat.le_of_ble_eq_true rfl, Nat.le_of_ble_eq_true rfl⟩ (Nat.le_of_ble_eq_true rfl) rfl (k_i (fun r_2 M_2 h_2 => ?_))
    obtain ⟨e_2, X, ho, g_2⟩ := h_2
    subst e_2
    have fr : hFr 100 102 M_2 M_2 := hFr.rf
    have HV := g_2 _ _ _ (Or.inr (by decide)) HV
    have HN := g_2 _ _ _ (Or.inr (by decide)) HN
    obtain ⟨z_o, hO⟩ := X.obj
    refine x_aload_5 237 C dL_isLoaded_235 rfl ?_
    refine x_iconst (v := 0) 238 C dL_isLoaded_237 rfl rfl ?_
    refine x_iald 239 (0) C HN (rfl) (by decide) (by decide) dL_isLoaded_238 rfl ?_
    refine x_topi H.1 ?_
    refine x_icmp_ne 242 268 C dL_isLoaded_239 rfl rfl (fun z => absurd (rfl) z) (fun _ => ?_)
    refine x_aload_0 243 C dL_isLoaded_242 rfl ?_
    refine x_iconst (v := 1) 244 C dL_isLoaded_243 rfl rfl ?_
    refine x_callV 247 C (c_X5_count K _ X ho 1) hO wcl_X5 hy_X5_count wv_X5_count we_X5_count lk_L_74 dL_isLoaded_244 rfl ⟨Nat.le_of_ble_eq_true rfl, Nat.le_of_ble_eq_true rfl⟩ ⟨Nat.le_of_ble_eq_true rfl, Nat.le_of_ble_eq_true rfl⟩ (Nat.le_of_ble_eq_true rfl) rfl (k_0 rfl rfl (k_ip ?_))
    refine x_topi (v' := 0) sp_count1 ?_
    refine x_if_ne 250 268 C dL_isLoaded_247 rfl rfl (fun z => absurd (rfl) z) (fun _ => ?_)
    refine x_aload_0 251 C dL_isLoaded_250 rfl ?_
    refine x_iconst (v := 0) 252 C dL_isLoaded_251 rfl rfl ?_
    refine x_callV 255 C (c_X5_count K _ X ho 0) hO wcl_X5 hy_X5_count wv_X5_count we_X5_count lk_L_74 dL_isLoaded_252 rfl ⟨Nat.le_of_ble_eq_true rfl, Nat.le_of_ble_eq_true rfl⟩ ⟨Nat.le_of_ble_eq_true rfl, Nat.le_of_ble_eq_true rfl⟩ (Nat.le_of_ble_eq_true rfl) rfl (k_0 rfl rfl (k_ip ?_))
    refine x_topi (v' := fset (lS (pA (st_w σ) T) f L).1) sp_count0 ?_
    refine x_iload_9 257 C dL_isLoaded_255 rfl ?_
    refine x_iconst (v := 1) 258 C dL_isLoaded_257 rfl rfl ?_
    refine x_iload_1 259 C dL_isLoaded_258 rfl ?_
    refine x_ishl 260 C dL_isLoaded_259 rfl ?_
    refine x_ior 261 C dL_isLoaded_260 rfl ?_
    refine x_icmp_ne 264 268 C dL_isLoaded_261 rfl rfl (fun z => absurd ((fset_set h6 hne)) z) (fun _ => ?_)
    refine x_iconst (v := 1) 265 C dL_isLoaded_264 rfl rfl ?_
    refine x_goto 269 C dL_isLoaded_265 rfl ?_
    refine x_ireturn C Rt dL_isLoaded_269 rfl ⟨Nat.le_of_ble_eq_true rfl, Nat.le_of_ble_eq_true rfl⟩ ?_
    exact ⟨_, rfl, rfl, lS (pA (st_w σ) T) f L, L, fv, fm, X, ho, HV, HN, va_up_self _ _ _, hwf, lMa_congr (τ := σ.1) (τ2 := (lS (pA (st_w σ) T) f L).1) (fun _ _ => rfl) H, HB⟩
  obtain ⟨z_o, hO⟩ := X.obj
  have fr : hFr 100 102 M M := hFr.rf
  refine x_aload_5 2 C dL_isLoaded_0 rfl ?_
  refine x_iconst (v := 0) 3 C dL_isLoaded_2 rfl rfl ?_
  refine x_iconst (v := 0) 4 C dL_isLoaded_3 rfl rfl ?_
  refine x_iast 5 (0) C HN (rfl) (by decide) (by decide) dL_isLoaded_4 rfl ?_
  refine x_up (fun M_1 g_1 o_1 e_1 => ?_)
  have fr := fr.tr (M2 := M_1) (by rw [e_1]; exact hFr.put HN (by omega))
  have hO := (o_1 _ (hT_ne hO HN (by omega))).trans hO
  have HV := (o_1 _ (hT_ne HV HN (by omega))).trans HV
  have HN := g_1
  refine x_aload_5 7 C dL_isLoaded_5 rfl ?_
  refine x_iconst (v := 1) 8 C dL_isLoaded_7 rfl rfl ?_
  refine x_bipush (v := (-6)) 10 C dL_isLoaded_8 rfl rfl ?_
  refine x_iast 11 (1) C HN (rfl) (by decide) (by decide) dL_isLoaded_10 rfl ?_
  refine x_up (fun M_2 g_2 o_2 e_2 => ?_)
  have fr := fr.tr (M2 := M_2) (by rw [e_2]; exact hFr.put HN (by omega))
  have hO := (o_2 _ (hT_ne hO HN (by omega))).trans hO
  have HV := (o_2 _ (hT_ne HV HN (by omega))).trans HV
  have HN := g_2
  refine x_aload_5 13 C dL_isLoaded_11 rfl ?_
  refine x_iconst (v := 2) 14 C dL_isLoaded_13 rfl rfl ?_
  refine x_iconst (v := 0) 15 C dL_isLoaded_14 rfl rfl ?_
  refine x_iast 16 (2) C HN (rfl) (by decide) (by decide) dL_isLoaded_15 rfl ?_
  refine x_up (fun M_3 g_3 o_3 e_3 => ?_)
  have fr := fr.tr (M2 := M_3) (by rw [e_3]; exact hFr.put HN (by omega))
  have hO := (o_3 _ (hT_ne hO HN (by omega))).trans hO
  have HV := (o_3 _ (hT_ne HV HN (by omega))).trans HV
  have HN := g_3
  refine x_aload_5 18 C dL_isLoaded_16 rfl ?_
  refine x_iconst (v := 3) 19 C dL_isLoaded_18 rfl rfl ?_
  refine x_iconst (v := 0) 20 C dL_isLoaded_19 rfl rfl ?_
  refine x_iast 21 (3) C HN (rfl) (by decide) (by decide) dL_isLoaded_20 rfl ?_
  refine x_up (fun M_4 g_4 o_4 e_4 => ?_)
  have fr := fr.tr (M2 := M_4) (by rw [e_4]; exact hFr.put HN (by omega))
  have hO := (o_4 _ (hT_ne hO HN (by omega))).trans hO
  have HV := (o_4 _ (hT_ne HV HN (by omega))).trans HV
  have HN := g_4
  refine x_aload_5 23 C dL_isLoaded_21 rfl ?_
  refine x_iconst (v := 4) 24 C dL_isLoaded_23 rfl rfl ?_
  refine x_iconst (v := 0) 25 C dL_isLoaded_24 rfl rfl ?_
  refine x_iast 26 (4) C HN (rfl) (by decide) (by decide) dL_isLoaded_25 rfl ?_
  refine x_up (fun M_5 g_5 o_5 e_5 => ?_)
  have fr := fr.tr (M2 := M_5) (by rw [e_5]; exact hFr.put HN (by omega))
  have hO := (o_5 _ (hT_ne hO HN (by omega))).trans hO
  have HV := (o_5 _ (hT_ne HV HN (by omega))).trans HV
  have HN := g_5
  refine x_aload_0 27 C dL_isLoaded_26 rfl ?_
  refine x_callV 30 C (c_X5_wipe K _ (X.kept (fr.mono (by decide) (by decide))) ho) hO wcl_X5 hy_X5_wipe wv_X5_wipe we_X5_wipe lk_L_82 dL_isLoaded_27 rfl ⟨Nat.le_of_ble_eq_true rfl, Nat.le_of_ble_eq_true rfl⟩ ⟨Nat.le_of_ble_eq_true rfl, Nat.le_of_ble_eq_true rfl⟩ (Nat.le_of_ble_eq_true rfl) rfl (k_0 rfl rfl (k_i (fun r_6 M_6 h_6 => ?_)))
  obtain ⟨e_6, X, g_6⟩ := h_6
  subst e_6
  have X : cX K A (st_w σ) M_6 := X
  have ho : okS (st_w σ) := okS_wipe ho
  have fr : hFr 100 102 M_6 M_6 := hFr.rf
  have HV := g_6 _ _ _ (Or.inr (by decide)) HV
  have HN := g_6 _ _ _ (Or.inr (by decide)) HN
  obtain ⟨z_o, hO⟩ := X.obj
  refine x_pop 31 C dL_isLoaded_30 rfl rfl ?_
  refine x_lconst (v := 0) 32 C dL_isLoaded_31 rfl rfl ?_
  refine x_lstore_6 34 C dL_isLoaded_32 rfl rfl ?_
  refine x_iconst (v := 1) 35 C dL_isLoaded_34 rfl rfl ?_
  refine x_aload_2 36 C dL_isLoaded_35 rfl ?_
  refine x_iload_3 37 C dL_isLoaded_36 rfl ?_
  refine x_iconst (v := 3) 38 C dL_isLoaded_37 rfl rfl ?_
  refine x_callSs 41 C S (c_L_cell K _ hL (k) (3) (by omega) (by omega) (by omega)) hy_L_cell ws_L_cell lk_L_41 dL_isLoaded_38 rfl ⟨Nat.le_of_ble_eq_true rfl, Nat.le_of_ble_eq_true rfl⟩ ⟨Nat.le_of_ble_eq_true rfl, Nat.le_of_ble_eq_true rfl⟩ (Nat.le_of_ble_eq_true rfl) rfl (k_0 rfl rfl (k_iq (fun r_y ⟨y, hy, ey⟩ => ?_)))
  subst ey
  refine x_iadd 42 C dL_isLoaded_41 rfl ?_
  refine x_topi (v' := nI (1 + y)) (nI_add 1 y) ?_
  generalize ht : 1 + y = t
  have H : lMa σ.1 [] fv (va_up (va_up (va_up (va_up (va_up fm 0 0) 1 (-6)) 2 0) 3 0) 4 0) := lMa_0 rfl rfl rfl
  have HB : lMb [] (va_up (va_up (va_up (va_up (va_up fm 0 0) 1 (-6)) 2 0) 3 0) 4 0) := ⟨rfl, rfl⟩
  generalize (va_up (va_up (va_up (va_up (va_up fm 0 0) 1 (-6)) 2 0) 3 0) 4 0) = fm0 at H HB HN
  have lp : ∀ (d i : Nat) (T : List Nat) (L : List (Nat × Nat)) (M1 : hM) (fv : Nat → Int64) (fm : Nat → Int32) (m10 m11 m13 : Option Value), i + d = t → (d = 0 → 0 < i) → (i = 0 ∧ T = [] ∧ L = [] ∨ 0 < i ∧ tI T L ∧ on L) → T.length ≤ 18 * i → L.length ≤ 10 * i → cX K A (pA (st_w σ) T) M1 → okS (pA (st_w σ) T) → M1 V = some (100, eJ K 64 fv) → M1 N = some (101, eI K 5 fm) → lMa σ.1 L fv fm → lMb L fm → hX E 0 0 47 [some (.ref (A 36)), some (.int (nI f)), some (.ref b), some (.int (nI k)), some (.ref V), some (.ref N), some (.long (lN (rvN σ.1 L))), none, some (.int (nI t)), some (.int (nI i)), m10, m11, none, m13, none] [] M1 := by
    intro d
    induction d with
    | zero =>
      intro i T L M1 fv fm m10 m11 m13 hid hd0 hinv hTl hLl X ho HV HN H HB
      obtain ⟨-, hI, -⟩ := hinv.resolve_left (fun z => by have := hd0 rfl; omega)
      obtain ⟨z_o, hO⟩ := X.obj
      have fr : hFr 100 102 M1 M1 := hFr.rf
      refine x_iload_9 49 C dL_isLoaded_47 rfl ?_
      refine x_iload_8 51 C dL_isLoaded_49 rfl ?_
      refine x_icmp_ge 54 214 C dL_isLoaded_51 rfl rfl (fun _ => ?_) (fun z => absurd ((nI_le (by omega) (by omega))) z)
      exact m214 T L _ fv fm t i _ _ _ hI X ho HV HN H HB
    | succ d ih =>
      intro i T L M1 fv fm m10 m11 m13 hid hd0 hinv hTl hLl X ho HV HN H HB
      have hlt : i < t := by omega
      have m183 : ∀ (c : Nat) (sg T2 : List Nat) (Z : List (Nat × Nat)) (M1 : hM) (fv : Nat → Int64) (fm : Nat → Int32) (m13 : Option Value), isS c → (i = 0 ∧ sg = [] ∧ L = [] ∨ 0 < i ∧ sg = [c] ∧ on L) → tI T2 (L ++ Z ++ sfs sg) → on Z → Z.length ≤ 9 → T2.length ≤ 18 * i + 18 → cX K A (pA (st_w σ) T2) M1 → okS (pA (st_w σ) T2) → M1 V = some (100, eJ K 64 fv) → M1 N = some (101, eI K 5 fm) → lMa σ.1 (L ++ Z) fv fm → lMb (L ++ Z) fm → hX E 0 0 183 [some (.ref (A 36)), some (.int (nI f)), some (.ref b), some (.int (nI k)), some (.ref V), some (.ref N), some (.long (lN (rvN σ.1 L))), none, some (.int (nI t)), some (.int (nI i)), (some (.int (nI c))), (some (.long (lN (rvN σ.1 (L ++ Z))))), none, m13, none] [] M1 := by
        intro c sg T2 Z M1 fv fm m13 hc hinv hI honZ hZl hT2 X ho HV HN H HB
        obtain ⟨z_o, hO⟩ := X.obj
        have fr : hFr 100 102 M1 M1 := hFr.rf
        rcases hinv with ⟨hi0, rfl, hL0⟩ | ⟨hi0, rfl, honL⟩
        · subst hi0
          subst hL0
          rw [show [] ++ Z ++ sfs [] = Z from List.append_nil Z] at hI
          rw [show [] ++ Z = Z from rfl] at H HB ⊢
          refine x_iload_9 185 C dL_isLoaded_183 rfl ?_
          refine x_if_ne 188 193 C dL_isLoaded_185 rfl rfl (fun z => absurd (rfl) z) (fun _ => ?_)
          refine x_lload_11 190 C dL_isLoaded_188 rfl ?_
          refine x_goto 206 C dL_isLoaded_190 rfl ?_
          refine x_lstore_6 208 C dL_isLoaded_206 rfl rfl ?_
          refine x_iinc_9 211 C dL_isLoaded_208 rfl rfl (nI_inc 0) ?_
          refine x_goto 47 C dL_isLoaded_211 rfl ?_
          exact ih 1 _ Z _ fv fm _ _ _ (by omega) (by omega) (Or.inr ⟨by omega, hI, honZ⟩) (by omega) (by omega) X ho HV HN H HB
        · rw [show L ++ Z ++ sfs [c] = L ++ Z ++ [(c, 0)] from rfl] at hI
          refine x_iload_9 185 C dL_isLoaded_183 rfl ?_
          refine x_if_ne 188 193 C dL_isLoaded_185 rfl rfl (fun _ => ?_) (fun z => absurd z ((fun z => absurd ((nI_eq (b := 0) (by omega) (by decide)).mp z) (by omega))))
          refine x_aload_4 195 C dL_isLoaded_193 rfl ?_
          refine x_aload_5 197 C dL_isLoaded_195 rfl ?_
          refine x_iload_10 199 C dL_isLoaded_197 rfl ?_
          refine x_lload_6 201 C dL_isLoaded_199 rfl ?_
          refine x_lload_11 203 C dL_isLoaded_201 rfl ?_
          refine x_callS 206 C (c_L_apply K _ HV HN σ.1 (L ++ Z) c (isS_O hc) (by rw [List.length_append]; omega) H (rvN σ.1 L) (rvN σ.1 (L ++ Z)) rvN_le rvN_le (fun q => ⟨[], by rw [qP_on honZ q]; exact congrArg _ (qP_on (L := []) honL (qR_pre q))⟩)) hy_L_apply ws_L_apply lk_L_68 dL_isLoaded_203 rfl ⟨Nat.le_of_ble_eq_true rfl, Nat.le_of_ble_eq_true rfl⟩ ⟨Nat.le_of_ble_eq_true rfl, Nat.le_of_ble_eq_true rfl⟩ (Nat.le_of_ble_eq_true rfl) rfl (k_0 rfl rfl (k_l (fun r_1 M_1 h_1 => ?_)))
          obtain ⟨e_1, fv2, fm2, HV, HN, H2, h3, h4, f_s⟩ := h_1
          subst e_1
          have HB2 : lMb (L ++ Z ++ [(c, 0)]) fm2 := lMb_o HB (by unfold isS at hc; omega) h3 h4
          refine x_lstore_6 208 C dL_isLoaded_206 rfl rfl ?_
          refine x_iinc_9 211 C dL_isLoaded_208 rfl rfl (nI_inc i) ?_
          refine x_goto 47 C dL_isLoaded_211 rfl ?_
          exact ih (i + 1) _ (L ++ Z ++ [(c, 0)]) _ fv2 fm2 _ _ _ (by omega) (by omega) (Or.inr ⟨by omega, hI, on_bin honL honZ (isS_O hc)⟩) (by omega) (by simp only [List.length_append, List.length_singleton]; omega) (X.kept (f_s.mono (by decide) (by decide))) ho HV HN H2 HB2
      have m118 : ∀ (c n w : Nat) (sg T1 : List Nat) (M1 : hM) (fv : Nat → Int64) (fm : Nat → Int32) (m11 m13 : Option Value), (w = 4 ∧ n = 10000 ∨ w = 2 ∧ n = 100) → isS c → (i = 0 ∧ sg = [] ∧ L = [] ∨ 0 < i ∧ sg = [c] ∧ on L) → tB T1 L sg → T1.length ≤ 18 * i + 1 → cX K A (pA (st_w σ) T1) M1 → okS (pA (st_w σ) T1) → M1 V = some (100, eJ K 64 fv) → M1 N = some (101, eI K 5 fm) → lMa σ.1 L fv fm → lMb L fm → hX E 0 0 118 [some (.ref (A 36)), some (.int (nI f)), some (.ref b), some (.int (nI k)), some (.ref V), some (.ref N), some (.long (lN (rvN σ.1 L))), none, some (.int (nI t)), some (.int (nI i)), (some (.int (nI c))), m11, none, m13, none] [.int (nI n), .int (nI (k + 5 + 16 * i)), .ref b, .ref N, .ref V, .ref (A 36)] M1 := by
        intro c n w sg T1 M1 fv fm m11 m13 hw hc hinv hB hT1 X ho HV HN H HB
        obtain ⟨z_o, hO⟩ := X.obj
        have fr : hFr 100 102 M1 M1 := hFr.rf
        refine x_callSs 121 C S (c_L_factor K _ hL X ho HV HN (L) H HB (by first | omega | (simp only [List.length_append]; omega)) (k + 5 + 16 * i) n w (by omega) (hw) (by rw [pA_len]; show 0 + _ + 8 ≤ 60; first | omega | (simp only [List.length_append, List.length_singleton]; omega))) hy_L_factor ws_L_factor lk_L_86 dL_isLoaded_118 rfl ⟨Nat.le_of_ble_eq_true rfl, Nat.le_of_ble_eq_true rfl⟩ ⟨Nat.le_of_ble_eq_true rfl, Nat.le_of_ble_eq_true rfl⟩ (Nat.le_of_ble_eq_true rfl) rfl (k_0 rfl rfl (k_l (fun r_1 M_1 h_1 => ?_)))
        obtain ⟨P, UP, fv, fm, hlP, hUP, honP, hzP, X, ho, HV, HN, H, HB, e_1⟩ := h_1
        subst e_1
        rw [pA_pA] at X ho
        have H : lMa σ.1 (L ++ P) fv fm := H
        have fr : hFr 100 102 M_1 M_1 := hFr.rf
        obtain ⟨z_o, hO⟩ := X.obj
        refine x_lstore_11 123 C dL_isLoaded_121 rfl rfl ?_
        refine x_aload_2 124 C dL_isLoaded_123 rfl ?_
        refine x_iload_3 125 C dL_isLoaded_124 rfl ?_
        refine x_iconst (v := 1) 126 C dL_isLoaded_125 rfl rfl ?_
        refine x_iadd 127 C dL_isLoaded_126 rfl ?_
        refine x_topi (v' := nI (k + 1)) (nI_1 k) ?_
        refine x_iload_9 129 C dL_isLoaded_127 rfl ?_
        refine x_iadd 130 C dL_isLoaded_129 rfl ?_
        refine x_topi (v' := nI (k + 1 + i)) (nI_add _ _) ?_
        refine x_iconst (v := 3) 131 C dL_isLoaded_130 rfl rfl ?_
        refine x_callSs 134 C S (c_L_cell K _ hL (k + 1 + i) (3) (by omega) (by omega) (by omega)) hy_L_cell ws_L_cell lk_L_41 dL_isLoaded_131 rfl ⟨Nat.le_of_ble_eq_true rfl, Nat.le_of_ble_eq_true rfl⟩ ⟨Nat.le_of_ble_eq_true rfl, Nat.le_of_ble_eq_true rfl⟩ (Nat.le_of_ble_eq_true rfl) rfl (k_0 rfl rfl (k_iq (fun r_v ⟨v, hv, ev⟩ => ?_)))
        subst ev
        refine x_if_ne 137 183 C dL_isLoaded_134 rfl rfl (fun c_134 => ?_) (fun c_134 => ?_)
        · exact m183 c sg (T1 ++ UP) P _ fv fm _ hc hinv (tB_term hB hzP) honP (by omega) (by rw [List.length_append]; omega) X ho HV HN H HB
        · refine x_aload_0 138 C dL_isLoaded_137 rfl ?_
          refine x_ldc2 (v := 42) 141 C dL_isLoaded_138 rfl wq_L_89 ?_
          refine x_callV 144 C (c_put1 K _ X ho (42) (by decide) (by rw [pA_len]; show 0 + _ + 1 ≤ 60; simp only [List.length_append]; omega)) hO wcl_X5 hy_X5_put wv_X5_put we_X5_put lk_L_31 dL_isLoaded_141 rfl ⟨Nat.le_of_ble_eq_true rfl, Nat.le_of_ble_eq_true rfl⟩ ⟨Nat.le_of_ble_eq_true rfl, Nat.le_of_ble_eq_true rfl⟩ (Nat.le_of_ble_eq_true rfl) rfl (k_0 rfl rfl (k_i (fun r_3 M_3 h_3 => ?_)))
          obtain ⟨X, ho, g_3⟩ := h_3
          obtain ⟨z_o, hO⟩ := X.obj
          have HV := g_3 _ _ _ (Or.inr (by decide)) HV
          have HN := g_3 _ _ _ (Or.inr (by decide)) HN
          have fr : hFr 100 102 M_3 M_3 := hFr.rf
          rw [pA_pA] at X ho
          refine x_pop 145 C dL_isLoaded_144 rfl rfl ?_
          refine x_aload_0 146 C dL_isLoaded_145 rfl ?_
          refine x_aload_4 148 C dL_isLoaded_146 rfl ?_
          refine x_aload_5 150 C dL_isLoaded_148 rfl ?_
          refine x_aload_2 151 C dL_isLoaded_150 rfl ?_
          refine x_iload_3 152 C dL_isLoaded_151 rfl ?_
          refine x_bipush (v := 12) 154 C dL_isLoaded_152 rfl rfl ?_
          refine x_iadd 155 C dL_isLoaded_154 rfl ?_
          refine x_topi (v' := nI (k + 12)) (nI_add k 12) ?_
          refine x_bipush (v := 16) 157 C dL_isLoaded_155 rfl rfl ?_
          refine x_iload_9 159 C dL_isLoaded_157 rfl ?_
          refine x_imul 160 C dL_isLoaded_159 rfl ?_
          refine x_topi (v' := nI (16 * i)) (pk_mul 16 i) ?_
          refine x_iadd 161 C dL_isLoaded_160 rfl ?_
          refine x_topi (v' := nI (k + 12 + 16 * i)) (nI_add _ _) ?_
          refine x_bipush (v := 100) 163 C dL_isLoaded_161 rfl rfl ?_
          refine x_callSs 166 C S (c_L_factor K _ hL X ho HV HN (L ++ P) H HB (by first | omega | (simp only [List.length_append]; omega)) (k + 12 + 16 * i) 100 2 (by omega) (Or.inr ⟨rfl, rfl⟩) (by rw [pA_len]; show 0 + _ + 8 ≤ 60; first | omega | (simp only [List.length_append, List.length_singleton]; omega))) hy_L_factor ws_L_factor lk_L_86 dL_isLoaded_163 rfl ⟨Nat.le_of_ble_eq_true rfl, Nat.le_of_ble_eq_true rfl⟩ ⟨Nat.le_of_ble_eq_true rfl, Nat.le_of_ble_eq_true rfl⟩ (Nat.le_of_ble_eq_true rfl) rfl (k_0 rfl rfl (k_l (fun r_4 M_4 h_4 => ?_)))
          obtain ⟨Q, UQ, fv, fm, hlQ, hUQ, honQ, hzQ, X, ho, HV, HN, H, HB, e_4⟩ := h_4
          subst e_4
          rw [pA_pA] at X ho
          have H : lMa σ.1 (L ++ P ++ Q) fv fm := H
          have fr : hFr 100 102 M_4 M_4 := hFr.rf
          obtain ⟨z_o, hO⟩ := X.obj
          refine x_lstore_13 168 C dL_isLoaded_166 rfl rfl ?_
          refine x_aload_4 170 C dL_isLoaded_168 rfl ?_
          refine x_aload_5 172 C dL_isLoaded_170 rfl ?_
          refine x_bipush (v := 42) 174 C dL_isLoaded_172 rfl rfl ?_
          refine x_lload_11 176 C dL_isLoaded_174 rfl ?_
          refine x_lload_13 178 C dL_isLoaded_176 rfl ?_
          refine x_callS 181 C (c_L_apply K _ HV HN σ.1 (L ++ P ++ Q) 42 (Or.inr (Or.inr rfl)) (by simp only [List.length_append]; omega) H (rvN σ.1 (L ++ P)) (rvN σ.1 (L ++ P ++ Q)) rvN_le rvN_le (fun q => ⟨_, by rw [qP_on honQ q, qP_on honP (qR_pre q)]⟩)) hy_L_apply ws_L_apply lk_L_68 dL_isLoaded_178 rfl ⟨Nat.le_of_ble_eq_true rfl, Nat.le_of_ble_eq_true rfl⟩ ⟨Nat.le_of_ble_eq_true rfl, Nat.le_of_ble_eq_true rfl⟩ (Nat.le_of_ble_eq_true rfl) rfl (k_0 rfl rfl (k_l (fun r_5 M_5 h_5 => ?_)))
          obtain ⟨e_5, fv2, fm2, HV, HN, H2, h3, h4, f_s⟩ := h_5
          subst e_5
          have HB2 : lMb (L ++ P ++ Q ++ [(42, 0)]) fm2 := lMb_o HB (by decide) h3 h4
          refine x_lstore_11 183 C dL_isLoaded_181 rfl rfl ?_
          rw [show L ++ P ++ Q ++ [(42, 0)] = L ++ (P ++ Q ++ [(42, 0)]) by simp only [List.append_assoc]] at H2 HB2 ⊢
          exact m183 c sg (T1 ++ UP ++ [42] ++ UQ) (P ++ Q ++ [(42, 0)]) _ fv2 fm2 _ hc hinv (by have := tB_term2 hB hzP hzQ; rw [show L ++ P ++ Q ++ [(42, 0)] = L ++ (P ++ Q ++ [(42, 0)]) by simp only [List.append_assoc]] at this; exact this) (on_bin honP honQ (Or.inr (Or.inr rfl))) (by simp only [List.length_append, List.length_singleton]; omega) (by simp only [List.length_append, List.length_singleton]; omega) (X.kept (f_s.mono (by decide) (by decide))) ho HV HN H2 HB2
      obtain ⟨z_o, hO⟩ := X.obj
      have fr : hFr 100 102 M1 M1 := hFr.rf
      have m75 : ∀ (c : Nat), isS c → hX E 0 0 75 [some (.ref (A 36)), some (.int (nI f)), some (.ref b), some (.int (nI k)), some (.ref V), some (.ref N), some (.long (lN (rvN σ.1 L))), none, some (.int (nI t)), some (.int (nI i)), m10, m11, none, m13, none] [.int (nI c)] M1 := by
        intro c hc
        rcases hinv with ⟨h9, hT0, hL0⟩ | ⟨h9, hI, honL⟩
        · subst h9
          subst hT0
          subst hL0
          refine x_istore_10 77 C dL_isLoaded_75 rfl rfl ?_
          refine x_iload_9 79 C dL_isLoaded_77 rfl ?_
          refine x_if_le 82 90 C dL_isLoaded_79 rfl rfl (fun _ => ?_) (fun z => absurd ((by decide)) z)
          refine x_aload_0 91 C dL_isLoaded_90 rfl ?_
          refine x_aload_4 93 C dL_isLoaded_91 rfl ?_
          refine x_aload_5 95 C dL_isLoaded_93 rfl ?_
          refine x_aload_2 96 C dL_isLoaded_95 rfl ?_
          refine x_iload_3 97 C dL_isLoaded_96 rfl ?_
          refine x_iconst (v := 5) 98 C dL_isLoaded_97 rfl rfl ?_
          refine x_iadd 99 C dL_isLoaded_98 rfl ?_
          refine x_topi (v' := nI (k + 5)) (nI_add k 5) ?_
          refine x_bipush (v := 16) 101 C dL_isLoaded_99 rfl rfl ?_
          refine x_iload_9 103 C dL_isLoaded_101 rfl ?_
          refine x_imul 104 C dL_isLoaded_103 rfl ?_
          refine x_topi (v' := nI (16 * 0)) (pk_mul 16 0) ?_
          refine x_iadd 105 C dL_isLoaded_104 rfl ?_
          refine x_topi (v' := nI (k + 5 + 16 * 0)) (nI_add _ _) ?_
          refine x_iload_9 107 C dL_isLoaded_105 rfl ?_
          refine x_if_ne 110 116 C dL_isLoaded_107 rfl rfl (fun z => absurd (rfl) z) (fun _ => ?_)
          refine x_sipush (v := 10000) 113 C dL_isLoaded_110 rfl rfl ?_
          refine x_goto 118 C dL_isLoaded_113 rfl ?_
          exact m118 c 10000 4 [] [] _ fv fm _ _ (Or.inl ⟨rfl, rfl⟩) hc (Or.inl ⟨rfl, rfl, rfl⟩) tB_0 (by show 0 ≤ _; omega) X ho HV HN H HB
        · skip
          refine x_istore_10 77 C dL_isLoaded_75 rfl rfl ?_
          refine x_iload_9 79 C dL_isLoaded_77 rfl ?_
          refine x_if_le 82 90 C dL_isLoaded_79 rfl rfl (fun z => absurd z ((nI_nle h9 (by omega)))) (fun _ => ?_)
          refine x_aload_0 83 C dL_isLoaded_82 rfl ?_
          refine x_iload_10 85 C dL_isLoaded_83 rfl ?_
          refine x_i2l 86 C dL_isLoaded_85 rfl ?_
          refine x_topl (v' := lN c) (nI_l (by unfold isS at hc; omega)) ?_
          refine x_callV 89 C (c_put1 K _ X ho (c) (by unfold isS at hc; omega) (by rw [pA_len]; show 0 + _ + 1 ≤ 60; omega)) hO wcl_X5 hy_X5_put wv_X5_put we_X5_put lk_L_31 dL_isLoaded_86 rfl ⟨Nat.le_of_ble_eq_true rfl, Nat.le_of_ble_eq_true rfl⟩ ⟨Nat.le_of_ble_eq_true rfl, Nat.le_of_ble_eq_true rfl⟩ (Nat.le_of_ble_eq_true rfl) rfl (k_0 rfl rfl (k_i (fun r_1 M_1 h_1 => ?_)))
          obtain ⟨X, ho, g_1⟩ := h_1
          obtain ⟨z_o, hO⟩ := X.obj
          have HV := g_1 _ _ _ (Or.inr (by decide)) HV
          have HN := g_1 _ _ _ (Or.inr (by decide)) HN
          have fr : hFr 100 102 M_1 M_1 := hFr.rf
          rw [pA_pA] at X ho
          refine x_pop 90 C dL_isLoaded_89 rfl rfl ?_
          skip
          refine x_aload_0 91 C dL_isLoaded_90 rfl ?_
          refine x_aload_4 93 C dL_isLoaded_91 rfl ?_
          refine x_aload_5 95 C dL_isLoaded_93 rfl ?_
          refine x_aload_2 96 C dL_isLoaded_95 rfl ?_
          refine x_iload_3 97 C dL_isLoaded_96 rfl ?_
          refine x_iconst (v := 5) 98 C dL_isLoaded_97 rfl rfl ?_
          refine x_iadd 99 C dL_isLoaded_98 rfl ?_
          refine x_topi (v' := nI (k + 5)) (nI_add k 5) ?_
          refine x_bipush (v := 16) 101 C dL_isLoaded_99 rfl rfl ?_
          refine x_iload_9 103 C dL_isLoaded_101 rfl ?_
          refine x_imul 104 C dL_isLoaded_103 rfl ?_
          refine x_topi (v' := nI (16 * i)) (pk_mul 16 i) ?_
          refine x_iadd 105 C dL_isLoaded_104 rfl ?_
          refine x_topi (v' := nI (k + 5 + 16 * i)) (nI_add _ _) ?_
          refine x_iload_9 107 C dL_isLoaded_105 rfl ?_
          refine x_if_ne 110 116 C dL_isLoaded_107 rfl rfl (fun _ => ?_) (fun z => absurd z ((fun z => absurd ((nI_eq (b := 0) (by omega) (by decide)).mp z) (by omega))))
          refine x_bipush (v := 100) 118 C dL_isLoaded_116 rfl rfl ?_
          exact m118 c 100 2 [c] (T ++ [c]) _ fv fm _ _ (Or.inr ⟨rfl, rfl⟩) hc (Or.inr ⟨h9, rfl, honL⟩) (tI_sign hI hc) (by rw [List.length_append, List.length_singleton]; omega) X ho HV HN H HB
      refine x_iload_9 49 C dL_isLoaded_47 rfl ?_
      refine x_iload_8 51 C dL_isLoaded_49 rfl ?_
      refine x_icmp_ge 54 214 C dL_isLoaded_51 rfl rfl (fun z => absurd z ((Int32.not_le.mpr (nI_ltI (by omega) (by omega) |>.mpr hlt)))) (fun _ => ?_)
      refine x_aload_2 55 C dL_isLoaded_54 rfl ?_
      refine x_iload_3 56 C dL_isLoaded_55 rfl ?_
      refine x_iconst (v := 1) 57 C dL_isLoaded_56 rfl rfl ?_
      refine x_iadd 58 C dL_isLoaded_57 rfl ?_
      refine x_topi (v' := nI (k + 1)) (nI_1 k) ?_
      refine x_iload_9 60 C dL_isLoaded_58 rfl ?_
      refine x_iadd 61 C dL_isLoaded_60 rfl ?_
      refine x_topi (v' := nI (k + 1 + i)) (nI_add _ _) ?_
      refine x_iconst (v := 2) 62 C dL_isLoaded_61 rfl rfl ?_
      refine x_callSs 65 C S (c_L_cell K _ hL (k + 1 + i) (2) (by omega) (by omega) (by omega)) hy_L_cell ws_L_cell lk_L_41 dL_isLoaded_62 rfl ⟨Nat.le_of_ble_eq_true rfl, Nat.le_of_ble_eq_true rfl⟩ ⟨Nat.le_of_ble_eq_true rfl, Nat.le_of_ble_eq_true rfl⟩ (Nat.le_of_ble_eq_true rfl) rfl (k_0 rfl rfl (k_iq (fun r_y ⟨y, hy, ey⟩ => ?_)))
      subst ey
      refine x_if_ne 68 73 C dL_isLoaded_65 rfl rfl (fun c_65 => ?_) (fun c_65 => ?_)
      · refine x_bipush (v := 45) 75 C dL_isLoaded_73 rfl rfl ?_
        exact x_topi (v' := nI 45) rfl (m75 45 (Or.inr rfl))
      · refine x_bipush (v := 43) 70 C dL_isLoaded_68 rfl rfl ?_
        refine x_goto 75 C dL_isLoaded_70 rfl ?_
        exact x_topi (v' := nI 43) rfl (m75 43 (Or.inl rfl))
  refine x_istore_8 44 C dL_isLoaded_42 rfl rfl ?_
  refine x_iconst (v := 0) 45 C dL_isLoaded_44 rfl rfl ?_
  refine x_istore_9 47 C dL_isLoaded_45 rfl rfl ?_
  exact lp t 0 [] [] _ fv fm0 _ _ _ (by omega) (by omega) (Or.inl ⟨rfl, rfl, rfl⟩) (by show 0 ≤ _; omega) (by show 0 ≤ _; omega) (by rw [pA_nil]; exact X) (by rw [pA_nil]; exact ho) HV HN H HB
