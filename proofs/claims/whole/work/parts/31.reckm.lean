/-! what a formula comes to: the values of its steps, and 0, 1 (above the largest) or 2 (below 0) -/
def rkv (τ : hS1) (s : Nat × Nat) (p : List Nat) : Int :=
  if s.1 = 0 then s.2 else if s.1 = 1 then τ.2.2.1 s.2 else if s.1 = 43 then (p.getD 1 0 : Int) + p.getD 0 0 else if s.1 = 45 then (p.getD 1 0 : Int) - p.getD 0 0
  else if s.1 = 42 then tmn (p.getD 1 0) (p.getD 0 0) else if s.1 = 115 then tmn (p.getD 0 0) (p.getD 0 0) else if s.1 = 113 then rr 2 (p.getD 0 0) τ.1 else rr 3 (p.getD 0 0) τ.1
def rkp (s : Nat × Nat) (p : List Nat) : List Nat := if s.1 < 2 then p else if s.1 = 43 ∨ s.1 = 45 ∨ s.1 = 42 then p.drop 2 else p.drop 1
def rk (τ : hS1) : List (Nat × Nat) → List Nat → List Nat → List Nat × Nat
  | [], _, vs => (vs, 0)
  | s :: r, p, vs => if rkv τ s p < 0 then (vs, 2) else if (LG : Int) < rkv τ s p then (vs, 1) else rk τ r ((rkv τ s p).toNat :: rkp s p) (vs ++ [(rkv τ s p).toNat])
def rkR (τ : hS1) (L : List (Nat × Nat)) : List Nat × Nat := rk τ L [] []
theorem tmn_le {a b : Nat} : tmn a b ≤ LG + 1 := by
  unfold tmn
  split
  · exact Nat.le_refl _
  · next h =>
    rcases Nat.eq_zero_or_pos a with q | q
    · rw [q, Nat.zero_mul]; exact Nat.zero_le _
    · have h2 : b ≤ LG / a := Nat.not_lt.mp fun z => h ⟨by omega, z⟩
      have h3 := Nat.mul_le_mul_left a h2
      have h4 := Nat.mul_div_le LG a
      omega
theorem getD_bd {p : List Nat} (h : ∀ x ∈ p, x ≤ LG) (i : Nat) : p.getD i 0 ≤ LG := by
  rcases Nat.lt_or_ge i p.length with q | q
  · exact h _ (getD_m q)
  · rw [getD_e q]; exact Nat.zero_le _
theorem rr_bd {k N ρ : Nat} (h : N ≤ LG) : rr k N ρ ≤ LG := by
  have h1 := rr_le (k := k) (N := N) (ρ := ρ)
  have h2 := sq_lt (k := k) (N := N) (by unfold LG at h; omega)
  unfold LG at h ⊢
  omega
theorem rkv_bd {τ : hS1} {s : Nat × Nat} {p : List Nat} (hc : ∀ i, i < 8 → τ.2.2.1 i ≤ LG) (hs : okP s) (hp : ∀ x ∈ p, x ≤ LG) : -(LG : Int) ≤ rkv τ s p ∧ rkv τ s p ≤ 2 * LG := by
  have h0 := getD_bd hp 0
  have h1 := getD_bd hp 1
  have t1 := tmn_le (a := p.getD 1 0) (b := p.getD 0 0)
  have t2 := tmn_le (a := p.getD 0 0) (b := p.getD 0 0)
  have r2 := rr_bd (k := 2) (ρ := τ.1) h0
  have r3 := rr_bd (k := 3) (ρ := τ.1) h0
  have hn := okP_n hs
  have e : LG = 1000000000000 := rfl
  unfold rkv
  split
  · omega
  · split
    · next q =>
      have : s.2 < 8 := by unfold okP at hs; omega
      have := hc s.2 this
      omega
    · (repeat' split) <;> omega
theorem hgt_k {s : Nat × Nat} {r : List (Nat × Nat)} {p : List Nat} (h : hgt (s :: r) p.length = some 1) : hgt r ((rkp s p).length + 1) = some 1 ∧ (¬ s.1 < 2 → 1 ≤ p.length) ∧ (s.1 = 43 ∨ s.1 = 45 ∨ s.1 = 42 → 2 ≤ p.length) := by
  rw [hgt] at h
  unfold rkp
  split at h
  · next q => rw [if_pos q]; exact ⟨h, fun z => absurd q z, fun z => by omega⟩
  · next q =>
    rw [if_neg q]
    split at h
    · next q2 =>
      rw [if_pos q2]
      split at h
      · next q3 => exact ⟨by rw [List.length_drop, show p.length - 2 + 1 = p.length - 1 by omega]; exact h, fun _ => by omega, fun _ => q3⟩
      · cases h
    · next q2 =>
      rw [if_neg q2]
      split at h
      · next q3 => exact ⟨by rw [List.length_drop, show p.length - 1 + 1 = p.length by omega]; exact h, fun _ => q3, fun z => absurd z q2⟩
      · cases h
def pilM (f : Nat → Int64) (p : List Nat) : Prop := ∀ i, i < p.length → f i = lN (p.getD (p.length - 1 - i) 0)
def valM (f : Nat → Int64) (vs : List Nat) : Prop := ∀ i, i < vs.length → f i = lN (vs.getD i 0)
theorem pilM_drop {f : Nat → Int64} {p : List Nat} (h : pilM f p) (n : Nat) : pilM f (p.drop n) := by
  intro i hi
  rw [List.length_drop] at hi ⊢
  rw [h i (by omega), List.getD_eq_getElem?_getD, List.getD_eq_getElem?_getD, List.getElem?_drop, show n + (p.length - n - 1 - i) = p.length - 1 - i by omega]
theorem pilM_rkp {f : Nat → Int64} {p : List Nat} (h : pilM f p) (s : Nat × Nat) : pilM f (rkp s p) := by
  unfold rkp
  repeat' split
  · exact h
  · exact pilM_drop h 2
  · exact pilM_drop h 1
theorem pilM_cons {f : Nat → Int64} {p : List Nat} (h : pilM f p) (v : Nat) : pilM (va_up f p.length (lN v)) (v :: p) := by
  intro i hi
  rw [List.length_cons] at hi ⊢
  by_cases e : i = p.length
  · subst e; rw [va_up_self, show p.length + 1 - 1 - p.length = 0 by omega]; rfl
  · rw [va_up_ne _ _ e, h i (by omega), show p.length + 1 - 1 - i = (p.length - 1 - i) + 1 by omega, List.getD_cons_succ]
theorem valM_app {f : Nat → Int64} {vs : List Nat} (h : valM f vs) (v : Nat) : valM (va_up f vs.length (lN v)) (vs ++ [v]) := by
  intro i hi
  rw [List.length_append] at hi
  simp only [List.length_cons, List.length_nil] at hi
  by_cases e : i = vs.length
  · subst e; rw [va_up_self, List.getD_eq_getElem?_getD, List.getElem?_append_right (Nat.le_refl _), Nat.sub_self]; rfl
  · rw [va_up_ne _ _ e, h i (by omega), List.getD_eq_getElem?_getD, List.getD_eq_getElem?_getD, List.getElem?_append_left (by omega)]
theorem rkp_bd {s : Nat × Nat} {p : List Nat} (h : ∀ x ∈ p, x ≤ LG) : (∀ x ∈ rkp s p, x ≤ LG) ∧ (rkp s p).length ≤ p.length := by
  unfold rkp
  repeat' split
  · exact ⟨h, Nat.le_refl _⟩
  · exact ⟨fun x hx => h x (List.mem_of_mem_drop hx), by rw [List.length_drop]; omega⟩
  · exact ⟨fun x hx => h x (List.mem_of_mem_drop hx), by rw [List.length_drop]; omega⟩
theorem getD_last {vs : List Nat} {v : Nat} : (vs ++ [v]).getD ((vs ++ [v]).length - 1) 0 = v := by simp
theorem nI_m2 {n : Nat} (h : 2 ≤ n) : nI n + Int32.ofInt (-2) = nI (n - 2) := by
  rw [nI_iI, nI_iI]
  show iI n + iI (-2) = _
  rw [iI_add]; congr 1; omega
theorem nI_m1 {n : Nat} (h : 1 ≤ n) : nI n + Int32.ofInt (-1) = nI (n - 1) := by rw [nI_dn, nI_iI]; congr 1; omega
theorem dropn_s {L r : List (Nat × Nat)} {s : Nat × Nat} {k : Nat} (h : L.drop k = s :: r) : k < L.length ∧ L.getD k (0, 0) = s ∧ L.drop (k + 1) = r := by
  have hk : k < L.length := by
    rcases Nat.lt_or_ge k L.length with q | q
    · exact q
    · rw [List.drop_eq_nil_of_le q] at h; cases h
  rw [List.drop_eq_getElem_cons hk] at h
  obtain ⟨h1, h2⟩ := List.cons.inj h
  exact ⟨hk, by rw [List.getD_eq_getElem?_getD, List.getElem?_eq_getElem hk]; exact h1, h2⟩
theorem rk_s2 {τ : hS1} {s : Nat × Nat} {r : List (Nat × Nat)} {p vs : List Nat} (h : rkv τ s p < 0) : rk τ (s :: r) p vs = (vs, 2) := by rw [rk, if_pos h]
theorem rk_s1 {τ : hS1} {s : Nat × Nat} {r : List (Nat × Nat)} {p vs : List Nat} (h : ¬ rkv τ s p < 0) (h2 : (LG : Int) < rkv τ s p) : rk τ (s :: r) p vs = (vs, 1) := by rw [rk, if_neg h, if_pos h2]
theorem rk_s0 {τ : hS1} {s : Nat × Nat} {r : List (Nat × Nat)} {p vs : List Nat} (h : ¬ rkv τ s p < 0) (h2 : ¬ (LG : Int) < rkv τ s p) : rk τ (s :: r) p vs = rk τ r ((rkv τ s p).toNat :: rkp s p) (vs ++ [(rkv τ s p).toNat]) := by rw [rk, if_neg h, if_neg h2]
/-- what reckoning leaves behind in the reference -/
def rkQ (K : hKv) (A : Nat → Nat) (M : hM) (z : Nat → Int32) (F : Nat → Nat → Int32) (G : Nat → Nat → Int64) (R : List Nat × Nat) (r : Int32) (M' : hM) : Prop :=
  ∃ z2 G2, mW K A z2 F G2 M' ∧ (∀ i, i ≠ 6 → i ≠ 7 → z2 i = z i) ∧ (∀ i, i < 12 → G2 i = G i) ∧ hFr 100 200 M M' ∧ valM (G2 12) R.1 ∧
  ((R.2 = 0 ∧ r = 1 ∧ z2 6 = -6 ∧ z2 7 = 0 ∧ G2 13 0 = lN (R.1.getD (R.1.length - 1) 0)) ∨ (R.2 ≠ 0 ∧ r = 0 ∧ z2 6 = nI R.1.length ∧ z2 7 = nI R.2))
set_option maxHeartbeats 4000000 in
set_option maxRecDepth 100000 in
theorem c_X6_reckon (K : hKv) (M : hM) {A : Nat → Nat} {z : Nat → Int32} {F : Nat → Nat → Int32} {G : Nat → Nat → Int64} (W : mW K A z F G M) {τ : hS1} (hr : encN τ (F 1)) (ho : ok1 τ) (hce : encC τ (G 2)) (j : Nat) (hj : j < 6) (hw : wfF (τ.2.2.2 j)) : hC K Y_X6_reckon rm_X6_reckon [.ref (A 0), .int (nI j)] M (hPi fun r M' => rkQ K A M z F G (rkR τ (τ.2.2.2 j)) r M') := by
  refine hC.of [some (.ref (A 0)), some (.int (nI j)), none, none, none, none, none, none, none, none, none, none] (by decide) (Nat.le_of_ble_eq_true rfl) rfl rfl ?_
  intro E C Rt
  have C : hCx E K cX6_reckon 12 RX6 "reckon" rm_X6_reckon := C
  have hl := hw.2.2
  obtain ⟨q1, q2⟩ := hr.2.2 j hj
  obtain ⟨M0, hM0⟩ : ∃ M0 : hM, M0 = M := ⟨_, rfl⟩
  rw [← hM0] at Rt
  generalize hL : τ.2.2.2 j = LL at hw hl q1 q2 Rt
  have lp : ∀ (r : List (Nat × Nat)) (p vs : List Nat) (G1 : Nat → Nat → Int64) (M : hM) (l4 l5 l6 l8 l9 l10 l11 : Option Value), LL.drop vs.length = r → vs.length ≤ LL.length → hgt r p.length = some 1 → p.length ≤ vs.length → (∀ x ∈ p, x ≤ LG) → p.getD 0 0 = vs.getD (vs.length - 1) 0 → valM (G1 12) vs → pilM (G1 13) p → (∀ i, i < 12 → G1 i = G i) → rk τ LL [] [] = rk τ r p vs → mW K A (va_up (va_up z 6 (-6)) 7 0) F G1 M → hFr 100 200 M0 M → hX E 0 0 15 [some (.ref (A 0)), some (.int (nI j)), some (.int (nI p.length)), some (.int (nI vs.length)), l4, l5, l6, none, l8, l9, l10, l11] [] M := by
    intro r
    induction r with
    | nil =>
      intro p vs G1 M l4 l5 l6 l8 l9 l10 l11 hd hvl hh hpv hp hlast hv hpi hG hrk W fr
      have hle : LL.length ≤ vs.length := by
        have := congrArg List.length hd
        rw [List.length_drop] at this
        simp only [List.length_nil] at this
        omega
      have hp1 : p.length = 1 := Option.some.inj hh
      refine x_iload_3 16 C dX6_reckon_15 rfl ?_
      refine x_aload_0 17 C dX6_reckon_16 rfl ?_
      refine mOg_now 20 C wf_X6_7 W.obj dX6_reckon_17 rfl ?_
      refine x_iconst (v := 2) 21 C dX6_reckon_20 rfl rfl ?_
      refine x_iload_1 22 C dX6_reckon_21 rfl ?_
      refine x_iadd 23 C dX6_reckon_22 rfl ?_
      refine x_topi (nI_add 2 j) ?_
      refine x_iald 24 (2 + j) C W.now (rfl) (by omega) (by decide) dX6_reckon_23 rfl ?_
      refine x_topi q1 ?_
      refine x_icmp_ge 27 282 C dX6_reckon_24 rfl rfl (fun _ => ?_) (fun z => absurd (nI_le hle (by omega)) z)
      refine x_iconst (v := 1) 283 C dX6_reckon_282 rfl rfl ?_
      refine x_ireturn C Rt dX6_reckon_283 rfl ⟨Nat.le_of_ble_eq_true rfl, Nat.le_of_ble_eq_true rfl⟩ ?_
      have hR : rkR τ LL = (vs, 0) := hrk
      refine ⟨_, rfl, _, _, W, fun i h6 h7 => (va_up_ne _ _ h7).trans (va_up_ne _ _ h6), hG, fr, by rw [hR]; exact hv, Or.inl ⟨by rw [hR], rfl, rfl, rfl, ?_⟩⟩
      have := hpi 0 (by omega)
      rw [hp1] at this
      rw [hR, this]
      exact congrArg lN hlast
    | cons s r ih =>
      intro p vs G1 M l4 l5 l6 l8 l9 l10 l11 hd hvl hh hpv hp hlast hv hpi hG hrk W fr
      obtain ⟨hk, hgs, hd1⟩ := dropn_s hd
      have hok := wf_at hw hk
      obtain ⟨p1, p2⟩ := q2 vs.length hk
      rw [hgs] at hok p1 p2
      have hn := okP_n hok
      obtain ⟨hh1, hu, hb⟩ := hgt_k hh
      have hbd := rkv_bd (p := p) ho.2.2.1 hok hp
      obtain ⟨kp1, kp2⟩ := rkp_bd (s := s) hp
      have hLG : LG = 1000000000000 := rfl
      have hp0 := getD_bd hp 0
      have hp1 := getD_bd hp 1
      have m226 : ∀ (x : Int) (n : Nat) (l8 l9 l10 l11 : Option Value), x = rkv τ s p → n = (rkp s p).length → hX E 0 0 226 [some (.ref (A 0)), some (.int (nI j)), some (.int (nI n)), some (.int (nI vs.length)), some (.int (nI s.1)), some (.int (nI s.2)), some (.long (lI x)), none, l8, l9, l10, l11] [] M := by
        intro x n l8 l9 l10 l11 hx hnn
        subst hnn
        rw [← hx] at hbd
        have hti : (lI x).toInt = x := lI_toI (by omega) (by omega)
        refine x_lload_6 228 C dX6_reckon_226 rfl ?_
        refine x_callS 231 C (c_X6_isValue K _ _) hy_X6_isValue ws_X6_isValue lk_X6_66 dX6_reckon_228 rfl ⟨Nat.le_of_ble_eq_true rfl, Nat.le_of_ble_eq_true rfl⟩ ⟨Nat.le_of_ble_eq_true rfl, Nat.le_of_ble_eq_true rfl⟩ (Nat.le_of_ble_eq_true rfl) rfl (k_0 rfl rfl (k_ip ?_))
        have hval : (0 ≤ (lI x).toInt ∧ (lI x).toInt ≤ 1000000000000) ↔ (¬ x < 0 ∧ ¬ (LG : Int) < x) := by rw [hti]; omega
        refine x_if_ne 234 257 C dX6_reckon_231 rfl rfl (fun c_231 => ?_) (fun c_231 => ?_)
        · obtain ⟨h0, h1⟩ := hval.mp (hB_n0p.mp c_231)
          have hxN : lI x = lN x.toNat := by rw [lN_lI]; congr 1; omega
          refine x_aload_0 258 C dX6_reckon_257 rfl ?_
          refine mOg_values 261 C wf_X6_45 W.obj dX6_reckon_258 rfl ?_
          refine x_iload_3 262 C dX6_reckon_261 rfl ?_
          refine x_lload_6 264 C dX6_reckon_262 rfl ?_
          refine x_topl hxN ?_
          refine x_last 265 (vs.length) C W.values (rfl) (by omega) (by decide) dX6_reckon_264 rfl ?_
          refine x_m_values W (fun M_1 W o_1 => ?_)
          refine x_aload_0 266 C dX6_reckon_265 rfl ?_
          refine mOg_pile 269 C wf_X6_48 W.obj dX6_reckon_266 rfl ?_
          refine x_iload_2 270 C dX6_reckon_269 rfl ?_
          refine x_lload_6 272 C dX6_reckon_270 rfl ?_
          refine x_topl hxN ?_
          refine x_last 273 ((rkp s p).length) C W.pile (rfl) (by omega) (by decide) dX6_reckon_272 rfl ?_
          refine x_m_pile W (fun M_2 W o_2 => ?_)
          refine x_iinc_2 276 C dX6_reckon_273 rfl rfl (nI_inc _) ?_
          refine x_iinc_3 279 C dX6_reckon_276 rfl rfl (nI_inc _) ?_
          refine x_goto 15 C dX6_reckon_279 rfl ?_
          have hR := hrk.trans (rk_s0 (by rw [← hx]; exact h0) (by rw [← hx]; exact h1))
          rw [← hx] at hR
          have h := ih (x.toNat :: rkp s p) (vs ++ [x.toNat]) _ _ (some (.int (nI s.1))) (some (.int (nI s.2))) (some (.long (lI x))) l8 l9 l10 l11 (by rw [List.length_append]; exact hd1) (by rw [List.length_append]; exact hk) (by rw [List.length_cons]; exact hh1) (by rw [List.length_cons, List.length_append]; simp only [List.length_cons, List.length_nil]; omega) (fun y hy => by
            rcases List.mem_cons.mp hy with q | q
            · rw [q]; omega
            · exact kp1 y q) (by rw [getD_last]; rfl) (valM_app hv x.toNat) (pilM_cons (pilM_rkp hpi s) x.toNat) (fun i hi => (va_up_ne _ _ (by omega)).trans ((va_up_ne _ _ (by omega)).trans (hG i hi))) hR W (fr.tr ((o_1).tr o_2))
          rw [List.length_cons, List.length_append] at h
          exact h
        · refine x_aload_0 235 C dX6_reckon_234 rfl ?_
          refine x_iload_3 236 C dX6_reckon_235 rfl ?_
          refine mOp_ends 239 C wf_X6_140 W.obj dX6_reckon_236 rfl ?_
          refine x_m_obj W (fun M_3 W o_3 => ?_)
          refine x_aload_0 240 C dX6_reckon_239 rfl ?_
          refine x_lload_6 242 C dX6_reckon_240 rfl ?_
          refine x_lconst (v := 0) 243 C dX6_reckon_242 rfl rfl ?_
          refine x_lc_ge 247 251 C dX6_reckon_243 dX6_reckon_244 rfl rfl (fun c_243 => ?_) (fun c_243 => ?_)
          · refine x_iconst (v := 1) 252 C dX6_reckon_251 rfl rfl ?_
            refine mOp_reason 255 C wf_X6_143 W.obj dX6_reckon_252 rfl ?_
            refine x_m_obj W (fun M_4 W o_4 => ?_)
            refine x_iconst (v := 0) 256 C dX6_reckon_255 rfl rfl ?_
            refine x_ireturn C Rt dX6_reckon_256 rfl ⟨Nat.le_of_ble_eq_true rfl, Nat.le_of_ble_eq_true rfl⟩ ?_
            have h0 : ¬ x < 0 := fun q => absurd ((lI_0l (by omega)).mp c_243) (by omega)
            have h1 : (LG : Int) < x := Decidable.by_contra fun q => hB_0p.mp c_231 (hval.mpr ⟨h0, q⟩)
            have hR : rkR τ LL = (vs, 1) := hrk.trans (rk_s1 (by rw [← hx]; exact h0) (by rw [← hx]; exact h1))
            exact ⟨_, rfl, _, _, W, fun i h6 h7 => (va_up_ne _ _ h7).trans ((va_up_ne _ _ h6).trans ((va_up_ne _ _ h7).trans (va_up_ne _ _ h6))), hG, fr.tr ((o_3).tr o_4), by rw [hR]; exact hv, Or.inr ⟨by rw [hR]; simp, rfl, by rw [hR]; rfl, by rw [hR]; rfl⟩⟩
          · refine x_iconst (v := 2) 248 C dX6_reckon_247 rfl rfl ?_
            refine x_goto 252 C dX6_reckon_248 rfl ?_
            refine mOp_reason 255 C wf_X6_143 W.obj dX6_reckon_252 rfl ?_
            refine x_m_obj W (fun M_5 W o_5 => ?_)
            refine x_iconst (v := 0) 256 C dX6_reckon_255 rfl rfl ?_
            refine x_ireturn C Rt dX6_reckon_256 rfl ⟨Nat.le_of_ble_eq_true rfl, Nat.le_of_ble_eq_true rfl⟩ ?_
            have h0 : x < 0 := Decidable.by_contra fun q => c_243 ((lI_0l (by omega)).mpr (by omega))
            have hR : rkR τ LL = (vs, 2) := hrk.trans (rk_s2 (by rw [← hx]; exact h0))
            exact ⟨_, rfl, _, _, W, fun i h6 h7 => (va_up_ne _ _ h7).trans ((va_up_ne _ _ h6).trans ((va_up_ne _ _ h7).trans (va_up_ne _ _ h6))), hG, fr.tr ((o_3).tr o_5), by rw [hR]; exact hv, Or.inr ⟨by rw [hR]; simp, rfl, by rw [hR]; rfl, by rw [hR]; rfl⟩⟩
      have m115 : (s.1 = 43 ∨ s.1 = 45 ∨ s.1 = 42) → hX E 0 0 115 [some (.ref (A 0)), some (.int (nI j)), some (.int (nI p.length)), some (.int (nI vs.length)), some (.int (nI s.1)), some (.int (nI s.2)), l6, none, l8, l9, l10, l11] [] M := by
        intro hs3
        have h2 := hb hs3
        have hkp : (rkp s p).length = p.length - 2 := by unfold rkp; rw [if_neg (by omega), if_pos hs3, List.length_drop]
        have f1 := hpi (p.length - 2) (by omega)
        have f2 := hpi (p.length - 2 + 1) (by omega)
        rw [show p.length - 1 - (p.length - 2) = 1 by omega] at f1
        rw [show p.length - 1 - (p.length - 2 + 1) = 0 by omega] at f2
        refine x_iinc_2 118 C dX6_reckon_115 rfl rfl (nI_m2 h2) ?_
        refine x_aload_0 119 C dX6_reckon_118 rfl ?_
        refine mOg_pile 122 C wf_X6_48 W.obj dX6_reckon_119 rfl ?_
        refine x_iload_2 123 C dX6_reckon_122 rfl ?_
        refine x_lald 124 (p.length - 2) C W.pile (rfl) (by omega) (by decide) dX6_reckon_123 rfl ?_
        refine x_topl f1 ?_
        refine x_lstore_8 126 C dX6_reckon_124 rfl rfl ?_
        refine x_aload_0 127 C dX6_reckon_126 rfl ?_
        refine mOg_pile 130 C wf_X6_48 W.obj dX6_reckon_127 rfl ?_
        refine x_iload_2 131 C dX6_reckon_130 rfl ?_
        refine x_iconst (v := 1) 132 C dX6_reckon_131 rfl rfl ?_
        refine x_iadd 133 C dX6_reckon_132 rfl ?_
        refine x_topi (nI_1 _) ?_
        refine x_lald 134 (p.length - 2 + 1) C W.pile (rfl) (by omega) (by decide) dX6_reckon_133 rfl ?_
        refine x_topl f2 ?_
        refine x_lstore_10 136 C dX6_reckon_134 rfl rfl ?_
        refine x_iload_4 138 C dX6_reckon_136 rfl ?_
        refine x_bipush (v := 43) 140 C dX6_reckon_138 rfl rfl ?_
        refine x_icmp_ne 143 151 C dX6_reckon_140 rfl rfl (fun c_140 => ?_) (fun c_140 => ?_)
        · refine x_iload_4 153 C dX6_reckon_151 rfl ?_
          refine x_bipush (v := 45) 155 C dX6_reckon_153 rfl rfl ?_
          refine x_icmp_ne 158 166 C dX6_reckon_155 rfl rfl (fun c_155 => ?_) (fun c_155 => ?_)
          · have hs : s.1 = 42 := by
              rcases hs3 with q | q | q
              · exact absurd (by rw [q]; rfl) c_140
              · exact absurd (by rw [q]; rfl) c_155
              · exact q
            refine x_lload_8 168 C dX6_reckon_166 rfl ?_
            refine x_lload_10 170 C dX6_reckon_168 rfl ?_
            refine x_callS 173 C (c_X6_times K _ _ _ hp1 hp0) hy_X6_times ws_X6_times lk_X6_146 dX6_reckon_170 rfl ⟨Nat.le_of_ble_eq_true rfl, Nat.le_of_ble_eq_true rfl⟩ ⟨Nat.le_of_ble_eq_true rfl, Nat.le_of_ble_eq_true rfl⟩ (Nat.le_of_ble_eq_true rfl) rfl (k_0 rfl rfl (k_lp ?_))
            refine x_topl (lN_lI _) ?_
            refine x_lstore_6 175 C dX6_reckon_173 rfl rfl ?_
            refine x_goto 226 C dX6_reckon_175 rfl ?_
            exact m226 _ _ _ _ _ _ (by unfold rkv; simp only [hs]; rfl) hkp.symm
          · have hs : s.1 = 45 := (nI_c (k := 45) (by omega) (by decide)).mp (by first | exact c_155 | exact Decidable.not_not.mp c_155)
            refine x_lload_8 160 C dX6_reckon_158 rfl ?_
            refine x_lload_10 162 C dX6_reckon_160 rfl ?_
            refine x_lsub 163 C dX6_reckon_162 rfl ?_
            refine x_topl (by rw [lN_lI, lN_lI, lI_sub]) ?_
            refine x_goto 173 C dX6_reckon_163 rfl ?_
            refine x_lstore_6 175 C dX6_reckon_173 rfl rfl ?_
            refine x_goto 226 C dX6_reckon_175 rfl ?_
            exact m226 _ _ _ _ _ _ (by unfold rkv; simp only [hs]; rfl) hkp.symm
        · have hs : s.1 = 43 := (nI_c (k := 43) (by omega) (by decide)).mp (by first | exact c_140 | exact Decidable.not_not.mp c_140)
          refine x_lload_8 145 C dX6_reckon_143 rfl ?_
          refine x_lload_10 147 C dX6_reckon_145 rfl ?_
          refine x_ladd 148 C dX6_reckon_147 rfl ?_
          refine x_topl (by rw [lN_lI, lN_lI, lI_add]) ?_
          refine x_goto 173 C dX6_reckon_148 rfl ?_
          refine x_lstore_6 175 C dX6_reckon_173 rfl rfl ?_
          refine x_goto 226 C dX6_reckon_175 rfl ?_
          exact m226 _ _ _ _ _ _ (by unfold rkv; simp only [hs]; rfl) hkp.symm
      have m178 : (s.1 = 113 ∨ s.1 = 107 ∨ s.1 = 115) → hX E 0 0 178 [some (.ref (A 0)), some (.int (nI j)), some (.int (nI p.length)), some (.int (nI vs.length)), some (.int (nI s.1)), some (.int (nI s.2)), l6, none, l8, l9, l10, l11] [] M := by
        intro hs3
        have h1 := hu (by omega)
        have hkp : (rkp s p).length = p.length - 1 := by unfold rkp; rw [if_neg (by omega), if_neg (by omega), List.length_drop]
        have f1 := hpi (p.length - 1) (by omega)
        rw [show p.length - 1 - (p.length - 1) = 0 by omega] at f1
        refine x_iinc_2 181 C dX6_reckon_178 rfl rfl (nI_m1 h1) ?_
        refine x_aload_0 182 C dX6_reckon_181 rfl ?_
        refine mOg_pile 185 C wf_X6_48 W.obj dX6_reckon_182 rfl ?_
        refine x_iload_2 186 C dX6_reckon_185 rfl ?_
        refine x_lald 187 (p.length - 1) C W.pile (rfl) (by omega) (by decide) dX6_reckon_186 rfl ?_
        refine x_topl f1 ?_
        refine x_lstore_8 189 C dX6_reckon_187 rfl rfl ?_
        refine x_iload_4 191 C dX6_reckon_189 rfl ?_
        refine x_bipush (v := 115) 193 C dX6_reckon_191 rfl rfl ?_
        refine x_icmp_ne 196 206 C dX6_reckon_193 rfl rfl (fun c_193 => ?_) (fun c_193 => ?_)
        · refine x_aload_0 207 C dX6_reckon_206 rfl ?_
          refine x_lload_8 209 C dX6_reckon_207 rfl ?_
          refine x_iload_4 211 C dX6_reckon_209 rfl ?_
          refine x_bipush (v := 113) 213 C dX6_reckon_211 rfl rfl ?_
          refine x_icmp_ne 216 220 C dX6_reckon_213 rfl rfl (fun c_213 => ?_) (fun c_213 => ?_)
          · have hs : s.1 = 107 := by
              rcases hs3 with q | q | q
              · exact absurd (by rw [q]; rfl) c_213
              · exact q
              · exact absurd (by rw [q]; rfl) c_193
            refine x_iconst (v := 3) 221 C dX6_reckon_220 rfl rfl ?_
            refine x_topi (v' := nI 3) rfl ?_
            refine x_callV 224 C (c_X6_rounded K _ W (p.getD 0 0) 3 τ.1 (by decide) (by omega) ho.1 hr.1) W.obj wcl_X6 hy_X6_rounded wv_X6_rounded we_X6_rounded lk_X6_150 dX6_reckon_221 rfl ⟨Nat.le_of_ble_eq_true rfl, Nat.le_of_ble_eq_true rfl⟩ ⟨Nat.le_of_ble_eq_true rfl, Nat.le_of_ble_eq_true rfl⟩ (Nat.le_of_ble_eq_true rfl) rfl (k_0 rfl rfl (k_lp ?_))
            refine x_topl (lN_lI _) ?_
            refine x_lstore_6 226 C dX6_reckon_224 rfl rfl ?_
            exact m226 _ _ _ _ _ _ (by unfold rkv; simp only [hs]; rfl) hkp.symm
          · have hs : s.1 = 113 := (nI_c (k := 113) (by omega) (by decide)).mp (by first | exact c_213 | exact Decidable.not_not.mp c_213)
            refine x_iconst (v := 2) 217 C dX6_reckon_216 rfl rfl ?_
            refine x_goto 221 C dX6_reckon_217 rfl ?_
            refine x_topi (v' := nI 2) rfl ?_
            refine x_callV 224 C (c_X6_rounded K _ W (p.getD 0 0) 2 τ.1 (by decide) (by omega) ho.1 hr.1) W.obj wcl_X6 hy_X6_rounded wv_X6_rounded we_X6_rounded lk_X6_150 dX6_reckon_221 rfl ⟨Nat.le_of_ble_eq_true rfl, Nat.le_of_ble_eq_true rfl⟩ ⟨Nat.le_of_ble_eq_true rfl, Nat.le_of_ble_eq_true rfl⟩ (Nat.le_of_ble_eq_true rfl) rfl (k_0 rfl rfl (k_lp ?_))
            refine x_topl (lN_lI _) ?_
            refine x_lstore_6 226 C dX6_reckon_224 rfl rfl ?_
            exact m226 _ _ _ _ _ _ (by unfold rkv; simp only [hs]; rfl) hkp.symm
        · have hs : s.1 = 115 := (nI_c (k := 115) (by omega) (by decide)).mp (by first | exact c_193 | exact Decidable.not_not.mp c_193)
          refine x_lload_8 198 C dX6_reckon_196 rfl ?_
          refine x_lload_8 200 C dX6_reckon_198 rfl ?_
          refine x_callS 203 C (c_X6_times K _ _ _ hp0 hp0) hy_X6_times ws_X6_times lk_X6_146 dX6_reckon_200 rfl ⟨Nat.le_of_ble_eq_true rfl, Nat.le_of_ble_eq_true rfl⟩ ⟨Nat.le_of_ble_eq_true rfl, Nat.le_of_ble_eq_true rfl⟩ (Nat.le_of_ble_eq_true rfl) rfl (k_0 rfl rfl (k_lp ?_))
          refine x_topl (lN_lI _) ?_
          refine x_goto 224 C dX6_reckon_203 rfl ?_
          refine x_lstore_6 226 C dX6_reckon_224 rfl rfl ?_
          exact m226 _ _ _ _ _ _ (by unfold rkv; simp only [hs]; rfl) hkp.symm
      refine x_iload_3 16 C dX6_reckon_15 rfl ?_
      refine x_aload_0 17 C dX6_reckon_16 rfl ?_
      refine mOg_now 20 C wf_X6_7 W.obj dX6_reckon_17 rfl ?_
      refine x_iconst (v := 2) 21 C dX6_reckon_20 rfl rfl ?_
      refine x_iload_1 22 C dX6_reckon_21 rfl ?_
      refine x_iadd 23 C dX6_reckon_22 rfl ?_
      refine x_topi (nI_add 2 j) ?_
      refine x_iald 24 (2 + j) C W.now (rfl) (by omega) (by decide) dX6_reckon_23 rfl ?_
      refine x_topi q1 ?_
      refine x_icmp_ge 27 282 C dX6_reckon_24 rfl rfl (fun z => absurd z (nI_ge hk (by omega))) (fun _ => ?_)
      refine x_aload_0 28 C dX6_reckon_27 rfl ?_
      refine mOg_now 31 C wf_X6_7 W.obj dX6_reckon_28 rfl ?_
      refine x_bipush (v := 8) 33 C dX6_reckon_31 rfl rfl ?_
      refine x_bipush (v := 120) 35 C dX6_reckon_33 rfl rfl ?_
      refine x_iload_1 36 C dX6_reckon_35 rfl ?_
      refine x_imul 37 C dX6_reckon_36 rfl ?_
      refine x_topi (pk_mul 120 j) ?_
      refine x_iadd 38 C dX6_reckon_37 rfl ?_
      refine x_topi (nI_add 8 _) ?_
      refine x_iconst (v := 2) 39 C dX6_reckon_38 rfl rfl ?_
      refine x_iload_3 40 C dX6_reckon_39 rfl ?_
      refine x_imul 41 C dX6_reckon_40 rfl ?_
      refine x_topi (pk_mul 2 _) ?_
      refine x_iadd 42 C dX6_reckon_41 rfl ?_
      refine x_topi (nI_add _ _) ?_
      refine x_iald 43 (8 + 120 * j + 2 * vs.length) C W.now (rfl) (by omega) (by decide) dX6_reckon_42 rfl ?_
      refine x_topi p1 ?_
      refine x_istore_4 45 C dX6_reckon_43 rfl rfl ?_
      refine x_aload_0 46 C dX6_reckon_45 rfl ?_
      refine mOg_now 49 C wf_X6_7 W.obj dX6_reckon_46 rfl ?_
      refine x_bipush (v := 8) 51 C dX6_reckon_49 rfl rfl ?_
      refine x_bipush (v := 120) 53 C dX6_reckon_51 rfl rfl ?_
      refine x_iload_1 54 C dX6_reckon_53 rfl ?_
      refine x_imul 55 C dX6_reckon_54 rfl ?_
      refine x_topi (pk_mul 120 j) ?_
      refine x_iadd 56 C dX6_reckon_55 rfl ?_
      refine x_topi (nI_add 8 _) ?_
      refine x_iconst (v := 2) 57 C dX6_reckon_56 rfl rfl ?_
      refine x_iload_3 58 C dX6_reckon_57 rfl ?_
      refine x_imul 59 C dX6_reckon_58 rfl ?_
      refine x_topi (pk_mul 2 _) ?_
      refine x_iadd 60 C dX6_reckon_59 rfl ?_
      refine x_topi (nI_add _ _) ?_
      refine x_iconst (v := 1) 61 C dX6_reckon_60 rfl rfl ?_
      refine x_iadd 62 C dX6_reckon_61 rfl ?_
      refine x_topi (nI_1 _) ?_
      refine x_iald 63 (8 + 120 * j + 2 * vs.length + 1) C W.now (rfl) (by omega) (by decide) dX6_reckon_62 rfl ?_
      refine x_topi p2 ?_
      refine x_istore_5 65 C dX6_reckon_63 rfl rfl ?_
      refine x_iload_4 67 C dX6_reckon_65 rfl ?_
      refine x_iconst (v := 2) 68 C dX6_reckon_67 rfl rfl ?_
      refine x_icmp_ge 71 94 C dX6_reckon_68 rfl rfl (fun c_68 => ?_) (fun c_68 => ?_)
      · have hs2 : ¬ s.1 < 2 := fun q => by have := (nI_leI (a := 2) (by decide) (by omega)).mp c_68; omega
        refine x_iload_4 96 C dX6_reckon_94 rfl ?_
        refine x_bipush (v := 43) 98 C dX6_reckon_96 rfl rfl ?_
        refine x_icmp_eq 101 115 C dX6_reckon_98 rfl rfl (fun c_98 => ?_) (fun c_98 => ?_)
        · exact m115 (Or.inl ((nI_c (k := 43) (by omega) (by decide)).mp c_98))
        · refine x_iload_4 103 C dX6_reckon_101 rfl ?_
          refine x_bipush (v := 45) 105 C dX6_reckon_103 rfl rfl ?_
          refine x_icmp_eq 108 115 C dX6_reckon_105 rfl rfl (fun c_105 => ?_) (fun c_105 => ?_)
          · exact m115 (Or.inr (Or.inl ((nI_c (k := 45) (by omega) (by decide)).mp c_105)))
          · refine x_iload_4 110 C dX6_reckon_108 rfl ?_
            refine x_bipush (v := 42) 112 C dX6_reckon_110 rfl rfl ?_
            refine x_icmp_ne 115 178 C dX6_reckon_112 rfl rfl (fun c_112 => ?_) (fun c_112 => ?_)
            · refine m178 ?_
              have n1 : ¬ s.1 = 43 := fun q => c_98 (by rw [q]; rfl)
              have n2 : ¬ s.1 = 45 := fun q => c_105 (by rw [q]; rfl)
              have n3 : ¬ s.1 = 42 := fun q => c_112 (by rw [q]; rfl)
              unfold okP at hok
              omega
            · exact m115 (Or.inr (Or.inr ((nI_c (k := 42) (by omega) (by decide)).mp (by first | exact c_112 | exact Decidable.not_not.mp c_112))))
      · have hs2 : s.1 < 2 := Nat.not_le.mp fun q => c_68 (nI_le q (by omega))
        have hkp : (rkp s p).length = p.length := by unfold rkp; rw [if_pos hs2]
        refine x_iload_4 73 C dX6_reckon_71 rfl ?_
        refine x_if_ne 76 82 C dX6_reckon_73 rfl rfl (fun c_73 => ?_) (fun c_73 => ?_)
        · have hs : s.1 = 1 := by
            rcases Nat.eq_zero_or_pos s.1 with q | q
            · exact absurd (by rw [q]; rfl) c_73
            · omega
          have hs8 : s.2 < 8 := by unfold okP at hok; omega
          refine x_aload_0 83 C dX6_reckon_82 rfl ?_
          refine mOg_cells 86 C wf_X6_13 W.obj dX6_reckon_83 rfl ?_
          refine x_iload_5 88 C dX6_reckon_86 rfl ?_
          refine x_lald 89 (s.2) C W.cells (rfl) (by omega) (by decide) dX6_reckon_88 rfl ?_
          refine x_topl (((congrFun (hG 2 (by decide)) s.2).trans (hce s.2 hs8)).trans (lN_lI _)) ?_
          refine x_lstore_6 91 C dX6_reckon_89 rfl rfl ?_
          refine x_goto 226 C dX6_reckon_91 rfl ?_
          exact m226 _ _ _ _ _ _ (by unfold rkv; simp only [hs]; rfl) hkp.symm
        · have hs : s.1 = 0 := (nI_c (k := 0) (by omega) (by decide)).mp (by first | exact c_73 | exact Decidable.not_not.mp c_73)
          refine x_iload_5 78 C dX6_reckon_76 rfl ?_
          refine x_i2l 79 C dX6_reckon_78 rfl ?_
          refine x_topl (nI_lI (by omega)) ?_
          refine x_goto 89 C dX6_reckon_79 rfl ?_
          refine x_lstore_6 91 C dX6_reckon_89 rfl rfl ?_
          refine x_goto 226 C dX6_reckon_91 rfl ?_
          exact m226 _ _ _ _ _ _ (by unfold rkv; simp only [hs]; rfl) hkp.symm
  refine x_iconst (v := 0) 1 C dX6_reckon_0 rfl rfl ?_
  refine x_istore_2 2 C dX6_reckon_1 rfl rfl ?_
  refine x_aload_0 3 C dX6_reckon_2 rfl ?_
  refine x_bipush (v := (-6)) 5 C dX6_reckon_3 rfl rfl ?_
  refine mOp_ends 8 C wf_X6_140 W.obj dX6_reckon_5 rfl ?_
  refine x_m_obj W (fun M_1 W o_1 => ?_)
  refine x_aload_0 9 C dX6_reckon_8 rfl ?_
  refine x_iconst (v := 0) 10 C dX6_reckon_9 rfl rfl ?_
  refine mOp_reason 13 C wf_X6_143 W.obj dX6_reckon_10 rfl ?_
  refine x_m_obj W (fun M_2 W o_2 => ?_)
  refine x_iconst (v := 0) 14 C dX6_reckon_13 rfl rfl ?_
  refine x_istore_3 15 C dX6_reckon_14 rfl rfl ?_
  exact lp LL [] [] G _ none none none none none none none rfl (Nat.zero_le _) hw.2.1 (Nat.le_refl _) (fun x hx => absurd hx List.not_mem_nil) rfl (fun i hi => absurd hi (Nat.not_lt_zero _)) (fun i hi => absurd hi (Nat.not_lt_zero _)) (fun _ _ => rfl) rfl W (by rw [hM0]; exact ((o_1).tr o_2))
