/-- the reference's memory while it reads -/
def pmM (z : Nat → Int32) (F : Nat → Nat → Int32) (st : List (Nat × Nat)) (wt : List Nat) (op i : Nat) : Prop :=
  z 2 = nI st.length ∧ z 3 = nI wt.length ∧ z 4 = nI op ∧ z 5 = nI i ∧ (∀ k, k < st.length → F 9 k = nI (st.getD k (0, 0)).1 ∧ F 10 k = nI (st.getD k (0, 0)).2) ∧ ∀ k, k < wt.length → F 11 k = nI (wt.getD (wt.length - 1 - k) 0)
/-- scratch alone is written -/
def msP (z z2 : Nat → Int32) (F F2 : Nat → Nat → Int32) : Prop := z2 0 = z 0 ∧ z2 1 = z 1 ∧ ∀ i, i ≤ 8 → F2 i = F i
theorem msP.rf {z : Nat → Int32} {F : Nat → Nat → Int32} : msP z z F F := ⟨rfl, rfl, fun _ _ => rfl⟩
theorem msP.tr {z z1 z2 : Nat → Int32} {F F1 F2 : Nat → Nat → Int32} (h : msP z z1 F F1) (g : msP z1 z2 F1 F2) : msP z z2 F F2 := ⟨g.1.trans h.1, g.2.1.trans h.2.1, fun i hi => (g.2.2 i hi).trans (h.2.2 i hi)⟩
theorem msP.z {z : Nat → Int32} {F : Nat → Nat → Int32} {k : Nat} {x : Int32} (hk : 2 ≤ k) : msP z (va_up z k x) F F := ⟨va_up_ne _ _ (by omega), va_up_ne _ _ (by omega), fun _ _ => rfl⟩
theorem msP.F {z : Nat → Int32} {F : Nat → Nat → Int32} {k : Nat} {x : Nat → Int32} (hk : 9 ≤ k) : msP z z F (va_up F k x) := ⟨rfl, rfl, fun i hi => va_up_ne _ _ (by omega)⟩
theorem pm_emit {z : Nat → Int32} {F : Nat → Nat → Int32} {st : List (Nat × Nat)} {wt : List Nat} {op i a b : Nat} (h : pmM z F st wt op i) : pmM (va_up z 2 (nI (st.length + 1))) (va_up (va_up F 9 (va_up (F 9) st.length (nI a))) 10 (va_up (F 10) st.length (nI b))) (st ++ [(a, b)]) wt op i := by
  obtain ⟨h1, h2, h3, h4, h5, h6⟩ := h
  refine ⟨by rw [va_up_self, List.length_append]; rfl, h2, h3, h4, fun k hk => ?_, h6⟩
  show va_up (F 9) st.length (nI a) k = _ ∧ va_up (F 10) st.length (nI b) k = _
  rw [List.length_append] at hk
  by_cases e : k = st.length
  · subst e
    rw [va_up_self, va_up_self]
    simp
  · have hk2 : k < st.length := by simp only [List.length_cons, List.length_nil] at hk; omega
    rw [va_up_ne _ _ e, va_up_ne _ _ e]
    simp only [List.getD_eq_getElem?_getD, List.getElem?_append_left hk2]
    exact h5 k hk2
theorem pm_push {z : Nat → Int32} {F : Nat → Nat → Int32} {st : List (Nat × Nat)} {wt : List Nat} {op i c : Nat} (h : pmM z F st wt op i) : pmM (va_up z 3 (nI (wt.length + 1))) (va_up F 11 (va_up (F 11) wt.length (nI c))) st (c :: wt) op i := by
  obtain ⟨h1, h2, h3, h4, h5, h6⟩ := h
  refine ⟨h1, va_up_self _ _ _, h3, h4, h5, fun k hk => ?_⟩
  show va_up (F 11) wt.length (nI c) k = nI ((c :: wt).getD ((c :: wt).length - 1 - k) 0)
  rw [List.length_cons] at hk ⊢
  by_cases e : k = wt.length
  · subst e
    rw [va_up_self, show wt.length + 1 - 1 - wt.length = 0 by omega]; rfl
  · rw [va_up_ne _ _ e, h6 k (by omega), show wt.length + 1 - 1 - k = (wt.length - 1 - k) + 1 by omega, List.getD_cons_succ]
theorem pm_pop {z : Nat → Int32} {F : Nat → Nat → Int32} {st : List (Nat × Nat)} {wt : List Nat} {op i c : Nat} (h : pmM z F st (c :: wt) op i) : pmM (va_up z 3 (nI wt.length)) F st wt op i ∧ F 11 wt.length = nI c := by
  obtain ⟨h1, h2, h3, h4, h5, h6⟩ := h
  refine ⟨⟨h1, va_up_self _ _ _, h3, h4, h5, fun k hk => ?_⟩, ?_⟩
  · rw [h6 k (by rw [List.length_cons]; omega), List.length_cons, show wt.length + 1 - 1 - k = (wt.length - 1 - k) + 1 by omega, List.getD_cons_succ]
  · rw [h6 wt.length (by rw [List.length_cons]; omega), List.length_cons, show wt.length + 1 - 1 - wt.length = 0 by omega]; rfl
theorem pm_place {z : Nat → Int32} {F : Nat → Nat → Int32} {st : List (Nat × Nat)} {wt : List Nat} {op i j : Nat} (h : pmM z F st wt op i) : pmM (va_up z 5 (nI j)) F st wt op j := ⟨h.1, h.2.1, h.2.2.1, va_up_self _ _ _, h.2.2.2.2.1, h.2.2.2.2.2⟩
theorem pm_depth {z : Nat → Int32} {F : Nat → Nat → Int32} {st : List (Nat × Nat)} {wt : List Nat} {op i j : Nat} (h : pmM z F st wt op i) : pmM (va_up z 4 (nI j)) F st wt j i := ⟨h.1, h.2.1, va_up_self _ _ _, h.2.2.2.1, h.2.2.2.2.1, h.2.2.2.2.2⟩
/-- where a reading method leaves the memory -/
def pmQ (K : hKv) (A : Nat → Nat) (M : hM) (z : Nat → Int32) (F : Nat → Nat → Int32) (G : Nat → Nat → Int64) (st : List (Nat × Nat)) (wt : List Nat) (op i : Nat) (M' : hM) : Prop := ∃ z2 F2, mW K A z2 F2 G M' ∧ msP z z2 F F2 ∧ pmM z2 F2 st wt op i ∧ hFr 100 200 M M'
def bnd (wt : List Nat) (c : Nat) : Bool := match wt with
  | [] => false
  | t :: _ => decide (strg c ≤ strg t)
theorem nI_c {c k : Nat} (hc : c < 2 ^ 31) (hk : k < 2 ^ 31) : nI c = nI k ↔ c = k := nI_eq hc hk
set_option maxHeartbeats 4000000 in
set_option maxRecDepth 100000 in
theorem c_X6_sign (K : hKv) (M : hM) {A : Nat → Nat} {z : Nat → Int32} {F : Nat → Nat → Int32} {G : Nat → Nat → Int64} (W : mW K A z F G M) {i : Nat} {pad : List Nat} (hz1 : z 1 = nI pad.length) (hpd : padM (F 8) pad) (hl : pad.length ≤ 60) (hi : i ≤ 60) (hz5 : z 5 = nI i) : hC K Y_X6_sign rm_X6_sign [.ref (A 0)] M (hPi fun r M' => r = nI (pad.getD i 0) ∧ M' = M) := by
  refine hC.of [some (.ref (A 0))] (by decide) (Nat.le_of_ble_eq_true rfl) rfl rfl ?_
  intro E C Rt
  have C : hCx E K cX6_sign 1 RX6 "sign" rm_X6_sign := C
  refine x_aload_0 1 C dX6_sign_0 rfl ?_
  refine mOg_place 4 C wf_X6_77 W.obj dX6_sign_1 rfl ?_
  refine x_topi hz5 ?_
  refine x_aload_0 5 C dX6_sign_4 rfl ?_
  refine mOg_signs 8 C wf_X6_74 W.obj dX6_sign_5 rfl ?_
  refine x_topi hz1 ?_
  refine x_icmp_ge 11 23 C dX6_sign_8 rfl rfl (fun c_8 => ?_) (fun c_8 => ?_)
  · refine x_iconst (v := 0) 24 C dX6_sign_23 rfl rfl ?_
    refine x_ireturn C Rt dX6_sign_24 rfl ⟨Nat.le_of_ble_eq_true rfl, Nat.le_of_ble_eq_true rfl⟩ ?_
    have hge : pad.length ≤ i := (nI_leI (by omega) (by omega)).mp c_8
    exact ⟨_, rfl, by rw [List.getD_eq_getElem?_getD, List.getElem?_eq_none hge]; rfl, rfl⟩
  · have hlt : i < pad.length := Nat.not_le.mp fun q => c_8 (nI_le q (by omega))
    refine x_aload_0 12 C dX6_sign_11 rfl ?_
    refine mOg_pad 15 C wf_X6_33 W.obj dX6_sign_12 rfl ?_
    refine x_aload_0 16 C dX6_sign_15 rfl ?_
    refine mOg_place 19 C wf_X6_77 W.obj dX6_sign_16 rfl ?_
    refine x_topi hz5 ?_
    refine x_iald 20 (i) C W.pad (rfl) (by omega) (by decide) dX6_sign_19 rfl ?_
    refine x_topi (hpd i hlt) ?_
    refine x_goto 24 C dX6_sign_20 rfl ?_
    refine x_ireturn C Rt dX6_sign_24 rfl ⟨Nat.le_of_ble_eq_true rfl, Nat.le_of_ble_eq_true rfl⟩ ?_
    exact ⟨_, rfl, rfl, rfl⟩
set_option maxHeartbeats 4000000 in
set_option maxRecDepth 100000 in
theorem c_X6_emit (K : hKv) (M : hM) {A : Nat → Nat} {z : Nat → Int32} {F : Nat → Nat → Int32} {G : Nat → Nat → Int64} (W : mW K A z F G M) {st : List (Nat × Nat)} {wt : List Nat} {op i : Nat} (pm : pmM z F st wt op i) (a b : Nat) (hs : st.length < 60) : hC K Y_X6_emit rm_X6_emit [.ref (A 0), .int (nI a), .int (nI b)] M (hPv fun M' => pmQ K A M z F G (st ++ [(a, b)]) wt op i M') := by
  refine hC.of [some (.ref (A 0)), some (.int (nI a)), some (.int (nI b))] (by decide) (Nat.le_of_ble_eq_true rfl) rfl rfl ?_
  intro E C Rt
  have C : hCx E K cX6_emit 3 RX6 "emit" rm_X6_emit := C
  refine x_aload_0 1 C dX6_emit_0 rfl ?_
  refine mOg_kind 4 C wf_X6_36 W.obj dX6_emit_1 rfl ?_
  refine x_aload_0 5 C dX6_emit_4 rfl ?_
  refine mOg_read 8 C wf_X6_80 W.obj dX6_emit_5 rfl ?_
  refine x_topi pm.1 ?_
  refine x_iload_1 9 C dX6_emit_8 rfl ?_
  refine x_iast 10 (st.length) C W.kind (rfl) (hs) (by decide) dX6_emit_9 rfl ?_
  refine x_m_kind W (fun M_1 W o_1 => ?_)
  refine x_aload_0 11 C dX6_emit_10 rfl ?_
  refine mOg_arg 14 C wf_X6_39 W.obj dX6_emit_11 rfl ?_
  refine x_aload_0 15 C dX6_emit_14 rfl ?_
  refine mOg_read 18 C wf_X6_80 W.obj dX6_emit_15 rfl ?_
  refine x_topi pm.1 ?_
  refine x_iload_2 19 C dX6_emit_18 rfl ?_
  refine x_iast 20 (st.length) C W.arg (rfl) (hs) (by decide) dX6_emit_19 rfl ?_
  refine x_m_arg W (fun M_2 W o_2 => ?_)
  refine x_aload_0 21 C dX6_emit_20 rfl ?_
  refine x_dup 22 C dX6_emit_21 rfl rfl ?_
  refine mOg_read 25 C wf_X6_80 W.obj dX6_emit_22 rfl ?_
  refine x_topi pm.1 ?_
  refine x_iconst (v := 1) 26 C dX6_emit_25 rfl rfl ?_
  refine x_iadd 27 C dX6_emit_26 rfl ?_
  refine x_topi (nI_1 _) ?_
  refine mOp_read 30 C wf_X6_80 W.obj dX6_emit_27 rfl ?_
  refine x_m_obj W (fun M_3 W o_3 => ?_)
  refine x_vreturn C Rt dX6_emit_30 ⟨Nat.le_of_ble_eq_true rfl, Nat.le_of_ble_eq_true rfl⟩ ?_
  exact ⟨rfl, _, _, W, (msP.F (by decide)).tr ((msP.F (by decide)).tr (msP.z (by decide))), pm_emit pm, (((o_1).tr o_2).tr o_3)⟩
set_option maxHeartbeats 4000000 in
set_option maxRecDepth 100000 in
theorem c_X6_push (K : hKv) (M : hM) {A : Nat → Nat} {z : Nat → Int32} {F : Nat → Nat → Int32} {G : Nat → Nat → Int64} (W : mW K A z F G M) {st : List (Nat × Nat)} {wt : List Nat} {op i : Nat} (pm : pmM z F st wt op i) (c : Nat) (hs : wt.length < 61) : hC K Y_X6_push rm_X6_push [.ref (A 0), .int (nI c)] M (hPv fun M' => pmQ K A M z F G st (c :: wt) op i M') := by
  refine hC.of [some (.ref (A 0)), some (.int (nI c))] (by decide) (Nat.le_of_ble_eq_true rfl) rfl rfl ?_
  intro E C Rt
  have C : hCx E K cX6_push 2 RX6 "push" rm_X6_push := C
  refine x_aload_0 1 C dX6_push_0 rfl ?_
  refine mOg_open 4 C wf_X6_42 W.obj dX6_push_1 rfl ?_
  refine x_aload_0 5 C dX6_push_4 rfl ?_
  refine mOg_opened 8 C wf_X6_83 W.obj dX6_push_5 rfl ?_
  refine x_topi pm.2.1 ?_
  refine x_iload_1 9 C dX6_push_8 rfl ?_
  refine x_iast 10 (wt.length) C W.opn (rfl) (hs) (by decide) dX6_push_9 rfl ?_
  refine x_m_opn W (fun M_1 W o_1 => ?_)
  refine x_aload_0 11 C dX6_push_10 rfl ?_
  refine x_dup 12 C dX6_push_11 rfl rfl ?_
  refine mOg_opened 15 C wf_X6_83 W.obj dX6_push_12 rfl ?_
  refine x_topi pm.2.1 ?_
  refine x_iconst (v := 1) 16 C dX6_push_15 rfl rfl ?_
  refine x_iadd 17 C dX6_push_16 rfl ?_
  refine x_topi (nI_1 _) ?_
  refine mOp_opened 20 C wf_X6_83 W.obj dX6_push_17 rfl ?_
  refine x_m_obj W (fun M_2 W o_2 => ?_)
  refine x_vreturn C Rt dX6_push_20 ⟨Nat.le_of_ble_eq_true rfl, Nat.le_of_ble_eq_true rfl⟩ ?_
  exact ⟨rfl, _, _, W, (msP.F (by decide)).tr (msP.z (by decide)), pm_push pm, ((o_1).tr o_2)⟩
set_option maxHeartbeats 4000000 in
set_option maxRecDepth 100000 in
theorem c_X6_binds (K : hKv) (M : hM) {A : Nat → Nat} {z : Nat → Int32} {F : Nat → Nat → Int32} {G : Nat → Nat → Int64} (W : mW K A z F G M) {st : List (Nat × Nat)} {wt : List Nat} {op i : Nat} (pm : pmM z F st wt op i) (c : Nat) (hc : isO c) (hs : wt.length ≤ 61) (ht : ∀ x ∈ wt, x < 256) : hC K Y_X6_binds rm_X6_binds [.ref (A 0), .int (nI c)] M (hPi fun r M' => r = hB (bnd wt c) ∧ M' = M) := by
  refine hC.of [some (.ref (A 0)), some (.int (nI c)), none] (by decide) (Nat.le_of_ble_eq_true rfl) rfl rfl ?_
  intro E C Rt
  have C : hCx E K cX6_binds 3 RX6 "binds" rm_X6_binds := C
  have m23 : ∀ t : Nat, t < 256 → (∃ w, wt = t :: w) ∨ (wt = [] ∧ t = 0) → hX E 0 0 23 [some (.ref (A 0)), some (.int (nI c)), some (.int (nI t))] [] M := by
    intro t ht2 hwt
    have hc2 : c < 256 := by unfold isO at hc; omega
    have b1 : (nI t = 42 ↔ t = 42) := nI_c (k := 42) (by omega) (by decide)
    have b2 : (nI c = 42 ↔ c = 42) := nI_c (k := 42) (by omega) (by decide)
    have b3 : (nI t = 43 ↔ t = 43) := nI_c (k := 43) (by omega) (by decide)
    have b4 : (nI t = 45 ↔ t = 45) := nI_c (k := 45) (by omega) (by decide)
    have hbt : bnd wt c = true ↔ (t = 42 ∨ (¬ c = 42 ∧ (t = 43 ∨ t = 45))) := by
      unfold isO at hc
      rcases hwt with ⟨w, rfl⟩ | ⟨rfl, rfl⟩
      · unfold bnd strg
        rw [decide_eq_true_iff]
        (repeat' split) <;> omega
      · unfold bnd
        constructor
        · intro q; cases q
        · omega
    refine x_iload_2 24 C dX6_binds_23 rfl ?_
    refine x_bipush (v := 42) 26 C dX6_binds_24 rfl rfl ?_
    refine x_icmp_eq 29 47 C dX6_binds_26 rfl rfl (fun c_26 => ?_) (fun c_26 => ?_)
    · refine x_iconst (v := 1) 48 C dX6_binds_47 rfl rfl ?_
      refine x_goto 52 C dX6_binds_48 rfl ?_
      refine x_ireturn C Rt dX6_binds_52 rfl ⟨Nat.le_of_ble_eq_true rfl, Nat.le_of_ble_eq_true rfl⟩ ?_
      exact ⟨_, rfl, (hB_t (hbt.mpr (Or.inl (b1.mp c_26)))).symm, rfl⟩
    · refine x_iload_1 30 C dX6_binds_29 rfl ?_
      refine x_bipush (v := 42) 32 C dX6_binds_30 rfl rfl ?_
      refine x_icmp_eq 35 51 C dX6_binds_32 rfl rfl (fun c_32 => ?_) (fun c_32 => ?_)
      · refine x_iconst (v := 0) 52 C dX6_binds_51 rfl rfl ?_
        refine x_ireturn C Rt dX6_binds_52 rfl ⟨Nat.le_of_ble_eq_true rfl, Nat.le_of_ble_eq_true rfl⟩ ?_
        exact ⟨_, rfl, (hB_f (Bool.eq_false_iff.mpr fun q => by have := hbt.mp q; have := b2.mp c_32; have h1 : ¬ t = 42 := fun z => c_26 (b1.mpr z); omega)).symm, rfl⟩
      · refine x_iload_2 36 C dX6_binds_35 rfl ?_
        refine x_bipush (v := 43) 38 C dX6_binds_36 rfl rfl ?_
        refine x_icmp_eq 41 47 C dX6_binds_38 rfl rfl (fun c_38 => ?_) (fun c_38 => ?_)
        · refine x_iconst (v := 1) 48 C dX6_binds_47 rfl rfl ?_
          refine x_goto 52 C dX6_binds_48 rfl ?_
          refine x_ireturn C Rt dX6_binds_52 rfl ⟨Nat.le_of_ble_eq_true rfl, Nat.le_of_ble_eq_true rfl⟩ ?_
          exact ⟨_, rfl, (hB_t (hbt.mpr (Or.inr ⟨fun z => c_32 (b2.mpr z), Or.inl (b3.mp c_38)⟩))).symm, rfl⟩
        · refine x_iload_2 42 C dX6_binds_41 rfl ?_
          refine x_bipush (v := 45) 44 C dX6_binds_42 rfl rfl ?_
          refine x_icmp_ne 47 51 C dX6_binds_44 rfl rfl (fun c_44 => ?_) (fun c_44 => ?_)
          · refine x_iconst (v := 0) 52 C dX6_binds_51 rfl rfl ?_
            refine x_ireturn C Rt dX6_binds_52 rfl ⟨Nat.le_of_ble_eq_true rfl, Nat.le_of_ble_eq_true rfl⟩ ?_
            exact ⟨_, rfl, (hB_f (Bool.eq_false_iff.mpr fun q => by have := hbt.mp q; have h1 : ¬ t = 42 := fun z => c_26 (b1.mpr z); have h2 : ¬ t = 43 := fun z => c_38 (b3.mpr z); have h3 : ¬ t = 45 := fun z => c_44 (b4.mpr z); omega)).symm, rfl⟩
          · refine x_iconst (v := 1) 48 C dX6_binds_47 rfl rfl ?_
            refine x_goto 52 C dX6_binds_48 rfl ?_
            refine x_ireturn C Rt dX6_binds_52 rfl ⟨Nat.le_of_ble_eq_true rfl, Nat.le_of_ble_eq_true rfl⟩ ?_
            exact ⟨_, rfl, (hB_t (hbt.mpr (Or.inr ⟨fun z => c_32 (b2.mpr z), Or.inr (b4.mp c_44)⟩))).symm, rfl⟩
  refine x_aload_0 1 C dX6_binds_0 rfl ?_
  refine mOg_opened 4 C wf_X6_83 W.obj dX6_binds_1 rfl ?_
  refine x_topi pm.2.1 ?_
  refine x_if_ne 7 11 C dX6_binds_4 rfl rfl (fun c_4 => ?_) (fun c_4 => ?_)
  · obtain ⟨t, w, rfl⟩ : ∃ t w, wt = t :: w := by
      cases wt with
      | nil => exact absurd rfl c_4
      | cons t w => exact ⟨t, w, rfl⟩
    rw [List.length_cons] at hs
    refine x_aload_0 12 C dX6_binds_11 rfl ?_
    refine mOg_open 15 C wf_X6_42 W.obj dX6_binds_12 rfl ?_
    refine x_aload_0 16 C dX6_binds_15 rfl ?_
    refine mOg_opened 19 C wf_X6_83 W.obj dX6_binds_16 rfl ?_
    refine x_topi pm.2.1 ?_
    refine x_iconst (v := 1) 20 C dX6_binds_19 rfl rfl ?_
    refine x_isub 21 C dX6_binds_20 rfl ?_
    refine x_topi (v' := nI w.length) (by rw [List.length_cons]; exact pk_sub (a := w.length + 1) (b := 1) (by omega)) ?_
    refine x_iald 22 (w.length) C W.opn (rfl) (by omega) (by decide) dX6_binds_21 rfl ?_
    refine x_topi (pm_pop pm).2 ?_
    refine x_istore_2 23 C dX6_binds_22 rfl rfl ?_
    exact m23 t (ht t List.mem_cons_self) (Or.inl ⟨w, rfl⟩)
  · have h0 : wt = [] := List.length_eq_zero_iff.mp ((nI_c (k := 0) (by omega) (by decide)).mp c_4)
    refine x_iconst (v := 0) 8 C dX6_binds_7 rfl rfl ?_
    refine x_goto 22 C dX6_binds_8 rfl ?_
    
    refine x_istore_2 23 C dX6_binds_22 rfl rfl ?_
    exact m23 0 (by decide) (Or.inr ⟨h0, rfl⟩)
set_option maxHeartbeats 4000000 in
set_option maxRecDepth 100000 in
theorem c_X6_close (K : hKv) (M : hM) {A : Nat → Nat} {z : Nat → Int32} {F : Nat → Nat → Int32} {G : Nat → Nat → Int64} (W : mW K A z F G M) {st : List (Nat × Nat)} {wt : List Nat} {op i : Nat} (pm : pmM z F st wt op i) (c : Nat) (hc : isO c) (hs : st.length + wt.length ≤ 60) (ht : ∀ x ∈ wt, x < 256) : hC K Y_X6_close rm_X6_close [.ref (A 0), .int (nI c)] M (hPv fun M' => pmQ K A M z F G (rel (strg c) wt st).2 (rel (strg c) wt st).1 op i M') := by
  refine hC.of [some (.ref (A 0)), some (.int (nI c))] (by decide) (Nat.le_of_ble_eq_true rfl) rfl rfl ?_
  intro E C Rt
  have C : hCx E K cX6_close 2 RX6 "close" rm_X6_close := C
  obtain ⟨M0, hM0⟩ : ∃ M0 : hM, M0 = M := ⟨_, rfl⟩
  rw [← hM0] at Rt
  have lp : ∀ (w1 : List Nat) (s1 : List (Nat × Nat)) (z1 : Nat → Int32) (F1 : Nat → Nat → Int32) (M : hM), mW K A z1 F1 G M → msP z z1 F F1 → pmM z1 F1 s1 w1 op i → hFr 100 200 M0 M → s1.length + w1.length ≤ 60 → (∀ x ∈ w1, x < 256) → rel (strg c) w1 s1 = rel (strg c) wt st → hX E 0 0 0 [some (.ref (A 0)), some (.int (nI c))] [] M := by
    intro w1
    induction w1 with
    | nil =>
      intro s1 z1 F1 M W ms pm fr hs ht hr
      refine x_aload_0 1 C dX6_close_0 rfl ?_
      refine x_iload_1 2 C dX6_close_1 rfl ?_
      refine x_callV 5 C (c_X6_binds K _ W pm c hc (by simp) ht) W.obj wcl_X6 hy_X6_binds wv_X6_binds we_X6_binds lk_X6_86 dX6_close_2 rfl ⟨Nat.le_of_ble_eq_true rfl, Nat.le_of_ble_eq_true rfl⟩ ⟨Nat.le_of_ble_eq_true rfl, Nat.le_of_ble_eq_true rfl⟩ (Nat.le_of_ble_eq_true rfl) rfl (k_0 rfl rfl (k_ip ?_))
      refine x_if_eq 8 35 C dX6_close_5 rfl rfl (fun _ => ?_) (fun z => absurd (rfl) z)
      refine x_vreturn C Rt dX6_close_35 ⟨Nat.le_of_ble_eq_true rfl, Nat.le_of_ble_eq_true rfl⟩ ?_
      exact ⟨rfl, z1, F1, W, ms, by rw [← hr]; exact pm, fr⟩
    | cons t w1 ih =>
      intro s1 z1 F1 M W ms pm fr hs ht hr
      have ht2 := ht t List.mem_cons_self
      simp only [List.length_cons] at hs
      obtain ⟨pp, po⟩ := pm_pop pm
      refine x_aload_0 1 C dX6_close_0 rfl ?_
      refine x_iload_1 2 C dX6_close_1 rfl ?_
      refine x_callV 5 C (c_X6_binds K _ W pm c hc (by simp only [List.length_cons]; omega) ht) W.obj wcl_X6 hy_X6_binds wv_X6_binds we_X6_binds lk_X6_86 dX6_close_2 rfl ⟨Nat.le_of_ble_eq_true rfl, Nat.le_of_ble_eq_true rfl⟩ ⟨Nat.le_of_ble_eq_true rfl, Nat.le_of_ble_eq_true rfl⟩ (Nat.le_of_ble_eq_true rfl) rfl (k_0 rfl rfl (k_ip ?_))
      refine x_if_eq 8 35 C dX6_close_5 rfl rfl (fun c_5 => ?_) (fun c_5 => ?_)
      · refine x_vreturn C Rt dX6_close_35 ⟨Nat.le_of_ble_eq_true rfl, Nat.le_of_ble_eq_true rfl⟩ ?_
        have hn : ¬ strg c ≤ strg t := fun q => by
          rw [hB_0] at c_5
          exact absurd (decide_eq_true q) (Bool.eq_false_iff.mp c_5)
        exact ⟨rfl, z1, F1, W, ms, by rw [← hr, rel, if_neg hn]; exact pm, fr⟩
      · have hy : strg c ≤ strg t := of_decide_eq_true (hB_n0.mp c_5)
        rw [rel, if_pos hy] at hr
        refine x_aload_0 9 C dX6_close_8 rfl ?_
        refine x_dup 10 C dX6_close_9 rfl rfl ?_
        refine mOg_opened 13 C wf_X6_83 W.obj dX6_close_10 rfl ?_
        refine x_topi pm.2.1 ?_
        refine x_iconst (v := 1) 14 C dX6_close_13 rfl rfl ?_
        refine x_isub 15 C dX6_close_14 rfl ?_
        refine x_topi (v' := nI w1.length) (by rw [List.length_cons]; exact pk_sub (a := w1.length + 1) (b := 1) (by omega)) ?_
        refine mOp_opened 18 C wf_X6_83 W.obj dX6_close_15 rfl ?_
        refine x_m_obj W (fun M_1 W o_1 => ?_)
        refine x_aload_0 19 C dX6_close_18 rfl ?_
        refine x_aload_0 20 C dX6_close_19 rfl ?_
        refine mOg_open 23 C wf_X6_42 W.obj dX6_close_20 rfl ?_
        refine x_aload_0 24 C dX6_close_23 rfl ?_
        refine mOg_opened 27 C wf_X6_83 W.obj dX6_close_24 rfl ?_
        refine x_topi (va_up_self _ _ _) ?_
        refine x_iald 28 (w1.length) C W.opn (rfl) (by omega) (by decide) dX6_close_27 rfl ?_
        refine x_topi po ?_
        refine x_iconst (v := 0) 29 C dX6_close_28 rfl rfl ?_
        refine x_callV 32 C (c_X6_emit K _ W pp t 0 (by omega)) W.obj wcl_X6 hy_X6_emit wv_X6_emit we_X6_emit lk_X6_90 dX6_close_29 rfl ⟨Nat.le_of_ble_eq_true rfl, Nat.le_of_ble_eq_true rfl⟩ ⟨Nat.le_of_ble_eq_true rfl, Nat.le_of_ble_eq_true rfl⟩ (Nat.le_of_ble_eq_true rfl) rfl (k_0 rfl rfl (k_v (fun M_2 h_2 => ?_)))
        obtain ⟨z_2, F_2, W_2, ms_2, pm_2, o_2⟩ := h_2
        refine x_goto 0 C dX6_close_32 rfl ?_
        exact ih _ _ _ _ W_2 ((ms.tr (msP.z (by decide))).tr ms_2) pm_2 ((fr.tr o_1).tr o_2) (by rw [List.length_append]; simp only [List.length_cons, List.length_nil]; omega) (fun x hx => ht x (List.mem_cons_of_mem _ hx)) hr
  exact lp wt st z F M W msP.rf pm (by rw [hM0]; exact hFr.rf) hs ht rfl
