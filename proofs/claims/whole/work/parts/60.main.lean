section LawLoop
variable {nm : String}
set_option maxHeartbeats 4000000 in
set_option maxRecDepth 100000 in
theorem law_loop {E : hEv} {K : hKv} (C : hCx E K cL_law 4 RL nm room_1) {b L : Nat} {xs : Nat → Int32} (S : hSc E b L xs) (hL : L ≤ 3072) {A B : Nat → Nat} (fin : ∀ (cells slots : Nat) (lo : List (Option Value)) (M : hM), cells ≤ 600000 → slots ≤ 7302250 → hX E cells slots 1173 lo [.int 1] M) : ∀ (d k : Nat), L ≤ 6 * k + 6 * d + 5 → k ≤ 512 → ∀ (σ : hSt) (M : hM), cX K A σ M → mX K B σ M → okS σ → hX E (64 + 4 * k) (7533 + 61 * k) 18 [some (.ref b), some (.ref (A 36)), some (.ref (B 0)), some (.int (nI (6 * k)))] [] M := by
  have sub : nI L - 6 = iI ((L : Int) - 6) := by rw [nI_iI, show (6 : Int32) = iI 6 by decide, iI_sub]
  have gt : ∀ i : Nat, i ≤ 4000 → (iI ((L : Int) - 6) < nI i ↔ L < i + 6) := fun i hi => by
    rw [Int32.lt_iff_toInt_lt, iI_toI (by omega) (by omega), nI_toI (by omega)]; omega
  have out : ∀ (k : Nat), k ≤ 512 → L < 6 * k + 6 → ∀ (M : hM), hX E (64 + 4 * k) (7533 + 61 * k) 18 [some (.ref b), some (.ref (A 36)), some (.ref (B 0)), some (.int (nI (6 * k)))] [] M := by
    intro k hk hlt M
    refine x_iload_3 19 C dL_law_18 rfl ?_
    refine x_aload_0 20 C dL_law_19 rfl ?_
    refine x_alenX 21 C S dL_law_20 rfl ?_
    refine x_bipush (v := 6) 23 C dL_law_21 rfl rfl ?_
    refine x_isub 24 C dL_law_23 rfl ?_
    refine x_topi sub ?_
    refine x_icmp_gt 27 1172 C dL_law_24 rfl rfl (fun _ => ?_) (fun z => absurd ((gt (6 * k) (by omega)).mpr hlt) z)
    refine x_iconst (v := 1) 1173 C dL_law_1172 rfl rfl ?_
    exact fin _ _ _ _ (by omega) (by omega)
  intro d
  induction d with
  | zero => exact fun k h hk σ M X Y ho => out k hk (by omega) M
  | succ d ih =>
    intro k h hk σ M X Y ho
    rcases Nat.lt_or_ge L (6 * k + 6) with hlt | hge
    · exact out k hk hlt M
    have hk2 : k < 512 := by omega
    have kk : ∀ (σ2 : hSt) (M2 : hM), cX K A σ2 M2 → mX K B σ2 M2 → okS σ2 → hX E (64 + 4 * (k + 1)) (7533 + 61 * (k + 1)) 1166 [some (.ref b), some (.ref (A 36)), some (.ref (B 0)), some (.int (nI (6 * k)))] [] M2 := by
      intro σ2 M2 X2 Y2 ho2
      refine x_iinc_3 1169 C dL_law_1166 rfl rfl (nI_add (6 * k) 6) ?_
      refine x_goto 18 C dL_law_1169 rfl ?_
      exact ih (k + 1) (by omega) (by omega) σ2 M2 X2 Y2 ho2
    refine x_iload_3 19 C dL_law_18 rfl ?_
    refine x_aload_0 20 C dL_law_19 rfl ?_
    refine x_alenX 21 C S dL_law_20 rfl ?_
    refine x_bipush (v := 6) 23 C dL_law_21 rfl rfl ?_
    refine x_isub 24 C dL_law_23 rfl ?_
    refine x_topi sub ?_
    refine x_icmp_gt 27 1172 C dL_law_24 rfl rfl (fun z => absurd z ((fun q => by have := (gt (6 * k) (by omega)).mp q; omega))) (fun _ => ?_)
    refine x_aload_0 28 C dL_law_27 rfl ?_
    refine x_iload_3 29 C dL_law_28 rfl ?_
    refine x_sld 30 (6 * k) C S (rfl) (by omega) (by omega) dL_law_29 rfl ?_
    refine x_bipush (v := 31) 32 C dL_law_30 rfl rfl ?_
    refine x_iand 33 C dL_law_32 rfl ?_
    generalize xs (6 * k) &&& 31 = v
    have hv : v = 0 ∨ v = 1 ∨ v = 2 ∨ v = 3 ∨ v = 4 ∨ v = 5 ∨ v = 6 ∨ v = 7 ∨ v = 8 ∨ v = 9 ∨ v = 10 ∨ v = 11 ∨ v = 12 ∨ v = 13 ∨ v = 14 ∨ v = 15 ∨ v = 16 ∨ v = 17 ∨ v = 18 ∨ v = 19 ∨ v = 20 ∨ v = 21 ∨ v = 22 ∨ v = 23 ∨ v = 24 ∨ v = 25 ∨ v = 26 ∨ (v.toInt < 0 ∨ 26 < v.toInt) := by
      by_cases h : v.toInt < 0 ∨ 26 < v.toInt
      · exact Or.inr (Or.inr (Or.inr (Or.inr (Or.inr (Or.inr (Or.inr (Or.inr (Or.inr (Or.inr (Or.inr (Or.inr (Or.inr (Or.inr (Or.inr (Or.inr (Or.inr (Or.inr (Or.inr (Or.inr (Or.inr (Or.inr (Or.inr (Or.inr (Or.inr (Or.inr (Or.inr (h)))))))))))))))))))))))))))
      · obtain ⟨j, hj, rfl⟩ := in_nI (x := v) (b := 26) (by omega)
        rcases (show j = 0 ∨ j = 1 ∨ j = 2 ∨ j = 3 ∨ j = 4 ∨ j = 5 ∨ j = 6 ∨ j = 7 ∨ j = 8 ∨ j = 9 ∨ j = 10 ∨ j = 11 ∨ j = 12 ∨ j = 13 ∨ j = 14 ∨ j = 15 ∨ j = 16 ∨ j = 17 ∨ j = 18 ∨ j = 19 ∨ j = 20 ∨ j = 21 ∨ j = 22 ∨ j = 23 ∨ j = 24 ∨ j = 25 ∨ j = 26 by omega) with rfl | rfl | rfl | rfl | rfl | rfl | rfl | rfl | rfl | rfl | rfl | rfl | rfl | rfl | rfl | rfl | rfl | rfl | rfl | rfl | rfl | rfl | rfl | rfl | rfl | rfl | rfl
        · exact Or.inl rfl
        · exact Or.inr (Or.inl rfl)
        · exact Or.inr (Or.inr (Or.inl rfl))
        · exact Or.inr (Or.inr (Or.inr (Or.inl rfl)))
        · exact Or.inr (Or.inr (Or.inr (Or.inr (Or.inl rfl))))
        · exact Or.inr (Or.inr (Or.inr (Or.inr (Or.inr (Or.inl rfl)))))
        · exact Or.inr (Or.inr (Or.inr (Or.inr (Or.inr (Or.inr (Or.inl rfl))))))
        · exact Or.inr (Or.inr (Or.inr (Or.inr (Or.inr (Or.inr (Or.inr (Or.inl rfl)))))))
        · exact Or.inr (Or.inr (Or.inr (Or.inr (Or.inr (Or.inr (Or.inr (Or.inr (Or.inl rfl))))))))
        · exact Or.inr (Or.inr (Or.inr (Or.inr (Or.inr (Or.inr (Or.inr (Or.inr (Or.inr (Or.inl rfl)))))))))
        · exact Or.inr (Or.inr (Or.inr (Or.inr (Or.inr (Or.inr (Or.inr (Or.inr (Or.inr (Or.inr (Or.inl rfl))))))))))
        · exact Or.inr (Or.inr (Or.inr (Or.inr (Or.inr (Or.inr (Or.inr (Or.inr (Or.inr (Or.inr (Or.inr (Or.inl rfl)))))))))))
        · exact Or.inr (Or.inr (Or.inr (Or.inr (Or.inr (Or.inr (Or.inr (Or.inr (Or.inr (Or.inr (Or.inr (Or.inr (Or.inl rfl))))))))))))
        · exact Or.inr (Or.inr (Or.inr (Or.inr (Or.inr (Or.inr (Or.inr (Or.inr (Or.inr (Or.inr (Or.inr (Or.inr (Or.inr (Or.inl rfl)))))))))))))
        · exact Or.inr (Or.inr (Or.inr (Or.inr (Or.inr (Or.inr (Or.inr (Or.inr (Or.inr (Or.inr (Or.inr (Or.inr (Or.inr (Or.inr (Or.inl rfl))))))))))))))
        · exact Or.inr (Or.inr (Or.inr (Or.inr (Or.inr (Or.inr (Or.inr (Or.inr (Or.inr (Or.inr (Or.inr (Or.inr (Or.inr (Or.inr (Or.inr (Or.inl rfl)))))))))))))))
        · exact Or.inr (Or.inr (Or.inr (Or.inr (Or.inr (Or.inr (Or.inr (Or.inr (Or.inr (Or.inr (Or.inr (Or.inr (Or.inr (Or.inr (Or.inr (Or.inr (Or.inl rfl))))))))))))))))
        · exact Or.inr (Or.inr (Or.inr (Or.inr (Or.inr (Or.inr (Or.inr (Or.inr (Or.inr (Or.inr (Or.inr (Or.inr (Or.inr (Or.inr (Or.inr (Or.inr (Or.inr (Or.inl rfl)))))))))))))))))
        · exact Or.inr (Or.inr (Or.inr (Or.inr (Or.inr (Or.inr (Or.inr (Or.inr (Or.inr (Or.inr (Or.inr (Or.inr (Or.inr (Or.inr (Or.inr (Or.inr (Or.inr (Or.inr (Or.inl rfl))))))))))))))))))
        · exact Or.inr (Or.inr (Or.inr (Or.inr (Or.inr (Or.inr (Or.inr (Or.inr (Or.inr (Or.inr (Or.inr (Or.inr (Or.inr (Or.inr (Or.inr (Or.inr (Or.inr (Or.inr (Or.inr (Or.inl rfl)))))))))))))))))))
        · exact Or.inr (Or.inr (Or.inr (Or.inr (Or.inr (Or.inr (Or.inr (Or.inr (Or.inr (Or.inr (Or.inr (Or.inr (Or.inr (Or.inr (Or.inr (Or.inr (Or.inr (Or.inr (Or.inr (Or.inr (Or.inl rfl))))))))))))))))))))
        · exact Or.inr (Or.inr (Or.inr (Or.inr (Or.inr (Or.inr (Or.inr (Or.inr (Or.inr (Or.inr (Or.inr (Or.inr (Or.inr (Or.inr (Or.inr (Or.inr (Or.inr (Or.inr (Or.inr (Or.inr (Or.inr (Or.inl rfl)))))))))))))))))))))
        · exact Or.inr (Or.inr (Or.inr (Or.inr (Or.inr (Or.inr (Or.inr (Or.inr (Or.inr (Or.inr (Or.inr (Or.inr (Or.inr (Or.inr (Or.inr (Or.inr (Or.inr (Or.inr (Or.inr (Or.inr (Or.inr (Or.inr (Or.inl rfl))))))))))))))))))))))
        · exact Or.inr (Or.inr (Or.inr (Or.inr (Or.inr (Or.inr (Or.inr (Or.inr (Or.inr (Or.inr (Or.inr (Or.inr (Or.inr (Or.inr (Or.inr (Or.inr (Or.inr (Or.inr (Or.inr (Or.inr (Or.inr (Or.inr (Or.inr (Or.inl rfl)))))))))))))))))))))))
        · exact Or.inr (Or.inr (Or.inr (Or.inr (Or.inr (Or.inr (Or.inr (Or.inr (Or.inr (Or.inr (Or.inr (Or.inr (Or.inr (Or.inr (Or.inr (Or.inr (Or.inr (Or.inr (Or.inr (Or.inr (Or.inr (Or.inr (Or.inr (Or.inr (Or.inl rfl))))))))))))))))))))))))
        · exact Or.inr (Or.inr (Or.inr (Or.inr (Or.inr (Or.inr (Or.inr (Or.inr (Or.inr (Or.inr (Or.inr (Or.inr (Or.inr (Or.inr (Or.inr (Or.inr (Or.inr (Or.inr (Or.inr (Or.inr (Or.inr (Or.inr (Or.inr (Or.inr (Or.inr (Or.inl rfl)))))))))))))))))))))))))
        · exact Or.inr (Or.inr (Or.inr (Or.inr (Or.inr (Or.inr (Or.inr (Or.inr (Or.inr (Or.inr (Or.inr (Or.inr (Or.inr (Or.inr (Or.inr (Or.inr (Or.inr (Or.inr (Or.inr (Or.inr (Or.inr (Or.inr (Or.inr (Or.inr (Or.inr (Or.inr (Or.inl rfl))))))))))))))))))))))))))
    rcases hv with hv | hv | hv | hv | hv | hv | hv | hv | hv | hv | hv | hv | hv | hv | hv | hv | hv | hv | hv | hv | hv | hv | hv | hv | hv | hv | hv | hv
    · subst hv
      refine x_tabIn 156 C dL_law_33 (by decide) (by decide) rfl rfl ?_
      exact law_c0 C S hL X Y ho (6 * k) k hge hk2 kk
    · subst hv
      refine x_tabIn 189 C dL_law_33 (by decide) (by decide) rfl rfl ?_
      exact law_c1 C S hL X Y ho (6 * k) k hge hk2 kk
    · subst hv
      refine x_tabIn 253 C dL_law_33 (by decide) (by decide) rfl rfl ?_
      exact law_c2 C S hL X Y ho (6 * k) k hge hk2 kk
    · subst hv
      refine x_tabIn 277 C dL_law_33 (by decide) (by decide) rfl rfl ?_
      exact law_c3 C S hL X Y ho (6 * k) k hge hk2 kk
    · subst hv
      refine x_tabIn 330 C dL_law_33 (by decide) (by decide) rfl rfl ?_
      exact law_c4 C S hL X Y ho (6 * k) k hge hk2 kk
    · subst hv
      refine x_tabIn 343 C dL_law_33 (by decide) (by decide) rfl rfl ?_
      exact law_c5 C S hL X Y ho (6 * k) k hge hk2 kk
    · subst hv
      refine x_tabIn 356 C dL_law_33 (by decide) (by decide) rfl rfl ?_
      exact law_c6 C S hL X Y ho (6 * k) k hge hk2 kk
    · subst hv
      refine x_tabIn 379 C dL_law_33 (by decide) (by decide) rfl rfl ?_
      exact law_c7 C S hL X Y ho (6 * k) k hge hk2 kk
    · subst hv
      refine x_tabIn 413 C dL_law_33 (by decide) (by decide) rfl rfl ?_
      exact law_c8 C S hL X Y ho (6 * k) k hge hk2 kk
    · subst hv
      refine x_tabIn 456 C dL_law_33 (by decide) (by decide) rfl rfl ?_
      exact law_c9 C S hL X Y ho (6 * k) k hge hk2 kk
    · subst hv
      refine x_tabIn 480 C dL_law_33 (by decide) (by decide) rfl rfl ?_
      exact law_c10 C S hL X Y ho (6 * k) k hge hk2 kk
    · subst hv
      refine x_tabIn 513 C dL_law_33 (by decide) (by decide) rfl rfl ?_
      exact law_c11 C S hL X Y ho (6 * k) k hge hk2 kk
    · subst hv
      refine x_tabIn 547 C dL_law_33 (by decide) (by decide) rfl rfl ?_
      exact law_c12 C S hL X Y ho (6 * k) k hge hk2 kk
    · subst hv
      refine x_tabIn 570 C dL_law_33 (by decide) (by decide) rfl rfl ?_
      exact law_c13 C S hL X Y ho (6 * k) k hge hk2 kk
    · subst hv
      refine x_tabIn 633 C dL_law_33 (by decide) (by decide) rfl rfl ?_
      exact law_c14 C S hL X Y ho (6 * k) k hge hk2 kk
    · subst hv
      refine x_tabIn 697 C dL_law_33 (by decide) (by decide) rfl rfl ?_
      exact law_c15 C S hL X Y ho (6 * k) k hge hk2 kk
    · subst hv
      refine x_tabIn 781 C dL_law_33 (by decide) (by decide) rfl rfl ?_
      exact law_c16 C S hL X Y ho (6 * k) k hge hk2 kk
    · subst hv
      refine x_tabIn 804 C dL_law_33 (by decide) (by decide) rfl rfl ?_
      exact law_c17 C S hL X Y ho (6 * k) k hge hk2 kk
    · subst hv
      refine x_tabIn 857 C dL_law_33 (by decide) (by decide) rfl rfl ?_
      exact law_c18 C S hL X Y ho (6 * k) k hge hk2 kk
    · subst hv
      refine x_tabIn 880 C dL_law_33 (by decide) (by decide) rfl rfl ?_
      exact law_c19 C S hL X Y ho (6 * k) k hge hk2 kk
    · subst hv
      refine x_tabIn 913 C dL_law_33 (by decide) (by decide) rfl rfl ?_
      exact law_c20 C S hL X Y ho (6 * k) k hge hk2 kk
    · subst hv
      refine x_tabIn 957 C dL_law_33 (by decide) (by decide) rfl rfl ?_
      exact law_c21 C S hL X Y ho (6 * k) k hge hk2 kk
    · subst hv
      refine x_tabIn 990 C dL_law_33 (by decide) (by decide) rfl rfl ?_
      exact law_c22 C S hL X Y ho (6 * k) k hge hk2 kk
    · subst hv
      refine x_tabIn 1083 C dL_law_33 (by decide) (by decide) rfl rfl ?_
      exact law_c23 C S hL X Y ho (6 * k) k hge hk2 kk
    · subst hv
      refine x_tabIn 1107 C dL_law_33 (by decide) (by decide) rfl rfl ?_
      exact law_c24 C S hL X Y ho (6 * k) k hge hk2 kk
    · subst hv
      refine x_tabIn 1120 C dL_law_33 (by decide) (by decide) rfl rfl ?_
      exact law_c25 C S hL X Y ho (6 * k) k hge hk2 kk
    · subst hv
      refine x_tabIn 1143 C dL_law_33 (by decide) (by decide) rfl rfl ?_
      exact law_c26 C S hL X Y ho (6 * k) k hge hk2 kk
    · refine x_tabOut 1166 C dL_law_33 (by omega) rfl ?_
      exact x_wid (by omega) (by omega) (kk σ M X Y ho)
end LawLoop
theorem law_arr {U : State} {cA comp : ClassId} {kA : Class} {ty : FieldType} (h2 : U.vm.classes[cA]? = some kA) (h3 : kA.kind = .array comp ty) : ArrOfT U cA ty := fun _ _ => ⟨(fun k h => by cases h), kA, h2, comp, h3⟩
theorem mem_AF : Cond.arrayOver (.object "RootRows$Formula") ∈ lw_tbl := wa_t1 25 rfl
theorem mem_AS : Cond.arrayOver (.object "RootRows$State") ∈ lw_tbl := wa_t1 38 rfl
set_option maxRecDepth 100000 in
theorem law_G {s : State} {args : Array Value} (hts : ∀ w ∈ lw_tbl, w.before args s = true) : ∃ (G : va_G) (ids : Nat → ClassId), ∀ l : Launch, hG (l, G, ids) s := by
  have hw : ∀ w ∈ WA, w.before args s = true := fun w h => hts w (List.mem_filter.mp h).1
  obtain ⟨c0, i0, k0⟩ := u_known hw wu_X0 (hw _ wn_X0)
  obtain ⟨c1, i1, k1⟩ := u_known hw wu_X1 (hw _ wn_X1)
  obtain ⟨c2, i2, k2⟩ := u_known hw wu_X2 (hw _ wn_X2)
  obtain ⟨c3, i3, k3⟩ := u_known hw wu_X3 (hw _ wn_X3)
  obtain ⟨c4, i4, k4⟩ := u_known hw wu_X4 (hw _ wn_X4)
  obtain ⟨c5, i5, k5⟩ := u_known hw wu_X5 (hw _ wn_X5)
  obtain ⟨c6, i6, k6⟩ := u_known hw wu_X6 (hw _ wn_X6)
  obtain ⟨aI, kI, pI, fI, gI, eI⟩ := Cond.arrayClass_spec (hw _ wa_int)
  obtain ⟨aJ, kJ, pJ, fJ, gJ, eJ⟩ := Cond.arrayClass_spec (hw _ wa_long)
  obtain ⟨aC, kC, pC, fC, gC, eC⟩ := Cond.arrayClass_spec (hw _ wa_char)
  obtain ⟨aZ, kZ, pZ, fZ, gZ, eZ⟩ := Cond.arrayClass_spec (hw _ wa_boolean)
  obtain ⟨pF, aF, kF, fF, -, gF, eF, nF⟩ := Cond.arrayOver_spec (hts _ mem_AF)
  obtain ⟨pS, aS, kS, fS, -, gS, eS, nS⟩ := Cond.arrayOver_spec (hts _ mem_AS)
  refine ⟨(fun k => if k = 0 then c0 else if k = 1 then c1 else if k = 2 then c2 else if k = 3 then c3 else if k = 4 then c4 else if k = 5 then c5 else c6, fun k => if k = 0 then i0 else if k = 1 then i1 else if k = 2 then i2 else if k = 3 then i3 else if k = 4 then i4 else if k = 5 then i5 else i6), fun k => if k = 0 then aI else if k = 1 then aJ else if k = 2 then aC else if k = 3 then aZ else if k = 4 then aF else aS, fun l => ⟨⟨?_, ?_⟩, ?_, ?_, va_AO.of (hts _ mem_AF), va_AO.of (hts _ mem_AS)⟩⟩
  · intro k q hq
    match k, hq with
    | 0, hq => cases hq; exact k0
    | 1, hq => cases hq; exact k1
    | 2, hq => cases hq; exact k2
    | 3, hq => cases hq; exact k3
    | 4, hq => cases hq; exact k4
    | 5, hq => cases hq; exact k5
    | 6, hq => cases hq; exact k6
    | k + 7, hq => simp [vwCl] at hq
  · intro k q hq
    match k, hq with
    | 0, hq => cases hq; exact ⟨law_arr gI eI, fI⟩
    | 1, hq => cases hq; exact ⟨law_arr gJ eJ, fJ⟩
    | 2, hq => cases hq; exact ⟨law_arr gC eC, fC⟩
    | 3, hq => cases hq; exact ⟨law_arr gZ eZ, fZ⟩
    | 4, hq => cases hq; exact ⟨law_arr gF eF, kF, pF, gF, eF, fF, nF⟩
    | 5, hq => cases hq; exact ⟨law_arr gS eS, kS, pS, gS, eS, fS, nS⟩
    | k + 6, hq => simp [hTys] at hq
  · exact fun q hq => va_Nw.of rfl (hts _ (wNm_ok q hq))
  · exact fun q hq => va_Nw.of rfl (hts _ (wNf_ok q hq))
set_option maxHeartbeats 4000000 in
set_option maxRecDepth 100000 in
theorem law_main {nm : String} {E : hEv} {K : hKv} (C : hCx E K cL_law 4 RL nm room_1) {b L : Nat} {xs : Nat → Int32} (S : hSc E b L xs) (hL : L ≤ 3072) (fin : ∀ (cells slots : Nat) (lo : List (Option Value)) (M : hM), cells ≤ 600000 → slots ≤ 7302250 → hX E cells slots 1173 lo [.int 1] M) : hX E 0 0 0 [some (.ref b), none, none, none] [] (fun _ => none) := by
  refine x_new (fs := [.null, .null, .null, .null, .null, .null, .null, .int 0, .int 0, .int 0]) 3 37 C wu_X5 wcl_X5 tyX5 tyX5_ok wk_L_7 wn_X5 wi_X5 (by decide) ⟨Nat.le_of_ble_eq_true rfl, Nat.le_of_ble_eq_true rfl⟩ dL_law_0 rfl (fun x f_x => ?_)
  refine x_up (fun M_1 g_1 o_1 e_1 => ?_)
  refine x_dup 4 C dL_law_3 rfl rfl ?_
  refine x_callI 7 C (c_X5_init K _ x g_1) rfl rfl hy_X5_init wv_X5_init lk_L_9 dL_law_4 rfl ⟨Nat.le_of_ble_eq_true rfl, Nat.le_of_ble_eq_true rfl⟩ ⟨Nat.le_of_ble_eq_true rfl, Nat.le_of_ble_eq_true rfl⟩ (Nat.le_of_ble_eq_true rfl) rfl (k_v (fun M_2 h_2 => ?_))
  obtain ⟨A, hA, X, fr⟩ := h_2
  subst hA
  refine x_astore_1 8 C dL_law_7 rfl rfl ?_
  refine x_new (fs := [.null, .null, .null, .null, .int 0, .null, .null, .null, .null, .int 0, .null, .null, .int 0, .null, .int 0, .int 0, .int 0, .null, .null, .int 0, .int 0, .int 0, .int 0, .int 0, .int 0]) 11 100 C wu_X6 wcl_X6 tyX6 tyX6_ok wk_L_10 wn_X6 wi_X6 (by decide) ⟨Nat.le_of_ble_eq_true rfl, Nat.le_of_ble_eq_true rfl⟩ dL_law_8 rfl (fun y f_y => ?_)
  refine x_up (fun M_3 g_3 o_3 e_3 => ?_)
  have X := X.kept (hFr.eqn (lo := 100) (hi := 200) f_y e_3)
  refine x_dup 12 C dL_law_11 rfl rfl ?_
  refine x_callI 15 C (c_X6_init K _ y g_3) rfl rfl hy_X6_init wv_X6_init lk_L_12 dL_law_12 rfl ⟨Nat.le_of_ble_eq_true rfl, Nat.le_of_ble_eq_true rfl⟩ ⟨Nat.le_of_ble_eq_true rfl, Nat.le_of_ble_eq_true rfl⟩ (Nat.le_of_ble_eq_true rfl) rfl (k_v (fun M_4 h_4 => ?_))
  obtain ⟨B, hB, Y, fr⟩ := h_4
  subst hB
  have X := X.kept fr
  refine x_astore_2 16 C dL_law_15 rfl rfl ?_
  refine x_iconst (v := 0) 17 C dL_law_16 rfl rfl ?_
  refine x_topi (v' := nI (6 * 0)) rfl ?_
  refine x_istore_3 18 C dL_law_17 rfl rfl ?_
  exact law_loop C S hL fin 513 0 (by omega) (by omega) st0 _ X Y okS_0
