theorem va_P1 {D : va_G} {cl : List vw_C} {q : Nat × va_E} {H : Heap} (h : va_at D cl q H) : va_P D cl [q] H := by
  intro k r hk
  match k, hk with
  | 0, hk => cases hk; exact h
  | k + 1, hk => cases hk
theorem hU_dom {M : hM} {A : Nat → Prop} {a t : Nat} {e : va_E} (h : ∀ b, M b ≠ none → A b) (ha : A a) : ∀ b, hU M a t e b ≠ none → A b := by
  intro b hb
  by_cases q : b = a
  · rw [q]; exact ha
  · rw [hU_n q] at hb; exact h b hb
theorem hM_some {M : hM} {a : Nat} {x : Nat × va_E} (h : M a = some x) : M a ≠ none := by rw [h]; exact fun z => by cases z
/-- a method, its facts -/
def hYf (Y : hYd) (n : Nat) : Prop := Cond.code Y.1 Y.2.1 Y.2.2.1 Y.2.2.2 ∈ WA ∧ Cond.initialized Y.1.cls ∈ WA ∧ (Y.1.cls ≠ "java/lang/invoke/MethodHandle" ∧ Y.1.cls ≠ "java/lang/invoke/VarHandle" ∧ (parseMethodDescriptor Y.1.desc).map (fun d => d.parameters.length) = some n)
def hLk (own : String) (idx : Nat) (y : MethodName) : Prop := Cond.methodLink own idx y ∈ WA ∨ (own, idx, y) ∈ wNm
theorem hWs_good {Y : hYd} {n : Nat} (h : hYf Y n) : GoodIn WA (hWs Y) := by
  intro w hw
  rcases List.mem_cons.mp hw with rfl | hw
  · exact wa_good _ h.1
  · exact wa_good _ hw
section Rows2
variable {E : hEv} {K : hKv} {cc : ByteArray} {n : Nat} {own nm : String} {R : Room} {cells slots pc : Nat} {lo : List (Option Value)} {st : List Value} {M : hM}
theorem x_getf (q k : Nat) (C : hCx E K cc n own nm R) {idx ci N : Nat} {Cn : String} {T : u_T} (hu : ∀ w ∈ u_ws Cn T N, w ∈ WA) (hc : vwCl[ci]? = some (Cn, T, N)) (hk : k < N) (hl : hFl own idx T k) {a t : Nat} {fs : List Value} {v : Value} (hM : M a = some (t, eO ci fs)) (hv : fs[k]? = some v) (hd : decode cc pc = .ok (.getfield idx, 3)) (hq : pc + 3 = q) (kk : hX E cells slots q lo (v :: st) M) : hX E cells slots pc lo (.ref a :: st) M := by
  obtain ⟨p, e, R', s, m, args, below, meth, c, Q, A, K'⟩ := E
  obtain ⟨rfl, rfl, hx, hb, hml, hown, hts, hg, hA, hlk, hnm⟩ := C
  subst hq
  intro H locs ls h1 h2 h3 h4
  have hP := va_P1 (h1 a t _ hM)
  rcases hl with hl | hl
  · exact va_get hx hb hts hu hown hg.1 hP 0 rfl hc k hk (hts _ hl) (fun _ h => h) hv hd (kk H locs ls h1 h2 h3 h4)
  · exact va_getN hx hb hts hu hown hg.1 hP 0 rfl hc k hk (va_Nw.use rfl (hg.2.2.1 _ hl)) (fun _ h => h) hv hd (kk H locs ls h1 h2 h3 h4)
theorem x_putf (q k : Nat) (C : hCx E K cc n own nm R) {idx ci N : Nat} {Cn : String} {T : u_T} (hu : ∀ w ∈ u_ws Cn T N, w ∈ WA) (hc : vwCl[ci]? = some (Cn, T, N)) (hk : k < N) (ty0 : Nat → FieldType) (hty : ∀ k, k < N → parseFieldDescriptor (T k).2.2.1 = some (ty0 k)) (hnms : ∀ a, a < N → ∀ b, b < N → a ≠ b → (T a).2.1 ≠ (T b).2.1) (hl : hFl own idx T k) (hfin : (T k).2.2.2 = false ∨ ((T k).2.2.2 = true ∧ nm = "<init>" ∧ (T k).1 = own ∧ Cond.fieldLink own idx (T k).1 (T k).2.1 (T k).2.2.1 ∈ WA)) {a t : Nat} {fs : List Value} {v : Value} (hM : M a = some (t, eO ci fs)) (hn : narrow (ty0 k) v = v) (hf : fits (ty0 k) v = true) (hlen : k < fs.length) (hd : decode cc pc = .ok (.putfield idx, 3)) (hq : pc + 3 = q) (kk : hX E cells slots q lo st (hU M a t (eO ci (fs.set k v)))) : hX E cells slots pc lo (v :: .ref a :: st) M := by
  obtain ⟨p, e, R', s, m, args, below, meth, c, Q, A, K'⟩ := E
  obtain ⟨rfl, rfl, hx, hb, hml, hown, hts, hg, hA, hlk, hnm⟩ := C
  subst hq
  intro H locs ls h1 h2 h3 h4
  have hap := va_apart (own := own) hts hu ty0 hty hnms hg.1 hc
  obtain ⟨r, g1, cell, q1, q2, q3, q4⟩ := h1 a t _ hM
  have hr : r = (Cn, T, N) := Option.some.inj (g1.symm.trans hc)
  subst hr
  obtain ⟨hS, hfc, kC, hkC, hkind⟩ := hg.1.1 ci _ hc
  obtain ⟨cf, kf, fi, f, hi, hsl⟩ := hS k hk
  have hst := (u_facts hfc hkC (u_lays hts hu hk) hi).1
  have fin : ∀ H' : Heap, H'[a]? = some (cell.setSlot f.slot v) → H'.size = H.size → (∀ q, q ≠ a → H'[q]? = H[q]?) → W p K'.1 e R' s m args below meth c H' (locs ++ [⟨a, f.slot⟩]) cells slots Q (F0 m (pc + 3) ls st) := by
    intro H' e1 e2 e3
    rw [hsl] at e1
    exact kk H' _ ls (h1.put ⟨_, hc, t_OB.to (V := updV (vp_V fs) k v) ⟨_, e1, q2, q3, t_set q4 hap hk v⟩ (fun j _ => vp_updV_set hlen v j)⟩ e3) (hU_dom h2 (h2 a (hM_some hM))) (h3.put e2 e3 (h2 a (hM_some hM))) h4
  have hlay := hts _ (hu _ (u_in_lay hk))
  unfold u_lay at hlay
  have hlt : f.slot < cell.slots.size := by rw [hsl]; exact k2_hasslot (q4 k hk)
  rcases hfin with hfin | ⟨hfin, hini, hdecl, hl⟩
  · rw [if_neg (by rw [hfin]; decide)] at hlay
    have h6 := u_store hfc hkC hkind hlay hi (hty k hk) hn hf
    rcases hl with hl | hl
    · exact W.putK hx hb (f := f) ⟨hown, hts _ hl, ⟨_, _, _, hi⟩, hst⟩ (by rw [q2]; exact h6) q1 q3 hlt rfl rfl hd fin
    · exact va_WputK hx hb (f := f) hown (va_Nw.use rfl (hg.2.2.1 _ hl)) hi hst (by rw [q2]; exact h6) q1 q3 hlt rfl rfl hd fin
  · rw [if_pos hfin] at hlay
    have hcf : m.cls = cf := by
      obtain ⟨_, _, c', _, _, _, -, -, hf', -, -, -, hown2, -⟩ := Cond.laysFinal_spec hlay
      have e1 : c' = cf := by have := hi.symm.trans hf'; simp at this; exact this.1.symm
      rw [hdecl] at hown2
      rw [← e1]; exact Option.some.inj (hown.symm.trans hown2)
    have h6 := u_fits hfc hkC hkind (Or.inr hlay) hi (hty k hk) hn hf
    exact W.putFinK hx hb hown (hts _ hl) hi hst hcf (hnm.trans hini) (by rw [q2]; exact h6) q1 q3 hlt rfl rfl hd fin
theorem x_iald (q j : Nat) (C : hCx E K cc n own nm R) {a t nA : Nat} {f : Nat → Int32} {i : Int32} (hM : M a = some (t, eI K nA f)) (hi : i = nI j) (hj : j < nA) (hn : nA < 2 ^ 31) (hd : decode cc pc = .ok (.iaload, 1)) (hq : pc + 1 = q) (kk : hX E cells slots q lo (.int (f j) :: st) M) : hX E cells slots pc lo (.int i :: .ref a :: st) M := by
  obtain ⟨p, e, R', s, m, args, below, meth, c, Q, A, K'⟩ := E
  obtain ⟨rfl, rfl, hx, hb, hml, hown, hts, hg, hA, hlk, hnm⟩ := C
  subst hq
  subst hi
  intro H locs ls h1 h2 h3 h4
  refine va_iald hx hb hg.1 (va_P1 (h1 a t _ hM)) 0 0 rfl rfl (vp_in_nI hj hn) hd ?_
  rw [nI_clamp (Nat.lt_trans hj hn)]
  exact kk H locs ls h1 h2 h3 h4
theorem x_lald (q j : Nat) (C : hCx E K cc n own nm R) {a t nA : Nat} {f : Nat → Int64} {i : Int32} (hM : M a = some (t, eJ K nA f)) (hi : i = nI j) (hj : j < nA) (hn : nA < 2 ^ 31) (hd : decode cc pc = .ok (.laload, 1)) (hq : pc + 1 = q) (kk : hX E cells slots q lo (.long (f j) :: st) M) : hX E cells slots pc lo (.int i :: .ref a :: st) M := by
  obtain ⟨p, e, R', s, m, args, below, meth, c, Q, A, K'⟩ := E
  obtain ⟨rfl, rfl, hx, hb, hml, hown, hts, hg, hA, hlk, hnm⟩ := C
  subst hq
  subst hi
  intro H locs ls h1 h2 h3 h4
  refine va_lald hx hb hg.1 (va_P1 (h1 a t _ hM)) 0 1 rfl rfl (vp_in_nI hj hn) hd ?_
  rw [nI_clamp (Nat.lt_trans hj hn)]
  exact kk H locs ls h1 h2 h3 h4
theorem x_cald (q j : Nat) (C : hCx E K cc n own nm R) {a t nA : Nat} {f : Nat → Int32} {i : Int32} (hM : M a = some (t, eC K nA f)) (hi : i = nI j) (hj : j < nA) (hn : nA < 2 ^ 31) (hd : decode cc pc = .ok (.caload, 1)) (hq : pc + 1 = q) (kk : hX E cells slots q lo (.int (f j) :: st) M) : hX E cells slots pc lo (.int i :: .ref a :: st) M := by
  obtain ⟨p, e, R', s, m, args, below, meth, c, Q, A, K'⟩ := E
  obtain ⟨rfl, rfl, hx, hb, hml, hown, hts, hg, hA, hlk, hnm⟩ := C
  subst hq
  subst hi
  intro H locs ls h1 h2 h3 h4
  refine va_cald hx hb hg.1 (va_P1 (h1 a t _ hM)) 0 2 rfl rfl (vp_in_nI hj hn) hd ?_
  rw [nI_clamp (Nat.lt_trans hj hn)]
  exact kk H locs ls h1 h2 h3 h4
theorem x_fald (q j : Nat) (C : hCx E K cc n own nm R) {a t nA : Nat} {f : Nat → Option Nat} {i : Int32} (hM : M a = some (t, eF K nA f)) (hi : i = nI j) (hj : j < nA) (hn : nA < 2 ^ 31) (hd : decode cc pc = .ok (.aaload, 1)) (hq : pc + 1 = q) (kk : hX E cells slots q lo (va_rf (f j) :: st) M) : hX E cells slots pc lo (.int i :: .ref a :: st) M := by
  obtain ⟨p, e, R', s, m, args, below, meth, c, Q, A, K'⟩ := E
  obtain ⟨rfl, rfl, hx, hb, hml, hown, hts, hg, hA, hlk, hnm⟩ := C
  subst hq
  subst hi
  intro H locs ls h1 h2 h3 h4
  refine va_aldq hx hb hg.1 (va_P1 (h1 a t _ hM)) 0 4 rfl rfl (vp_in_nI hj hn) hd ?_
  rw [nI_clamp (Nat.lt_trans hj hn)]
  exact kk H locs ls h1 h2 h3 h4
theorem x_sald (q j : Nat) (C : hCx E K cc n own nm R) {a t nA : Nat} {f : Nat → Option Nat} {i : Int32} (hM : M a = some (t, eS K nA f)) (hi : i = nI j) (hj : j < nA) (hn : nA < 2 ^ 31) (hd : decode cc pc = .ok (.aaload, 1)) (hq : pc + 1 = q) (kk : hX E cells slots q lo (va_rf (f j) :: st) M) : hX E cells slots pc lo (.int i :: .ref a :: st) M := by
  obtain ⟨p, e, R', s, m, args, below, meth, c, Q, A, K'⟩ := E
  obtain ⟨rfl, rfl, hx, hb, hml, hown, hts, hg, hA, hlk, hnm⟩ := C
  subst hq
  subst hi
  intro H locs ls h1 h2 h3 h4
  refine va_aldq hx hb hg.1 (va_P1 (h1 a t _ hM)) 0 5 rfl rfl (vp_in_nI hj hn) hd ?_
  rw [nI_clamp (Nat.lt_trans hj hn)]
  exact kk H locs ls h1 h2 h3 h4
theorem x_iast (q j : Nat) (C : hCx E K cc n own nm R) {a t nA : Nat} {f : Nat → Int32} {i : Int32} {x : Int32} (hM : M a = some (t, eI K nA f)) (hi : i = nI j) (hj : j < nA) (hn : nA < 2 ^ 31) (hd : decode cc pc = .ok (.iastore, 1)) (hq : pc + 1 = q) (kk : hX E cells slots q lo st (hU M a t (eI K nA (va_up f j x)))) : hX E cells slots pc lo (.int x :: .int i :: .ref a :: st) M := by
  obtain ⟨p, e, R', s, m, args, below, meth, c, Q, A, K'⟩ := E
  obtain ⟨rfl, rfl, hx, hb, hml, hown, hts, hg, hA, hlk, hnm⟩ := C
  subst hq
  subst hi
  intro H locs ls h1 h2 h3 h4
  have hat := h1 a t _ hM
  have hin := vp_in_nI hj hn
  refine W.iast hx hb hat ((hg.1.2 0 _ rfl).1 nA (fun j => .int (f j))) (fun q => by cases q) (by show ¬ (nI j < 0 ∨ (arrV _ _ _).slots.size ≤ _); rw [arrV_size]; exact hin) rfl rfl hd fun H1 e1 z oq => ?_
  refine kk H1 _ ls (h1.put ?_ oq) (hU_dom h2 (h2 a (hM_some hM))) (h3.put z oq (h2 a (hM_some hM))) h4
  show H1[a]? = some (vp_cell _ _)
  rw [e1]
  rw [vp_cell_i, vp_cell_i, arrV_store]
  congr 2
  funext q
  rw [nI_clamp (Nat.lt_trans hj hn)]
  by_cases hq : q = j
  · subst hq
    simp [updV, va_up]
  · simp [updV, va_up, hq]
theorem x_last (q j : Nat) (C : hCx E K cc n own nm R) {a t nA : Nat} {f : Nat → Int64} {i : Int32} {x : Int64} (hM : M a = some (t, eJ K nA f)) (hi : i = nI j) (hj : j < nA) (hn : nA < 2 ^ 31) (hd : decode cc pc = .ok (.lastore, 1)) (hq : pc + 1 = q) (kk : hX E cells slots q lo st (hU M a t (eJ K nA (va_up f j x)))) : hX E cells slots pc lo (.long x :: .int i :: .ref a :: st) M := by
  obtain ⟨p, e, R', s, m, args, below, meth, c, Q, A, K'⟩ := E
  obtain ⟨rfl, rfl, hx, hb, hml, hown, hts, hg, hA, hlk, hnm⟩ := C
  subst hq
  subst hi
  intro H locs ls h1 h2 h3 h4
  have hat := h1 a t _ hM
  have hin := vp_in_nI hj hn
  refine W.last hx hb hat ((hg.1.2 1 _ rfl).1 nA (fun j => .long (f j))) (fun q => by cases q) (by show ¬ (nI j < 0 ∨ (arrV _ _ _).slots.size ≤ _); rw [arrV_size]; exact hin) rfl rfl hd fun H1 e1 z oq => ?_
  refine kk H1 _ ls (h1.put ?_ oq) (hU_dom h2 (h2 a (hM_some hM))) (h3.put z oq (h2 a (hM_some hM))) h4
  show H1[a]? = some (vp_cell _ _)
  rw [e1]
  rw [vp_cell_l, vp_cell_l, arrV_store]
  congr 2
  funext q
  rw [nI_clamp (Nat.lt_trans hj hn)]
  by_cases hq : q = j
  · subst hq
    simp [updV, va_up]
  · simp [updV, va_up, hq]
theorem x_cast (q j : Nat) (C : hCx E K cc n own nm R) {a t nA : Nat} {f : Nat → Int32} {i : Int32} {x : Int32} (hM : M a = some (t, eC K nA f)) (hi : i = nI j) (hj : j < nA) (hn : nA < 2 ^ 31) (hnr : vp_nar .char x = x) (hd : decode cc pc = .ok (.castore, 1)) (hq : pc + 1 = q) (kk : hX E cells slots q lo st (hU M a t (eC K nA (va_up f j x)))) : hX E cells slots pc lo (.int x :: .int i :: .ref a :: st) M := by
  obtain ⟨p, e, R', s, m, args, below, meth, c, Q, A, K'⟩ := E
  obtain ⟨rfl, rfl, hx, hb, hml, hown, hts, hg, hA, hlk, hnm⟩ := C
  subst hq
  subst hi
  intro H locs ls h1 h2 h3 h4
  have hat := h1 a t _ hM
  have hin := vp_in_nI hj hn
  refine W.cast hx hb hat ((hg.1.2 2 _ rfl).1 nA (fun j => .int (f j))) (fun q => by cases q) (by show ¬ (nI j < 0 ∨ (arrV _ _ _).slots.size ≤ _); rw [arrV_size]; exact hin) rfl rfl hd fun H1 e1 z oq => ?_
  refine kk H1 _ ls (h1.put ?_ oq) (hU_dom h2 (h2 a (hM_some hM))) (h3.put z oq (h2 a (hM_some hM))) h4
  show H1[a]? = some (vp_cell _ _)
  rw [e1]
  rw [vp_cell_i, vp_cell_i, arrV_store]
  congr 2
  funext q
  rw [nI_clamp (Nat.lt_trans hj hn)]
  by_cases hq : q = j
  · subst hq
    simp only [updV, va_up, if_pos]
    show narrow .char (.int x) = .int x
    have h9 : Value.int (vp_nar .char x) = narrow .char (.int x) := rfl
    rw [← h9, hnr]
  · simp [updV, va_up, hq]
theorem x_fast (q j : Nat) (C : hCx E K cc n own nm R) {a t nA : Nat} {f : Nat → Option Nat} {i : Int32} {x u : Nat} {vs : List Value} (hM : M a = some (t, eF K nA f)) (hv : M x = some (u, eO 0 vs)) (hi : i = nI j) (hj : j < nA) (hn : nA < 2 ^ 31) (hd : decode cc pc = .ok (.aastore, 1)) (hq : pc + 1 = q) (kk : hX E cells slots q lo st (hU M a t (eF K nA (va_up f j (some x))))) : hX E cells slots pc lo (.ref x :: .int i :: .ref a :: st) M := by
  obtain ⟨p, e, R', s, m, args, below, meth, c, Q, A, K'⟩ := E
  obtain ⟨rfl, rfl, hx, hb, hml, hown, hts, hg, hA, hlk, hnm⟩ := C
  subst hq
  subst hi
  intro H locs ls h1 h2 h3 h4
  have hin := vp_in_nI hj hn
  have hat := h1 a t _ hM
  obtain ⟨r', hr', cellV, g1, g2, g3, -⟩ := h1 x u _ hv
  have hcls := (hg.1.1 0 _ wcl_X0).2
  obtain ⟨kA, comp, k1, k2, k3, -⟩ := (hg.1.2 4 _ rfl).2
  have hcomp : comp = K'.2.1.1 0 := Option.some.inj (k3.symm.trans hcls.1)
  subst hcomp
  obtain ⟨kC, hkC, -⟩ := hcls.2
  refine W.aast hx hb hat (fun q h => by cases h) (fun h => by cases h) k1 k2 rfl hkC ⟨fun q => hin (Or.inl q), by show _ < (arrV _ _ _).slots.size; rw [arrV_size]; exact Nat.not_le.mp fun q => hin (Or.inr q)⟩ g1 (fun q h => by rw [g3] at h; cases h) (by rw [g2]; exact hkC) (by rw [g2]; exact va_assign hcls) rfl rfl hd fun H1 e1 z oq => ?_
  refine kk H1 _ ls (h1.put ?_ oq) (hU_dom h2 (h2 a (hM_some hM))) (h3.put z oq (h2 a (hM_some hM))) h4
  show H1[a]? = some (vp_cell _ _)
  rw [e1]
  rw [vp_cell_q, vp_cell_q, arrV_store]
  congr 2
  funext q
  rw [nI_clamp (Nat.lt_trans hj hn)]
  by_cases hq : q = j
  · subst hq
    simp [updV, va_up, va_rf]
  · simp [updV, va_up, hq]
theorem x_fastN (q j : Nat) (C : hCx E K cc n own nm R) {a t nA : Nat} {f : Nat → Option Nat} {i : Int32} (hM : M a = some (t, eF K nA f)) (hi : i = nI j) (hj : j < nA) (hn : nA < 2 ^ 31) (hd : decode cc pc = .ok (.aastore, 1)) (hq : pc + 1 = q) (kk : hX E cells slots q lo st (hU M a t (eF K nA (va_up f j none)))) : hX E cells slots pc lo (.null :: .int i :: .ref a :: st) M := by
  obtain ⟨p, e, R', s, m, args, below, meth, c, Q, A, K'⟩ := E
  obtain ⟨rfl, rfl, hx, hb, hml, hown, hts, hg, hA, hlk, hnm⟩ := C
  subst hq
  subst hi
  intro H locs ls h1 h2 h3 h4
  have hin := vp_in_nI hj hn
  have hat := h1 a t _ hM
  refine va_WaastN (C := "RootRows$Formula") hx hb hat ((hg.1.2 4 _ rfl).1 nA (fun j => va_rf (f j))) (fun h => by cases h) (by show ¬ (nI j < 0 ∨ (arrV _ _ _).slots.size ≤ _); rw [arrV_size]; exact hin) rfl rfl hd fun H1 e1 z oq => ?_
  refine kk H1 _ ls (h1.put ?_ oq) (hU_dom h2 (h2 a (hM_some hM))) (h3.put z oq (h2 a (hM_some hM))) h4
  show H1[a]? = some (vp_cell _ _)
  rw [e1]
  rw [vp_cell_q, vp_cell_q, arrV_store]
  congr 2
  funext q
  rw [nI_clamp (Nat.lt_trans hj hn)]
  by_cases hq : q = j
  · subst hq
    simp [updV, va_up, va_rf]
  · simp [updV, va_up, hq]
theorem x_fastQ (q j : Nat) (C : hCx E K cc n own nm R) {a t nA : Nat} {f : Nat → Option Nat} {i : Int32} {x : Option Nat} (hM : M a = some (t, eF K nA f)) (hv : ∀ y, x = some y → ∃ u vs, M y = some (u, eO 0 vs)) (hi : i = nI j) (hj : j < nA) (hn : nA < 2 ^ 31) (hd : decode cc pc = .ok (.aastore, 1)) (hq : pc + 1 = q) (kk : hX E cells slots q lo st (hU M a t (eF K nA (va_up f j x)))) : hX E cells slots pc lo (va_rf x :: .int i :: .ref a :: st) M := by
  cases x with
  | none => exact x_fastN q j C hM hi hj hn hd hq kk
  | some y =>
    obtain ⟨u, vs, h⟩ := hv y rfl
    exact x_fast q j C hM h hi hj hn hd hq kk
theorem x_sast (q j : Nat) (C : hCx E K cc n own nm R) {a t nA : Nat} {f : Nat → Option Nat} {i : Int32} {x u : Nat} {vs : List Value} (hM : M a = some (t, eS K nA f)) (hv : M x = some (u, eO 4 vs)) (hi : i = nI j) (hj : j < nA) (hn : nA < 2 ^ 31) (hd : decode cc pc = .ok (.aastore, 1)) (hq : pc + 1 = q) (kk : hX E cells slots q lo st (hU M a t (eS K nA (va_up f j (some x))))) : hX E cells slots pc lo (.ref x :: .int i :: .ref a :: st) M := by
  obtain ⟨p, e, R', s, m, args, below, meth, c, Q, A, K'⟩ := E
  obtain ⟨rfl, rfl, hx, hb, hml, hown, hts, hg, hA, hlk, hnm⟩ := C
  subst hq
  subst hi
  intro H locs ls h1 h2 h3 h4
  have hin := vp_in_nI hj hn
  have hat := h1 a t _ hM
  obtain ⟨r', hr', cellV, g1, g2, g3, -⟩ := h1 x u _ hv
  have hcls := (hg.1.1 4 _ wcl_X4).2
  obtain ⟨kA, comp, k1, k2, k3, -⟩ := (hg.1.2 5 _ rfl).2
  have hcomp : comp = K'.2.1.1 4 := Option.some.inj (k3.symm.trans hcls.1)
  subst hcomp
  obtain ⟨kC, hkC, -⟩ := hcls.2
  refine W.aast hx hb hat (fun q h => by cases h) (fun h => by cases h) k1 k2 rfl hkC ⟨fun q => hin (Or.inl q), by show _ < (arrV _ _ _).slots.size; rw [arrV_size]; exact Nat.not_le.mp fun q => hin (Or.inr q)⟩ g1 (fun q h => by rw [g3] at h; cases h) (by rw [g2]; exact hkC) (by rw [g2]; exact va_assign hcls) rfl rfl hd fun H1 e1 z oq => ?_
  refine kk H1 _ ls (h1.put ?_ oq) (hU_dom h2 (h2 a (hM_some hM))) (h3.put z oq (h2 a (hM_some hM))) h4
  show H1[a]? = some (vp_cell _ _)
  rw [e1]
  rw [vp_cell_q, vp_cell_q, arrV_store]
  congr 2
  funext q
  rw [nI_clamp (Nat.lt_trans hj hn)]
  by_cases hq : q = j
  · subst hq
    simp [updV, va_up, va_rf]
  · simp [updV, va_up, hq]
theorem x_alenI (q : Nat) (C : hCx E K cc n own nm R) {a t nA : Nat} {f : Nat → Int32} (hM : M a = some (t, eI K nA f)) (hd : decode cc pc = .ok (.arraylength, 1)) (hq : pc + 1 = q) (kk : hX E cells slots q lo (.int (nI nA) :: st) M) : hX E cells slots pc lo (.ref a :: st) M := by
  obtain ⟨p, e, R', s, m, args, below, meth, c, Q, A, K'⟩ := E
  obtain ⟨rfl, rfl, hx, hb, hml, hown, hts, hg, hA, hlk, hnm⟩ := C
  subst hq
  exact fun H locs ls h1 h2 h3 h4 => va_alen hx hb hg.1 (va_P1 (h1 a t _ hM)) 0 0 rfl rfl rfl hd (kk H locs ls h1 h2 h3 h4)
theorem x_alenJ (q : Nat) (C : hCx E K cc n own nm R) {a t nA : Nat} {f : Nat → Int64} (hM : M a = some (t, eJ K nA f)) (hd : decode cc pc = .ok (.arraylength, 1)) (hq : pc + 1 = q) (kk : hX E cells slots q lo (.int (nI nA) :: st) M) : hX E cells slots pc lo (.ref a :: st) M := by
  obtain ⟨p, e, R', s, m, args, below, meth, c, Q, A, K'⟩ := E
  obtain ⟨rfl, rfl, hx, hb, hml, hown, hts, hg, hA, hlk, hnm⟩ := C
  subst hq
  exact fun H locs ls h1 h2 h3 h4 => va_alen hx hb hg.1 (va_P1 (h1 a t _ hM)) 0 1 rfl rfl rfl hd (kk H locs ls h1 h2 h3 h4)
theorem x_alenC (q : Nat) (C : hCx E K cc n own nm R) {a t nA : Nat} {f : Nat → Int32} (hM : M a = some (t, eC K nA f)) (hd : decode cc pc = .ok (.arraylength, 1)) (hq : pc + 1 = q) (kk : hX E cells slots q lo (.int (nI nA) :: st) M) : hX E cells slots pc lo (.ref a :: st) M := by
  obtain ⟨p, e, R', s, m, args, below, meth, c, Q, A, K'⟩ := E
  obtain ⟨rfl, rfl, hx, hb, hml, hown, hts, hg, hA, hlk, hnm⟩ := C
  subst hq
  exact fun H locs ls h1 h2 h3 h4 => va_alen hx hb hg.1 (va_P1 (h1 a t _ hM)) 0 2 rfl rfl rfl hd (kk H locs ls h1 h2 h3 h4)
theorem x_alenF (q : Nat) (C : hCx E K cc n own nm R) {a t nA : Nat} {f : Nat → Option Nat} (hM : M a = some (t, eF K nA f)) (hd : decode cc pc = .ok (.arraylength, 1)) (hq : pc + 1 = q) (kk : hX E cells slots q lo (.int (nI nA) :: st) M) : hX E cells slots pc lo (.ref a :: st) M := by
  obtain ⟨p, e, R', s, m, args, below, meth, c, Q, A, K'⟩ := E
  obtain ⟨rfl, rfl, hx, hb, hml, hown, hts, hg, hA, hlk, hnm⟩ := C
  subst hq
  exact fun H locs ls h1 h2 h3 h4 => va_alen hx hb hg.1 (va_P1 (h1 a t _ hM)) 0 4 rfl rfl rfl hd (kk H locs ls h1 h2 h3 h4)
theorem x_alenS (q : Nat) (C : hCx E K cc n own nm R) {a t nA : Nat} {f : Nat → Option Nat} (hM : M a = some (t, eS K nA f)) (hd : decode cc pc = .ok (.arraylength, 1)) (hq : pc + 1 = q) (kk : hX E cells slots q lo (.int (nI nA) :: st) M) : hX E cells slots pc lo (.ref a :: st) M := by
  obtain ⟨p, e, R', s, m, args, below, meth, c, Q, A, K'⟩ := E
  obtain ⟨rfl, rfl, hx, hb, hml, hown, hts, hg, hA, hlk, hnm⟩ := C
  subst hq
  exact fun H locs ls h1 h2 h3 h4 => va_alen hx hb hg.1 (va_P1 (h1 a t _ hM)) 0 5 rfl rfl rfl hd (kk H locs ls h1 h2 h3 h4)
theorem x_newaI (q j tg : Nat) (C : hCx E K cc n own nm R) {i : Int32} (hi : i = nI j) (hj : j < 2 ^ 16) (hcs : cells + 1 ≤ R.cells ∧ slots + j ≤ R.slots) (hd : decode cc pc = .ok (.newarray .int, 2)) (hq : pc + 2 = q) (kk : ∀ a : Nat, M a = none → hX E (cells + 1) (slots + j) q lo (.ref a :: st) (hU M a tg (eI K j (fun _ => 0)))) : hX E cells slots pc lo (.int i :: st) M := by
  obtain ⟨p, e, R', s, m, args, below, meth, c, Q, A, K'⟩ := E
  obtain ⟨rfl, rfl, hx, hb, hml, hown, hts, hg, hA, hlk, hnm⟩ := C
  subst hq
  subst hi
  intro H locs ls h1 h2 h3 h4
  refine va_newaK hx hb (atype := .int) (hts _ wa_int) rfl hd rfl (by rw [Int32.lt_iff_toInt_lt, nI_toInt (by omega)]; show ¬ ((j : Int) < 0); omega) (nI_clamp (by omega)) (by show j * _ ≤ _; simp only [newarray.typeOf, componentBytes]; omega) hcs.1 hcs.2 rfl fun H1 cA e1 z1 o1 hAr hNm => ?_
  have hcA : cA = cI K' := by
    have h5 := (hg.1.2 0 _ rfl).2
    exact Option.some.inj (hNm.symm.trans h5)
  subst hcA
  refine kk H.size h1.fresh H1 locs ls (h1.push (by show H1[H.size]? = some (vp_cell _ _); rw [e1]; rfl) o1) (hU_dom h2 (hA _ h3.1)) ⟨Nat.le_trans h3.1 (by omega), fun x g1 g2 => (o1 x (Nat.lt_of_lt_of_le g1 h3.1)).trans (h3.2.1 x g1 g2), h3.2.2⟩ h4
theorem x_newaJ (q j tg : Nat) (C : hCx E K cc n own nm R) {i : Int32} (hi : i = nI j) (hj : j < 2 ^ 16) (hcs : cells + 1 ≤ R.cells ∧ slots + j ≤ R.slots) (hd : decode cc pc = .ok (.newarray .long, 2)) (hq : pc + 2 = q) (kk : ∀ a : Nat, M a = none → hX E (cells + 1) (slots + j) q lo (.ref a :: st) (hU M a tg (eJ K j (fun _ => 0)))) : hX E cells slots pc lo (.int i :: st) M := by
  obtain ⟨p, e, R', s, m, args, below, meth, c, Q, A, K'⟩ := E
  obtain ⟨rfl, rfl, hx, hb, hml, hown, hts, hg, hA, hlk, hnm⟩ := C
  subst hq
  subst hi
  intro H locs ls h1 h2 h3 h4
  refine va_newaK hx hb (atype := .long) (hts _ wa_long) rfl hd rfl (by rw [Int32.lt_iff_toInt_lt, nI_toInt (by omega)]; show ¬ ((j : Int) < 0); omega) (nI_clamp (by omega)) (by show j * _ ≤ _; simp only [newarray.typeOf, componentBytes]; omega) hcs.1 hcs.2 rfl fun H1 cA e1 z1 o1 hAr hNm => ?_
  have hcA : cA = cJ K' := by
    have h5 := (hg.1.2 1 _ rfl).2
    exact Option.some.inj (hNm.symm.trans h5)
  subst hcA
  refine kk H.size h1.fresh H1 locs ls (h1.push (by show H1[H.size]? = some (vp_cell _ _); rw [e1]; rfl) o1) (hU_dom h2 (hA _ h3.1)) ⟨Nat.le_trans h3.1 (by omega), fun x g1 g2 => (o1 x (Nat.lt_of_lt_of_le g1 h3.1)).trans (h3.2.1 x g1 g2), h3.2.2⟩ h4
theorem x_newaC (q j tg : Nat) (C : hCx E K cc n own nm R) {i : Int32} (hi : i = nI j) (hj : j < 2 ^ 16) (hcs : cells + 1 ≤ R.cells ∧ slots + j ≤ R.slots) (hd : decode cc pc = .ok (.newarray .char, 2)) (hq : pc + 2 = q) (kk : ∀ a : Nat, M a = none → hX E (cells + 1) (slots + j) q lo (.ref a :: st) (hU M a tg (eC K j (fun _ => 0)))) : hX E cells slots pc lo (.int i :: st) M := by
  obtain ⟨p, e, R', s, m, args, below, meth, c, Q, A, K'⟩ := E
  obtain ⟨rfl, rfl, hx, hb, hml, hown, hts, hg, hA, hlk, hnm⟩ := C
  subst hq
  subst hi
  intro H locs ls h1 h2 h3 h4
  refine va_newaK hx hb (atype := .char) (hts _ wa_char) rfl hd rfl (by rw [Int32.lt_iff_toInt_lt, nI_toInt (by omega)]; show ¬ ((j : Int) < 0); omega) (nI_clamp (by omega)) (by show j * _ ≤ _; simp only [newarray.typeOf, componentBytes]; omega) hcs.1 hcs.2 rfl fun H1 cA e1 z1 o1 hAr hNm => ?_
  have hcA : cA = cC K' := by
    have h5 := (hg.1.2 2 _ rfl).2
    exact Option.some.inj (hNm.symm.trans h5)
  subst hcA
  refine kk H.size h1.fresh H1 locs ls (h1.push (by show H1[H.size]? = some (vp_cell _ _); rw [e1]; rfl) o1) (hU_dom h2 (hA _ h3.1)) ⟨Nat.le_trans h3.1 (by omega), fun x g1 g2 => (o1 x (Nat.lt_of_lt_of_le g1 h3.1)).trans (h3.2.1 x g1 g2), h3.2.2⟩ h4
theorem x_newF (q j tg : Nat) (C : hCx E K cc n own nm R) {i : Int32} {idx : Nat} (hi : i = nI j) (hj : j < 2 ^ 16) (hcs : cells + 1 ≤ R.cells ∧ slots + j ≤ R.slots) (hl : Cond.classLink own idx "RootRows$Formula" ∈ WA) (hd : decode cc pc = .ok (.anewarray idx, 3)) (hq : pc + 3 = q) (kk : ∀ a : Nat, M a = none → hX E (cells + 1) (slots + j) q lo (.ref a :: st) (hU M a tg (eF K j (fun _ => none)))) : hX E cells slots pc lo (.int i :: st) M := by
  obtain ⟨p, e, R', s, m, args, below, meth, c, Q, A, K'⟩ := E
  obtain ⟨rfl, rfl, hx, hb, hml, hown, hts, hg, hA, hlk, hnm⟩ := C
  subst hq
  subst hi
  intro H locs ls h1 h2 h3 h4
  have hj1 : (nI j).toNatClampNeg = j := nI_clamp (by omega)
  refine W.anew hx hb hown (hts _ hl) (va_AO.use hg.2.2.2.1) rfl hd rfl (by rw [Int32.lt_iff_toInt_lt, nI_toInt (by omega)]; show ¬ ((j : Int) < 0); omega) (by rw [hj1]; omega) hcs.1 (by rw [hj1]; exact hcs.2) fun cA kA comp f1 f2 f3 f4 => ?_
  have hcA : cA = cF K' := by
    obtain ⟨_, _, -, -, -, h5⟩ := (hg.1.2 4 _ rfl).2
    exact Option.some.inj (f1.symm.trans h5)
  subst hcA
  rw [hj1]
  generalize hH1 : H.push ({ cls := cF K', slots := Array.replicate j .null, vm := .none } : Cell) = H1
  have z1 : H1.size = H.size + 1 := by rw [← hH1, Array.size_push]
  have e1 : H1[H.size]? = some (arrV (cF K') j (fun _ => .null)) := by rw [← hH1, Array.getElem?_push_size, ← arrV_new]
  have o1 : ∀ q : Nat, q < H.size → H1[q]? = H[q]? := fun q hq => by rw [← hH1, Array.getElem?_push, if_neg (Nat.ne_of_lt hq)]
  exact kk H.size h1.fresh H1 locs ls (h1.push (by show H1[H.size]? = some (vp_cell _ _); rw [e1]; rfl) o1) (hU_dom h2 (hA _ h3.1)) ⟨Nat.le_trans h3.1 (by omega), fun x g1 g2 => (o1 x (Nat.lt_of_lt_of_le g1 h3.1)).trans (h3.2.1 x g1 g2), h3.2.2⟩ h4
theorem x_newS (q j tg : Nat) (C : hCx E K cc n own nm R) {i : Int32} {idx : Nat} (hi : i = nI j) (hj : j < 2 ^ 16) (hcs : cells + 1 ≤ R.cells ∧ slots + j ≤ R.slots) (hl : Cond.classLink own idx "RootRows$State" ∈ WA) (hd : decode cc pc = .ok (.anewarray idx, 3)) (hq : pc + 3 = q) (kk : ∀ a : Nat, M a = none → hX E (cells + 1) (slots + j) q lo (.ref a :: st) (hU M a tg (eS K j (fun _ => none)))) : hX E cells slots pc lo (.int i :: st) M := by
  obtain ⟨p, e, R', s, m, args, below, meth, c, Q, A, K'⟩ := E
  obtain ⟨rfl, rfl, hx, hb, hml, hown, hts, hg, hA, hlk, hnm⟩ := C
  subst hq
  subst hi
  intro H locs ls h1 h2 h3 h4
  have hj1 : (nI j).toNatClampNeg = j := nI_clamp (by omega)
  refine W.anew hx hb hown (hts _ hl) (va_AO.use hg.2.2.2.2) rfl hd rfl (by rw [Int32.lt_iff_toInt_lt, nI_toInt (by omega)]; show ¬ ((j : Int) < 0); omega) (by rw [hj1]; omega) hcs.1 (by rw [hj1]; exact hcs.2) fun cA kA comp f1 f2 f3 f4 => ?_
  have hcA : cA = cS K' := by
    obtain ⟨_, _, -, -, -, h5⟩ := (hg.1.2 5 _ rfl).2
    exact Option.some.inj (f1.symm.trans h5)
  subst hcA
  rw [hj1]
  generalize hH1 : H.push ({ cls := cS K', slots := Array.replicate j .null, vm := .none } : Cell) = H1
  have z1 : H1.size = H.size + 1 := by rw [← hH1, Array.size_push]
  have e1 : H1[H.size]? = some (arrV (cS K') j (fun _ => .null)) := by rw [← hH1, Array.getElem?_push_size, ← arrV_new]
  have o1 : ∀ q : Nat, q < H.size → H1[q]? = H[q]? := fun q hq => by rw [← hH1, Array.getElem?_push, if_neg (Nat.ne_of_lt hq)]
  exact kk H.size h1.fresh H1 locs ls (h1.push (by show H1[H.size]? = some (vp_cell _ _); rw [e1]; rfl) o1) (hU_dom h2 (hA _ h3.1)) ⟨Nat.le_trans h3.1 (by omega), fun x g1 g2 => (o1 x (Nat.lt_of_lt_of_le g1 h3.1)).trans (h3.2.1 x g1 g2), h3.2.2⟩ h4
theorem x_new (q tg : Nat) (C : hCx E K cc n own nm R) {idx ci N : Nat} {Cn : String} {T : u_T} (hu : ∀ w ∈ u_ws Cn T N, w ∈ WA) (hc : vwCl[ci]? = some (Cn, T, N)) (ty0 : Nat → FieldType) (hty : ∀ k, k < N → parseFieldDescriptor (T k).2.2.1 = some (ty0 k)) (hl : Cond.classLink own idx Cn ∈ WA) (hin : Cond.instantiable Cn N ∈ WA) (hini : Cond.initialized Cn ∈ WA) {fs : List Value} (hfs : ∀ j, j < N → defaultValue (ty0 j) = vp_V fs j) (hcs : cells + 1 ≤ R.cells ∧ slots + N ≤ R.slots) (hd : decode cc pc = .ok (.new idx, 3)) (hq : pc + 3 = q) (kk : ∀ a : Nat, M a = none → hX E (cells + 1) (slots + N) q lo (.ref a :: st) (hU M a tg (eO ci fs))) : hX E cells slots pc lo st M := by
  obtain ⟨p, e, R', s, m, args, below, meth, c, Q, A, K'⟩ := E
  obtain ⟨rfl, rfl, hx, hb, hml, hown, hts, hg, hA, hlk, hnm⟩ := C
  subst hq
  intro H locs ls h1 h2 h3 h4
  have hKn := hg.1.1 ci _ hc
  refine W.newcK hx hb hown (hts _ hl) (hts _ hin) (hts _ hini) rfl hd hcs.1 hcs.2 hKn.2.1 rfl fun H1 kC hkC e1 z1 o1 => ?_
  exact kk H.size h1.fresh H1 locs ls (h1.push ⟨_, hc, (u_born ty0 hts hu hKn hkC e1 hty).to hfs⟩ o1) (hU_dom h2 (hA _ h3.1)) ⟨Nat.le_trans h3.1 (by omega), fun x g1 g2 => (o1 x (Nat.lt_of_lt_of_le g1 h3.1)).trans (h3.2.1 x g1 g2), h3.2.2⟩ h4
theorem x_objInit (q : Nat) (C : hCx E K cc n own nm R) {idx a : Nat} (hl : Cond.methodLink own idx Lib.objectInit ∈ WA) (hd : decode cc pc = .ok (.invokespecial idx, 3)) (hf : 1 ≤ R.frames ∧ 20 ≤ R.locals) (hrest : (st.map fun v => v.category).sum ≤ 8) (hq : pc + 3 = q) (kk : hX E cells slots q lo st M) : hX E cells slots pc lo (.ref a :: st) M := by
  obtain ⟨p, e, R', s, m, args, below, meth, c, Q, A, K'⟩ := E
  obtain ⟨rfl, rfl, hx, hb, hml, hown, hts, hg, hA, hlk, hnm⟩ := C
  subst hq
  intro H locs ls h1 h2 h3 h4
  exact W.objInit hx hb hown (hts _ hl) (hts _ wv_objInit) (hts _ wc_objInit) rfl h4.2.1 rfl hd hf.1 (by have h5 := lv_room (m := m) (pc := pc) (ls := ls) (rest := .ref a :: st) hrest; exact Nat.le_trans (Nat.add_le_add_right h5 12) hf.2) (kk H locs ls h1 h2 h3 h4)
theorem x_max (q : Nat) (C : hCx E K cc n own nm R) {idx : Nat} {x y : Int32} (hl : Cond.methodLink own idx Lib.Math.max.name ∈ WA) (hd : decode cc pc = .ok (.invokestatic idx, 3)) (hf : 1 ≤ R.frames ∧ 21 ≤ R.locals ∧ cells ≤ R.cells ∧ slots ≤ R.slots) (hrest : (st.map fun v => v.category).sum ≤ 8) (hq : pc + 3 = q) (kk : hX E cells slots q lo (.int (if x < y then y else x) :: st) M) : hX E cells slots pc lo (.int y :: .int x :: st) M := by
  obtain ⟨p, e, R', s, m, args, below, meth, c, Q, A, K'⟩ := E
  obtain ⟨rfl, rfl, hx, hb, hml, hown, hts, hg, hA, hlk, hnm⟩ := C
  subst hq
  intro H locs ls h1 h2 h3 h4
  exact va_mmax hx hb h4.2.1.symm hown (hts _ hl) (hts _ ws_max) (hts _ wi_Math) (hts _ wc_max) hf.1 (Nat.le_trans (Nat.add_le_add_right hrest 13) hf.2.1) hf.2.2.1 hf.2.2.2 hd (kk H locs ls h1 h2 h3 h4)
/-! calls -/
theorem h_run {p : Program} {e : Env} {R' : Room} {s : State} {m : MethodId} {args : Array Value} {below : List Frame} {meth : Method} {c : Code} {Q : State → Prop} {A : Nat → Prop} {H : Heap} {locs : List Loc} {ls : Array Slot} {st0 rest : List Value} {mc ms : Nat} {post : Option Value → hM → Prop} {a : Array Value}
    (hAA : ∀ q : Nat, s.heap.size ≤ q → A q) (h1 : hOk K M H) (h2 : ∀ a, M a ≠ none → A a) (h3 : va_S A s.heap H locs) (h4 : hL ls c.maxLocals lo)
    (hr : va_Run p K.1 e R' s m args below meth c H locs cells slots mc ms (F0 m pc ls st0) rest (hQ K post (hA M H.size) a) (hA M H.size))
    (kk : ∀ (v : Option Value) (M' : hM), post v M' → hX (p, e, R', s, m, args, below, meth, c, Q, A, K) (cells + mc) (slots + ms) (pc + 3) lo (v.toList ++ rest) M') : W p K.1 e R' s m args below meth c H locs cells slots Q (F0 m pc ls st0) := by
  intro T hT X
  obtain ⟨v, st₀, t, T', L, h0, X', hL, e1, e2, ⟨⟨v', M', hv, hp, hok, hdom⟩, hz, hk⟩, stp⟩ := hr T hT X
  cases hv
  rw [h0] at hz hk
  have hsub : ∀ q, hA M H.size q → A q := fun q hq => hq.elim (h2 q) (fun z => hAA q (Nat.le_trans h3.1 z))
  obtain ⟨t2, a1, b1⟩ := kk v M' hp T'.heap (locs ++ L) ls (by rw [e1]; exact hok) (fun b hb => hsub b (hdom b hb))
    ⟨Nat.le_trans h3.1 (by rw [e1]; exact hz), fun q g1 g2 => by rw [e1, hk q (Nat.lt_of_lt_of_le g1 h3.1) (fun z => g2 (hsub q z))]; exact h3.2.1 q g1 g2, fun q hq => by
      rcases List.mem_append.mp hq with h | h
      · exact h3.2.2 q h
      · exact hsub _ (hL q h)⟩ h4 T' rfl X'
  exact ⟨t2, stp t2 a1, b1⟩
theorem hPc.of {s : State} {H : Heap} {av : List Value} (h1 : hOk K M H) (hg : hG K s) : ∀ U : State, U.heap = H → s.WarmedH U.vm → hPc K M av H.size av.toArray U :=
  fun U hU hW => ⟨rfl, by rw [hU], by rw [hU]; exact h1, hg.warm hW⟩
theorem x_callS {Y : hYd} {np idx : Nat} {R2 : Room} {As rest : List Value} {post : Option Value → hM → Prop} (q : Nat) (C : hCx E K cc n own nm R) (hc : hC K Y R2 As M post) (hy : hYf Y np) (hs : Cond.static Y.1 ∈ WA) (hl : hLk own idx Y.1) (hd : decode cc pc = .ok (.invokestatic idx, 3)) (hn : As.length = np) (hrm : R2.frames + 1 ≤ R.frames ∧ 8 + (Y.2.2.1 + 11) + R2.locals ≤ R.locals) (hcs : cells + R2.cells ≤ R.cells ∧ slots + R2.slots ≤ R.slots) (hrest : (rest.map fun v => v.category).sum ≤ 8) (hq : pc + 3 = q)
    (kk : ∀ (v : Option Value) (M' : hM), post v M' → hX E (cells + R2.cells) (slots + R2.slots) q lo (v.toList ++ rest) M') : hX E cells slots pc lo (As.reverse ++ rest) M := by
  obtain ⟨p, e, R', s, m, args, below, meth, c, Q, A, K'⟩ := E
  obtain ⟨rfl, rfl, hx, hb, hml, hown, hts, hg, hA, hlk, hnm⟩ := C
  subst hq
  intro H locs ls h1 h2 h3 h4
  have hG := hWs_good hy
  rcases hl with hl | hl
  · exact h_run hA h1 h2 h3 h4 (va_runS ⟨hx, hb, hml, hown, hts⟩ (hc H.size) ⟨callB_of np hts hG rfl rfl rfl (hts _ hy.2.1) (hts _ hl) hy.2.2 hrm, hts _ hs⟩ ⟨hPc.blind, hPc.of h1 hg⟩ rfl hn (by rw [← hml]; exact h4.2.1) rfl (lv_room hrest) hd hcs) kk
  · exact h_run hA h1 h2 h3 h4 (va_runSN (host := "RootRows") ⟨hx, hb, hml, hown, hts⟩ (hc H.size) ⟨va_cnB np hts hG rfl rfl rfl (hg.2.1 _ hl) (hts _ hy.2.1) hy.2.2 hrm, hts _ hs, trivial⟩ ⟨hPc.blind, hPc.of h1 hg⟩ rfl hn (by rw [← hml]; exact h4.2.1) rfl (lv_room hrest) hd hcs) kk
theorem h_recv {s : State} {H : Heap} {b t ci : Nat} {fs : List Value} {Cn : String} {T : u_T} {N : Nat} (h1 : hOk K M H) (hg : hG K s) (hM : M b = some (t, eO ci fs)) (hci : vwCl[ci]? = some (Cn, T, N)) : ∃ cell : Cell, H[b]? = some cell ∧ cell.vm.isStatics = false ∧ s.vm.findClass Cn = some cell.cls := va_recv hg.1 (va_P1 (h1 b t _ hM)) hci (q0 := 0) rfl
theorem x_callV {Y : hYd} {np idx ci b t N : Nat} {T : u_T} {fs : List Value} {R2 : Room} {As rest : List Value} {post : Option Value → hM → Prop} (q : Nat) (C : hCx E K cc n own nm R) (hc : hC K Y R2 (.ref b :: As) M post) (hMb : M b = some (t, eO ci fs)) (hci : vwCl[ci]? = some (Y.1.cls, T, N)) (hy : hYf Y np) (hi : Cond.instanceMethod Y.1 ∈ WA) (hsel : Cond.selects Y.1.cls Y.1 Y.1 ∈ WA) (hl : hLk own idx Y.1) (hd : decode cc pc = .ok (.invokevirtual idx, 3)) (hn : As.length = np) (hrm : R2.frames + 1 ≤ R.frames ∧ 8 + (Y.2.2.1 + 11) + R2.locals ≤ R.locals) (hcs : cells + R2.cells ≤ R.cells ∧ slots + R2.slots ≤ R.slots) (hrest : (rest.map fun v => v.category).sum ≤ 8) (hq : pc + 3 = q)
    (kk : ∀ (v : Option Value) (M' : hM), post v M' → hX E (cells + R2.cells) (slots + R2.slots) q lo (v.toList ++ rest) M') : hX E cells slots pc lo (As.reverse ++ .ref b :: rest) M := by
  obtain ⟨p, e, R', s, m, args, below, meth, c, Q, A, K'⟩ := E
  obtain ⟨rfl, rfl, hx, hb, hml, hown, hts, hg, hA, hlk, hnm⟩ := C
  subst hq
  intro H locs ls h1 h2 h3 h4
  have hG := hWs_good hy
  rcases hl with hl | hl
  · exact h_run hA h1 h2 h3 h4 (va_runV ⟨hx, hb, hml, hown, hts⟩ (hc H.size) ⟨callB_of np hts hG rfl rfl rfl (hts _ hy.2.1) (hts _ hl) hy.2.2 hrm, hts _ hi, hts _ hsel⟩ ⟨hPc.blind, h_recv h1 hg hMb hci, hPc.of h1 hg⟩ rfl hn (by rw [← hml]; exact h4.2.1) rfl (lv_room hrest) hd hcs) kk
  · exact h_run hA h1 h2 h3 h4 (va_runVN (host := "RootRows") ⟨hx, hb, hml, hown, hts⟩ (hc H.size) ⟨va_cnB np hts hG rfl rfl rfl (hg.2.1 _ hl) (hts _ hy.2.1) hy.2.2 hrm, hts _ hi, hts _ hsel⟩ ⟨hPc.blind, h_recv h1 hg hMb hci, hPc.of h1 hg⟩ rfl hn (by rw [← hml]; exact h4.2.1) rfl (lv_room hrest) hd hcs) kk
theorem x_callI {Y : hYd} {np idx b : Nat} {R2 : Room} {As rest : List Value} {post : Option Value → hM → Prop} (q : Nat) (C : hCx E K cc n own nm R) (hc : hC K Y R2 (.ref b :: As) M post) (hret : Y.2.2.2 = none) (hini : Y.1.name = "<init>") (hy : hYf Y np) (hi : Cond.instanceMethod Y.1 ∈ WA) (hl : hLk own idx Y.1) (hd : decode cc pc = .ok (.invokespecial idx, 3)) (hn : As.length = np) (hrm : R2.frames + 1 ≤ R.frames ∧ 8 + (Y.2.2.1 + 11) + R2.locals ≤ R.locals) (hcs : cells + R2.cells ≤ R.cells ∧ slots + R2.slots ≤ R.slots) (hrest : (rest.map fun v => v.category).sum ≤ 8) (hq : pc + 3 = q)
    (kk : ∀ (v : Option Value) (M' : hM), post v M' → hX E (cells + R2.cells) (slots + R2.slots) q lo (v.toList ++ rest) M') : hX E cells slots pc lo (As.reverse ++ .ref b :: rest) M := by
  obtain ⟨p, e, R', s, m, args, below, meth, c, Q, A, K'⟩ := E
  obtain ⟨rfl, rfl, hx, hb, hml, hown, hts, hg, hA, hlk, hnm⟩ := C
  subst hq
  obtain ⟨y, bts, mL, rt⟩ := Y
  cases hret
  intro H locs ls h1 h2 h3 h4
  have hG := hWs_good hy
  rcases hl with hl | hl
  · exact h_run hA h1 h2 h3 h4 (va_runI ⟨hx, hb, hml, hown, hts⟩ (hc H.size) ⟨callB_of np hts hG rfl rfl rfl (hts _ hy.2.1) (hts _ hl) hy.2.2 hrm, hini, hts _ hi⟩ ⟨hPc.blind, hPc.of h1 hg⟩ rfl hn (by rw [← hml]; exact h4.2.1) rfl (lv_room hrest) hd hcs) kk
  · exact h_run hA h1 h2 h3 h4 (va_runIN (host := "RootRows") ⟨hx, hb, hml, hown, hts⟩ (hc H.size) ⟨va_cnB np hts hG rfl rfl rfl (hg.2.1 _ hl) (hts _ hy.2.1) hy.2.2 hrm, hini, hts _ hi⟩ ⟨hPc.blind, hPc.of h1 hg⟩ rfl hn (by rw [← hml]; exact h4.2.1) rfl (lv_room hrest) hd hcs) kk
/-! what a method answers -/
def hPi (P : Int32 → hM → Prop) : Option Value → hM → Prop := fun v M => ∃ r, v = some (.int r) ∧ P r M
def hPl (P : Int64 → hM → Prop) : Option Value → hM → Prop := fun v M => ∃ r, v = some (.long r) ∧ P r M
def hPv (P : hM → Prop) : Option Value → hM → Prop := fun v M => v = none ∧ P M
def hPq (P : Option Nat → hM → Prop) : Option Value → hM → Prop := fun v M => ∃ r, v = some (va_rf r) ∧ P r M
theorem k_i {P : Int32 → hM → Prop} (h : ∀ r M', P r M' → hX E cells slots pc lo (.int r :: st) M') : ∀ v M', hPi P v M' → hX E cells slots pc lo (v.toList ++ st) M' := fun v M' ⟨r, hr, hp⟩ => by subst hr; exact h r M' hp
theorem k_l {P : Int64 → hM → Prop} (h : ∀ r M', P r M' → hX E cells slots pc lo (.long r :: st) M') : ∀ v M', hPl P v M' → hX E cells slots pc lo (v.toList ++ st) M' := fun v M' ⟨r, hr, hp⟩ => by subst hr; exact h r M' hp
theorem k_v {P : hM → Prop} (h : ∀ M', P M' → hX E cells slots pc lo st M') : ∀ v M', hPv P v M' → hX E cells slots pc lo (v.toList ++ st) M' := fun v M' ⟨hr, hp⟩ => by subst hr; exact h M' hp
theorem k_q {P : Option Nat → hM → Prop} (h : ∀ r M', P r M' → hX E cells slots pc lo (va_rf r :: st) M') : ∀ v M', hPq P v M' → hX E cells slots pc lo (v.toList ++ st) M' := fun v M' ⟨r, hr, hp⟩ => by subst hr; exact h r M' hp
theorem k_ip {r0 : Int32} (h : hX E cells slots pc lo (.int r0 :: st) M) : ∀ v M', hPi (fun r M' => r = r0 ∧ M' = M) v M' → hX E cells slots pc lo (v.toList ++ st) M' := fun v M' ⟨r, hr, hp⟩ => by obtain ⟨h1, h2⟩ := hp; subst hr; subst h1; subst h2; exact h
theorem k_lp {r0 : Int64} (h : hX E cells slots pc lo (.long r0 :: st) M) : ∀ v M', hPl (fun r M' => r = r0 ∧ M' = M) v M' → hX E cells slots pc lo (v.toList ++ st) M' := fun v M' ⟨r, hr, hp⟩ => by obtain ⟨h1, h2⟩ := hp; subst hr; subst h1; subst h2; exact h
theorem k_qp {r0 : Option Nat} (h : hX E cells slots pc lo (va_rf r0 :: st) M) : ∀ v M', hPq (fun r M' => r = r0 ∧ M' = M) v M' → hX E cells slots pc lo (v.toList ++ st) M' := fun v M' ⟨r, hr, hp⟩ => by obtain ⟨h1, h2⟩ := hp; subst hr; subst h1; subst h2; exact h
/-- no new cells -/
theorem k_0 {mc ms : Nat} {post : Option Value → hM → Prop} (h1 : mc = 0) (h2 : ms = 0) (h : ∀ v M', post v M' → hX E cells slots pc lo (v.toList ++ st) M') : ∀ v M', post v M' → hX E (cells + mc) (slots + ms) pc lo (v.toList ++ st) M' := by
  subst h1; subst h2; exact h
/-! returns -/
theorem x_ireturn {ty : FieldType} {post : Option Value → hM → Prop} {v : Int32} (C : hCx E K cc n own nm R) (Rt : hRt E K (some ty) R post) (hd : decode cc pc = .ok (.ireturn, 1)) (hn : narrow ty (.int v) = .int v) (hcs : cells ≤ R.cells ∧ slots ≤ R.slots) (hp : post (some (.int v)) M) : hX E cells slots pc lo [.int v] M := by
  obtain ⟨p, e, R', s, m, args, below, meth, c, Q, A, K'⟩ := E
  obtain ⟨rfl, rfl, hx, hb, hml, hown, hts, hg, hA, hlk, hnm⟩ := C
  obtain ⟨hr, hQ⟩ := Rt
  subst hQ
  intro H locs ls h1 h2 h3 h4
  refine W.widen hcs.1 hcs.2 ?_
  exact W.zret hx hb hr hn (fun t ht hW => ⟨⟨_, M, rfl, hp, by rw [ht]; exact h1, h2⟩, h3.F ht⟩) h3.2.2 hd hlk
theorem x_lreturn {post : Option Value → hM → Prop} {v : Int64} (C : hCx E K cc n own nm R) (Rt : hRt E K (some .long) R post) (hd : decode cc pc = .ok (.lreturn, 1)) (hcs : cells ≤ R.cells ∧ slots ≤ R.slots) (hp : post (some (.long v)) M) : hX E cells slots pc lo [.long v] M := by
  obtain ⟨p, e, R', s, m, args, below, meth, c, Q, A, K'⟩ := E
  obtain ⟨rfl, rfl, hx, hb, hml, hown, hts, hg, hA, hlk, hnm⟩ := C
  obtain ⟨hr, hQ⟩ := Rt
  subst hQ
  intro H locs ls h1 h2 h3 h4
  refine W.widen hcs.1 hcs.2 ?_
  exact W.lret hx hb hr (fun t ht hW => ⟨⟨_, M, rfl, hp, by rw [ht]; exact h1, h2⟩, h3.F ht⟩) h3.2.2 hd hlk
theorem x_vreturn {post : Option Value → hM → Prop} (C : hCx E K cc n own nm R) (Rt : hRt E K none R post) (hd : decode cc pc = .ok (.return_, 1)) (hcs : cells ≤ R.cells ∧ slots ≤ R.slots) (hp : post none M) : hX E cells slots pc lo [] M := by
  obtain ⟨p, e, R', s, m, args, below, meth, c, Q, A, K'⟩ := E
  obtain ⟨rfl, rfl, hx, hb, hml, hown, hts, hg, hA, hlk, hnm⟩ := C
  obtain ⟨hr, hQ⟩ := Rt
  subst hQ
  intro H locs ls h1 h2 h3 h4
  refine W.widen hcs.1 hcs.2 ?_
  exact W.vret hx hb hr (fun t ht hW => ⟨⟨_, M, rfl, hp, by rw [ht]; exact h1, h2⟩, h3.F ht⟩) h3.2.2 hd hlk
theorem x_qreturn {post : Option Value → hM → Prop} {nmC : String} {v : Option Nat} (C : hCx E K cc n own nm R) (Rt : hRt E K (some (.object nmC)) R post) (hd : decode cc pc = .ok (.areturn, 1)) (hcs : cells ≤ R.cells ∧ slots ≤ R.slots) (hp : post (some (va_rf v)) M) : hX E cells slots pc lo [va_rf v] M := by
  obtain ⟨p, e, R', s, m, args, below, meth, c, Q, A, K'⟩ := E
  obtain ⟨rfl, rfl, hx, hb, hml, hown, hts, hg, hA, hlk, hnm⟩ := C
  obtain ⟨hr, hQ⟩ := Rt
  subst hQ
  intro H locs ls h1 h2 h3 h4
  refine W.widen hcs.1 hcs.2 ?_
  exact W.aret hx hb hr (Or.inl ⟨_, rfl⟩) (va_rf_or v) (fun t ht hW => ⟨⟨_, M, rfl, hp, by rw [ht]; exact h1, h2⟩, h3.F ht⟩) h3.2.2 hd hlk
end Rows2
