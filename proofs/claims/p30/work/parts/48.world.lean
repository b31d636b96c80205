/-! the class's world -/
theorem hC.post {K : hKv} {Y : hYd} {R : Room} {av : List Value} {M : hM} {post post' : Option Value → hM → Prop} (h : hC K Y R av M post) (hp : ∀ v M', post v M' → post' v M') : hC K Y R av M post' := by
  intro sz p e ha hc hk s m args below hf happ hP hK
  obtain ⟨n, o, h1, h2, h3, ⟨⟨v, M', e1, e2, e3, e4⟩, e5⟩, e6⟩ := h sz p e ha hc hk s m args below hf happ hP hK
  exact ⟨n, o, h1, h2, h3, ⟨⟨v, M', e1, hp _ _ e2, e3, e4⟩, e5⟩, e6⟩
section RowsQ
variable {E : hEv} {K : hKv} {cc : ByteArray} {n : Nat} {own nm : String} {R : Room} {cells slots pc : Nat} {lo : List (Option Value)} {st : List Value} {M : hM}
theorem x_qstore_2 (q : Nat) (C : hCx E K cc n own nm R) {a0 a1 : Option Value} {r : List (Option Value)} {b : Option Value} {x : Option Nat} (hd : decode cc pc = .ok (.astore_n 2, 1)) (hq : pc + 1 = q) (hn : hNL a1 = true) (kk : hX E cells slots q (a0 :: a1 :: some (va_rf x) :: r) st M) : hX E cells slots pc (a0 :: a1 :: b :: r) (va_rf x :: st) M := by
  obtain ⟨p, e, R', s, m, args, below, meth, c, Q, A, K'⟩ := E
  obtain ⟨rfl, rfl, hx, hb, hml, hown, hts, hg, hA, hlk, hnm⟩ := C
  subst hq
  intro H locs ls h1 h2 h3 h4
  have hk : 2 < c.maxLocals := by have h := h4.1; simp only [List.length_cons] at h; omega
  cases x with
  | none => exact lv_astore_nN hx hb hd rfl h4.2 hk rfl (fun ls2 hl => kk H locs ls2 h1 h2 h3 (hL.st1 (k := 2) (v := .null) h4.1 hk (Or.inr ⟨1, _, rfl, rfl, hn⟩) hl))
  | some y => exact lv_astore_n hx hb hd rfl h4.2 hk rfl (fun ls2 hl => kk H locs ls2 h1 h2 h3 (hL.st1 (k := 2) (v := .ref y) h4.1 hk (Or.inr ⟨1, _, rfl, rfl, hn⟩) hl))
theorem x_qstore_3 (q : Nat) (C : hCx E K cc n own nm R) {a0 a1 a2 : Option Value} {r : List (Option Value)} {b : Option Value} {x : Option Nat} (hd : decode cc pc = .ok (.astore_n 3, 1)) (hq : pc + 1 = q) (hn : hNL a2 = true) (kk : hX E cells slots q (a0 :: a1 :: a2 :: some (va_rf x) :: r) st M) : hX E cells slots pc (a0 :: a1 :: a2 :: b :: r) (va_rf x :: st) M := by
  obtain ⟨p, e, R', s, m, args, below, meth, c, Q, A, K'⟩ := E
  obtain ⟨rfl, rfl, hx, hb, hml, hown, hts, hg, hA, hlk, hnm⟩ := C
  subst hq
  intro H locs ls h1 h2 h3 h4
  have hk : 3 < c.maxLocals := by have h := h4.1; simp only [List.length_cons] at h; omega
  cases x with
  | none => exact lv_astore_nN hx hb hd rfl h4.2 hk rfl (fun ls2 hl => kk H locs ls2 h1 h2 h3 (hL.st1 (k := 3) (v := .null) h4.1 hk (Or.inr ⟨2, _, rfl, rfl, hn⟩) hl))
  | some y => exact lv_astore_n hx hb hd rfl h4.2 hk rfl (fun ls2 hl => kk H locs ls2 h1 h2 h3 (hL.st1 (k := 3) (v := .ref y) h4.1 hk (Or.inr ⟨2, _, rfl, rfl, hn⟩) hl))
theorem x_qstore_4 (q : Nat) (C : hCx E K cc n own nm R) {a0 a1 a2 a3 : Option Value} {r : List (Option Value)} {b : Option Value} {x : Option Nat} (hd : decode cc pc = .ok (.astore 4, 2)) (hq : pc + 2 = q) (hn : hNL a3 = true) (kk : hX E cells slots q (a0 :: a1 :: a2 :: a3 :: some (va_rf x) :: r) st M) : hX E cells slots pc (a0 :: a1 :: a2 :: a3 :: b :: r) (va_rf x :: st) M := by
  obtain ⟨p, e, R', s, m, args, below, meth, c, Q, A, K'⟩ := E
  obtain ⟨rfl, rfl, hx, hb, hml, hown, hts, hg, hA, hlk, hnm⟩ := C
  subst hq
  intro H locs ls h1 h2 h3 h4
  have hk : 4 < c.maxLocals := by have h := h4.1; simp only [List.length_cons] at h; omega
  cases x with
  | none => exact lv_astoreN hx hb hd h4.2 hk rfl (fun ls2 hl => kk H locs ls2 h1 h2 h3 (hL.st1 (k := 4) (v := .null) h4.1 hk (Or.inr ⟨3, _, rfl, rfl, hn⟩) hl))
  | some y => exact lv_astore hx hb hd h4.2 hk rfl (fun ls2 hl => kk H locs ls2 h1 h2 h3 (hL.st1 (k := 4) (v := .ref y) h4.1 hk (Or.inr ⟨3, _, rfl, rfl, hn⟩) hl))
end RowsQ
def hsA (A : Nat → Nat) : Nat → Option Nat := fun i => if i < 6 then some (A (i + 1)) else none
theorem hsA_in {A : Nat → Nat} {i : Nat} (h : i < 6) : hsA A i = some (A (i + 1)) := if_pos h
def cW (K : hKv) (A : Nat → Nat) (z : Nat → Int32) (pd : Nat → Int32) (sl : Nat → Option Nat) (M : hM) : Prop := M (A 36) = some (37, xO A z) ∧ M (A 37) = some (38, eS K 6 (hsA A)) ∧ M (A 38) = some (39, eS K 2 sl) ∧ M (A 39) = some (40, eC K 60 pd)
theorem cW.obj {K : hKv} {A : Nat → Nat} {z : Nat → Int32} {pd : Nat → Int32} {sl : Nat → Option Nat} {M : hM} (h : cW K A z pd sl M) : M (A 36) = some (37, xO A z) := h.1
theorem cW.history {K : hKv} {A : Nat → Nat} {z : Nat → Int32} {pd : Nat → Int32} {sl : Nat → Option Nat} {M : hM} (h : cW K A z pd sl M) : M (A 37) = some (38, eS K 6 (hsA A)) := h.2.1
theorem cW.slots {K : hKv} {A : Nat → Nat} {z : Nat → Int32} {pd : Nat → Int32} {sl : Nat → Option Nat} {M : hM} (h : cW K A z pd sl M) : M (A 38) = some (39, eS K 2 sl) := h.2.2.1
theorem cW.pad {K : hKv} {A : Nat → Nat} {z : Nat → Int32} {pd : Nat → Int32} {sl : Nat → Option Nat} {M : hM} (h : cW K A z pd sl M) : M (A 39) = some (40, eC K 60 pd) := h.2.2.2
theorem cW.kept {K : hKv} {A : Nat → Nat} {z : Nat → Int32} {pd : Nat → Int32} {sl : Nat → Option Nat} {M : hM} (h : cW K A z pd sl M) {M2 : hM} {lo hi : Nat} (hf : hFr lo hi M M2) (hl : hi ≤ 37 ∨ 41 ≤ lo) : cW K A z pd sl M2 := ⟨hf _ _ _ (by omega) h.obj, hf _ _ _ (by omega) h.history, hf _ _ _ (by omega) h.slots, hf _ _ _ (by omega) h.pad⟩
section
variable {E : hEv} {K : hKv} {cells slots pc : Nat} {lo : List (Option Value)} {st : List Value} {M : hM}
theorem x_c_obj {A : Nat → Nat} {z : Nat → Int32} {pd : Nat → Int32} {sl : Nat → Option Nat} (h : cW K A z pd sl M) {z2 : Nat → Int32} (kk : ∀ M' : hM, cW K A z2 pd sl M' → hFr 37 41 M M' → hX E cells slots pc lo st M') : hX E cells slots pc lo st (hU M (A 36) 37 (xO A z2)) := kk _ ⟨hU_s, (hU_n (hT_ne h.history h.obj (by decide))).trans h.history, (hU_n (hT_ne h.slots h.obj (by decide))).trans h.slots, (hU_n (hT_ne h.pad h.obj (by decide))).trans h.pad⟩ (hFr.put h.obj (by decide))
theorem x_c_slots {A : Nat → Nat} {z : Nat → Int32} {pd : Nat → Int32} {sl : Nat → Option Nat} (h : cW K A z pd sl M) {sl2 : Nat → Option Nat} (kk : ∀ M' : hM, cW K A z pd sl2 M' → hFr 37 41 M M' → hX E cells slots pc lo st M') : hX E cells slots pc lo st (hU M (A 38) 39 (eS K 2 sl2)) := kk _ ⟨(hU_n (hT_ne h.obj h.slots (by decide))).trans h.obj, (hU_n (hT_ne h.history h.slots (by decide))).trans h.history, hU_s, (hU_n (hT_ne h.pad h.slots (by decide))).trans h.pad⟩ (hFr.put h.slots (by decide))
theorem x_c_pad {A : Nat → Nat} {z : Nat → Int32} {pd : Nat → Int32} {sl : Nat → Option Nat} (h : cW K A z pd sl M) {pd2 : Nat → Int32} (kk : ∀ M' : hM, cW K A z pd2 sl M' → hFr 37 41 M M' → hX E cells slots pc lo st M') : hX E cells slots pc lo st (hU M (A 39) 40 (eC K 60 pd2)) := kk _ ⟨(hU_n (hT_ne h.obj h.pad (by decide))).trans h.obj, (hU_n (hT_ne h.history h.pad (by decide))).trans h.history, (hU_n (hT_ne h.slots h.pad (by decide))).trans h.slots, hU_s⟩ (hFr.put h.pad (by decide))
end
theorem hFr.eqp {lo hi : Nat} {M M1 : hM} {a u : Nat} {x e : va_E} (ha : M a = some (u, x)) (h : M1 = hU M a u e) (hu : lo ≤ u ∧ u < hi) : hFr lo hi M M1 := by rw [h]; exact hFr.put ha hu
theorem hFr.eqn {lo hi : Nat} {M M1 : hM} {a u : Nat} {e : va_E} (ha : M a = none) (h : M1 = hU M a u e) : hFr lo hi M M1 := by rw [h]; exact hFr.new ha
theorem cfr {lo hi : Nat} {M M1 : hM} (h : hFr lo hi M M1) (hl : 1 ≤ lo ∧ hi ≤ 100) : hFr 1 100 M M1 := h.mono hl.1 hl.2
/-- a formula's place: null where there is no formula -/
def frW (K : hKv) (M : hM) (o : Option Nat) (L : List (Nat × Nat)) : Prop := (o = none ∧ L = []) ∨ ∃ y b f, o = some y ∧ L ≠ [] ∧ M y = some (0, eO 0 [.ref b]) ∧ M b = some (0, eI K L.length f) ∧ ∀ k, k < L.length → f k = nI (cdS (L.getD k (0, 0)))
theorem frW.kept {K : hKv} {M M2 : hM} {o : Option Nat} {L : List (Nat × Nat)} {lo hi : Nat} (h : frW K M o L) (hf : hFr lo hi M M2) (hl : 0 < lo) : frW K M2 o L := by
  rcases h with h | ⟨y, b, f, h1, h2, h3, h4, h5⟩
  · exact Or.inl h
  · exact Or.inr ⟨y, b, f, h1, h2, hf _ _ _ (Or.inl hl) h3, hf _ _ _ (Or.inl hl) h4, h5⟩
theorem frW.some {K : hKv} {M : hM} {o : Option Nat} {L : List (Nat × Nat)} (h : frW K M o L) : o.isSome = !L.isEmpty := by
  rcases h with ⟨h1, h2⟩ | ⟨y, b, f, h1, h2, -⟩
  · rw [h1, h2]; rfl
  · rw [h1]; cases L with
    | nil => exact absurd rfl h2
    | cons => rfl
/-- a state of the class, opened -/
def stO (K : hKv) (M : hM) (t a : Nat) (τ : hS1) (a1 a2 a3 : Nat) (f : Nat → Int32) (g : Nat → Int64) (q : Nat → Option Nat) : Prop := M a = some (t, eO 4 [.ref a1, .ref a2, .ref a3]) ∧ M a1 = some (t + 1, eI K 2 f) ∧ M a2 = some (t + 2, eJ K 8 g) ∧ M a3 = some (t + 3, eF K 6 q) ∧ f 0 = nI τ.1 ∧ f 1 = nI τ.2.1 ∧ (∀ i, i < 8 → g i = lN (τ.2.2.1 i)) ∧ ∀ i, i < 6 → frW K M (q i) (τ.2.2.2 i)
def stW (K : hKv) (M : hM) (t a : Nat) (τ : hS1) : Prop := ∃ a1 a2 a3 f g q, stO K M t a τ a1 a2 a3 f g q
theorem stW.kept {K : hKv} {M M2 : hM} {t a lo hi : Nat} {τ : hS1} (h : stW K M t a τ) (hf : hFr lo hi M M2) (h0 : 0 < lo) (hl : hi ≤ t ∨ t + 4 ≤ lo) : stW K M2 t a τ := by
  obtain ⟨a1, a2, a3, f, g, q, s0, s1, s2, s3, e1, e2, e3, e4⟩ := h
  exact ⟨a1, a2, a3, f, g, q, hf _ _ _ (by omega) s0, hf _ _ _ (by omega) s1, hf _ _ _ (by omega) s2, hf _ _ _ (by omega) s3, e1, e2, e3, fun i hi => (e4 i hi).kept hf h0⟩
section St
variable {K : hKv} {M : hM} {t a a1 a2 a3 : Nat} {τ : hS1} {f : Nat → Int32} {g : Nat → Int64} {q : Nat → Option Nat}
theorem stO.rnd (h : stO K M t a τ a1 a2 a3 f g q) (h0 : 0 < t) (b : Nat) : stW K (hU M a1 (t + 1) (eI K 2 (va_up f 0 (nI b)))) t a (b, τ.2.1, τ.2.2) ∧ hFr t (t + 4) M (hU M a1 (t + 1) (eI K 2 (va_up f 0 (nI b)))) := by
  obtain ⟨s0, s1, s2, s3, e1, e2, e3, e4⟩ := h
  have fr : hFr t (t + 4) M (hU M a1 (t + 1) (eI K 2 (va_up f 0 (nI b)))) := hFr.put s1 (by omega)
  exact ⟨⟨a1, a2, a3, _, g, q, (hU_n (hT_ne s0 s1 (by omega))).trans s0, hU_s, (hU_n (hT_ne s2 s1 (by omega))).trans s2, (hU_n (hT_ne s3 s1 (by omega))).trans s3, va_up_self _ _ _, (va_up_ne _ _ (by decide)).trans e2, e3, fun i hi => (e4 i hi).kept fr h0⟩, fr⟩
theorem stO.dig (h : stO K M t a τ a1 a2 a3 f g q) (h0 : 0 < t) (b : Nat) : stW K (hU M a1 (t + 1) (eI K 2 (va_up f 1 (nI b)))) t a (τ.1, b, τ.2.2) ∧ hFr t (t + 4) M (hU M a1 (t + 1) (eI K 2 (va_up f 1 (nI b)))) := by
  obtain ⟨s0, s1, s2, s3, e1, e2, e3, e4⟩ := h
  have fr : hFr t (t + 4) M (hU M a1 (t + 1) (eI K 2 (va_up f 1 (nI b)))) := hFr.put s1 (by omega)
  exact ⟨⟨a1, a2, a3, _, g, q, (hU_n (hT_ne s0 s1 (by omega))).trans s0, hU_s, (hU_n (hT_ne s2 s1 (by omega))).trans s2, (hU_n (hT_ne s3 s1 (by omega))).trans s3, (va_up_ne _ _ (by decide)).trans e1, va_up_self _ _ _, e3, fun i hi => (e4 i hi).kept fr h0⟩, fr⟩
theorem stO.cel (h : stO K M t a τ a1 a2 a3 f g q) (h0 : 0 < t) (c v : Nat) : stW K (hU M a2 (t + 2) (eJ K 8 (va_up g c (lN v)))) t a (τ.1, τ.2.1, va_up τ.2.2.1 c v, τ.2.2.2) ∧ hFr t (t + 4) M (hU M a2 (t + 2) (eJ K 8 (va_up g c (lN v)))) := by
  obtain ⟨s0, s1, s2, s3, e1, e2, e3, e4⟩ := h
  have fr : hFr t (t + 4) M (hU M a2 (t + 2) (eJ K 8 (va_up g c (lN v)))) := hFr.put s2 (by omega)
  refine ⟨⟨a1, a2, a3, f, _, q, (hU_n (hT_ne s0 s2 (by omega))).trans s0, (hU_n (hT_ne s1 s2 (by omega))).trans s1, hU_s, (hU_n (hT_ne s3 s2 (by omega))).trans s3, e1, e2, fun i hi => ?_, fun i hi => (e4 i hi).kept fr h0⟩, fr⟩
  show va_up g c (lN v) i = lN (va_up τ.2.2.1 c v i)
  unfold va_up
  split
  · rfl
  · exact e3 i hi
theorem stO.frm (h : stO K M t a τ a1 a2 a3 f g q) (h0 : 0 < t) (j y : Nat) {L : List (Nat × Nat)} (hL : frW K M (some y) L) : stW K (hU M a3 (t + 3) (eF K 6 (va_up q j (some y)))) t a (τ.1, τ.2.1, τ.2.2.1, va_up τ.2.2.2 j L) ∧ hFr t (t + 4) M (hU M a3 (t + 3) (eF K 6 (va_up q j (some y)))) := by
  obtain ⟨s0, s1, s2, s3, e1, e2, e3, e4⟩ := h
  have fr : hFr t (t + 4) M (hU M a3 (t + 3) (eF K 6 (va_up q j (some y)))) := hFr.put s3 (by omega)
  refine ⟨⟨a1, a2, a3, f, g, _, (hU_n (hT_ne s0 s3 (by omega))).trans s0, (hU_n (hT_ne s1 s3 (by omega))).trans s1, (hU_n (hT_ne s2 s3 (by omega))).trans s2, hU_s, e1, e2, e3, fun i hi => ?_⟩, fr⟩
  show frW K _ (va_up q j (some y) i) (va_up τ.2.2.2 j L i)
  unfold va_up
  split
  · exact hL.kept fr h0
  · exact (e4 i hi).kept fr h0
theorem stO.ref (h : stO K M t a τ a1 a2 a3 f g q) : ∀ i, i < 6 → ∀ y, q i = some y → ∃ u vs, M y = some (u, eO 0 vs) := by
  intro i hi y hy
  rcases h.2.2.2.2.2.2.2 i hi with ⟨h1, -⟩ | ⟨y2, b, f2, h1, -, h3, -⟩
  · rw [h1] at hy; cases hy
  · rw [h1] at hy; cases hy; exact ⟨_, _, h3⟩
end St
/-- a state becomes another one -/
theorem c_become (K : hKv) (M : hM) {t a t2 a2 : Nat} {τ τ2 : hS1} (S : stW K M t a τ) (S2 : stW K M t2 a2 τ2) (h0 : 0 < t) (ht : t + 4 ≤ t2 ∨ t2 + 4 ≤ t) : hC K Y_X4_become rm_X4_become [.ref a, .ref a2] M (hPv fun M' => stW K M' t a τ2 ∧ hFr t (t + 4) M M') := by
  obtain ⟨x1, x2, x3, f, g, q, s0, s1, s2, s3, -⟩ := S
  obtain ⟨y1, y2, y3, f2, g2, q2, P⟩ := S2
  have hq := P.ref
  obtain ⟨p0, p1, p2, p3, e1, e2, e3, e4⟩ := P
  refine hC.post (c_X4_become K M s0 s1 s2 s3 p0 p1 p2 p3 (hT_ne p1 s1 (by omega)) (hT_ne p2 s2 (by omega)) (hT_ne p3 s3 (by omega)) hq) ?_
  rintro v M' ⟨rfl, rfl⟩
  have fr : hFr t (t + 4) M (hU (hU (hU M x1 (t + 1) (eI K 2 (cpy f f2 2))) x2 (t + 2) (eJ K 8 (cpy g g2 8))) x3 (t + 3) (eF K 6 (cpy q q2 6))) := by
    have u2 := (hU_n (e := eI K 2 (cpy f f2 2)) (t := t + 1) (hT_ne s2 s1 (by omega))).trans s2
    have u3 := (hU_n (e := eJ K 8 (cpy g g2 8)) (t := t + 2) (hT_ne s3 s2 (by omega))).trans ((hU_n (e := eI K 2 (cpy f f2 2)) (t := t + 1) (hT_ne s3 s1 (by omega))).trans s3)
    exact ((hFr.put s1 (by omega)).tr (hFr.put u2 (by omega))).tr (hFr.put u3 (by omega))
  refine ⟨rfl, ⟨x1, x2, x3, cpy f f2 2, cpy g g2 8, cpy q q2 6, ?_, ?_, ?_, hU_s, ?_, ?_, fun i hi => ?_, fun i hi => ?_⟩, fr⟩
  · rw [hU_n (hT_ne s0 s3 (by omega)), hU_n (hT_ne s0 s2 (by omega)), hU_n (hT_ne s0 s1 (by omega))]; exact s0
  · rw [hU_n (hT_ne s1 s3 (by omega)), hU_n (hT_ne s1 s2 (by omega)), hU_s]
  · rw [hU_n (hT_ne s2 s3 (by omega)), hU_s]
  · rw [cpy_in (by decide)]; exact e1
  · rw [cpy_in (by decide)]; exact e2
  · rw [cpy_in hi]; exact e3 i hi
  · rw [cpy_in hi]; exact (e4 i hi).kept fr h0
/-- the history's states, the slots' states, the inner objects -/
def cH (K : hKv) (A : Nat → Nat) (M : hM) (h : Nat → hS1) : Prop := ∀ j, j < 6 → stW K M (4 * j + 13) (A (j + 1)) (h j)
theorem cH.kept {K : hKv} {A : Nat → Nat} {M M2 : hM} {h : Nat → hS1} {lo hi : Nat} (H : cH K A M h) (hf : hFr lo hi M M2) (h0 : 0 < lo) (hl : hi ≤ 13 ∨ 37 ≤ lo) : cH K A M2 h := fun j hj => (H j hj).kept hf h0 (by omega)
def cSl (K : hKv) (M : hM) (sl : Nat → Option Nat) (s : Nat → Option hS1) : Prop := ∀ j, j < 2 → (s j = none → sl j = none) ∧ ∀ τ, s j = some τ → ∃ a, sl j = some a ∧ stW K M (4 * j + 1) a τ
theorem cSl.kept {K : hKv} {M M2 : hM} {sl : Nat → Option Nat} {s : Nat → Option hS1} {lo hi : Nat} (H : cSl K M sl s) (hf : hFr lo hi M M2) (h0 : 0 < lo) (hl : hi ≤ 1 ∨ 9 ≤ lo) : cSl K M2 sl s := fun j hj => ⟨(H j hj).1, fun τ hτ => by
  obtain ⟨a, h1, h2⟩ := (H j hj).2 τ hτ
  exact ⟨a, h1, h2.kept hf h0 (by omega)⟩⟩
/-- the slots' states but one -/
def cS1 (K : hKv) (M : hM) (sl : Nat → Option Nat) (so : Nat → Option hS1) (s : Nat) : Prop := ∀ j, j < 2 → j ≠ s → (so j = none → sl j = none) ∧ ∀ τ, so j = some τ → ∃ a, sl j = some a ∧ stW K M (4 * j + 1) a τ
theorem cSl.out {K : hKv} {M : hM} {sl : Nat → Option Nat} {so : Nat → Option hS1} (H : cSl K M sl so) (s : Nat) : cS1 K M sl so s := fun j hj _ => H j hj
theorem cS1.kept {K : hKv} {M M2 : hM} {sl : Nat → Option Nat} {so : Nat → Option hS1} {s lo hi : Nat} (H : cS1 K M sl so s) (hf : hFr lo hi M M2) (h0 : 0 < lo) (hs : s < 2) (hl : (hi ≤ 1 ∨ 9 ≤ lo) ∨ (4 * s + 1 ≤ lo ∧ hi ≤ 4 * s + 5)) : cS1 K M2 sl so s := fun j hj hjs => ⟨(H j hj hjs).1, fun τ hτ => by
  obtain ⟨a, h1, h2⟩ := (H j hj hjs).2 τ hτ
  exact ⟨a, h1, h2.kept hf h0 (by omega)⟩⟩
theorem cS1.put {K : hKv} {M : hM} {sl : Nat → Option Nat} {so : Nat → Option hS1} {s y : Nat} {τ : hS1} (H : cS1 K M sl so s) (S : stW K M (4 * s + 1) y τ) : cSl K M (va_up sl s (some y)) (va_up so s (some τ)) := fun j hj => by
  by_cases e : j = s
  · subst e
    rw [va_up_self, va_up_self]
    exact ⟨fun q => (by cases q), fun τ q => (by cases q; exact ⟨y, rfl, S⟩)⟩
  · rw [va_up_ne _ _ e, va_up_ne _ _ e]
    exact H j hj e
def cIR (K : hKv) (A : Nat → Nat) (M : hM) : Prop := ∃ z F, rW K A z F M
def cIK (K : hKv) (A : Nat → Nat) (M : hM) : Prop := ∃ z G, kW K A z G M
def cIG (A : Nat → Nat) (M : hM) : Prop := ∃ z y, gW A z y M
theorem cIR.kept {K : hKv} {A : Nat → Nat} {M M2 : hM} {lo hi : Nat} (h : cIR K A M) (hf : hFr lo hi M M2) (hl : hi ≤ 41 ∨ 44 ≤ lo) : cIR K A M2 := by
  obtain ⟨z, F, h⟩ := h
  exact ⟨z, F, h.kept hf hl⟩
theorem cIK.kept {K : hKv} {A : Nat → Nat} {M M2 : hM} {lo hi : Nat} (h : cIK K A M) (hf : hFr lo hi M M2) (hl : hi ≤ 44 ∨ 47 ≤ lo) : cIK K A M2 := by
  obtain ⟨z, F, h⟩ := h
  exact ⟨z, F, h.kept hf hl⟩
theorem cIG.kept {A : Nat → Nat} {M M2 : hM} {lo hi : Nat} (h : cIG A M) (hf : hFr lo hi M M2) (hl : hi ≤ 47 ∨ 48 ≤ lo) : cIG A M2 := by
  obtain ⟨z, F, h⟩ := h
  exact ⟨z, F, h.kept hf hl⟩
/-- what the numbers, the pad and the history say -/
def cRl (z : Nat → Int32) (pd : Nat → Int32) (h : Nat → hS1) (σ : hSt) : Prop := z 0 = nI σ.2.2.2.length ∧ padM pd σ.2.2.2 ∧ z 2 = nI σ.2.1.1 ∧ ∃ o, o < 6 ∧ z 1 = nI o ∧ ∀ i, i < σ.2.1.1 → h ((o + i) % 6) = σ.2.1.2 i
/-- the class holds the state -/
def cX (K : hKv) (A : Nat → Nat) (σ : hSt) (M : hM) : Prop := ∃ z pd sl h, cW K A z pd sl M ∧ cRl z pd h σ ∧ stW K M 9 (A 0) σ.1 ∧ cH K A M h ∧ cSl K M sl σ.2.2.1 ∧ cIR K A M ∧ cIK K A M ∧ cIG A M
theorem cX.kept {K : hKv} {A : Nat → Nat} {σ : hSt} {M M2 : hM} (X : cX K A σ M) (hf : hFr 100 200 M M2) : cX K A σ M2 := by
  obtain ⟨z, pd, sl, h, W, hc, N, H, SL, IR, IK, IG⟩ := X
  exact ⟨z, pd, sl, h, W.kept hf (by decide), hc, N.kept hf (by decide) (by decide), H.kept hf (by decide) (by decide), SL.kept hf (by decide) (by decide), IR.kept hf (by decide), IK.kept hf (by decide), IG.kept hf (by decide)⟩
def cP (K : hKv) (A : Nat → Nat) (M : hM) (σ : hSt) (M' : hM) : Prop := cX K A σ M' ∧ hFr 1 100 M M'
/-- which formula a place names -/
theorem fo_F {K : hKv} {M : hM} {τ : hS1} {q : Nat → Option Nat} (ho : ok1 τ) (hq : ∀ i, i < 6 → frW K M (q i) (τ.2.2.2 i)) (a : Int32) : (fo q a = none ∧ ¬ isF τ a) ∨ ∃ y j b f, fo q a = some y ∧ isF τ a ∧ j < 6 ∧ a = nI j ∧ gF τ a = τ.2.2.2 j ∧ wfF (τ.2.2.2 j) ∧ M y = some (0, eO 0 [.ref b]) ∧ M b = some (0, eI K (τ.2.2.2 j).length f) ∧ ∀ k, k < (τ.2.2.2 j).length → f k = nI (cdS ((τ.2.2.2 j).getD k (0, 0))) := by
  by_cases hr : 0 ≤ a.toInt ∧ a.toInt ≤ 5
  · obtain ⟨j, hj, rfl⟩ := in_nI (b := 5) hr
    have hj6 : j < 6 := by omega
    have hg : gF τ (nI j) = τ.2.2.2 j := by unfold gF; rw [nI_toN (by omega)]
    have hiF : isF τ (nI j) ↔ τ.2.2.2 j ≠ [] := by unfold isF; rw [nI_toN (by omega)]; exact ⟨fun q => q.2, fun q => ⟨hr, q⟩⟩
    rw [fo_nI hj6]
    rcases hq j hj6 with ⟨h1, h2⟩ | ⟨y, b, f, h1, h2, h3, h4, h5⟩
    · exact Or.inl ⟨h1, fun q => hiF.mp q h2⟩
    · exact Or.inr ⟨y, j, b, f, h1, hiF.mpr h2, hj6, rfl, hg, (ho.2.2.2 j hj6).resolve_left h2, h3, h4, h5⟩
  · exact Or.inl ⟨fo_out hr, fun q => hr q.1⟩
