/-! A layer over the kit: the heap is a function M from addresses to a tag and a cell; a state of a walk is (pc, locals by place, stack, M). -/
abbrev hM : Type := Nat → Option (Nat × va_E)
def hU (M : hM) (a t : Nat) (e : va_E) : hM := fun q => if q = a then some (t, e) else M q
theorem hU_s {M : hM} {a t : Nat} {e : va_E} : hU M a t e a = some (t, e) := by simp [hU]
theorem hU_n {M : hM} {a b t : Nat} {e : va_E} (h : b ≠ a) : hU M a t e b = M b := by simp [hU, h]
theorem hU_uu {M : hM} {a t t' : Nat} {e e' : va_E} : hU (hU M a t e) a t' e' = hU M a t' e' := by
  funext q
  by_cases h : q = a <;> simp [hU, h]
theorem hU_id {M : hM} {a t : Nat} {e : va_E} (h : M a = some (t, e)) : hU M a t e = M := by
  funext q
  by_cases hq : q = a
  · subst hq; simp [hU, h]
  · simp [hU, hq]
/-- addresses with different tags, or with different cells, are different -/
theorem hT_ne {M : hM} {a b t u : Nat} {e f : va_E} (ha : M a = some (t, e)) (hb : M b = some (u, f)) (h : t ≠ u) : a ≠ b := by
  rintro rfl
  rw [ha] at hb
  cases hb
  exact h rfl
theorem hT_new {M : hM} {a b t : Nat} {e : va_E} (ha : M a = some (t, e)) (hb : M b = none) : a ≠ b := by
  rintro rfl
  rw [ha] at hb
  cases hb
abbrev hKv : Type := Launch × va_G × (Nat → ClassId)
def cI (K : hKv) : ClassId := K.2.2 0
def cJ (K : hKv) : ClassId := K.2.2 1
def cC (K : hKv) : ClassId := K.2.2 2
def cZ (K : hKv) : ClassId := K.2.2 3
def cF (K : hKv) : ClassId := K.2.2 4
def cS (K : hKv) : ClassId := K.2.2 5
def eI (K : hKv) (n : Nat) (f : Nat → Int32) : va_E := .inl (cI K, n, .inl f)
def eJ (K : hKv) (n : Nat) (f : Nat → Int64) : va_E := .inl (cJ K, n, .inr (.inl f))
def eC (K : hKv) (n : Nat) (f : Nat → Int32) : va_E := .inl (cC K, n, .inl f)
def eZ (K : hKv) (n : Nat) (f : Nat → Int32) : va_E := .inl (cZ K, n, .inl f)
def eF (K : hKv) (n : Nat) (f : Nat → Option Nat) : va_E := .inl (cF K, n, .inr (.inr (.inr (.inr f))))
def eS (K : hKv) (n : Nat) (f : Nat → Option Nat) : va_E := .inl (cS K, n, .inr (.inr (.inr (.inr f))))
def eO (ci : Nat) (fs : List Value) : va_E := .inr (ci, fs)
def hTys (K : hKv) : List (ClassId × FieldType) := [(cI K, .int), (cJ K, .long), (cC K, .char), (cI K, .int), (cF K, .object "RootRows$Formula"), (cS K, .object "RootRows$State")]
def hN (U : State) : Prop := (∀ q ∈ wNm, va_Nw (.methodLinkNest q.1 q.2.1 q.2.2 "RootRows") U) ∧ (∀ q ∈ wNf, va_Nw (.fieldLinkNest q.1 q.2.1 q.2.2.1 q.2.2.2.1 q.2.2.2.2 "RootRows") U) ∧ va_AO "RootRows$Formula" U ∧ va_AO "RootRows$State" U
def hG (K : hKv) (U : State) : Prop := va_K K.2.1 vwCl (hTys K) U ∧ hN U
theorem hG.warm {K : hKv} {s U : State} (hW : s.WarmedH U.vm) (h : hG K s) : hG K U :=
  ⟨va_K.moved hW.alike h.1, fun q hq => va_Nw.warmM hW (h.2.1 q hq), fun q hq => va_Nw.warmF hW (h.2.2.1 q hq), h.2.2.2.1.moved hW.alike, h.2.2.2.2.moved hW.alike⟩
theorem hG.same {K : hKv} {u U : State} (hv : u.vm = U.vm) (h : hG K u) : hG K U :=
  have hA : u.vm.Alike U.vm := by rw [hv]; exact Vm.Alike.refl U.vm
  ⟨va_K.moved hA h.1, fun q hq => va_Nw.same rfl hv (h.2.1 q hq), fun q hq => va_Nw.same rfl hv (h.2.2.1 q hq), h.2.2.2.1.moved hA, h.2.2.2.2.moved hA⟩
def hOk (K : hKv) (M : hM) (H : Heap) : Prop := ∀ a t e, M a = some (t, e) → va_at K.2.1 vwCl (a, e) H
theorem hOk.put {K : hKv} {M : hM} {H H1 : Heap} (h : hOk K M H) {a t : Nat} {e : va_E} (he : va_at K.2.1 vwCl (a, e) H1) (ho : ∀ q, q ≠ a → H1[q]? = H[q]?) : hOk K (hU M a t e) H1 := by
  intro b t' e' hb
  by_cases hq : b = a
  · subst hq
    rw [hU_s] at hb
    cases hb
    exact he
  · rw [hU_n hq] at hb
    exact (h b t' e' hb).kept (ho b hq)
theorem hOk.lt {K : hKv} {M : hM} {H : Heap} (h : hOk K M H) {a : Nat} (ha : M a ≠ none) : a < H.size := by
  cases hM : M a with
  | none => exact absurd hM ha
  | some q => exact (h a q.1 q.2 hM).lt
theorem hOk.fresh {K : hKv} {M : hM} {H : Heap} (h : hOk K M H) : M H.size = none := by
  cases hM : M H.size with
  | none => rfl
  | some q => exact absurd (h.lt (a := H.size) (by rw [hM]; exact fun z => by cases z)) (Nat.lt_irrefl _)
theorem hOk.push {K : hKv} {M : hM} {H H1 : Heap} (h : hOk K M H) {t : Nat} {e : va_E} (he : va_at K.2.1 vwCl (H.size, e) H1) (ho : ∀ q, q < H.size → H1[q]? = H[q]?) : hOk K (hU M H.size t e) H1 := by
  intro b t' e' hb
  by_cases hq : b = H.size
  · subst hq
    rw [hU_s] at hb
    cases hb
    exact he
  · rw [hU_n hq] at hb
    exact (h b t' e' hb).kept (ho b (h.lt (by rw [hb]; exact fun z => by cases z)))
def hLs : Nat → List (Option Value) → List (Nat × Value)
  | _, [] => []
  | i, none :: r => hLs (i + 1) r
  | i, some v :: r => (i, v) :: hLs (i + 1) r
theorem hLs_mem : ∀ (lo : List (Option Value)) (i j : Nat) (v : Value), (j, v) ∈ hLs i lo ↔ i ≤ j ∧ lo[j - i]? = some (some v)
  | [], i, j, v => by simp [hLs]
  | none :: r, i, j, v => by
    rw [hLs, hLs_mem r (i + 1) j v]
    constructor
    · rintro ⟨h1, h2⟩
      refine ⟨by omega, ?_⟩
      rw [show j - i = (j - (i + 1)) + 1 by omega, List.getElem?_cons_succ]
      exact h2
    · rintro ⟨h1, h2⟩
      by_cases hj : j = i
      · subst hj; simp at h2
      · refine ⟨by omega, ?_⟩
        rw [show j - i = (j - (i + 1)) + 1 by omega, List.getElem?_cons_succ] at h2
        exact h2
  | some w :: r, i, j, v => by
    rw [hLs, List.mem_cons, hLs_mem r (i + 1) j v]
    constructor
    · rintro (h | ⟨h1, h2⟩)
      · cases h; exact ⟨Nat.le_refl _, by simp⟩
      · refine ⟨by omega, ?_⟩
        rw [show j - i = (j - (i + 1)) + 1 by omega, List.getElem?_cons_succ]
        exact h2
    · rintro ⟨h1, h2⟩
      by_cases hj : j = i
      · subst hj
        simp at h2
        exact Or.inl (by rw [h2])
      · refine Or.inr ⟨by omega, ?_⟩
        rw [show j - i = (j - (i + 1)) + 1 by omega, List.getElem?_cons_succ] at h2
        exact h2
def hL (ls : Array Slot) (n : Nat) (lo : List (Option Value)) : Prop := lo.length = n ∧ lv_has ls n (hLs 0 lo)
theorem hL.at {ls : Array Slot} {n : Nat} {lo : List (Option Value)} (h : hL ls n lo) {k : Nat} {v : Value} (hk : lo[k]? = some (some v)) : ls[k]? = some (.val v) :=
  h.2.2.2 (k, v) ((hLs_mem lo 0 k v).mpr ⟨Nat.zero_le _, by rw [Nat.sub_zero]; exact hk⟩)
/-- the place ahead is no long -/
def hNL : Option Value → Bool
  | some (.long _) => false
  | some (.double _) => false
  | _ => true
theorem hNL_cat {v : Value} (h : hNL (some v) = true) : v.category = 1 := by
  cases v <;> first | rfl | cases h
theorem hL.weak {ls : Array Slot} {n : Nat} {lo lo' : List (Option Value)} (h : hL ls n lo) (hl : lo'.length = lo.length) (hw : ∀ (k : Nat) (v : Value), lo'[k]? = some (some v) → lo[k]? = some (some v)) : hL ls n lo' := by
  refine ⟨hl.trans h.1, h.2.1, h.2.2.1, fun q hq => ?_⟩
  obtain ⟨k, v⟩ := q
  obtain ⟨-, h2⟩ := (hLs_mem lo' 0 k v).mp hq
  rw [Nat.sub_zero] at h2
  exact h.at (hw k v h2)
/-- behind a store of one word at k -/
theorem hL.st1 {ls' : Array Slot} {n k : Nat} {lo : List (Option Value)} {v : Value} (hlen : lo.length = n) (hk : k < n) (hp : k = 0 ∨ ∃ j o, k = j + 1 ∧ lo[j]? = some o ∧ hNL o = true)
    (h : lv_has ls' n ((k, v) :: (hLs 0 lo).filter (fun q => !(q.1 == k) && !(q.1 + 1 == k && q.2.category == 2)))) : hL ls' n (lo.set k (some v)) := by
  refine ⟨by rw [List.length_set]; exact hlen, h.1, h.2.1, fun q hq => ?_⟩
  obtain ⟨j, w⟩ := q
  obtain ⟨-, h2⟩ := (hLs_mem _ 0 j w).mp hq
  rw [Nat.sub_zero] at h2
  by_cases hj : j = k
  · subst hj
    rw [List.getElem?_set_self (by omega)] at h2
    cases h2
    exact h.2.2 _ List.mem_cons_self
  · rw [List.getElem?_set_ne (Ne.symm hj)] at h2
    refine h.2.2 _ (List.mem_cons_of_mem _ (List.mem_filter.mpr ⟨(hLs_mem lo 0 j w).mpr ⟨Nat.zero_le _, by rw [Nat.sub_zero]; exact h2⟩, ?_⟩))
    have e1 : (j == k) = false := by simpa using hj
    have e2 : (j + 1 == k && w.category == 2) = false := by
      by_cases hjk : j + 1 = k
      · rcases hp with rfl | ⟨i, o, hi, ho, hn⟩
        · omega
        · have : i = j := by omega
          subst this
          rw [h2] at ho
          cases ho
          rw [hNL_cat hn]
          simp
      · simp [hjk]
    simp [e1, e2]
theorem hL.st2 {ls' : Array Slot} {n k : Nat} {lo : List (Option Value)} {v : Value} (hlen : lo.length = n) (hk : k + 1 < n) (hp : k = 0 ∨ ∃ j o, k = j + 1 ∧ lo[j]? = some o ∧ hNL o = true)
    (h : lv_has ls' n ((k, v) :: (hLs 0 lo).filter (fun q => !(q.1 == k) && (!(q.1 == k + 1) && !(q.1 + 1 == k && q.2.category == 2))))) : hL ls' n ((lo.set k (some v)).set (k + 1) none) := by
  refine ⟨by rw [List.length_set, List.length_set]; exact hlen, h.1, h.2.1, fun q hq => ?_⟩
  obtain ⟨j, w⟩ := q
  obtain ⟨-, h2⟩ := (hLs_mem _ 0 j w).mp hq
  rw [Nat.sub_zero] at h2
  by_cases hj1 : j = k + 1
  · subst hj1
    rw [List.getElem?_set_self (by rw [List.length_set]; omega)] at h2
    cases h2
  rw [List.getElem?_set_ne (Ne.symm hj1)] at h2
  by_cases hj : j = k
  · subst hj
    rw [List.getElem?_set_self (by omega)] at h2
    cases h2
    exact h.2.2 _ List.mem_cons_self
  · rw [List.getElem?_set_ne (Ne.symm hj)] at h2
    refine h.2.2 _ (List.mem_cons_of_mem _ (List.mem_filter.mpr ⟨(hLs_mem lo 0 j w).mpr ⟨Nat.zero_le _, by rw [Nat.sub_zero]; exact h2⟩, ?_⟩))
    have e0 : (j == k) = false := by simpa using hj
    have e1 : (j == k + 1) = false := by simpa using hj1
    have e2 : (j + 1 == k && w.category == 2) = false := by
      by_cases hjk : j + 1 = k
      · rcases hp with rfl | ⟨i, o, hi, ho, hn⟩
        · omega
        · have : i = j := by omega
          subst this
          rw [h2] at ho
          cases ho
          rw [hNL_cat hn]
          simp
      · simp [hjk]
    simp [e0, e1, e2]
/-! what a walk stands in: program, platform, room, start, method, arguments, frames below, its code, its goal, its free cells, the world's numbers -/
abbrev hEv : Type := Program × Env × Room × State × MethodId × Array Value × List Frame × Method × Code × (State → Prop) × (Nat → Prop) × hKv
def hX (E : hEv) (cells slots pc : Nat) (lo : List (Option Value)) (st : List Value) (M : hM) : Prop := match E with
  | (p, e, R, s, m, args, below, meth, c, Q, A, K) => ∀ (H : Heap) (locs : List Loc) (ls : Array Slot), hOk K M H → (∀ a, M a ≠ none → A a) → va_S A s.heap H locs → hL ls c.maxLocals lo → W p K.1 e R s m args below meth c H locs cells slots Q (F0 m pc ls st)
def hCx (E : hEv) (K : hKv) (cc : ByteArray) (n : Nat) (own nm : String) (R : Room) : Prop := match E with
  | (p, _, R', s, m, args, _, meth, c, _, A, K') => K' = K ∧ R' = R ∧ p.tables.exec = Jvm.exec ∧ c.code = cc ∧ c.maxLocals = n ∧ s.vm.findClass own = some m.cls ∧ (∀ w ∈ WA, w.before args s = true) ∧ hG K s ∧ (∀ q : Nat, s.heap.size ≤ q → A q) ∧ meth.locks = false ∧ meth.name = nm
def hA (M : hM) (sz : Nat) : Nat → Prop := fun q => M q ≠ none ∨ sz ≤ q
def hQ (K : hKv) (post : Option Value → hM → Prop) (A : Nat → Prop) : Array Value → State → Outcome → State → Prop := fun _ st oc t => (∃ (v : Option Value) (M : hM), oc = .returned v ∧ post v M ∧ hOk K M t.heap ∧ ∀ a, M a ≠ none → A a) ∧ va_F A st t
def hRt (E : hEv) (K : hKv) (ret : Option FieldType) (R : Room) (post : Option Value → hM → Prop) : Prop := match E with
  | (_, _, _, s, _, args, below, meth, _, Q, A, _) => meth.sig.returnType = ret ∧ Q = MQ below (hQ K post A) args s R.cells R.slots A
def hPc (K : hKv) (M : hM) (av : List Value) (sz : Nat) : Array Value → State → Prop := va_Pc av (fun U => U.heap.size = sz ∧ hOk K M U.heap ∧ hG K U)
abbrev hYd : Type := MethodName × ByteArray × Nat × Option FieldType
def hWs (Y : hYd) : List Cond := Cond.code Y.1 Y.2.1 Y.2.2.1 Y.2.2.2 :: WA
def hC (K : hKv) (Y : hYd) (R : Room) (av : List Value) (M : hM) (post : Option Value → hM → Prop) : Prop := ∀ sz : Nat, Met K.1 Y.1 (hWs Y) R (hPc K M av sz) (hQ K post (hA M sz)) R.cells R.slots (hA M sz)
theorem hPc.blind {K : hKv} {M : hM} {av : List Value} {sz : Nat} : FrameBlind (hPc K M av sz) := fun a U g mk h => ⟨h.1, h.2.1, h.2.2.1, h.2.2.2.same rfl⟩
/-- a contract out of a walk from the entry -/
theorem hC.of {K : hKv} {Y : hYd} {R : Room} {av : List Value} {M : hM} {post : Option Value → hM → Prop} (lo : List (Option Value)) (hy : plainName Y.1.cls = true) (hn : (lg_sl av).length ≤ Y.2.2.1) (hlen : lo.length = Y.2.2.1) (hlo : hLs 0 lo = lv_args 0 av)
    (body : ∀ E : hEv, hCx E K Y.2.1 Y.2.2.1 Y.1.cls Y.1.name R → hRt E K Y.2.2.2 R post → hX E 0 0 0 lo [] M) : hC K Y R av M post := by
  intro sz
  refine Met.ofW (cc := Y.2.1) (maxL := Y.2.2.1) (ret := Y.2.2.2) (ws' := WA) hy rfl ?_
  intro p e s m args below meth c s₁ B hml hv
  obtain ⟨rfl, hsz, hP, hK⟩ := hv
  have hts := atoms_spec (ws := hWs Y) B.pre
  have hown : s.vm.findClass Y.1.cls = some m.cls := findClass_of_methodNamed B.named
  have hin : meth.name = Y.1.name := (name_of_methodNamed B.named B.method).1
  have hl := lv_entry av (n := Y.2.2.1) hn
  have hX0 := body (p, e, R, s, m, av.toArray, below, meth, c, MQ below (hQ K post (hA M sz)) av.toArray s R.cells R.slots (hA M sz), hA M sz, K) ⟨rfl, rfl, B.exec, B.bytes, hml, hown, fun w hw => hts w (List.mem_cons_of_mem _ hw), hK, fun q hq => Or.inr (by rw [← hsz]; exact hq), B.notSynchronized, hin⟩ ⟨B.returns, rfl⟩
  rw [lg_entry_eq]
  exact hX0 s.heap [] _ hP (fun a ha => Or.inl ha) va_S.rf ⟨by rw [hml]; exact hlen, by rw [hlo, hml]; exact hl⟩
section Rows
variable {E : hEv} {K : hKv} {cc : ByteArray} {n : Nat} {own nm : String} {R : Room} {cells slots pc : Nat} {lo : List (Option Value)} {st : List Value} {M : hM}
theorem x_w {lo' : List (Option Value)} (hl : lo'.length = lo.length) (hw : ∀ (k : Nat) (v : Value), lo'[k]? = some (some v) → lo[k]? = some (some v)) (kk : hX E cells slots pc lo' st M) : hX E cells slots pc lo st M := by
  obtain ⟨p, e, R', s, m, args, below, meth, c, Q, A, K'⟩ := E
  exact fun H locs ls h1 h2 h3 h4 => kk H locs ls h1 h2 h3 (h4.weak hl hw)
theorem x_wid {k2 n2 : Nat} (h1 : cells ≤ k2) (h2 : slots ≤ n2) (kk : hX E k2 n2 pc lo st M) : hX E cells slots pc lo st M := by
  obtain ⟨p, e, R', s, m, args, below, meth, c, Q, A, K'⟩ := E
  exact fun H locs ls g1 g2 g3 g4 => W.widen h1 h2 (kk H locs ls g1 g2 g3 g4)
theorem x_top {v v' : Value} (h : v = v') (kk : hX E cells slots pc lo (v' :: st) M) : hX E cells slots pc lo (v :: st) M := h ▸ kk
theorem x_topi {v v' : Int32} (h : v = v') (kk : hX E cells slots pc lo (.int v' :: st) M) : hX E cells slots pc lo (.int v :: st) M := h ▸ kk
theorem x_topl {v v' : Int64} (h : v = v') (kk : hX E cells slots pc lo (.long v' :: st) M) : hX E cells slots pc lo (.long v :: st) M := h ▸ kk
theorem x_M {M' : hM} (h : M = M') (kk : hX E cells slots pc lo st M') : hX E cells slots pc lo st M := h ▸ kk
theorem x_iconst (q : Nat) (C : hCx E K cc n own nm R) {i : Int} {v : Int32} (hd : decode cc pc = .ok (.iconst i, 1)) (hq : pc + 1 = q) (hv : Int32.ofInt i = v) (kk : hX E cells slots q lo (.int v :: st) M) : hX E cells slots pc lo st M := by
  obtain ⟨p, e, R', s, m, args, below, meth, c, Q, A, K'⟩ := E
  obtain ⟨rfl, rfl, hx, hb, hml, hown, hts, hg, hA, hlk, hnm⟩ := C
  subst hq
  exact fun H locs ls h1 h2 h3 h4 => lv_iconst hx hb hd hv (kk H locs ls h1 h2 h3 h4)
theorem x_bipush (q : Nat) (C : hCx E K cc n own nm R) {i : Int} {v : Int32} (hd : decode cc pc = .ok (.bipush i, 2)) (hq : pc + 2 = q) (hv : (Int8.ofInt i).toInt32 = v) (kk : hX E cells slots q lo (.int v :: st) M) : hX E cells slots pc lo st M := by
  obtain ⟨p, e, R', s, m, args, below, meth, c, Q, A, K'⟩ := E
  obtain ⟨rfl, rfl, hx, hb, hml, hown, hts, hg, hA, hlk, hnm⟩ := C
  subst hq
  exact fun H locs ls h1 h2 h3 h4 => lv_bipush hx hb hd hv (kk H locs ls h1 h2 h3 h4)
theorem x_sipush (q : Nat) (C : hCx E K cc n own nm R) {i : Int} {v : Int32} (hd : decode cc pc = .ok (.sipush i, 3)) (hq : pc + 3 = q) (hv : (Int16.ofInt i).toInt32 = v) (kk : hX E cells slots q lo (.int v :: st) M) : hX E cells slots pc lo st M := by
  obtain ⟨p, e, R', s, m, args, below, meth, c, Q, A, K'⟩ := E
  obtain ⟨rfl, rfl, hx, hb, hml, hown, hts, hg, hA, hlk, hnm⟩ := C
  subst hq
  exact fun H locs ls h1 h2 h3 h4 => lv_sipush hx hb hd hv (kk H locs ls h1 h2 h3 h4)
theorem x_lconst (q : Nat) (C : hCx E K cc n own nm R) {i : Fin 2} {v : Int64} (hd : decode cc pc = .ok (.lconst i, 1)) (hq : pc + 1 = q) (hv : Int64.ofNat (i : Nat) = v) (kk : hX E cells slots q lo (.long v :: st) M) : hX E cells slots pc lo st M := by
  obtain ⟨p, e, R', s, m, args, below, meth, c, Q, A, K'⟩ := E
  obtain ⟨rfl, rfl, hx, hb, hml, hown, hts, hg, hA, hlk, hnm⟩ := C
  subst hq
  exact fun H locs ls h1 h2 h3 h4 => lv_lconst hx hb hd hv (kk H locs ls h1 h2 h3 h4)
theorem x_ldc (q : Nat) (C : hCx E K cc n own nm R) {i : Nat} {v : Int32} (hd : decode cc pc = .ok (.ldc i, 2)) (hq : pc + 2 = q) (hv : Cond.constant own i v ∈ WA) (kk : hX E cells slots q lo (.int v :: st) M) : hX E cells slots pc lo st M := by
  obtain ⟨p, e, R', s, m, args, below, meth, c, Q, A, K'⟩ := E
  obtain ⟨rfl, rfl, hx, hb, hml, hown, hts, hg, hA, hlk, hnm⟩ := C
  subst hq
  exact fun H locs ls h1 h2 h3 h4 => lv_ldc hx hb hown (hts _ hv) hd (kk H locs ls h1 h2 h3 h4)
theorem x_ldc2 (q : Nat) (C : hCx E K cc n own nm R) {i : Nat} {v : Int64} (hd : decode cc pc = .ok (.ldc2_w i, 3)) (hq : pc + 3 = q) (hv : Cond.constantLong own i v ∈ WA) (kk : hX E cells slots q lo (.long v :: st) M) : hX E cells slots pc lo st M := by
  obtain ⟨p, e, R', s, m, args, below, meth, c, Q, A, K'⟩ := E
  obtain ⟨rfl, rfl, hx, hb, hml, hown, hts, hg, hA, hlk, hnm⟩ := C
  subst hq
  exact fun H locs ls h1 h2 h3 h4 => lv_ldc2 hx hb hown (hts _ hv) hd (kk H locs ls h1 h2 h3 h4)
theorem x_null (q : Nat) (C : hCx E K cc n own nm R)  (hd : decode cc pc = .ok (.aconst_null, 1)) (hq : pc + 1 = q) (kk : hX E cells slots q lo (.null :: st) M) : hX E cells slots pc lo st M := by
  obtain ⟨p, e, R', s, m, args, below, meth, c, Q, A, K'⟩ := E
  obtain ⟨rfl, rfl, hx, hb, hml, hown, hts, hg, hA, hlk, hnm⟩ := C
  subst hq
  exact fun H locs ls h1 h2 h3 h4 => lv_null hx hb hd (kk H locs ls h1 h2 h3 h4)
theorem x_iadd (q : Nat) (C : hCx E K cc n own nm R) {x y : Int32} (hd : decode cc pc = .ok (.iadd, 1)) (hq : pc + 1 = q) (kk : hX E cells slots q lo (.int (x + y) :: st) M) : hX E cells slots pc lo (.int y :: .int x :: st) M := by
  obtain ⟨p, e, R', s, m, args, below, meth, c, Q, A, K'⟩ := E
  obtain ⟨rfl, rfl, hx, hb, hml, hown, hts, hg, hA, hlk, hnm⟩ := C
  subst hq
  exact fun H locs ls h1 h2 h3 h4 => lv_iadd hx hb hd (kk H locs ls h1 h2 h3 h4)
theorem x_isub (q : Nat) (C : hCx E K cc n own nm R) {x y : Int32} (hd : decode cc pc = .ok (.isub, 1)) (hq : pc + 1 = q) (kk : hX E cells slots q lo (.int (x - y) :: st) M) : hX E cells slots pc lo (.int y :: .int x :: st) M := by
  obtain ⟨p, e, R', s, m, args, below, meth, c, Q, A, K'⟩ := E
  obtain ⟨rfl, rfl, hx, hb, hml, hown, hts, hg, hA, hlk, hnm⟩ := C
  subst hq
  exact fun H locs ls h1 h2 h3 h4 => lv_isub hx hb hd (kk H locs ls h1 h2 h3 h4)
theorem x_imul (q : Nat) (C : hCx E K cc n own nm R) {x y : Int32} (hd : decode cc pc = .ok (.imul, 1)) (hq : pc + 1 = q) (kk : hX E cells slots q lo (.int (x * y) :: st) M) : hX E cells slots pc lo (.int y :: .int x :: st) M := by
  obtain ⟨p, e, R', s, m, args, below, meth, c, Q, A, K'⟩ := E
  obtain ⟨rfl, rfl, hx, hb, hml, hown, hts, hg, hA, hlk, hnm⟩ := C
  subst hq
  exact fun H locs ls h1 h2 h3 h4 => lv_imul hx hb hd (kk H locs ls h1 h2 h3 h4)
theorem x_iand (q : Nat) (C : hCx E K cc n own nm R) {x y : Int32} (hd : decode cc pc = .ok (.iand, 1)) (hq : pc + 1 = q) (kk : hX E cells slots q lo (.int (x &&& y) :: st) M) : hX E cells slots pc lo (.int y :: .int x :: st) M := by
  obtain ⟨p, e, R', s, m, args, below, meth, c, Q, A, K'⟩ := E
  obtain ⟨rfl, rfl, hx, hb, hml, hown, hts, hg, hA, hlk, hnm⟩ := C
  subst hq
  exact fun H locs ls h1 h2 h3 h4 => lv_iand hx hb hd (kk H locs ls h1 h2 h3 h4)
theorem x_ior (q : Nat) (C : hCx E K cc n own nm R) {x y : Int32} (hd : decode cc pc = .ok (.ior, 1)) (hq : pc + 1 = q) (kk : hX E cells slots q lo (.int (x ||| y) :: st) M) : hX E cells slots pc lo (.int y :: .int x :: st) M := by
  obtain ⟨p, e, R', s, m, args, below, meth, c, Q, A, K'⟩ := E
  obtain ⟨rfl, rfl, hx, hb, hml, hown, hts, hg, hA, hlk, hnm⟩ := C
  subst hq
  exact fun H locs ls h1 h2 h3 h4 => lv_ior hx hb hd (kk H locs ls h1 h2 h3 h4)
theorem x_ishl (q : Nat) (C : hCx E K cc n own nm R) {x y : Int32} (hd : decode cc pc = .ok (.ishl, 1)) (hq : pc + 1 = q) (kk : hX E cells slots q lo (.int (x <<< (y &&& 31)) :: st) M) : hX E cells slots pc lo (.int y :: .int x :: st) M := by
  obtain ⟨p, e, R', s, m, args, below, meth, c, Q, A, K'⟩ := E
  obtain ⟨rfl, rfl, hx, hb, hml, hown, hts, hg, hA, hlk, hnm⟩ := C
  subst hq
  exact fun H locs ls h1 h2 h3 h4 => lv_ishl hx hb hd (kk H locs ls h1 h2 h3 h4)
theorem x_ladd (q : Nat) (C : hCx E K cc n own nm R) {x y : Int64} (hd : decode cc pc = .ok (.ladd, 1)) (hq : pc + 1 = q) (kk : hX E cells slots q lo (.long (x + y) :: st) M) : hX E cells slots pc lo (.long y :: .long x :: st) M := by
  obtain ⟨p, e, R', s, m, args, below, meth, c, Q, A, K'⟩ := E
  obtain ⟨rfl, rfl, hx, hb, hml, hown, hts, hg, hA, hlk, hnm⟩ := C
  subst hq
  exact fun H locs ls h1 h2 h3 h4 => lv_ladd hx hb hd (kk H locs ls h1 h2 h3 h4)
theorem x_lsub (q : Nat) (C : hCx E K cc n own nm R) {x y : Int64} (hd : decode cc pc = .ok (.lsub, 1)) (hq : pc + 1 = q) (kk : hX E cells slots q lo (.long (x - y) :: st) M) : hX E cells slots pc lo (.long y :: .long x :: st) M := by
  obtain ⟨p, e, R', s, m, args, below, meth, c, Q, A, K'⟩ := E
  obtain ⟨rfl, rfl, hx, hb, hml, hown, hts, hg, hA, hlk, hnm⟩ := C
  subst hq
  exact fun H locs ls h1 h2 h3 h4 => lv_lsub hx hb hd (kk H locs ls h1 h2 h3 h4)
theorem x_lmul (q : Nat) (C : hCx E K cc n own nm R) {x y : Int64} (hd : decode cc pc = .ok (.lmul, 1)) (hq : pc + 1 = q) (kk : hX E cells slots q lo (.long (x * y) :: st) M) : hX E cells slots pc lo (.long y :: .long x :: st) M := by
  obtain ⟨p, e, R', s, m, args, below, meth, c, Q, A, K'⟩ := E
  obtain ⟨rfl, rfl, hx, hb, hml, hown, hts, hg, hA, hlk, hnm⟩ := C
  subst hq
  exact fun H locs ls h1 h2 h3 h4 => lv_lmul hx hb hd (kk H locs ls h1 h2 h3 h4)
theorem x_land (q : Nat) (C : hCx E K cc n own nm R) {x y : Int64} (hd : decode cc pc = .ok (.land, 1)) (hq : pc + 1 = q) (kk : hX E cells slots q lo (.long (x &&& y) :: st) M) : hX E cells slots pc lo (.long y :: .long x :: st) M := by
  obtain ⟨p, e, R', s, m, args, below, meth, c, Q, A, K'⟩ := E
  obtain ⟨rfl, rfl, hx, hb, hml, hown, hts, hg, hA, hlk, hnm⟩ := C
  subst hq
  exact fun H locs ls h1 h2 h3 h4 => lv_land hx hb hd (kk H locs ls h1 h2 h3 h4)
theorem x_lor (q : Nat) (C : hCx E K cc n own nm R) {x y : Int64} (hd : decode cc pc = .ok (.lor, 1)) (hq : pc + 1 = q) (kk : hX E cells slots q lo (.long (x ||| y) :: st) M) : hX E cells slots pc lo (.long y :: .long x :: st) M := by
  obtain ⟨p, e, R', s, m, args, below, meth, c, Q, A, K'⟩ := E
  obtain ⟨rfl, rfl, hx, hb, hml, hown, hts, hg, hA, hlk, hnm⟩ := C
  subst hq
  exact fun H locs ls h1 h2 h3 h4 => lv_lor hx hb hd (kk H locs ls h1 h2 h3 h4)
theorem x_idiv (q : Nat) (C : hCx E K cc n own nm R) {x y : Int32} (hd : decode cc pc = .ok (.idiv, 1)) (hq : pc + 1 = q) (hz : ¬ y = 0) (kk : hX E cells slots q lo (.int (x / y) :: st) M) : hX E cells slots pc lo (.int y :: .int x :: st) M := by
  obtain ⟨p, e, R', s, m, args, below, meth, c, Q, A, K'⟩ := E
  obtain ⟨rfl, rfl, hx, hb, hml, hown, hts, hg, hA, hlk, hnm⟩ := C
  subst hq
  exact fun H locs ls h1 h2 h3 h4 => lv_idiv hx hb hd hz (kk H locs ls h1 h2 h3 h4)
theorem x_irem (q : Nat) (C : hCx E K cc n own nm R) {x y : Int32} (hd : decode cc pc = .ok (.irem, 1)) (hq : pc + 1 = q) (hz : ¬ y = 0) (kk : hX E cells slots q lo (.int (x - x / y * y) :: st) M) : hX E cells slots pc lo (.int y :: .int x :: st) M := by
  obtain ⟨p, e, R', s, m, args, below, meth, c, Q, A, K'⟩ := E
  obtain ⟨rfl, rfl, hx, hb, hml, hown, hts, hg, hA, hlk, hnm⟩ := C
  subst hq
  exact fun H locs ls h1 h2 h3 h4 => lv_irem hx hb hd hz (kk H locs ls h1 h2 h3 h4)
theorem x_ldiv (q : Nat) (C : hCx E K cc n own nm R) {x y : Int64} (hd : decode cc pc = .ok (.ldiv, 1)) (hq : pc + 1 = q) (hz : ¬ y = 0) (kk : hX E cells slots q lo (.long (x / y) :: st) M) : hX E cells slots pc lo (.long y :: .long x :: st) M := by
  obtain ⟨p, e, R', s, m, args, below, meth, c, Q, A, K'⟩ := E
  obtain ⟨rfl, rfl, hx, hb, hml, hown, hts, hg, hA, hlk, hnm⟩ := C
  subst hq
  exact fun H locs ls h1 h2 h3 h4 => lv_ldiv hx hb hd hz (kk H locs ls h1 h2 h3 h4)
theorem x_ineg (q : Nat) (C : hCx E K cc n own nm R) {x : Int32} (hd : decode cc pc = .ok (.ineg, 1)) (hq : pc + 1 = q) (kk : hX E cells slots q lo (.int (-x) :: st) M) : hX E cells slots pc lo (.int x :: st) M := by
  obtain ⟨p, e, R', s, m, args, below, meth, c, Q, A, K'⟩ := E
  obtain ⟨rfl, rfl, hx, hb, hml, hown, hts, hg, hA, hlk, hnm⟩ := C
  subst hq
  exact fun H locs ls h1 h2 h3 h4 => lv_ineg hx hb hd (kk H locs ls h1 h2 h3 h4)
theorem x_lneg (q : Nat) (C : hCx E K cc n own nm R) {x : Int64} (hd : decode cc pc = .ok (.lneg, 1)) (hq : pc + 1 = q) (kk : hX E cells slots q lo (.long (-x) :: st) M) : hX E cells slots pc lo (.long x :: st) M := by
  obtain ⟨p, e, R', s, m, args, below, meth, c, Q, A, K'⟩ := E
  obtain ⟨rfl, rfl, hx, hb, hml, hown, hts, hg, hA, hlk, hnm⟩ := C
  subst hq
  exact fun H locs ls h1 h2 h3 h4 => lv_lneg hx hb hd (kk H locs ls h1 h2 h3 h4)
theorem x_i2l (q : Nat) (C : hCx E K cc n own nm R) {x : Int32} (hd : decode cc pc = .ok (.i2l, 1)) (hq : pc + 1 = q) (kk : hX E cells slots q lo (.long x.toInt64 :: st) M) : hX E cells slots pc lo (.int x :: st) M := by
  obtain ⟨p, e, R', s, m, args, below, meth, c, Q, A, K'⟩ := E
  obtain ⟨rfl, rfl, hx, hb, hml, hown, hts, hg, hA, hlk, hnm⟩ := C
  subst hq
  exact fun H locs ls h1 h2 h3 h4 => lv_i2l hx hb hd rfl (kk H locs ls h1 h2 h3 h4)
theorem x_l2i (q : Nat) (C : hCx E K cc n own nm R) {x : Int64} (hd : decode cc pc = .ok (.l2i, 1)) (hq : pc + 1 = q) (kk : hX E cells slots q lo (.int x.toInt32 :: st) M) : hX E cells slots pc lo (.long x :: st) M := by
  obtain ⟨p, e, R', s, m, args, below, meth, c, Q, A, K'⟩ := E
  obtain ⟨rfl, rfl, hx, hb, hml, hown, hts, hg, hA, hlk, hnm⟩ := C
  subst hq
  exact fun H locs ls h1 h2 h3 h4 => lv_l2i hx hb hd rfl (kk H locs ls h1 h2 h3 h4)
theorem x_i2c (q : Nat) (C : hCx E K cc n own nm R) {x : Int32} (hd : decode cc pc = .ok (.i2c, 1)) (hq : pc + 1 = q) (kk : hX E cells slots q lo (.int (x.toUInt32 % 65536).toInt32 :: st) M) : hX E cells slots pc lo (.int x :: st) M := by
  obtain ⟨p, e, R', s, m, args, below, meth, c, Q, A, K'⟩ := E
  obtain ⟨rfl, rfl, hx, hb, hml, hown, hts, hg, hA, hlk, hnm⟩ := C
  subst hq
  exact fun H locs ls h1 h2 h3 h4 => lv_i2c hx hb hd rfl (kk H locs ls h1 h2 h3 h4)
theorem x_lushr (q : Nat) (C : hCx E K cc n own nm R) {x : Int64} {y : Int32} (hd : decode cc pc = .ok (.lushr, 1)) (hq : pc + 1 = q) (kk : hX E cells slots q lo (.long (x.toUInt64 >>> (y.toInt64.toUInt64 &&& Int64.toUInt64 63)).toInt64 :: st) M) : hX E cells slots pc lo (.int y :: .long x :: st) M := by
  obtain ⟨p, e, R', s, m, args, below, meth, c, Q, A, K'⟩ := E
  obtain ⟨rfl, rfl, hx, hb, hml, hown, hts, hg, hA, hlk, hnm⟩ := C
  subst hq
  exact fun H locs ls h1 h2 h3 h4 => lv_lushr hx hb hd rfl (kk H locs ls h1 h2 h3 h4)
theorem x_lshl (q : Nat) (C : hCx E K cc n own nm R) {x : Int64} {y : Int32} (hd : decode cc pc = .ok (.lshl, 1)) (hq : pc + 1 = q) (kk : hX E cells slots q lo (.long (x <<< (y.toInt64 &&& 63)) :: st) M) : hX E cells slots pc lo (.int y :: .long x :: st) M := by
  obtain ⟨p, e, R', s, m, args, below, meth, c, Q, A, K'⟩ := E
  obtain ⟨rfl, rfl, hx, hb, hml, hown, hts, hg, hA, hlk, hnm⟩ := C
  subst hq
  exact fun H locs ls h1 h2 h3 h4 => lv_lshl hx hb hd rfl (kk H locs ls h1 h2 h3 h4)
theorem x_lcmp (q : Nat) (C : hCx E K cc n own nm R) {x y : Int64} (hd : decode cc pc = .ok (.lcmp, 1)) (hq : pc + 1 = q) (kk : hX E cells slots q lo (.int (lg_cmp x y) :: st) M) : hX E cells slots pc lo (.long y :: .long x :: st) M := by
  obtain ⟨p, e, R', s, m, args, below, meth, c, Q, A, K'⟩ := E
  obtain ⟨rfl, rfl, hx, hb, hml, hown, hts, hg, hA, hlk, hnm⟩ := C
  subst hq
  exact fun H locs ls h1 h2 h3 h4 => W.lcmp hx hb hd (kk H locs ls h1 h2 h3 h4)
theorem x_dup (q : Nat) (C : hCx E K cc n own nm R) {v : Value} (hd : decode cc pc = .ok (.dup, 1)) (hq : pc + 1 = q) (hc : v.category = 1) (kk : hX E cells slots q lo (v :: v :: st) M) : hX E cells slots pc lo (v :: st) M := by
  obtain ⟨p, e, R', s, m, args, below, meth, c, Q, A, K'⟩ := E
  obtain ⟨rfl, rfl, hx, hb, hml, hown, hts, hg, hA, hlk, hnm⟩ := C
  subst hq
  exact fun H locs ls h1 h2 h3 h4 => lv_dup hx hb hd hc (kk H locs ls h1 h2 h3 h4)
theorem x_if_eq (q t : Nat) (C : hCx E K cc n own nm R) {off : Int} {x : Int32} (hd : decode cc pc = .ok (.ifCond .eq off, 3)) (hq : pc + 3 = q) (ht : (pc : Int) + off = (t : Int)) (kt : x = 0 → hX E cells slots t lo st M) (kf : ¬ x = 0 → hX E cells slots q lo st M) : hX E cells slots pc lo (.int x :: st) M := by
  obtain ⟨p, e, R', s, m, args, below, meth, c, Q, A, K'⟩ := E
  obtain ⟨rfl, rfl, hx, hb, hml, hown, hts, hg, hA, hlk, hnm⟩ := C
  subst hq
  exact fun H locs ls h1 h2 h3 h4 => lv_if_eq hx hb hd ht (fun z => kt z H locs ls h1 h2 h3 h4) (fun z => kf z H locs ls h1 h2 h3 h4)
theorem x_icmp_eq (q t : Nat) (C : hCx E K cc n own nm R) {off : Int} {x y : Int32} (hd : decode cc pc = .ok (.if_icmp .eq off, 3)) (hq : pc + 3 = q) (ht : (pc : Int) + off = (t : Int)) (kt : x = y → hX E cells slots t lo st M) (kf : ¬ x = y → hX E cells slots q lo st M) : hX E cells slots pc lo (.int y :: .int x :: st) M := by
  obtain ⟨p, e, R', s, m, args, below, meth, c, Q, A, K'⟩ := E
  obtain ⟨rfl, rfl, hx, hb, hml, hown, hts, hg, hA, hlk, hnm⟩ := C
  subst hq
  exact fun H locs ls h1 h2 h3 h4 => lv_icmp_eq hx hb hd ht (fun z => kt z H locs ls h1 h2 h3 h4) (fun z => kf z H locs ls h1 h2 h3 h4)
theorem x_if_ne (q t : Nat) (C : hCx E K cc n own nm R) {off : Int} {x : Int32} (hd : decode cc pc = .ok (.ifCond .ne off, 3)) (hq : pc + 3 = q) (ht : (pc : Int) + off = (t : Int)) (kt : ¬ x = 0 → hX E cells slots t lo st M) (kf : x = 0 → hX E cells slots q lo st M) : hX E cells slots pc lo (.int x :: st) M := by
  obtain ⟨p, e, R', s, m, args, below, meth, c, Q, A, K'⟩ := E
  obtain ⟨rfl, rfl, hx, hb, hml, hown, hts, hg, hA, hlk, hnm⟩ := C
  subst hq
  exact fun H locs ls h1 h2 h3 h4 => lv_if_ne hx hb hd ht (fun z => kt z H locs ls h1 h2 h3 h4) (fun z => kf z H locs ls h1 h2 h3 h4)
theorem x_icmp_ne (q t : Nat) (C : hCx E K cc n own nm R) {off : Int} {x y : Int32} (hd : decode cc pc = .ok (.if_icmp .ne off, 3)) (hq : pc + 3 = q) (ht : (pc : Int) + off = (t : Int)) (kt : ¬ x = y → hX E cells slots t lo st M) (kf : x = y → hX E cells slots q lo st M) : hX E cells slots pc lo (.int y :: .int x :: st) M := by
  obtain ⟨p, e, R', s, m, args, below, meth, c, Q, A, K'⟩ := E
  obtain ⟨rfl, rfl, hx, hb, hml, hown, hts, hg, hA, hlk, hnm⟩ := C
  subst hq
  exact fun H locs ls h1 h2 h3 h4 => lv_icmp_ne hx hb hd ht (fun z => kt z H locs ls h1 h2 h3 h4) (fun z => kf z H locs ls h1 h2 h3 h4)
theorem x_if_lt (q t : Nat) (C : hCx E K cc n own nm R) {off : Int} {x : Int32} (hd : decode cc pc = .ok (.ifCond .lt off, 3)) (hq : pc + 3 = q) (ht : (pc : Int) + off = (t : Int)) (kt : x < 0 → hX E cells slots t lo st M) (kf : ¬ x < 0 → hX E cells slots q lo st M) : hX E cells slots pc lo (.int x :: st) M := by
  obtain ⟨p, e, R', s, m, args, below, meth, c, Q, A, K'⟩ := E
  obtain ⟨rfl, rfl, hx, hb, hml, hown, hts, hg, hA, hlk, hnm⟩ := C
  subst hq
  exact fun H locs ls h1 h2 h3 h4 => lv_if_lt hx hb hd ht (fun z => kt z H locs ls h1 h2 h3 h4) (fun z => kf z H locs ls h1 h2 h3 h4)
theorem x_icmp_lt (q t : Nat) (C : hCx E K cc n own nm R) {off : Int} {x y : Int32} (hd : decode cc pc = .ok (.if_icmp .lt off, 3)) (hq : pc + 3 = q) (ht : (pc : Int) + off = (t : Int)) (kt : x < y → hX E cells slots t lo st M) (kf : ¬ x < y → hX E cells slots q lo st M) : hX E cells slots pc lo (.int y :: .int x :: st) M := by
  obtain ⟨p, e, R', s, m, args, below, meth, c, Q, A, K'⟩ := E
  obtain ⟨rfl, rfl, hx, hb, hml, hown, hts, hg, hA, hlk, hnm⟩ := C
  subst hq
  exact fun H locs ls h1 h2 h3 h4 => lv_icmp_lt hx hb hd ht (fun z => kt z H locs ls h1 h2 h3 h4) (fun z => kf z H locs ls h1 h2 h3 h4)
theorem x_if_ge (q t : Nat) (C : hCx E K cc n own nm R) {off : Int} {x : Int32} (hd : decode cc pc = .ok (.ifCond .ge off, 3)) (hq : pc + 3 = q) (ht : (pc : Int) + off = (t : Int)) (kt : 0 ≤ x → hX E cells slots t lo st M) (kf : ¬ 0 ≤ x → hX E cells slots q lo st M) : hX E cells slots pc lo (.int x :: st) M := by
  obtain ⟨p, e, R', s, m, args, below, meth, c, Q, A, K'⟩ := E
  obtain ⟨rfl, rfl, hx, hb, hml, hown, hts, hg, hA, hlk, hnm⟩ := C
  subst hq
  exact fun H locs ls h1 h2 h3 h4 => lv_if_ge hx hb hd ht (fun z => kt z H locs ls h1 h2 h3 h4) (fun z => kf z H locs ls h1 h2 h3 h4)
theorem x_icmp_ge (q t : Nat) (C : hCx E K cc n own nm R) {off : Int} {x y : Int32} (hd : decode cc pc = .ok (.if_icmp .ge off, 3)) (hq : pc + 3 = q) (ht : (pc : Int) + off = (t : Int)) (kt : y ≤ x → hX E cells slots t lo st M) (kf : ¬ y ≤ x → hX E cells slots q lo st M) : hX E cells slots pc lo (.int y :: .int x :: st) M := by
  obtain ⟨p, e, R', s, m, args, below, meth, c, Q, A, K'⟩ := E
  obtain ⟨rfl, rfl, hx, hb, hml, hown, hts, hg, hA, hlk, hnm⟩ := C
  subst hq
  exact fun H locs ls h1 h2 h3 h4 => lv_icmp_ge hx hb hd ht (fun z => kt z H locs ls h1 h2 h3 h4) (fun z => kf z H locs ls h1 h2 h3 h4)
theorem x_if_gt (q t : Nat) (C : hCx E K cc n own nm R) {off : Int} {x : Int32} (hd : decode cc pc = .ok (.ifCond .gt off, 3)) (hq : pc + 3 = q) (ht : (pc : Int) + off = (t : Int)) (kt : 0 < x → hX E cells slots t lo st M) (kf : ¬ 0 < x → hX E cells slots q lo st M) : hX E cells slots pc lo (.int x :: st) M := by
  obtain ⟨p, e, R', s, m, args, below, meth, c, Q, A, K'⟩ := E
  obtain ⟨rfl, rfl, hx, hb, hml, hown, hts, hg, hA, hlk, hnm⟩ := C
  subst hq
  exact fun H locs ls h1 h2 h3 h4 => lv_if_gt hx hb hd ht (fun z => kt z H locs ls h1 h2 h3 h4) (fun z => kf z H locs ls h1 h2 h3 h4)
theorem x_icmp_gt (q t : Nat) (C : hCx E K cc n own nm R) {off : Int} {x y : Int32} (hd : decode cc pc = .ok (.if_icmp .gt off, 3)) (hq : pc + 3 = q) (ht : (pc : Int) + off = (t : Int)) (kt : y < x → hX E cells slots t lo st M) (kf : ¬ y < x → hX E cells slots q lo st M) : hX E cells slots pc lo (.int y :: .int x :: st) M := by
  obtain ⟨p, e, R', s, m, args, below, meth, c, Q, A, K'⟩ := E
  obtain ⟨rfl, rfl, hx, hb, hml, hown, hts, hg, hA, hlk, hnm⟩ := C
  subst hq
  exact fun H locs ls h1 h2 h3 h4 => lv_icmp_gt hx hb hd ht (fun z => kt z H locs ls h1 h2 h3 h4) (fun z => kf z H locs ls h1 h2 h3 h4)
theorem x_if_le (q t : Nat) (C : hCx E K cc n own nm R) {off : Int} {x : Int32} (hd : decode cc pc = .ok (.ifCond .le off, 3)) (hq : pc + 3 = q) (ht : (pc : Int) + off = (t : Int)) (kt : x ≤ 0 → hX E cells slots t lo st M) (kf : ¬ x ≤ 0 → hX E cells slots q lo st M) : hX E cells slots pc lo (.int x :: st) M := by
  obtain ⟨p, e, R', s, m, args, below, meth, c, Q, A, K'⟩ := E
  obtain ⟨rfl, rfl, hx, hb, hml, hown, hts, hg, hA, hlk, hnm⟩ := C
  subst hq
  exact fun H locs ls h1 h2 h3 h4 => lv_if_le hx hb hd ht (fun z => kt z H locs ls h1 h2 h3 h4) (fun z => kf z H locs ls h1 h2 h3 h4)
theorem x_icmp_le (q t : Nat) (C : hCx E K cc n own nm R) {off : Int} {x y : Int32} (hd : decode cc pc = .ok (.if_icmp .le off, 3)) (hq : pc + 3 = q) (ht : (pc : Int) + off = (t : Int)) (kt : x ≤ y → hX E cells slots t lo st M) (kf : ¬ x ≤ y → hX E cells slots q lo st M) : hX E cells slots pc lo (.int y :: .int x :: st) M := by
  obtain ⟨p, e, R', s, m, args, below, meth, c, Q, A, K'⟩ := E
  obtain ⟨rfl, rfl, hx, hb, hml, hown, hts, hg, hA, hlk, hnm⟩ := C
  subst hq
  exact fun H locs ls h1 h2 h3 h4 => lv_icmp_le hx hb hd ht (fun z => kt z H locs ls h1 h2 h3 h4) (fun z => kf z H locs ls h1 h2 h3 h4)
theorem x_goto (t : Nat) (C : hCx E K cc n own nm R) {off : Int} (hd : decode cc pc = .ok (.goto off, 3)) (ht : (pc : Int) + off = (t : Int)) (kk : hX E cells slots t lo st M) : hX E cells slots pc lo st M := by
  obtain ⟨p, e, R', s, m, args, below, meth, c, Q, A, K'⟩ := E
  obtain ⟨rfl, rfl, hx, hb, hml, hown, hts, hg, hA, hlk, hnm⟩ := C
  exact fun H locs ls h1 h2 h3 h4 => lv_goto hx hb hd ht (kk H locs ls h1 h2 h3 h4)
theorem x_ifnonnull (q t : Nat) (C : hCx E K cc n own nm R) {off : Int} {r : Option Nat} (hd : decode cc pc = .ok (.ifnonnull off, 3)) (hq : pc + 3 = q) (ht : (pc : Int) + off = (t : Int)) (kt : ∀ a : Nat, r = some a → hX E cells slots t lo st M) (kf : r = none → hX E cells slots q lo st M) : hX E cells slots pc lo (va_rf r :: st) M := by
  obtain ⟨p, e, R', s, m, args, below, meth, c, Q, A, K'⟩ := E
  obtain ⟨rfl, rfl, hx, hb, hml, hown, hts, hg, hA, hlk, hnm⟩ := C
  subst hq
  cases r with
  | none => exact fun H locs ls h1 h2 h3 h4 => lv_ifnonnullN hx hb hd (kf rfl H locs ls h1 h2 h3 h4)
  | some a => exact fun H locs ls h1 h2 h3 h4 => lv_ifnonnull hx hb hd ht (kt a rfl H locs ls h1 h2 h3 h4)
theorem x_ifnull (q t : Nat) (C : hCx E K cc n own nm R) {off : Int} {r : Option Nat} (hd : decode cc pc = .ok (.ifnull off, 3)) (hq : pc + 3 = q) (ht : (pc : Int) + off = (t : Int)) (kt : r = none → hX E cells slots t lo st M) (kf : ∀ a : Nat, r = some a → hX E cells slots q lo st M) : hX E cells slots pc lo (va_rf r :: st) M := by
  obtain ⟨p, e, R', s, m, args, below, meth, c, Q, A, K'⟩ := E
  obtain ⟨rfl, rfl, hx, hb, hml, hown, hts, hg, hA, hlk, hnm⟩ := C
  subst hq
  cases r with
  | none => exact fun H locs ls h1 h2 h3 h4 => lv_ifnullN hx hb hd ht (kt rfl H locs ls h1 h2 h3 h4)
  | some a => exact fun H locs ls h1 h2 h3 h4 => lv_ifnull hx hb hd (kf a rfl H locs ls h1 h2 h3 h4)
theorem x_tabOut (t : Nat) (C : hCx E K cc n own nm R) {dflt a b : Int} {offs : Array Int} {len : Nat} {x : Int32} (hd : decode cc pc = .ok (.tableswitch dflt a b offs, len)) (h : x.toInt < a ∨ b < x.toInt) (ht : (pc : Int) + dflt = (t : Int)) (kk : hX E cells slots t lo st M) : hX E cells slots pc lo (.int x :: st) M := by
  obtain ⟨p, e, R', s, m, args, below, meth, c, Q, A, K'⟩ := E
  obtain ⟨rfl, rfl, hx, hb, hml, hown, hts, hg, hA, hlk, hnm⟩ := C
  exact fun H locs ls h1 h2 h3 h4 => lv_tableOut hx hb hd h ht (kk H locs ls h1 h2 h3 h4)
theorem x_tabIn (t : Nat) (C : hCx E K cc n own nm R) {dflt a b off : Int} {offs : Array Int} {len : Nat} {x : Int32} (hd : decode cc pc = .ok (.tableswitch dflt a b offs, len)) (g1 : ¬ x.toInt < a) (g2 : ¬ b < x.toInt) (ho : offs[(x.toInt - a).toNat]? = some off) (ht : (pc : Int) + off = (t : Int)) (kk : hX E cells slots t lo st M) : hX E cells slots pc lo (.int x :: st) M := by
  obtain ⟨p, e, R', s, m, args, below, meth, c, Q, A, K'⟩ := E
  obtain ⟨rfl, rfl, hx, hb, hml, hown, hts, hg, hA, hlk, hnm⟩ := C
  exact fun H locs ls h1 h2 h3 h4 => lv_tableIn hx hb hd g1 g2 ho ht (kk H locs ls h1 h2 h3 h4)
theorem x_lookup (t : Nat) (C : hCx E K cc n own nm R) {dflt off : Int} {ps : Array (Int × Int)} {len : Nat} {x : Int32} (hd : decode cc pc = .ok (.lookupswitch dflt ps, len)) (hp : (ps.toList.zip (ps.toList.drop 1)).all (fun (a, next) => a.1 < next.1) = true) (ho : Op.lookupswitch.offset ps.toList dflt x.toInt = off) (ht : (pc : Int) + off = (t : Int)) (kk : hX E cells slots t lo st M) : hX E cells slots pc lo (.int x :: st) M := by
  obtain ⟨p, e, R', s, m, args, below, meth, c, Q, A, K'⟩ := E
  obtain ⟨rfl, rfl, hx, hb, hml, hown, hts, hg, hA, hlk, hnm⟩ := C
  exact fun H locs ls h1 h2 h3 h4 => lv_lookup hx hb hd hp ho ht (kk H locs ls h1 h2 h3 h4)
theorem x_iload_0 (q : Nat) (C : hCx E K cc n own nm R) {r : List (Option Value)} {x : Int32} (hd : decode cc pc = .ok (.iload_n 0, 1)) (hq : pc + 1 = q) (kk : hX E cells slots q (some (.int x) :: r) (.int x :: st) M) : hX E cells slots pc (some (.int x) :: r) st M := by
  obtain ⟨p, e, R', s, m, args, below, meth, c, Q, A, K'⟩ := E
  obtain ⟨rfl, rfl, hx, hb, hml, hown, hts, hg, hA, hlk, hnm⟩ := C
  subst hq
  exact fun H locs ls h1 h2 h3 h4 => lv_iload_n hx hb hd rfl (h4.at (k := 0) rfl) (kk H locs ls h1 h2 h3 h4)
theorem x_lload_0 (q : Nat) (C : hCx E K cc n own nm R) {r : List (Option Value)} {x : Int64} (hd : decode cc pc = .ok (.lload_n 0, 1)) (hq : pc + 1 = q) (kk : hX E cells slots q (some (.long x) :: r) (.long x :: st) M) : hX E cells slots pc (some (.long x) :: r) st M := by
  obtain ⟨p, e, R', s, m, args, below, meth, c, Q, A, K'⟩ := E
  obtain ⟨rfl, rfl, hx, hb, hml, hown, hts, hg, hA, hlk, hnm⟩ := C
  subst hq
  exact fun H locs ls h1 h2 h3 h4 => lv_lload_n hx hb hd rfl (h4.at (k := 0) rfl) (kk H locs ls h1 h2 h3 h4)
theorem x_aload_0 (q : Nat) (C : hCx E K cc n own nm R) {r : List (Option Value)} {x : Nat} (hd : decode cc pc = .ok (.aload_n 0, 1)) (hq : pc + 1 = q) (kk : hX E cells slots q (some (.ref x) :: r) (.ref x :: st) M) : hX E cells slots pc (some (.ref x) :: r) st M := by
  obtain ⟨p, e, R', s, m, args, below, meth, c, Q, A, K'⟩ := E
  obtain ⟨rfl, rfl, hx, hb, hml, hown, hts, hg, hA, hlk, hnm⟩ := C
  subst hq
  exact fun H locs ls h1 h2 h3 h4 => lv_aload_n hx hb hd rfl (h4.at (k := 0) rfl) (kk H locs ls h1 h2 h3 h4)
theorem x_qload_0 (q : Nat) (C : hCx E K cc n own nm R) {r : List (Option Value)} {x : Option Nat} (hd : decode cc pc = .ok (.aload_n 0, 1)) (hq : pc + 1 = q) (kk : hX E cells slots q (some (va_rf x) :: r) (va_rf x :: st) M) : hX E cells slots pc (some (va_rf x) :: r) st M := by
  obtain ⟨p, e, R', s, m, args, below, meth, c, Q, A, K'⟩ := E
  obtain ⟨rfl, rfl, hx, hb, hml, hown, hts, hg, hA, hlk, hnm⟩ := C
  subst hq
  cases x with
  | none => exact fun H locs ls h1 h2 h3 h4 => lv_aload_nN hx hb hd rfl (h4.at (k := 0) rfl) (kk H locs ls h1 h2 h3 h4)
  | some a => exact fun H locs ls h1 h2 h3 h4 => lv_aload_n hx hb hd rfl (h4.at (k := 0) rfl) (kk H locs ls h1 h2 h3 h4)
theorem x_istore_0 (q : Nat) (C : hCx E K cc n own nm R) {r : List (Option Value)} {b : Option Value} {x : Int32} (hd : decode cc pc = .ok (.istore_n 0, 1)) (hq : pc + 1 = q) (kk : hX E cells slots q (some (.int x) :: r) st M) : hX E cells slots pc (b :: r) (.int x :: st) M := by
  obtain ⟨p, e, R', s, m, args, below, meth, c, Q, A, K'⟩ := E
  obtain ⟨rfl, rfl, hx, hb, hml, hown, hts, hg, hA, hlk, hnm⟩ := C
  subst hq
  intro H locs ls h1 h2 h3 h4
  have hk : 0 < c.maxLocals := by have h := h4.1; simp only [List.length_cons] at h; omega
  exact lv_istore_n hx hb hd rfl h4.2 hk rfl (fun ls2 hl => kk H locs ls2 h1 h2 h3 (hL.st1 (k := 0) (v := .int x) h4.1 hk (Or.inl rfl) hl))
theorem x_astore_0 (q : Nat) (C : hCx E K cc n own nm R) {r : List (Option Value)} {b : Option Value} {x : Nat} (hd : decode cc pc = .ok (.astore_n 0, 1)) (hq : pc + 1 = q) (kk : hX E cells slots q (some (.ref x) :: r) st M) : hX E cells slots pc (b :: r) (.ref x :: st) M := by
  obtain ⟨p, e, R', s, m, args, below, meth, c, Q, A, K'⟩ := E
  obtain ⟨rfl, rfl, hx, hb, hml, hown, hts, hg, hA, hlk, hnm⟩ := C
  subst hq
  intro H locs ls h1 h2 h3 h4
  have hk : 0 < c.maxLocals := by have h := h4.1; simp only [List.length_cons] at h; omega
  exact lv_astore_n hx hb hd rfl h4.2 hk rfl (fun ls2 hl => kk H locs ls2 h1 h2 h3 (hL.st1 (k := 0) (v := .ref x) h4.1 hk (Or.inl rfl) hl))
theorem x_lstore_0 (q : Nat) (C : hCx E K cc n own nm R) {r : List (Option Value)} {b b2 : Option Value} {x : Int64} (hd : decode cc pc = .ok (.lstore_n 0, 1)) (hq : pc + 1 = q) (kk : hX E cells slots q (some (.long x) :: none :: r) st M) : hX E cells slots pc (b :: b2 :: r) (.long x :: st) M := by
  obtain ⟨p, e, R', s, m, args, below, meth, c, Q, A, K'⟩ := E
  obtain ⟨rfl, rfl, hx, hb, hml, hown, hts, hg, hA, hlk, hnm⟩ := C
  subst hq
  intro H locs ls h1 h2 h3 h4
  have hk : 0 + 1 < c.maxLocals := by have h := h4.1; simp only [List.length_cons] at h; omega
  exact lv_lstore_n hx hb hd rfl h4.2 hk rfl (fun ls2 hl => kk H locs ls2 h1 h2 h3 (hL.st2 (k := 0) (v := .long x) h4.1 hk (Or.inl rfl) hl))
theorem x_iinc_0 (q : Nat) (C : hCx E K cc n own nm R) {r : List (Option Value)} {x : Int32} {i : Int} {v : Int32} (hd : decode cc pc = .ok (.iinc 0 i, 3)) (hq : pc + 3 = q) (hv : x + Int32.ofInt i = v) (kk : hX E cells slots q (some (.int v) :: r) st M) : hX E cells slots pc (some (.int x) :: r) st M := by
  obtain ⟨p, e, R', s, m, args, below, meth, c, Q, A, K'⟩ := E
  obtain ⟨rfl, rfl, hx, hb, hml, hown, hts, hg, hA, hlk, hnm⟩ := C
  subst hq
  intro H locs ls h1 h2 h3 h4
  have hk : 0 < c.maxLocals := by have h := h4.1; simp only [List.length_cons] at h; omega
  obtain ⟨k, hkk⟩ := List.getElem?_of_mem ((hLs_mem (some (.int x) :: r) 0 0 (.int x)).mpr ⟨Nat.zero_le _, rfl⟩)
  exact lv_iinc hx hb hd h4.2 hkk hv hk rfl (fun ls2 hl => kk H locs ls2 h1 h2 h3 (hL.st1 (k := 0) (v := .int v) h4.1 hk (Or.inl rfl) hl))
theorem x_fg_0 {r : List (Option Value)} {b : Option Value} (kk : hX E cells slots pc (none :: r) st M) : hX E cells slots pc (b :: r) st M := x_w (lo' := (none :: r)) rfl (fun j v hj => by
  match j, hj with
  | 0, hj => cases hj
  | j + 1, hj => exact hj) kk
theorem x_iload_1 (q : Nat) (C : hCx E K cc n own nm R) {a0 : Option Value} {r : List (Option Value)} {x : Int32} (hd : decode cc pc = .ok (.iload_n 1, 1)) (hq : pc + 1 = q) (kk : hX E cells slots q (a0 :: some (.int x) :: r) (.int x :: st) M) : hX E cells slots pc (a0 :: some (.int x) :: r) st M := by
  obtain ⟨p, e, R', s, m, args, below, meth, c, Q, A, K'⟩ := E
  obtain ⟨rfl, rfl, hx, hb, hml, hown, hts, hg, hA, hlk, hnm⟩ := C
  subst hq
  exact fun H locs ls h1 h2 h3 h4 => lv_iload_n hx hb hd rfl (h4.at (k := 1) rfl) (kk H locs ls h1 h2 h3 h4)
theorem x_lload_1 (q : Nat) (C : hCx E K cc n own nm R) {a0 : Option Value} {r : List (Option Value)} {x : Int64} (hd : decode cc pc = .ok (.lload_n 1, 1)) (hq : pc + 1 = q) (kk : hX E cells slots q (a0 :: some (.long x) :: r) (.long x :: st) M) : hX E cells slots pc (a0 :: some (.long x) :: r) st M := by
  obtain ⟨p, e, R', s, m, args, below, meth, c, Q, A, K'⟩ := E
  obtain ⟨rfl, rfl, hx, hb, hml, hown, hts, hg, hA, hlk, hnm⟩ := C
  subst hq
  exact fun H locs ls h1 h2 h3 h4 => lv_lload_n hx hb hd rfl (h4.at (k := 1) rfl) (kk H locs ls h1 h2 h3 h4)
theorem x_aload_1 (q : Nat) (C : hCx E K cc n own nm R) {a0 : Option Value} {r : List (Option Value)} {x : Nat} (hd : decode cc pc = .ok (.aload_n 1, 1)) (hq : pc + 1 = q) (kk : hX E cells slots q (a0 :: some (.ref x) :: r) (.ref x :: st) M) : hX E cells slots pc (a0 :: some (.ref x) :: r) st M := by
  obtain ⟨p, e, R', s, m, args, below, meth, c, Q, A, K'⟩ := E
  obtain ⟨rfl, rfl, hx, hb, hml, hown, hts, hg, hA, hlk, hnm⟩ := C
  subst hq
  exact fun H locs ls h1 h2 h3 h4 => lv_aload_n hx hb hd rfl (h4.at (k := 1) rfl) (kk H locs ls h1 h2 h3 h4)
theorem x_qload_1 (q : Nat) (C : hCx E K cc n own nm R) {a0 : Option Value} {r : List (Option Value)} {x : Option Nat} (hd : decode cc pc = .ok (.aload_n 1, 1)) (hq : pc + 1 = q) (kk : hX E cells slots q (a0 :: some (va_rf x) :: r) (va_rf x :: st) M) : hX E cells slots pc (a0 :: some (va_rf x) :: r) st M := by
  obtain ⟨p, e, R', s, m, args, below, meth, c, Q, A, K'⟩ := E
  obtain ⟨rfl, rfl, hx, hb, hml, hown, hts, hg, hA, hlk, hnm⟩ := C
  subst hq
  cases x with
  | none => exact fun H locs ls h1 h2 h3 h4 => lv_aload_nN hx hb hd rfl (h4.at (k := 1) rfl) (kk H locs ls h1 h2 h3 h4)
  | some a => exact fun H locs ls h1 h2 h3 h4 => lv_aload_n hx hb hd rfl (h4.at (k := 1) rfl) (kk H locs ls h1 h2 h3 h4)
theorem x_istore_1 (q : Nat) (C : hCx E K cc n own nm R) {a0 : Option Value} {r : List (Option Value)} {b : Option Value} {x : Int32} (hd : decode cc pc = .ok (.istore_n 1, 1)) (hq : pc + 1 = q) (hn : hNL a0 = true) (kk : hX E cells slots q (a0 :: some (.int x) :: r) st M) : hX E cells slots pc (a0 :: b :: r) (.int x :: st) M := by
  obtain ⟨p, e, R', s, m, args, below, meth, c, Q, A, K'⟩ := E
  obtain ⟨rfl, rfl, hx, hb, hml, hown, hts, hg, hA, hlk, hnm⟩ := C
  subst hq
  intro H locs ls h1 h2 h3 h4
  have hk : 1 < c.maxLocals := by have h := h4.1; simp only [List.length_cons] at h; omega
  exact lv_istore_n hx hb hd rfl h4.2 hk rfl (fun ls2 hl => kk H locs ls2 h1 h2 h3 (hL.st1 (k := 1) (v := .int x) h4.1 hk (Or.inr ⟨0, _, rfl, rfl, hn⟩) hl))
theorem x_astore_1 (q : Nat) (C : hCx E K cc n own nm R) {a0 : Option Value} {r : List (Option Value)} {b : Option Value} {x : Nat} (hd : decode cc pc = .ok (.astore_n 1, 1)) (hq : pc + 1 = q) (hn : hNL a0 = true) (kk : hX E cells slots q (a0 :: some (.ref x) :: r) st M) : hX E cells slots pc (a0 :: b :: r) (.ref x :: st) M := by
  obtain ⟨p, e, R', s, m, args, below, meth, c, Q, A, K'⟩ := E
  obtain ⟨rfl, rfl, hx, hb, hml, hown, hts, hg, hA, hlk, hnm⟩ := C
  subst hq
  intro H locs ls h1 h2 h3 h4
  have hk : 1 < c.maxLocals := by have h := h4.1; simp only [List.length_cons] at h; omega
  exact lv_astore_n hx hb hd rfl h4.2 hk rfl (fun ls2 hl => kk H locs ls2 h1 h2 h3 (hL.st1 (k := 1) (v := .ref x) h4.1 hk (Or.inr ⟨0, _, rfl, rfl, hn⟩) hl))
theorem x_lstore_1 (q : Nat) (C : hCx E K cc n own nm R) {a0 : Option Value} {r : List (Option Value)} {b b2 : Option Value} {x : Int64} (hd : decode cc pc = .ok (.lstore_n 1, 1)) (hq : pc + 1 = q) (hn : hNL a0 = true) (kk : hX E cells slots q (a0 :: some (.long x) :: none :: r) st M) : hX E cells slots pc (a0 :: b :: b2 :: r) (.long x :: st) M := by
  obtain ⟨p, e, R', s, m, args, below, meth, c, Q, A, K'⟩ := E
  obtain ⟨rfl, rfl, hx, hb, hml, hown, hts, hg, hA, hlk, hnm⟩ := C
  subst hq
  intro H locs ls h1 h2 h3 h4
  have hk : 1 + 1 < c.maxLocals := by have h := h4.1; simp only [List.length_cons] at h; omega
  exact lv_lstore_n hx hb hd rfl h4.2 hk rfl (fun ls2 hl => kk H locs ls2 h1 h2 h3 (hL.st2 (k := 1) (v := .long x) h4.1 hk (Or.inr ⟨0, _, rfl, rfl, hn⟩) hl))
theorem x_iinc_1 (q : Nat) (C : hCx E K cc n own nm R) {a0 : Option Value} {r : List (Option Value)} {x : Int32} {i : Int} {v : Int32} (hd : decode cc pc = .ok (.iinc 1 i, 3)) (hq : pc + 3 = q) (hn : hNL a0 = true) (hv : x + Int32.ofInt i = v) (kk : hX E cells slots q (a0 :: some (.int v) :: r) st M) : hX E cells slots pc (a0 :: some (.int x) :: r) st M := by
  obtain ⟨p, e, R', s, m, args, below, meth, c, Q, A, K'⟩ := E
  obtain ⟨rfl, rfl, hx, hb, hml, hown, hts, hg, hA, hlk, hnm⟩ := C
  subst hq
  intro H locs ls h1 h2 h3 h4
  have hk : 1 < c.maxLocals := by have h := h4.1; simp only [List.length_cons] at h; omega
  obtain ⟨k, hkk⟩ := List.getElem?_of_mem ((hLs_mem (a0 :: some (.int x) :: r) 0 1 (.int x)).mpr ⟨Nat.zero_le _, rfl⟩)
  exact lv_iinc hx hb hd h4.2 hkk hv hk rfl (fun ls2 hl => kk H locs ls2 h1 h2 h3 (hL.st1 (k := 1) (v := .int v) h4.1 hk (Or.inr ⟨0, _, rfl, rfl, hn⟩) hl))
theorem x_fg_1 {a0 : Option Value} {r : List (Option Value)} {b : Option Value} (kk : hX E cells slots pc (a0 :: none :: r) st M) : hX E cells slots pc (a0 :: b :: r) st M := x_w (lo' := (a0 :: none :: r)) rfl (fun j v hj => by
  match j, hj with
  | 0, hj => exact hj
  | 1, hj => cases hj
  | j + 2, hj => exact hj) kk
theorem x_iload_2 (q : Nat) (C : hCx E K cc n own nm R) {a0 a1 : Option Value} {r : List (Option Value)} {x : Int32} (hd : decode cc pc = .ok (.iload_n 2, 1)) (hq : pc + 1 = q) (kk : hX E cells slots q (a0 :: a1 :: some (.int x) :: r) (.int x :: st) M) : hX E cells slots pc (a0 :: a1 :: some (.int x) :: r) st M := by
  obtain ⟨p, e, R', s, m, args, below, meth, c, Q, A, K'⟩ := E
  obtain ⟨rfl, rfl, hx, hb, hml, hown, hts, hg, hA, hlk, hnm⟩ := C
  subst hq
  exact fun H locs ls h1 h2 h3 h4 => lv_iload_n hx hb hd rfl (h4.at (k := 2) rfl) (kk H locs ls h1 h2 h3 h4)
theorem x_lload_2 (q : Nat) (C : hCx E K cc n own nm R) {a0 a1 : Option Value} {r : List (Option Value)} {x : Int64} (hd : decode cc pc = .ok (.lload_n 2, 1)) (hq : pc + 1 = q) (kk : hX E cells slots q (a0 :: a1 :: some (.long x) :: r) (.long x :: st) M) : hX E cells slots pc (a0 :: a1 :: some (.long x) :: r) st M := by
  obtain ⟨p, e, R', s, m, args, below, meth, c, Q, A, K'⟩ := E
  obtain ⟨rfl, rfl, hx, hb, hml, hown, hts, hg, hA, hlk, hnm⟩ := C
  subst hq
  exact fun H locs ls h1 h2 h3 h4 => lv_lload_n hx hb hd rfl (h4.at (k := 2) rfl) (kk H locs ls h1 h2 h3 h4)
theorem x_aload_2 (q : Nat) (C : hCx E K cc n own nm R) {a0 a1 : Option Value} {r : List (Option Value)} {x : Nat} (hd : decode cc pc = .ok (.aload_n 2, 1)) (hq : pc + 1 = q) (kk : hX E cells slots q (a0 :: a1 :: some (.ref x) :: r) (.ref x :: st) M) : hX E cells slots pc (a0 :: a1 :: some (.ref x) :: r) st M := by
  obtain ⟨p, e, R', s, m, args, below, meth, c, Q, A, K'⟩ := E
  obtain ⟨rfl, rfl, hx, hb, hml, hown, hts, hg, hA, hlk, hnm⟩ := C
  subst hq
  exact fun H locs ls h1 h2 h3 h4 => lv_aload_n hx hb hd rfl (h4.at (k := 2) rfl) (kk H locs ls h1 h2 h3 h4)
theorem x_qload_2 (q : Nat) (C : hCx E K cc n own nm R) {a0 a1 : Option Value} {r : List (Option Value)} {x : Option Nat} (hd : decode cc pc = .ok (.aload_n 2, 1)) (hq : pc + 1 = q) (kk : hX E cells slots q (a0 :: a1 :: some (va_rf x) :: r) (va_rf x :: st) M) : hX E cells slots pc (a0 :: a1 :: some (va_rf x) :: r) st M := by
  obtain ⟨p, e, R', s, m, args, below, meth, c, Q, A, K'⟩ := E
  obtain ⟨rfl, rfl, hx, hb, hml, hown, hts, hg, hA, hlk, hnm⟩ := C
  subst hq
  cases x with
  | none => exact fun H locs ls h1 h2 h3 h4 => lv_aload_nN hx hb hd rfl (h4.at (k := 2) rfl) (kk H locs ls h1 h2 h3 h4)
  | some a => exact fun H locs ls h1 h2 h3 h4 => lv_aload_n hx hb hd rfl (h4.at (k := 2) rfl) (kk H locs ls h1 h2 h3 h4)
theorem x_istore_2 (q : Nat) (C : hCx E K cc n own nm R) {a0 a1 : Option Value} {r : List (Option Value)} {b : Option Value} {x : Int32} (hd : decode cc pc = .ok (.istore_n 2, 1)) (hq : pc + 1 = q) (hn : hNL a1 = true) (kk : hX E cells slots q (a0 :: a1 :: some (.int x) :: r) st M) : hX E cells slots pc (a0 :: a1 :: b :: r) (.int x :: st) M := by
  obtain ⟨p, e, R', s, m, args, below, meth, c, Q, A, K'⟩ := E
  obtain ⟨rfl, rfl, hx, hb, hml, hown, hts, hg, hA, hlk, hnm⟩ := C
  subst hq
  intro H locs ls h1 h2 h3 h4
  have hk : 2 < c.maxLocals := by have h := h4.1; simp only [List.length_cons] at h; omega
  exact lv_istore_n hx hb hd rfl h4.2 hk rfl (fun ls2 hl => kk H locs ls2 h1 h2 h3 (hL.st1 (k := 2) (v := .int x) h4.1 hk (Or.inr ⟨1, _, rfl, rfl, hn⟩) hl))
theorem x_astore_2 (q : Nat) (C : hCx E K cc n own nm R) {a0 a1 : Option Value} {r : List (Option Value)} {b : Option Value} {x : Nat} (hd : decode cc pc = .ok (.astore_n 2, 1)) (hq : pc + 1 = q) (hn : hNL a1 = true) (kk : hX E cells slots q (a0 :: a1 :: some (.ref x) :: r) st M) : hX E cells slots pc (a0 :: a1 :: b :: r) (.ref x :: st) M := by
  obtain ⟨p, e, R', s, m, args, below, meth, c, Q, A, K'⟩ := E
  obtain ⟨rfl, rfl, hx, hb, hml, hown, hts, hg, hA, hlk, hnm⟩ := C
  subst hq
  intro H locs ls h1 h2 h3 h4
  have hk : 2 < c.maxLocals := by have h := h4.1; simp only [List.length_cons] at h; omega
  exact lv_astore_n hx hb hd rfl h4.2 hk rfl (fun ls2 hl => kk H locs ls2 h1 h2 h3 (hL.st1 (k := 2) (v := .ref x) h4.1 hk (Or.inr ⟨1, _, rfl, rfl, hn⟩) hl))
theorem x_lstore_2 (q : Nat) (C : hCx E K cc n own nm R) {a0 a1 : Option Value} {r : List (Option Value)} {b b2 : Option Value} {x : Int64} (hd : decode cc pc = .ok (.lstore_n 2, 1)) (hq : pc + 1 = q) (hn : hNL a1 = true) (kk : hX E cells slots q (a0 :: a1 :: some (.long x) :: none :: r) st M) : hX E cells slots pc (a0 :: a1 :: b :: b2 :: r) (.long x :: st) M := by
  obtain ⟨p, e, R', s, m, args, below, meth, c, Q, A, K'⟩ := E
  obtain ⟨rfl, rfl, hx, hb, hml, hown, hts, hg, hA, hlk, hnm⟩ := C
  subst hq
  intro H locs ls h1 h2 h3 h4
  have hk : 2 + 1 < c.maxLocals := by have h := h4.1; simp only [List.length_cons] at h; omega
  exact lv_lstore_n hx hb hd rfl h4.2 hk rfl (fun ls2 hl => kk H locs ls2 h1 h2 h3 (hL.st2 (k := 2) (v := .long x) h4.1 hk (Or.inr ⟨1, _, rfl, rfl, hn⟩) hl))
theorem x_iinc_2 (q : Nat) (C : hCx E K cc n own nm R) {a0 a1 : Option Value} {r : List (Option Value)} {x : Int32} {i : Int} {v : Int32} (hd : decode cc pc = .ok (.iinc 2 i, 3)) (hq : pc + 3 = q) (hn : hNL a1 = true) (hv : x + Int32.ofInt i = v) (kk : hX E cells slots q (a0 :: a1 :: some (.int v) :: r) st M) : hX E cells slots pc (a0 :: a1 :: some (.int x) :: r) st M := by
  obtain ⟨p, e, R', s, m, args, below, meth, c, Q, A, K'⟩ := E
  obtain ⟨rfl, rfl, hx, hb, hml, hown, hts, hg, hA, hlk, hnm⟩ := C
  subst hq
  intro H locs ls h1 h2 h3 h4
  have hk : 2 < c.maxLocals := by have h := h4.1; simp only [List.length_cons] at h; omega
  obtain ⟨k, hkk⟩ := List.getElem?_of_mem ((hLs_mem (a0 :: a1 :: some (.int x) :: r) 0 2 (.int x)).mpr ⟨Nat.zero_le _, rfl⟩)
  exact lv_iinc hx hb hd h4.2 hkk hv hk rfl (fun ls2 hl => kk H locs ls2 h1 h2 h3 (hL.st1 (k := 2) (v := .int v) h4.1 hk (Or.inr ⟨1, _, rfl, rfl, hn⟩) hl))
theorem x_fg_2 {a0 a1 : Option Value} {r : List (Option Value)} {b : Option Value} (kk : hX E cells slots pc (a0 :: a1 :: none :: r) st M) : hX E cells slots pc (a0 :: a1 :: b :: r) st M := x_w (lo' := (a0 :: a1 :: none :: r)) rfl (fun j v hj => by
  match j, hj with
  | 0, hj => exact hj
  | 1, hj => exact hj
  | 2, hj => cases hj
  | j + 3, hj => exact hj) kk
theorem x_iload_3 (q : Nat) (C : hCx E K cc n own nm R) {a0 a1 a2 : Option Value} {r : List (Option Value)} {x : Int32} (hd : decode cc pc = .ok (.iload_n 3, 1)) (hq : pc + 1 = q) (kk : hX E cells slots q (a0 :: a1 :: a2 :: some (.int x) :: r) (.int x :: st) M) : hX E cells slots pc (a0 :: a1 :: a2 :: some (.int x) :: r) st M := by
  obtain ⟨p, e, R', s, m, args, below, meth, c, Q, A, K'⟩ := E
  obtain ⟨rfl, rfl, hx, hb, hml, hown, hts, hg, hA, hlk, hnm⟩ := C
  subst hq
  exact fun H locs ls h1 h2 h3 h4 => lv_iload_n hx hb hd rfl (h4.at (k := 3) rfl) (kk H locs ls h1 h2 h3 h4)
theorem x_lload_3 (q : Nat) (C : hCx E K cc n own nm R) {a0 a1 a2 : Option Value} {r : List (Option Value)} {x : Int64} (hd : decode cc pc = .ok (.lload_n 3, 1)) (hq : pc + 1 = q) (kk : hX E cells slots q (a0 :: a1 :: a2 :: some (.long x) :: r) (.long x :: st) M) : hX E cells slots pc (a0 :: a1 :: a2 :: some (.long x) :: r) st M := by
  obtain ⟨p, e, R', s, m, args, below, meth, c, Q, A, K'⟩ := E
  obtain ⟨rfl, rfl, hx, hb, hml, hown, hts, hg, hA, hlk, hnm⟩ := C
  subst hq
  exact fun H locs ls h1 h2 h3 h4 => lv_lload_n hx hb hd rfl (h4.at (k := 3) rfl) (kk H locs ls h1 h2 h3 h4)
theorem x_aload_3 (q : Nat) (C : hCx E K cc n own nm R) {a0 a1 a2 : Option Value} {r : List (Option Value)} {x : Nat} (hd : decode cc pc = .ok (.aload_n 3, 1)) (hq : pc + 1 = q) (kk : hX E cells slots q (a0 :: a1 :: a2 :: some (.ref x) :: r) (.ref x :: st) M) : hX E cells slots pc (a0 :: a1 :: a2 :: some (.ref x) :: r) st M := by
  obtain ⟨p, e, R', s, m, args, below, meth, c, Q, A, K'⟩ := E
  obtain ⟨rfl, rfl, hx, hb, hml, hown, hts, hg, hA, hlk, hnm⟩ := C
  subst hq
  exact fun H locs ls h1 h2 h3 h4 => lv_aload_n hx hb hd rfl (h4.at (k := 3) rfl) (kk H locs ls h1 h2 h3 h4)
theorem x_qload_3 (q : Nat) (C : hCx E K cc n own nm R) {a0 a1 a2 : Option Value} {r : List (Option Value)} {x : Option Nat} (hd : decode cc pc = .ok (.aload_n 3, 1)) (hq : pc + 1 = q) (kk : hX E cells slots q (a0 :: a1 :: a2 :: some (va_rf x) :: r) (va_rf x :: st) M) : hX E cells slots pc (a0 :: a1 :: a2 :: some (va_rf x) :: r) st M := by
  obtain ⟨p, e, R', s, m, args, below, meth, c, Q, A, K'⟩ := E
  obtain ⟨rfl, rfl, hx, hb, hml, hown, hts, hg, hA, hlk, hnm⟩ := C
  subst hq
  cases x with
  | none => exact fun H locs ls h1 h2 h3 h4 => lv_aload_nN hx hb hd rfl (h4.at (k := 3) rfl) (kk H locs ls h1 h2 h3 h4)
  | some a => exact fun H locs ls h1 h2 h3 h4 => lv_aload_n hx hb hd rfl (h4.at (k := 3) rfl) (kk H locs ls h1 h2 h3 h4)
theorem x_istore_3 (q : Nat) (C : hCx E K cc n own nm R) {a0 a1 a2 : Option Value} {r : List (Option Value)} {b : Option Value} {x : Int32} (hd : decode cc pc = .ok (.istore_n 3, 1)) (hq : pc + 1 = q) (hn : hNL a2 = true) (kk : hX E cells slots q (a0 :: a1 :: a2 :: some (.int x) :: r) st M) : hX E cells slots pc (a0 :: a1 :: a2 :: b :: r) (.int x :: st) M := by
  obtain ⟨p, e, R', s, m, args, below, meth, c, Q, A, K'⟩ := E
  obtain ⟨rfl, rfl, hx, hb, hml, hown, hts, hg, hA, hlk, hnm⟩ := C
  subst hq
  intro H locs ls h1 h2 h3 h4
  have hk : 3 < c.maxLocals := by have h := h4.1; simp only [List.length_cons] at h; omega
  exact lv_istore_n hx hb hd rfl h4.2 hk rfl (fun ls2 hl => kk H locs ls2 h1 h2 h3 (hL.st1 (k := 3) (v := .int x) h4.1 hk (Or.inr ⟨2, _, rfl, rfl, hn⟩) hl))
theorem x_astore_3 (q : Nat) (C : hCx E K cc n own nm R) {a0 a1 a2 : Option Value} {r : List (Option Value)} {b : Option Value} {x : Nat} (hd : decode cc pc = .ok (.astore_n 3, 1)) (hq : pc + 1 = q) (hn : hNL a2 = true) (kk : hX E cells slots q (a0 :: a1 :: a2 :: some (.ref x) :: r) st M) : hX E cells slots pc (a0 :: a1 :: a2 :: b :: r) (.ref x :: st) M := by
  obtain ⟨p, e, R', s, m, args, below, meth, c, Q, A, K'⟩ := E
  obtain ⟨rfl, rfl, hx, hb, hml, hown, hts, hg, hA, hlk, hnm⟩ := C
  subst hq
  intro H locs ls h1 h2 h3 h4
  have hk : 3 < c.maxLocals := by have h := h4.1; simp only [List.length_cons] at h; omega
  exact lv_astore_n hx hb hd rfl h4.2 hk rfl (fun ls2 hl => kk H locs ls2 h1 h2 h3 (hL.st1 (k := 3) (v := .ref x) h4.1 hk (Or.inr ⟨2, _, rfl, rfl, hn⟩) hl))
theorem x_lstore_3 (q : Nat) (C : hCx E K cc n own nm R) {a0 a1 a2 : Option Value} {r : List (Option Value)} {b b2 : Option Value} {x : Int64} (hd : decode cc pc = .ok (.lstore_n 3, 1)) (hq : pc + 1 = q) (hn : hNL a2 = true) (kk : hX E cells slots q (a0 :: a1 :: a2 :: some (.long x) :: none :: r) st M) : hX E cells slots pc (a0 :: a1 :: a2 :: b :: b2 :: r) (.long x :: st) M := by
  obtain ⟨p, e, R', s, m, args, below, meth, c, Q, A, K'⟩ := E
  obtain ⟨rfl, rfl, hx, hb, hml, hown, hts, hg, hA, hlk, hnm⟩ := C
  subst hq
  intro H locs ls h1 h2 h3 h4
  have hk : 3 + 1 < c.maxLocals := by have h := h4.1; simp only [List.length_cons] at h; omega
  exact lv_lstore_n hx hb hd rfl h4.2 hk rfl (fun ls2 hl => kk H locs ls2 h1 h2 h3 (hL.st2 (k := 3) (v := .long x) h4.1 hk (Or.inr ⟨2, _, rfl, rfl, hn⟩) hl))
theorem x_iinc_3 (q : Nat) (C : hCx E K cc n own nm R) {a0 a1 a2 : Option Value} {r : List (Option Value)} {x : Int32} {i : Int} {v : Int32} (hd : decode cc pc = .ok (.iinc 3 i, 3)) (hq : pc + 3 = q) (hn : hNL a2 = true) (hv : x + Int32.ofInt i = v) (kk : hX E cells slots q (a0 :: a1 :: a2 :: some (.int v) :: r) st M) : hX E cells slots pc (a0 :: a1 :: a2 :: some (.int x) :: r) st M := by
  obtain ⟨p, e, R', s, m, args, below, meth, c, Q, A, K'⟩ := E
  obtain ⟨rfl, rfl, hx, hb, hml, hown, hts, hg, hA, hlk, hnm⟩ := C
  subst hq
  intro H locs ls h1 h2 h3 h4
  have hk : 3 < c.maxLocals := by have h := h4.1; simp only [List.length_cons] at h; omega
  obtain ⟨k, hkk⟩ := List.getElem?_of_mem ((hLs_mem (a0 :: a1 :: a2 :: some (.int x) :: r) 0 3 (.int x)).mpr ⟨Nat.zero_le _, rfl⟩)
  exact lv_iinc hx hb hd h4.2 hkk hv hk rfl (fun ls2 hl => kk H locs ls2 h1 h2 h3 (hL.st1 (k := 3) (v := .int v) h4.1 hk (Or.inr ⟨2, _, rfl, rfl, hn⟩) hl))
theorem x_fg_3 {a0 a1 a2 : Option Value} {r : List (Option Value)} {b : Option Value} (kk : hX E cells slots pc (a0 :: a1 :: a2 :: none :: r) st M) : hX E cells slots pc (a0 :: a1 :: a2 :: b :: r) st M := x_w (lo' := (a0 :: a1 :: a2 :: none :: r)) rfl (fun j v hj => by
  match j, hj with
  | 0, hj => exact hj
  | 1, hj => exact hj
  | 2, hj => exact hj
  | 3, hj => cases hj
  | j + 4, hj => exact hj) kk
theorem x_iload_4 (q : Nat) (C : hCx E K cc n own nm R) {a0 a1 a2 a3 : Option Value} {r : List (Option Value)} {x : Int32} (hd : decode cc pc = .ok (.iload 4, 2)) (hq : pc + 2 = q) (kk : hX E cells slots q (a0 :: a1 :: a2 :: a3 :: some (.int x) :: r) (.int x :: st) M) : hX E cells slots pc (a0 :: a1 :: a2 :: a3 :: some (.int x) :: r) st M := by
  obtain ⟨p, e, R', s, m, args, below, meth, c, Q, A, K'⟩ := E
  obtain ⟨rfl, rfl, hx, hb, hml, hown, hts, hg, hA, hlk, hnm⟩ := C
  subst hq
  exact fun H locs ls h1 h2 h3 h4 => lv_iload hx hb hd (h4.at (k := 4) rfl) (kk H locs ls h1 h2 h3 h4)
theorem x_lload_4 (q : Nat) (C : hCx E K cc n own nm R) {a0 a1 a2 a3 : Option Value} {r : List (Option Value)} {x : Int64} (hd : decode cc pc = .ok (.lload 4, 2)) (hq : pc + 2 = q) (kk : hX E cells slots q (a0 :: a1 :: a2 :: a3 :: some (.long x) :: r) (.long x :: st) M) : hX E cells slots pc (a0 :: a1 :: a2 :: a3 :: some (.long x) :: r) st M := by
  obtain ⟨p, e, R', s, m, args, below, meth, c, Q, A, K'⟩ := E
  obtain ⟨rfl, rfl, hx, hb, hml, hown, hts, hg, hA, hlk, hnm⟩ := C
  subst hq
  exact fun H locs ls h1 h2 h3 h4 => lv_lload hx hb hd (h4.at (k := 4) rfl) (kk H locs ls h1 h2 h3 h4)
theorem x_aload_4 (q : Nat) (C : hCx E K cc n own nm R) {a0 a1 a2 a3 : Option Value} {r : List (Option Value)} {x : Nat} (hd : decode cc pc = .ok (.aload 4, 2)) (hq : pc + 2 = q) (kk : hX E cells slots q (a0 :: a1 :: a2 :: a3 :: some (.ref x) :: r) (.ref x :: st) M) : hX E cells slots pc (a0 :: a1 :: a2 :: a3 :: some (.ref x) :: r) st M := by
  obtain ⟨p, e, R', s, m, args, below, meth, c, Q, A, K'⟩ := E
  obtain ⟨rfl, rfl, hx, hb, hml, hown, hts, hg, hA, hlk, hnm⟩ := C
  subst hq
  exact fun H locs ls h1 h2 h3 h4 => lv_aload hx hb hd (h4.at (k := 4) rfl) (kk H locs ls h1 h2 h3 h4)
theorem x_qload_4 (q : Nat) (C : hCx E K cc n own nm R) {a0 a1 a2 a3 : Option Value} {r : List (Option Value)} {x : Option Nat} (hd : decode cc pc = .ok (.aload 4, 2)) (hq : pc + 2 = q) (kk : hX E cells slots q (a0 :: a1 :: a2 :: a3 :: some (va_rf x) :: r) (va_rf x :: st) M) : hX E cells slots pc (a0 :: a1 :: a2 :: a3 :: some (va_rf x) :: r) st M := by
  obtain ⟨p, e, R', s, m, args, below, meth, c, Q, A, K'⟩ := E
  obtain ⟨rfl, rfl, hx, hb, hml, hown, hts, hg, hA, hlk, hnm⟩ := C
  subst hq
  cases x with
  | none => exact fun H locs ls h1 h2 h3 h4 => lv_aloadN hx hb hd (h4.at (k := 4) rfl) (kk H locs ls h1 h2 h3 h4)
  | some a => exact fun H locs ls h1 h2 h3 h4 => lv_aload hx hb hd (h4.at (k := 4) rfl) (kk H locs ls h1 h2 h3 h4)
theorem x_istore_4 (q : Nat) (C : hCx E K cc n own nm R) {a0 a1 a2 a3 : Option Value} {r : List (Option Value)} {b : Option Value} {x : Int32} (hd : decode cc pc = .ok (.istore 4, 2)) (hq : pc + 2 = q) (hn : hNL a3 = true) (kk : hX E cells slots q (a0 :: a1 :: a2 :: a3 :: some (.int x) :: r) st M) : hX E cells slots pc (a0 :: a1 :: a2 :: a3 :: b :: r) (.int x :: st) M := by
  obtain ⟨p, e, R', s, m, args, below, meth, c, Q, A, K'⟩ := E
  obtain ⟨rfl, rfl, hx, hb, hml, hown, hts, hg, hA, hlk, hnm⟩ := C
  subst hq
  intro H locs ls h1 h2 h3 h4
  have hk : 4 < c.maxLocals := by have h := h4.1; simp only [List.length_cons] at h; omega
  exact lv_istore hx hb hd h4.2 hk rfl (fun ls2 hl => kk H locs ls2 h1 h2 h3 (hL.st1 (k := 4) (v := .int x) h4.1 hk (Or.inr ⟨3, _, rfl, rfl, hn⟩) hl))
theorem x_astore_4 (q : Nat) (C : hCx E K cc n own nm R) {a0 a1 a2 a3 : Option Value} {r : List (Option Value)} {b : Option Value} {x : Nat} (hd : decode cc pc = .ok (.astore 4, 2)) (hq : pc + 2 = q) (hn : hNL a3 = true) (kk : hX E cells slots q (a0 :: a1 :: a2 :: a3 :: some (.ref x) :: r) st M) : hX E cells slots pc (a0 :: a1 :: a2 :: a3 :: b :: r) (.ref x :: st) M := by
  obtain ⟨p, e, R', s, m, args, below, meth, c, Q, A, K'⟩ := E
  obtain ⟨rfl, rfl, hx, hb, hml, hown, hts, hg, hA, hlk, hnm⟩ := C
  subst hq
  intro H locs ls h1 h2 h3 h4
  have hk : 4 < c.maxLocals := by have h := h4.1; simp only [List.length_cons] at h; omega
  exact lv_astore hx hb hd h4.2 hk rfl (fun ls2 hl => kk H locs ls2 h1 h2 h3 (hL.st1 (k := 4) (v := .ref x) h4.1 hk (Or.inr ⟨3, _, rfl, rfl, hn⟩) hl))
theorem x_lstore_4 (q : Nat) (C : hCx E K cc n own nm R) {a0 a1 a2 a3 : Option Value} {r : List (Option Value)} {b b2 : Option Value} {x : Int64} (hd : decode cc pc = .ok (.lstore 4, 2)) (hq : pc + 2 = q) (hn : hNL a3 = true) (kk : hX E cells slots q (a0 :: a1 :: a2 :: a3 :: some (.long x) :: none :: r) st M) : hX E cells slots pc (a0 :: a1 :: a2 :: a3 :: b :: b2 :: r) (.long x :: st) M := by
  obtain ⟨p, e, R', s, m, args, below, meth, c, Q, A, K'⟩ := E
  obtain ⟨rfl, rfl, hx, hb, hml, hown, hts, hg, hA, hlk, hnm⟩ := C
  subst hq
  intro H locs ls h1 h2 h3 h4
  have hk : 4 + 1 < c.maxLocals := by have h := h4.1; simp only [List.length_cons] at h; omega
  exact lv_lstore hx hb hd h4.2 hk rfl (fun ls2 hl => kk H locs ls2 h1 h2 h3 (hL.st2 (k := 4) (v := .long x) h4.1 hk (Or.inr ⟨3, _, rfl, rfl, hn⟩) hl))
theorem x_iinc_4 (q : Nat) (C : hCx E K cc n own nm R) {a0 a1 a2 a3 : Option Value} {r : List (Option Value)} {x : Int32} {i : Int} {v : Int32} (hd : decode cc pc = .ok (.iinc 4 i, 3)) (hq : pc + 3 = q) (hn : hNL a3 = true) (hv : x + Int32.ofInt i = v) (kk : hX E cells slots q (a0 :: a1 :: a2 :: a3 :: some (.int v) :: r) st M) : hX E cells slots pc (a0 :: a1 :: a2 :: a3 :: some (.int x) :: r) st M := by
  obtain ⟨p, e, R', s, m, args, below, meth, c, Q, A, K'⟩ := E
  obtain ⟨rfl, rfl, hx, hb, hml, hown, hts, hg, hA, hlk, hnm⟩ := C
  subst hq
  intro H locs ls h1 h2 h3 h4
  have hk : 4 < c.maxLocals := by have h := h4.1; simp only [List.length_cons] at h; omega
  obtain ⟨k, hkk⟩ := List.getElem?_of_mem ((hLs_mem (a0 :: a1 :: a2 :: a3 :: some (.int x) :: r) 0 4 (.int x)).mpr ⟨Nat.zero_le _, rfl⟩)
  exact lv_iinc hx hb hd h4.2 hkk hv hk rfl (fun ls2 hl => kk H locs ls2 h1 h2 h3 (hL.st1 (k := 4) (v := .int v) h4.1 hk (Or.inr ⟨3, _, rfl, rfl, hn⟩) hl))
theorem x_fg_4 {a0 a1 a2 a3 : Option Value} {r : List (Option Value)} {b : Option Value} (kk : hX E cells slots pc (a0 :: a1 :: a2 :: a3 :: none :: r) st M) : hX E cells slots pc (a0 :: a1 :: a2 :: a3 :: b :: r) st M := x_w (lo' := (a0 :: a1 :: a2 :: a3 :: none :: r)) rfl (fun j v hj => by
  match j, hj with
  | 0, hj => exact hj
  | 1, hj => exact hj
  | 2, hj => exact hj
  | 3, hj => exact hj
  | 4, hj => cases hj
  | j + 5, hj => exact hj) kk
theorem x_iload_5 (q : Nat) (C : hCx E K cc n own nm R) {a0 a1 a2 a3 a4 : Option Value} {r : List (Option Value)} {x : Int32} (hd : decode cc pc = .ok (.iload 5, 2)) (hq : pc + 2 = q) (kk : hX E cells slots q (a0 :: a1 :: a2 :: a3 :: a4 :: some (.int x) :: r) (.int x :: st) M) : hX E cells slots pc (a0 :: a1 :: a2 :: a3 :: a4 :: some (.int x) :: r) st M := by
  obtain ⟨p, e, R', s, m, args, below, meth, c, Q, A, K'⟩ := E
  obtain ⟨rfl, rfl, hx, hb, hml, hown, hts, hg, hA, hlk, hnm⟩ := C
  subst hq
  exact fun H locs ls h1 h2 h3 h4 => lv_iload hx hb hd (h4.at (k := 5) rfl) (kk H locs ls h1 h2 h3 h4)
theorem x_lload_5 (q : Nat) (C : hCx E K cc n own nm R) {a0 a1 a2 a3 a4 : Option Value} {r : List (Option Value)} {x : Int64} (hd : decode cc pc = .ok (.lload 5, 2)) (hq : pc + 2 = q) (kk : hX E cells slots q (a0 :: a1 :: a2 :: a3 :: a4 :: some (.long x) :: r) (.long x :: st) M) : hX E cells slots pc (a0 :: a1 :: a2 :: a3 :: a4 :: some (.long x) :: r) st M := by
  obtain ⟨p, e, R', s, m, args, below, meth, c, Q, A, K'⟩ := E
  obtain ⟨rfl, rfl, hx, hb, hml, hown, hts, hg, hA, hlk, hnm⟩ := C
  subst hq
  exact fun H locs ls h1 h2 h3 h4 => lv_lload hx hb hd (h4.at (k := 5) rfl) (kk H locs ls h1 h2 h3 h4)
theorem x_aload_5 (q : Nat) (C : hCx E K cc n own nm R) {a0 a1 a2 a3 a4 : Option Value} {r : List (Option Value)} {x : Nat} (hd : decode cc pc = .ok (.aload 5, 2)) (hq : pc + 2 = q) (kk : hX E cells slots q (a0 :: a1 :: a2 :: a3 :: a4 :: some (.ref x) :: r) (.ref x :: st) M) : hX E cells slots pc (a0 :: a1 :: a2 :: a3 :: a4 :: some (.ref x) :: r) st M := by
  obtain ⟨p, e, R', s, m, args, below, meth, c, Q, A, K'⟩ := E
  obtain ⟨rfl, rfl, hx, hb, hml, hown, hts, hg, hA, hlk, hnm⟩ := C
  subst hq
  exact fun H locs ls h1 h2 h3 h4 => lv_aload hx hb hd (h4.at (k := 5) rfl) (kk H locs ls h1 h2 h3 h4)
theorem x_qload_5 (q : Nat) (C : hCx E K cc n own nm R) {a0 a1 a2 a3 a4 : Option Value} {r : List (Option Value)} {x : Option Nat} (hd : decode cc pc = .ok (.aload 5, 2)) (hq : pc + 2 = q) (kk : hX E cells slots q (a0 :: a1 :: a2 :: a3 :: a4 :: some (va_rf x) :: r) (va_rf x :: st) M) : hX E cells slots pc (a0 :: a1 :: a2 :: a3 :: a4 :: some (va_rf x) :: r) st M := by
  obtain ⟨p, e, R', s, m, args, below, meth, c, Q, A, K'⟩ := E
  obtain ⟨rfl, rfl, hx, hb, hml, hown, hts, hg, hA, hlk, hnm⟩ := C
  subst hq
  cases x with
  | none => exact fun H locs ls h1 h2 h3 h4 => lv_aloadN hx hb hd (h4.at (k := 5) rfl) (kk H locs ls h1 h2 h3 h4)
  | some a => exact fun H locs ls h1 h2 h3 h4 => lv_aload hx hb hd (h4.at (k := 5) rfl) (kk H locs ls h1 h2 h3 h4)
theorem x_istore_5 (q : Nat) (C : hCx E K cc n own nm R) {a0 a1 a2 a3 a4 : Option Value} {r : List (Option Value)} {b : Option Value} {x : Int32} (hd : decode cc pc = .ok (.istore 5, 2)) (hq : pc + 2 = q) (hn : hNL a4 = true) (kk : hX E cells slots q (a0 :: a1 :: a2 :: a3 :: a4 :: some (.int x) :: r) st M) : hX E cells slots pc (a0 :: a1 :: a2 :: a3 :: a4 :: b :: r) (.int x :: st) M := by
  obtain ⟨p, e, R', s, m, args, below, meth, c, Q, A, K'⟩ := E
  obtain ⟨rfl, rfl, hx, hb, hml, hown, hts, hg, hA, hlk, hnm⟩ := C
  subst hq
  intro H locs ls h1 h2 h3 h4
  have hk : 5 < c.maxLocals := by have h := h4.1; simp only [List.length_cons] at h; omega
  exact lv_istore hx hb hd h4.2 hk rfl (fun ls2 hl => kk H locs ls2 h1 h2 h3 (hL.st1 (k := 5) (v := .int x) h4.1 hk (Or.inr ⟨4, _, rfl, rfl, hn⟩) hl))
theorem x_astore_5 (q : Nat) (C : hCx E K cc n own nm R) {a0 a1 a2 a3 a4 : Option Value} {r : List (Option Value)} {b : Option Value} {x : Nat} (hd : decode cc pc = .ok (.astore 5, 2)) (hq : pc + 2 = q) (hn : hNL a4 = true) (kk : hX E cells slots q (a0 :: a1 :: a2 :: a3 :: a4 :: some (.ref x) :: r) st M) : hX E cells slots pc (a0 :: a1 :: a2 :: a3 :: a4 :: b :: r) (.ref x :: st) M := by
  obtain ⟨p, e, R', s, m, args, below, meth, c, Q, A, K'⟩ := E
  obtain ⟨rfl, rfl, hx, hb, hml, hown, hts, hg, hA, hlk, hnm⟩ := C
  subst hq
  intro H locs ls h1 h2 h3 h4
  have hk : 5 < c.maxLocals := by have h := h4.1; simp only [List.length_cons] at h; omega
  exact lv_astore hx hb hd h4.2 hk rfl (fun ls2 hl => kk H locs ls2 h1 h2 h3 (hL.st1 (k := 5) (v := .ref x) h4.1 hk (Or.inr ⟨4, _, rfl, rfl, hn⟩) hl))
theorem x_lstore_5 (q : Nat) (C : hCx E K cc n own nm R) {a0 a1 a2 a3 a4 : Option Value} {r : List (Option Value)} {b b2 : Option Value} {x : Int64} (hd : decode cc pc = .ok (.lstore 5, 2)) (hq : pc + 2 = q) (hn : hNL a4 = true) (kk : hX E cells slots q (a0 :: a1 :: a2 :: a3 :: a4 :: some (.long x) :: none :: r) st M) : hX E cells slots pc (a0 :: a1 :: a2 :: a3 :: a4 :: b :: b2 :: r) (.long x :: st) M := by
  obtain ⟨p, e, R', s, m, args, below, meth, c, Q, A, K'⟩ := E
  obtain ⟨rfl, rfl, hx, hb, hml, hown, hts, hg, hA, hlk, hnm⟩ := C
  subst hq
  intro H locs ls h1 h2 h3 h4
  have hk : 5 + 1 < c.maxLocals := by have h := h4.1; simp only [List.length_cons] at h; omega
  exact lv_lstore hx hb hd h4.2 hk rfl (fun ls2 hl => kk H locs ls2 h1 h2 h3 (hL.st2 (k := 5) (v := .long x) h4.1 hk (Or.inr ⟨4, _, rfl, rfl, hn⟩) hl))
theorem x_iinc_5 (q : Nat) (C : hCx E K cc n own nm R) {a0 a1 a2 a3 a4 : Option Value} {r : List (Option Value)} {x : Int32} {i : Int} {v : Int32} (hd : decode cc pc = .ok (.iinc 5 i, 3)) (hq : pc + 3 = q) (hn : hNL a4 = true) (hv : x + Int32.ofInt i = v) (kk : hX E cells slots q (a0 :: a1 :: a2 :: a3 :: a4 :: some (.int v) :: r) st M) : hX E cells slots pc (a0 :: a1 :: a2 :: a3 :: a4 :: some (.int x) :: r) st M := by
  obtain ⟨p, e, R', s, m, args, below, meth, c, Q, A, K'⟩ := E
  obtain ⟨rfl, rfl, hx, hb, hml, hown, hts, hg, hA, hlk, hnm⟩ := C
  subst hq
  intro H locs ls h1 h2 h3 h4
  have hk : 5 < c.maxLocals := by have h := h4.1; simp only [List.length_cons] at h; omega
  obtain ⟨k, hkk⟩ := List.getElem?_of_mem ((hLs_mem (a0 :: a1 :: a2 :: a3 :: a4 :: some (.int x) :: r) 0 5 (.int x)).mpr ⟨Nat.zero_le _, rfl⟩)
  exact lv_iinc hx hb hd h4.2 hkk hv hk rfl (fun ls2 hl => kk H locs ls2 h1 h2 h3 (hL.st1 (k := 5) (v := .int v) h4.1 hk (Or.inr ⟨4, _, rfl, rfl, hn⟩) hl))
theorem x_fg_5 {a0 a1 a2 a3 a4 : Option Value} {r : List (Option Value)} {b : Option Value} (kk : hX E cells slots pc (a0 :: a1 :: a2 :: a3 :: a4 :: none :: r) st M) : hX E cells slots pc (a0 :: a1 :: a2 :: a3 :: a4 :: b :: r) st M := x_w (lo' := (a0 :: a1 :: a2 :: a3 :: a4 :: none :: r)) rfl (fun j v hj => by
  match j, hj with
  | 0, hj => exact hj
  | 1, hj => exact hj
  | 2, hj => exact hj
  | 3, hj => exact hj
  | 4, hj => exact hj
  | 5, hj => cases hj
  | j + 6, hj => exact hj) kk
theorem x_iload_6 (q : Nat) (C : hCx E K cc n own nm R) {a0 a1 a2 a3 a4 a5 : Option Value} {r : List (Option Value)} {x : Int32} (hd : decode cc pc = .ok (.iload 6, 2)) (hq : pc + 2 = q) (kk : hX E cells slots q (a0 :: a1 :: a2 :: a3 :: a4 :: a5 :: some (.int x) :: r) (.int x :: st) M) : hX E cells slots pc (a0 :: a1 :: a2 :: a3 :: a4 :: a5 :: some (.int x) :: r) st M := by
  obtain ⟨p, e, R', s, m, args, below, meth, c, Q, A, K'⟩ := E
  obtain ⟨rfl, rfl, hx, hb, hml, hown, hts, hg, hA, hlk, hnm⟩ := C
  subst hq
  exact fun H locs ls h1 h2 h3 h4 => lv_iload hx hb hd (h4.at (k := 6) rfl) (kk H locs ls h1 h2 h3 h4)
theorem x_lload_6 (q : Nat) (C : hCx E K cc n own nm R) {a0 a1 a2 a3 a4 a5 : Option Value} {r : List (Option Value)} {x : Int64} (hd : decode cc pc = .ok (.lload 6, 2)) (hq : pc + 2 = q) (kk : hX E cells slots q (a0 :: a1 :: a2 :: a3 :: a4 :: a5 :: some (.long x) :: r) (.long x :: st) M) : hX E cells slots pc (a0 :: a1 :: a2 :: a3 :: a4 :: a5 :: some (.long x) :: r) st M := by
  obtain ⟨p, e, R', s, m, args, below, meth, c, Q, A, K'⟩ := E
  obtain ⟨rfl, rfl, hx, hb, hml, hown, hts, hg, hA, hlk, hnm⟩ := C
  subst hq
  exact fun H locs ls h1 h2 h3 h4 => lv_lload hx hb hd (h4.at (k := 6) rfl) (kk H locs ls h1 h2 h3 h4)
theorem x_istore_6 (q : Nat) (C : hCx E K cc n own nm R) {a0 a1 a2 a3 a4 a5 : Option Value} {r : List (Option Value)} {b : Option Value} {x : Int32} (hd : decode cc pc = .ok (.istore 6, 2)) (hq : pc + 2 = q) (hn : hNL a5 = true) (kk : hX E cells slots q (a0 :: a1 :: a2 :: a3 :: a4 :: a5 :: some (.int x) :: r) st M) : hX E cells slots pc (a0 :: a1 :: a2 :: a3 :: a4 :: a5 :: b :: r) (.int x :: st) M := by
  obtain ⟨p, e, R', s, m, args, below, meth, c, Q, A, K'⟩ := E
  obtain ⟨rfl, rfl, hx, hb, hml, hown, hts, hg, hA, hlk, hnm⟩ := C
  subst hq
  intro H locs ls h1 h2 h3 h4
  have hk : 6 < c.maxLocals := by have h := h4.1; simp only [List.length_cons] at h; omega
  exact lv_istore hx hb hd h4.2 hk rfl (fun ls2 hl => kk H locs ls2 h1 h2 h3 (hL.st1 (k := 6) (v := .int x) h4.1 hk (Or.inr ⟨5, _, rfl, rfl, hn⟩) hl))
theorem x_lstore_6 (q : Nat) (C : hCx E K cc n own nm R) {a0 a1 a2 a3 a4 a5 : Option Value} {r : List (Option Value)} {b b2 : Option Value} {x : Int64} (hd : decode cc pc = .ok (.lstore 6, 2)) (hq : pc + 2 = q) (hn : hNL a5 = true) (kk : hX E cells slots q (a0 :: a1 :: a2 :: a3 :: a4 :: a5 :: some (.long x) :: none :: r) st M) : hX E cells slots pc (a0 :: a1 :: a2 :: a3 :: a4 :: a5 :: b :: b2 :: r) (.long x :: st) M := by
  obtain ⟨p, e, R', s, m, args, below, meth, c, Q, A, K'⟩ := E
  obtain ⟨rfl, rfl, hx, hb, hml, hown, hts, hg, hA, hlk, hnm⟩ := C
  subst hq
  intro H locs ls h1 h2 h3 h4
  have hk : 6 + 1 < c.maxLocals := by have h := h4.1; simp only [List.length_cons] at h; omega
  exact lv_lstore hx hb hd h4.2 hk rfl (fun ls2 hl => kk H locs ls2 h1 h2 h3 (hL.st2 (k := 6) (v := .long x) h4.1 hk (Or.inr ⟨5, _, rfl, rfl, hn⟩) hl))
theorem x_iinc_6 (q : Nat) (C : hCx E K cc n own nm R) {a0 a1 a2 a3 a4 a5 : Option Value} {r : List (Option Value)} {x : Int32} {i : Int} {v : Int32} (hd : decode cc pc = .ok (.iinc 6 i, 3)) (hq : pc + 3 = q) (hn : hNL a5 = true) (hv : x + Int32.ofInt i = v) (kk : hX E cells slots q (a0 :: a1 :: a2 :: a3 :: a4 :: a5 :: some (.int v) :: r) st M) : hX E cells slots pc (a0 :: a1 :: a2 :: a3 :: a4 :: a5 :: some (.int x) :: r) st M := by
  obtain ⟨p, e, R', s, m, args, below, meth, c, Q, A, K'⟩ := E
  obtain ⟨rfl, rfl, hx, hb, hml, hown, hts, hg, hA, hlk, hnm⟩ := C
  subst hq
  intro H locs ls h1 h2 h3 h4
  have hk : 6 < c.maxLocals := by have h := h4.1; simp only [List.length_cons] at h; omega
  obtain ⟨k, hkk⟩ := List.getElem?_of_mem ((hLs_mem (a0 :: a1 :: a2 :: a3 :: a4 :: a5 :: some (.int x) :: r) 0 6 (.int x)).mpr ⟨Nat.zero_le _, rfl⟩)
  exact lv_iinc hx hb hd h4.2 hkk hv hk rfl (fun ls2 hl => kk H locs ls2 h1 h2 h3 (hL.st1 (k := 6) (v := .int v) h4.1 hk (Or.inr ⟨5, _, rfl, rfl, hn⟩) hl))
theorem x_fg_6 {a0 a1 a2 a3 a4 a5 : Option Value} {r : List (Option Value)} {b : Option Value} (kk : hX E cells slots pc (a0 :: a1 :: a2 :: a3 :: a4 :: a5 :: none :: r) st M) : hX E cells slots pc (a0 :: a1 :: a2 :: a3 :: a4 :: a5 :: b :: r) st M := x_w (lo' := (a0 :: a1 :: a2 :: a3 :: a4 :: a5 :: none :: r)) rfl (fun j v hj => by
  match j, hj with
  | 0, hj => exact hj
  | 1, hj => exact hj
  | 2, hj => exact hj
  | 3, hj => exact hj
  | 4, hj => exact hj
  | 5, hj => exact hj
  | 6, hj => cases hj
  | j + 7, hj => exact hj) kk
theorem x_iload_7 (q : Nat) (C : hCx E K cc n own nm R) {a0 a1 a2 a3 a4 a5 a6 : Option Value} {r : List (Option Value)} {x : Int32} (hd : decode cc pc = .ok (.iload 7, 2)) (hq : pc + 2 = q) (kk : hX E cells slots q (a0 :: a1 :: a2 :: a3 :: a4 :: a5 :: a6 :: some (.int x) :: r) (.int x :: st) M) : hX E cells slots pc (a0 :: a1 :: a2 :: a3 :: a4 :: a5 :: a6 :: some (.int x) :: r) st M := by
  obtain ⟨p, e, R', s, m, args, below, meth, c, Q, A, K'⟩ := E
  obtain ⟨rfl, rfl, hx, hb, hml, hown, hts, hg, hA, hlk, hnm⟩ := C
  subst hq
  exact fun H locs ls h1 h2 h3 h4 => lv_iload hx hb hd (h4.at (k := 7) rfl) (kk H locs ls h1 h2 h3 h4)
theorem x_lload_7 (q : Nat) (C : hCx E K cc n own nm R) {a0 a1 a2 a3 a4 a5 a6 : Option Value} {r : List (Option Value)} {x : Int64} (hd : decode cc pc = .ok (.lload 7, 2)) (hq : pc + 2 = q) (kk : hX E cells slots q (a0 :: a1 :: a2 :: a3 :: a4 :: a5 :: a6 :: some (.long x) :: r) (.long x :: st) M) : hX E cells slots pc (a0 :: a1 :: a2 :: a3 :: a4 :: a5 :: a6 :: some (.long x) :: r) st M := by
  obtain ⟨p, e, R', s, m, args, below, meth, c, Q, A, K'⟩ := E
  obtain ⟨rfl, rfl, hx, hb, hml, hown, hts, hg, hA, hlk, hnm⟩ := C
  subst hq
  exact fun H locs ls h1 h2 h3 h4 => lv_lload hx hb hd (h4.at (k := 7) rfl) (kk H locs ls h1 h2 h3 h4)
theorem x_istore_7 (q : Nat) (C : hCx E K cc n own nm R) {a0 a1 a2 a3 a4 a5 a6 : Option Value} {r : List (Option Value)} {b : Option Value} {x : Int32} (hd : decode cc pc = .ok (.istore 7, 2)) (hq : pc + 2 = q) (hn : hNL a6 = true) (kk : hX E cells slots q (a0 :: a1 :: a2 :: a3 :: a4 :: a5 :: a6 :: some (.int x) :: r) st M) : hX E cells slots pc (a0 :: a1 :: a2 :: a3 :: a4 :: a5 :: a6 :: b :: r) (.int x :: st) M := by
  obtain ⟨p, e, R', s, m, args, below, meth, c, Q, A, K'⟩ := E
  obtain ⟨rfl, rfl, hx, hb, hml, hown, hts, hg, hA, hlk, hnm⟩ := C
  subst hq
  intro H locs ls h1 h2 h3 h4
  have hk : 7 < c.maxLocals := by have h := h4.1; simp only [List.length_cons] at h; omega
  exact lv_istore hx hb hd h4.2 hk rfl (fun ls2 hl => kk H locs ls2 h1 h2 h3 (hL.st1 (k := 7) (v := .int x) h4.1 hk (Or.inr ⟨6, _, rfl, rfl, hn⟩) hl))
theorem x_lstore_7 (q : Nat) (C : hCx E K cc n own nm R) {a0 a1 a2 a3 a4 a5 a6 : Option Value} {r : List (Option Value)} {b b2 : Option Value} {x : Int64} (hd : decode cc pc = .ok (.lstore 7, 2)) (hq : pc + 2 = q) (hn : hNL a6 = true) (kk : hX E cells slots q (a0 :: a1 :: a2 :: a3 :: a4 :: a5 :: a6 :: some (.long x) :: none :: r) st M) : hX E cells slots pc (a0 :: a1 :: a2 :: a3 :: a4 :: a5 :: a6 :: b :: b2 :: r) (.long x :: st) M := by
  obtain ⟨p, e, R', s, m, args, below, meth, c, Q, A, K'⟩ := E
  obtain ⟨rfl, rfl, hx, hb, hml, hown, hts, hg, hA, hlk, hnm⟩ := C
  subst hq
  intro H locs ls h1 h2 h3 h4
  have hk : 7 + 1 < c.maxLocals := by have h := h4.1; simp only [List.length_cons] at h; omega
  exact lv_lstore hx hb hd h4.2 hk rfl (fun ls2 hl => kk H locs ls2 h1 h2 h3 (hL.st2 (k := 7) (v := .long x) h4.1 hk (Or.inr ⟨6, _, rfl, rfl, hn⟩) hl))
theorem x_iinc_7 (q : Nat) (C : hCx E K cc n own nm R) {a0 a1 a2 a3 a4 a5 a6 : Option Value} {r : List (Option Value)} {x : Int32} {i : Int} {v : Int32} (hd : decode cc pc = .ok (.iinc 7 i, 3)) (hq : pc + 3 = q) (hn : hNL a6 = true) (hv : x + Int32.ofInt i = v) (kk : hX E cells slots q (a0 :: a1 :: a2 :: a3 :: a4 :: a5 :: a6 :: some (.int v) :: r) st M) : hX E cells slots pc (a0 :: a1 :: a2 :: a3 :: a4 :: a5 :: a6 :: some (.int x) :: r) st M := by
  obtain ⟨p, e, R', s, m, args, below, meth, c, Q, A, K'⟩ := E
  obtain ⟨rfl, rfl, hx, hb, hml, hown, hts, hg, hA, hlk, hnm⟩ := C
  subst hq
  intro H locs ls h1 h2 h3 h4
  have hk : 7 < c.maxLocals := by have h := h4.1; simp only [List.length_cons] at h; omega
  obtain ⟨k, hkk⟩ := List.getElem?_of_mem ((hLs_mem (a0 :: a1 :: a2 :: a3 :: a4 :: a5 :: a6 :: some (.int x) :: r) 0 7 (.int x)).mpr ⟨Nat.zero_le _, rfl⟩)
  exact lv_iinc hx hb hd h4.2 hkk hv hk rfl (fun ls2 hl => kk H locs ls2 h1 h2 h3 (hL.st1 (k := 7) (v := .int v) h4.1 hk (Or.inr ⟨6, _, rfl, rfl, hn⟩) hl))
theorem x_fg_7 {a0 a1 a2 a3 a4 a5 a6 : Option Value} {r : List (Option Value)} {b : Option Value} (kk : hX E cells slots pc (a0 :: a1 :: a2 :: a3 :: a4 :: a5 :: a6 :: none :: r) st M) : hX E cells slots pc (a0 :: a1 :: a2 :: a3 :: a4 :: a5 :: a6 :: b :: r) st M := x_w (lo' := (a0 :: a1 :: a2 :: a3 :: a4 :: a5 :: a6 :: none :: r)) rfl (fun j v hj => by
  match j, hj with
  | 0, hj => exact hj
  | 1, hj => exact hj
  | 2, hj => exact hj
  | 3, hj => exact hj
  | 4, hj => exact hj
  | 5, hj => exact hj
  | 6, hj => exact hj
  | 7, hj => cases hj
  | j + 8, hj => exact hj) kk
theorem x_iload_8 (q : Nat) (C : hCx E K cc n own nm R) {a0 a1 a2 a3 a4 a5 a6 a7 : Option Value} {r : List (Option Value)} {x : Int32} (hd : decode cc pc = .ok (.iload 8, 2)) (hq : pc + 2 = q) (kk : hX E cells slots q (a0 :: a1 :: a2 :: a3 :: a4 :: a5 :: a6 :: a7 :: some (.int x) :: r) (.int x :: st) M) : hX E cells slots pc (a0 :: a1 :: a2 :: a3 :: a4 :: a5 :: a6 :: a7 :: some (.int x) :: r) st M := by
  obtain ⟨p, e, R', s, m, args, below, meth, c, Q, A, K'⟩ := E
  obtain ⟨rfl, rfl, hx, hb, hml, hown, hts, hg, hA, hlk, hnm⟩ := C
  subst hq
  exact fun H locs ls h1 h2 h3 h4 => lv_iload hx hb hd (h4.at (k := 8) rfl) (kk H locs ls h1 h2 h3 h4)
theorem x_lload_8 (q : Nat) (C : hCx E K cc n own nm R) {a0 a1 a2 a3 a4 a5 a6 a7 : Option Value} {r : List (Option Value)} {x : Int64} (hd : decode cc pc = .ok (.lload 8, 2)) (hq : pc + 2 = q) (kk : hX E cells slots q (a0 :: a1 :: a2 :: a3 :: a4 :: a5 :: a6 :: a7 :: some (.long x) :: r) (.long x :: st) M) : hX E cells slots pc (a0 :: a1 :: a2 :: a3 :: a4 :: a5 :: a6 :: a7 :: some (.long x) :: r) st M := by
  obtain ⟨p, e, R', s, m, args, below, meth, c, Q, A, K'⟩ := E
  obtain ⟨rfl, rfl, hx, hb, hml, hown, hts, hg, hA, hlk, hnm⟩ := C
  subst hq
  exact fun H locs ls h1 h2 h3 h4 => lv_lload hx hb hd (h4.at (k := 8) rfl) (kk H locs ls h1 h2 h3 h4)
theorem x_istore_8 (q : Nat) (C : hCx E K cc n own nm R) {a0 a1 a2 a3 a4 a5 a6 a7 : Option Value} {r : List (Option Value)} {b : Option Value} {x : Int32} (hd : decode cc pc = .ok (.istore 8, 2)) (hq : pc + 2 = q) (hn : hNL a7 = true) (kk : hX E cells slots q (a0 :: a1 :: a2 :: a3 :: a4 :: a5 :: a6 :: a7 :: some (.int x) :: r) st M) : hX E cells slots pc (a0 :: a1 :: a2 :: a3 :: a4 :: a5 :: a6 :: a7 :: b :: r) (.int x :: st) M := by
  obtain ⟨p, e, R', s, m, args, below, meth, c, Q, A, K'⟩ := E
  obtain ⟨rfl, rfl, hx, hb, hml, hown, hts, hg, hA, hlk, hnm⟩ := C
  subst hq
  intro H locs ls h1 h2 h3 h4
  have hk : 8 < c.maxLocals := by have h := h4.1; simp only [List.length_cons] at h; omega
  exact lv_istore hx hb hd h4.2 hk rfl (fun ls2 hl => kk H locs ls2 h1 h2 h3 (hL.st1 (k := 8) (v := .int x) h4.1 hk (Or.inr ⟨7, _, rfl, rfl, hn⟩) hl))
theorem x_lstore_8 (q : Nat) (C : hCx E K cc n own nm R) {a0 a1 a2 a3 a4 a5 a6 a7 : Option Value} {r : List (Option Value)} {b b2 : Option Value} {x : Int64} (hd : decode cc pc = .ok (.lstore 8, 2)) (hq : pc + 2 = q) (hn : hNL a7 = true) (kk : hX E cells slots q (a0 :: a1 :: a2 :: a3 :: a4 :: a5 :: a6 :: a7 :: some (.long x) :: none :: r) st M) : hX E cells slots pc (a0 :: a1 :: a2 :: a3 :: a4 :: a5 :: a6 :: a7 :: b :: b2 :: r) (.long x :: st) M := by
  obtain ⟨p, e, R', s, m, args, below, meth, c, Q, A, K'⟩ := E
  obtain ⟨rfl, rfl, hx, hb, hml, hown, hts, hg, hA, hlk, hnm⟩ := C
  subst hq
  intro H locs ls h1 h2 h3 h4
  have hk : 8 + 1 < c.maxLocals := by have h := h4.1; simp only [List.length_cons] at h; omega
  exact lv_lstore hx hb hd h4.2 hk rfl (fun ls2 hl => kk H locs ls2 h1 h2 h3 (hL.st2 (k := 8) (v := .long x) h4.1 hk (Or.inr ⟨7, _, rfl, rfl, hn⟩) hl))
theorem x_iinc_8 (q : Nat) (C : hCx E K cc n own nm R) {a0 a1 a2 a3 a4 a5 a6 a7 : Option Value} {r : List (Option Value)} {x : Int32} {i : Int} {v : Int32} (hd : decode cc pc = .ok (.iinc 8 i, 3)) (hq : pc + 3 = q) (hn : hNL a7 = true) (hv : x + Int32.ofInt i = v) (kk : hX E cells slots q (a0 :: a1 :: a2 :: a3 :: a4 :: a5 :: a6 :: a7 :: some (.int v) :: r) st M) : hX E cells slots pc (a0 :: a1 :: a2 :: a3 :: a4 :: a5 :: a6 :: a7 :: some (.int x) :: r) st M := by
  obtain ⟨p, e, R', s, m, args, below, meth, c, Q, A, K'⟩ := E
  obtain ⟨rfl, rfl, hx, hb, hml, hown, hts, hg, hA, hlk, hnm⟩ := C
  subst hq
  intro H locs ls h1 h2 h3 h4
  have hk : 8 < c.maxLocals := by have h := h4.1; simp only [List.length_cons] at h; omega
  obtain ⟨k, hkk⟩ := List.getElem?_of_mem ((hLs_mem (a0 :: a1 :: a2 :: a3 :: a4 :: a5 :: a6 :: a7 :: some (.int x) :: r) 0 8 (.int x)).mpr ⟨Nat.zero_le _, rfl⟩)
  exact lv_iinc hx hb hd h4.2 hkk hv hk rfl (fun ls2 hl => kk H locs ls2 h1 h2 h3 (hL.st1 (k := 8) (v := .int v) h4.1 hk (Or.inr ⟨7, _, rfl, rfl, hn⟩) hl))
theorem x_fg_8 {a0 a1 a2 a3 a4 a5 a6 a7 : Option Value} {r : List (Option Value)} {b : Option Value} (kk : hX E cells slots pc (a0 :: a1 :: a2 :: a3 :: a4 :: a5 :: a6 :: a7 :: none :: r) st M) : hX E cells slots pc (a0 :: a1 :: a2 :: a3 :: a4 :: a5 :: a6 :: a7 :: b :: r) st M := x_w (lo' := (a0 :: a1 :: a2 :: a3 :: a4 :: a5 :: a6 :: a7 :: none :: r)) rfl (fun j v hj => by
  match j, hj with
  | 0, hj => exact hj
  | 1, hj => exact hj
  | 2, hj => exact hj
  | 3, hj => exact hj
  | 4, hj => exact hj
  | 5, hj => exact hj
  | 6, hj => exact hj
  | 7, hj => exact hj
  | 8, hj => cases hj
  | j + 9, hj => exact hj) kk
theorem x_iload_9 (q : Nat) (C : hCx E K cc n own nm R) {a0 a1 a2 a3 a4 a5 a6 a7 a8 : Option Value} {r : List (Option Value)} {x : Int32} (hd : decode cc pc = .ok (.iload 9, 2)) (hq : pc + 2 = q) (kk : hX E cells slots q (a0 :: a1 :: a2 :: a3 :: a4 :: a5 :: a6 :: a7 :: a8 :: some (.int x) :: r) (.int x :: st) M) : hX E cells slots pc (a0 :: a1 :: a2 :: a3 :: a4 :: a5 :: a6 :: a7 :: a8 :: some (.int x) :: r) st M := by
  obtain ⟨p, e, R', s, m, args, below, meth, c, Q, A, K'⟩ := E
  obtain ⟨rfl, rfl, hx, hb, hml, hown, hts, hg, hA, hlk, hnm⟩ := C
  subst hq
  exact fun H locs ls h1 h2 h3 h4 => lv_iload hx hb hd (h4.at (k := 9) rfl) (kk H locs ls h1 h2 h3 h4)
theorem x_lload_9 (q : Nat) (C : hCx E K cc n own nm R) {a0 a1 a2 a3 a4 a5 a6 a7 a8 : Option Value} {r : List (Option Value)} {x : Int64} (hd : decode cc pc = .ok (.lload 9, 2)) (hq : pc + 2 = q) (kk : hX E cells slots q (a0 :: a1 :: a2 :: a3 :: a4 :: a5 :: a6 :: a7 :: a8 :: some (.long x) :: r) (.long x :: st) M) : hX E cells slots pc (a0 :: a1 :: a2 :: a3 :: a4 :: a5 :: a6 :: a7 :: a8 :: some (.long x) :: r) st M := by
  obtain ⟨p, e, R', s, m, args, below, meth, c, Q, A, K'⟩ := E
  obtain ⟨rfl, rfl, hx, hb, hml, hown, hts, hg, hA, hlk, hnm⟩ := C
  subst hq
  exact fun H locs ls h1 h2 h3 h4 => lv_lload hx hb hd (h4.at (k := 9) rfl) (kk H locs ls h1 h2 h3 h4)
theorem x_istore_9 (q : Nat) (C : hCx E K cc n own nm R) {a0 a1 a2 a3 a4 a5 a6 a7 a8 : Option Value} {r : List (Option Value)} {b : Option Value} {x : Int32} (hd : decode cc pc = .ok (.istore 9, 2)) (hq : pc + 2 = q) (hn : hNL a8 = true) (kk : hX E cells slots q (a0 :: a1 :: a2 :: a3 :: a4 :: a5 :: a6 :: a7 :: a8 :: some (.int x) :: r) st M) : hX E cells slots pc (a0 :: a1 :: a2 :: a3 :: a4 :: a5 :: a6 :: a7 :: a8 :: b :: r) (.int x :: st) M := by
  obtain ⟨p, e, R', s, m, args, below, meth, c, Q, A, K'⟩ := E
  obtain ⟨rfl, rfl, hx, hb, hml, hown, hts, hg, hA, hlk, hnm⟩ := C
  subst hq
  intro H locs ls h1 h2 h3 h4
  have hk : 9 < c.maxLocals := by have h := h4.1; simp only [List.length_cons] at h; omega
  exact lv_istore hx hb hd h4.2 hk rfl (fun ls2 hl => kk H locs ls2 h1 h2 h3 (hL.st1 (k := 9) (v := .int x) h4.1 hk (Or.inr ⟨8, _, rfl, rfl, hn⟩) hl))
theorem x_lstore_9 (q : Nat) (C : hCx E K cc n own nm R) {a0 a1 a2 a3 a4 a5 a6 a7 a8 : Option Value} {r : List (Option Value)} {b b2 : Option Value} {x : Int64} (hd : decode cc pc = .ok (.lstore 9, 2)) (hq : pc + 2 = q) (hn : hNL a8 = true) (kk : hX E cells slots q (a0 :: a1 :: a2 :: a3 :: a4 :: a5 :: a6 :: a7 :: a8 :: some (.long x) :: none :: r) st M) : hX E cells slots pc (a0 :: a1 :: a2 :: a3 :: a4 :: a5 :: a6 :: a7 :: a8 :: b :: b2 :: r) (.long x :: st) M := by
  obtain ⟨p, e, R', s, m, args, below, meth, c, Q, A, K'⟩ := E
  obtain ⟨rfl, rfl, hx, hb, hml, hown, hts, hg, hA, hlk, hnm⟩ := C
  subst hq
  intro H locs ls h1 h2 h3 h4
  have hk : 9 + 1 < c.maxLocals := by have h := h4.1; simp only [List.length_cons] at h; omega
  exact lv_lstore hx hb hd h4.2 hk rfl (fun ls2 hl => kk H locs ls2 h1 h2 h3 (hL.st2 (k := 9) (v := .long x) h4.1 hk (Or.inr ⟨8, _, rfl, rfl, hn⟩) hl))
theorem x_iinc_9 (q : Nat) (C : hCx E K cc n own nm R) {a0 a1 a2 a3 a4 a5 a6 a7 a8 : Option Value} {r : List (Option Value)} {x : Int32} {i : Int} {v : Int32} (hd : decode cc pc = .ok (.iinc 9 i, 3)) (hq : pc + 3 = q) (hn : hNL a8 = true) (hv : x + Int32.ofInt i = v) (kk : hX E cells slots q (a0 :: a1 :: a2 :: a3 :: a4 :: a5 :: a6 :: a7 :: a8 :: some (.int v) :: r) st M) : hX E cells slots pc (a0 :: a1 :: a2 :: a3 :: a4 :: a5 :: a6 :: a7 :: a8 :: some (.int x) :: r) st M := by
  obtain ⟨p, e, R', s, m, args, below, meth, c, Q, A, K'⟩ := E
  obtain ⟨rfl, rfl, hx, hb, hml, hown, hts, hg, hA, hlk, hnm⟩ := C
  subst hq
  intro H locs ls h1 h2 h3 h4
  have hk : 9 < c.maxLocals := by have h := h4.1; simp only [List.length_cons] at h; omega
  obtain ⟨k, hkk⟩ := List.getElem?_of_mem ((hLs_mem (a0 :: a1 :: a2 :: a3 :: a4 :: a5 :: a6 :: a7 :: a8 :: some (.int x) :: r) 0 9 (.int x)).mpr ⟨Nat.zero_le _, rfl⟩)
  exact lv_iinc hx hb hd h4.2 hkk hv hk rfl (fun ls2 hl => kk H locs ls2 h1 h2 h3 (hL.st1 (k := 9) (v := .int v) h4.1 hk (Or.inr ⟨8, _, rfl, rfl, hn⟩) hl))
theorem x_fg_9 {a0 a1 a2 a3 a4 a5 a6 a7 a8 : Option Value} {r : List (Option Value)} {b : Option Value} (kk : hX E cells slots pc (a0 :: a1 :: a2 :: a3 :: a4 :: a5 :: a6 :: a7 :: a8 :: none :: r) st M) : hX E cells slots pc (a0 :: a1 :: a2 :: a3 :: a4 :: a5 :: a6 :: a7 :: a8 :: b :: r) st M := x_w (lo' := (a0 :: a1 :: a2 :: a3 :: a4 :: a5 :: a6 :: a7 :: a8 :: none :: r)) rfl (fun j v hj => by
  match j, hj with
  | 0, hj => exact hj
  | 1, hj => exact hj
  | 2, hj => exact hj
  | 3, hj => exact hj
  | 4, hj => exact hj
  | 5, hj => exact hj
  | 6, hj => exact hj
  | 7, hj => exact hj
  | 8, hj => exact hj
  | 9, hj => cases hj
  | j + 10, hj => exact hj) kk
theorem x_iload_10 (q : Nat) (C : hCx E K cc n own nm R) {a0 a1 a2 a3 a4 a5 a6 a7 a8 a9 : Option Value} {r : List (Option Value)} {x : Int32} (hd : decode cc pc = .ok (.iload 10, 2)) (hq : pc + 2 = q) (kk : hX E cells slots q (a0 :: a1 :: a2 :: a3 :: a4 :: a5 :: a6 :: a7 :: a8 :: a9 :: some (.int x) :: r) (.int x :: st) M) : hX E cells slots pc (a0 :: a1 :: a2 :: a3 :: a4 :: a5 :: a6 :: a7 :: a8 :: a9 :: some (.int x) :: r) st M := by
  obtain ⟨p, e, R', s, m, args, below, meth, c, Q, A, K'⟩ := E
  obtain ⟨rfl, rfl, hx, hb, hml, hown, hts, hg, hA, hlk, hnm⟩ := C
  subst hq
  exact fun H locs ls h1 h2 h3 h4 => lv_iload hx hb hd (h4.at (k := 10) rfl) (kk H locs ls h1 h2 h3 h4)
theorem x_lload_10 (q : Nat) (C : hCx E K cc n own nm R) {a0 a1 a2 a3 a4 a5 a6 a7 a8 a9 : Option Value} {r : List (Option Value)} {x : Int64} (hd : decode cc pc = .ok (.lload 10, 2)) (hq : pc + 2 = q) (kk : hX E cells slots q (a0 :: a1 :: a2 :: a3 :: a4 :: a5 :: a6 :: a7 :: a8 :: a9 :: some (.long x) :: r) (.long x :: st) M) : hX E cells slots pc (a0 :: a1 :: a2 :: a3 :: a4 :: a5 :: a6 :: a7 :: a8 :: a9 :: some (.long x) :: r) st M := by
  obtain ⟨p, e, R', s, m, args, below, meth, c, Q, A, K'⟩ := E
  obtain ⟨rfl, rfl, hx, hb, hml, hown, hts, hg, hA, hlk, hnm⟩ := C
  subst hq
  exact fun H locs ls h1 h2 h3 h4 => lv_lload hx hb hd (h4.at (k := 10) rfl) (kk H locs ls h1 h2 h3 h4)
theorem x_istore_10 (q : Nat) (C : hCx E K cc n own nm R) {a0 a1 a2 a3 a4 a5 a6 a7 a8 a9 : Option Value} {r : List (Option Value)} {b : Option Value} {x : Int32} (hd : decode cc pc = .ok (.istore 10, 2)) (hq : pc + 2 = q) (hn : hNL a9 = true) (kk : hX E cells slots q (a0 :: a1 :: a2 :: a3 :: a4 :: a5 :: a6 :: a7 :: a8 :: a9 :: some (.int x) :: r) st M) : hX E cells slots pc (a0 :: a1 :: a2 :: a3 :: a4 :: a5 :: a6 :: a7 :: a8 :: a9 :: b :: r) (.int x :: st) M := by
  obtain ⟨p, e, R', s, m, args, below, meth, c, Q, A, K'⟩ := E
  obtain ⟨rfl, rfl, hx, hb, hml, hown, hts, hg, hA, hlk, hnm⟩ := C
  subst hq
  intro H locs ls h1 h2 h3 h4
  have hk : 10 < c.maxLocals := by have h := h4.1; simp only [List.length_cons] at h; omega
  exact lv_istore hx hb hd h4.2 hk rfl (fun ls2 hl => kk H locs ls2 h1 h2 h3 (hL.st1 (k := 10) (v := .int x) h4.1 hk (Or.inr ⟨9, _, rfl, rfl, hn⟩) hl))
theorem x_lstore_10 (q : Nat) (C : hCx E K cc n own nm R) {a0 a1 a2 a3 a4 a5 a6 a7 a8 a9 : Option Value} {r : List (Option Value)} {b b2 : Option Value} {x : Int64} (hd : decode cc pc = .ok (.lstore 10, 2)) (hq : pc + 2 = q) (hn : hNL a9 = true) (kk : hX E cells slots q (a0 :: a1 :: a2 :: a3 :: a4 :: a5 :: a6 :: a7 :: a8 :: a9 :: some (.long x) :: none :: r) st M) : hX E cells slots pc (a0 :: a1 :: a2 :: a3 :: a4 :: a5 :: a6 :: a7 :: a8 :: a9 :: b :: b2 :: r) (.long x :: st) M := by
  obtain ⟨p, e, R', s, m, args, below, meth, c, Q, A, K'⟩ := E
  obtain ⟨rfl, rfl, hx, hb, hml, hown, hts, hg, hA, hlk, hnm⟩ := C
  subst hq
  intro H locs ls h1 h2 h3 h4
  have hk : 10 + 1 < c.maxLocals := by have h := h4.1; simp only [List.length_cons] at h; omega
  exact lv_lstore hx hb hd h4.2 hk rfl (fun ls2 hl => kk H locs ls2 h1 h2 h3 (hL.st2 (k := 10) (v := .long x) h4.1 hk (Or.inr ⟨9, _, rfl, rfl, hn⟩) hl))
theorem x_iinc_10 (q : Nat) (C : hCx E K cc n own nm R) {a0 a1 a2 a3 a4 a5 a6 a7 a8 a9 : Option Value} {r : List (Option Value)} {x : Int32} {i : Int} {v : Int32} (hd : decode cc pc = .ok (.iinc 10 i, 3)) (hq : pc + 3 = q) (hn : hNL a9 = true) (hv : x + Int32.ofInt i = v) (kk : hX E cells slots q (a0 :: a1 :: a2 :: a3 :: a4 :: a5 :: a6 :: a7 :: a8 :: a9 :: some (.int v) :: r) st M) : hX E cells slots pc (a0 :: a1 :: a2 :: a3 :: a4 :: a5 :: a6 :: a7 :: a8 :: a9 :: some (.int x) :: r) st M := by
  obtain ⟨p, e, R', s, m, args, below, meth, c, Q, A, K'⟩ := E
  obtain ⟨rfl, rfl, hx, hb, hml, hown, hts, hg, hA, hlk, hnm⟩ := C
  subst hq
  intro H locs ls h1 h2 h3 h4
  have hk : 10 < c.maxLocals := by have h := h4.1; simp only [List.length_cons] at h; omega
  obtain ⟨k, hkk⟩ := List.getElem?_of_mem ((hLs_mem (a0 :: a1 :: a2 :: a3 :: a4 :: a5 :: a6 :: a7 :: a8 :: a9 :: some (.int x) :: r) 0 10 (.int x)).mpr ⟨Nat.zero_le _, rfl⟩)
  exact lv_iinc hx hb hd h4.2 hkk hv hk rfl (fun ls2 hl => kk H locs ls2 h1 h2 h3 (hL.st1 (k := 10) (v := .int v) h4.1 hk (Or.inr ⟨9, _, rfl, rfl, hn⟩) hl))
theorem x_fg_10 {a0 a1 a2 a3 a4 a5 a6 a7 a8 a9 : Option Value} {r : List (Option Value)} {b : Option Value} (kk : hX E cells slots pc (a0 :: a1 :: a2 :: a3 :: a4 :: a5 :: a6 :: a7 :: a8 :: a9 :: none :: r) st M) : hX E cells slots pc (a0 :: a1 :: a2 :: a3 :: a4 :: a5 :: a6 :: a7 :: a8 :: a9 :: b :: r) st M := x_w (lo' := (a0 :: a1 :: a2 :: a3 :: a4 :: a5 :: a6 :: a7 :: a8 :: a9 :: none :: r)) rfl (fun j v hj => by
  match j, hj with
  | 0, hj => exact hj
  | 1, hj => exact hj
  | 2, hj => exact hj
  | 3, hj => exact hj
  | 4, hj => exact hj
  | 5, hj => exact hj
  | 6, hj => exact hj
  | 7, hj => exact hj
  | 8, hj => exact hj
  | 9, hj => exact hj
  | 10, hj => cases hj
  | j + 11, hj => exact hj) kk
theorem x_iload_11 (q : Nat) (C : hCx E K cc n own nm R) {a0 a1 a2 a3 a4 a5 a6 a7 a8 a9 a10 : Option Value} {r : List (Option Value)} {x : Int32} (hd : decode cc pc = .ok (.iload 11, 2)) (hq : pc + 2 = q) (kk : hX E cells slots q (a0 :: a1 :: a2 :: a3 :: a4 :: a5 :: a6 :: a7 :: a8 :: a9 :: a10 :: some (.int x) :: r) (.int x :: st) M) : hX E cells slots pc (a0 :: a1 :: a2 :: a3 :: a4 :: a5 :: a6 :: a7 :: a8 :: a9 :: a10 :: some (.int x) :: r) st M := by
  obtain ⟨p, e, R', s, m, args, below, meth, c, Q, A, K'⟩ := E
  obtain ⟨rfl, rfl, hx, hb, hml, hown, hts, hg, hA, hlk, hnm⟩ := C
  subst hq
  exact fun H locs ls h1 h2 h3 h4 => lv_iload hx hb hd (h4.at (k := 11) rfl) (kk H locs ls h1 h2 h3 h4)
theorem x_lload_11 (q : Nat) (C : hCx E K cc n own nm R) {a0 a1 a2 a3 a4 a5 a6 a7 a8 a9 a10 : Option Value} {r : List (Option Value)} {x : Int64} (hd : decode cc pc = .ok (.lload 11, 2)) (hq : pc + 2 = q) (kk : hX E cells slots q (a0 :: a1 :: a2 :: a3 :: a4 :: a5 :: a6 :: a7 :: a8 :: a9 :: a10 :: some (.long x) :: r) (.long x :: st) M) : hX E cells slots pc (a0 :: a1 :: a2 :: a3 :: a4 :: a5 :: a6 :: a7 :: a8 :: a9 :: a10 :: some (.long x) :: r) st M := by
  obtain ⟨p, e, R', s, m, args, below, meth, c, Q, A, K'⟩ := E
  obtain ⟨rfl, rfl, hx, hb, hml, hown, hts, hg, hA, hlk, hnm⟩ := C
  subst hq
  exact fun H locs ls h1 h2 h3 h4 => lv_lload hx hb hd (h4.at (k := 11) rfl) (kk H locs ls h1 h2 h3 h4)
theorem x_istore_11 (q : Nat) (C : hCx E K cc n own nm R) {a0 a1 a2 a3 a4 a5 a6 a7 a8 a9 a10 : Option Value} {r : List (Option Value)} {b : Option Value} {x : Int32} (hd : decode cc pc = .ok (.istore 11, 2)) (hq : pc + 2 = q) (hn : hNL a10 = true) (kk : hX E cells slots q (a0 :: a1 :: a2 :: a3 :: a4 :: a5 :: a6 :: a7 :: a8 :: a9 :: a10 :: some (.int x) :: r) st M) : hX E cells slots pc (a0 :: a1 :: a2 :: a3 :: a4 :: a5 :: a6 :: a7 :: a8 :: a9 :: a10 :: b :: r) (.int x :: st) M := by
  obtain ⟨p, e, R', s, m, args, below, meth, c, Q, A, K'⟩ := E
  obtain ⟨rfl, rfl, hx, hb, hml, hown, hts, hg, hA, hlk, hnm⟩ := C
  subst hq
  intro H locs ls h1 h2 h3 h4
  have hk : 11 < c.maxLocals := by have h := h4.1; simp only [List.length_cons] at h; omega
  exact lv_istore hx hb hd h4.2 hk rfl (fun ls2 hl => kk H locs ls2 h1 h2 h3 (hL.st1 (k := 11) (v := .int x) h4.1 hk (Or.inr ⟨10, _, rfl, rfl, hn⟩) hl))
theorem x_lstore_11 (q : Nat) (C : hCx E K cc n own nm R) {a0 a1 a2 a3 a4 a5 a6 a7 a8 a9 a10 : Option Value} {r : List (Option Value)} {b b2 : Option Value} {x : Int64} (hd : decode cc pc = .ok (.lstore 11, 2)) (hq : pc + 2 = q) (hn : hNL a10 = true) (kk : hX E cells slots q (a0 :: a1 :: a2 :: a3 :: a4 :: a5 :: a6 :: a7 :: a8 :: a9 :: a10 :: some (.long x) :: none :: r) st M) : hX E cells slots pc (a0 :: a1 :: a2 :: a3 :: a4 :: a5 :: a6 :: a7 :: a8 :: a9 :: a10 :: b :: b2 :: r) (.long x :: st) M := by
  obtain ⟨p, e, R', s, m, args, below, meth, c, Q, A, K'⟩ := E
  obtain ⟨rfl, rfl, hx, hb, hml, hown, hts, hg, hA, hlk, hnm⟩ := C
  subst hq
  intro H locs ls h1 h2 h3 h4
  have hk : 11 + 1 < c.maxLocals := by have h := h4.1; simp only [List.length_cons] at h; omega
  exact lv_lstore hx hb hd h4.2 hk rfl (fun ls2 hl => kk H locs ls2 h1 h2 h3 (hL.st2 (k := 11) (v := .long x) h4.1 hk (Or.inr ⟨10, _, rfl, rfl, hn⟩) hl))
theorem x_iinc_11 (q : Nat) (C : hCx E K cc n own nm R) {a0 a1 a2 a3 a4 a5 a6 a7 a8 a9 a10 : Option Value} {r : List (Option Value)} {x : Int32} {i : Int} {v : Int32} (hd : decode cc pc = .ok (.iinc 11 i, 3)) (hq : pc + 3 = q) (hn : hNL a10 = true) (hv : x + Int32.ofInt i = v) (kk : hX E cells slots q (a0 :: a1 :: a2 :: a3 :: a4 :: a5 :: a6 :: a7 :: a8 :: a9 :: a10 :: some (.int v) :: r) st M) : hX E cells slots pc (a0 :: a1 :: a2 :: a3 :: a4 :: a5 :: a6 :: a7 :: a8 :: a9 :: a10 :: some (.int x) :: r) st M := by
  obtain ⟨p, e, R', s, m, args, below, meth, c, Q, A, K'⟩ := E
  obtain ⟨rfl, rfl, hx, hb, hml, hown, hts, hg, hA, hlk, hnm⟩ := C
  subst hq
  intro H locs ls h1 h2 h3 h4
  have hk : 11 < c.maxLocals := by have h := h4.1; simp only [List.length_cons] at h; omega
  obtain ⟨k, hkk⟩ := List.getElem?_of_mem ((hLs_mem (a0 :: a1 :: a2 :: a3 :: a4 :: a5 :: a6 :: a7 :: a8 :: a9 :: a10 :: some (.int x) :: r) 0 11 (.int x)).mpr ⟨Nat.zero_le _, rfl⟩)
  exact lv_iinc hx hb hd h4.2 hkk hv hk rfl (fun ls2 hl => kk H locs ls2 h1 h2 h3 (hL.st1 (k := 11) (v := .int v) h4.1 hk (Or.inr ⟨10, _, rfl, rfl, hn⟩) hl))
theorem x_fg_11 {a0 a1 a2 a3 a4 a5 a6 a7 a8 a9 a10 : Option Value} {r : List (Option Value)} {b : Option Value} (kk : hX E cells slots pc (a0 :: a1 :: a2 :: a3 :: a4 :: a5 :: a6 :: a7 :: a8 :: a9 :: a10 :: none :: r) st M) : hX E cells slots pc (a0 :: a1 :: a2 :: a3 :: a4 :: a5 :: a6 :: a7 :: a8 :: a9 :: a10 :: b :: r) st M := x_w (lo' := (a0 :: a1 :: a2 :: a3 :: a4 :: a5 :: a6 :: a7 :: a8 :: a9 :: a10 :: none :: r)) rfl (fun j v hj => by
  match j, hj with
  | 0, hj => exact hj
  | 1, hj => exact hj
  | 2, hj => exact hj
  | 3, hj => exact hj
  | 4, hj => exact hj
  | 5, hj => exact hj
  | 6, hj => exact hj
  | 7, hj => exact hj
  | 8, hj => exact hj
  | 9, hj => exact hj
  | 10, hj => exact hj
  | 11, hj => cases hj
  | j + 12, hj => exact hj) kk
theorem x_iload_12 (q : Nat) (C : hCx E K cc n own nm R) {a0 a1 a2 a3 a4 a5 a6 a7 a8 a9 a10 a11 : Option Value} {r : List (Option Value)} {x : Int32} (hd : decode cc pc = .ok (.iload 12, 2)) (hq : pc + 2 = q) (kk : hX E cells slots q (a0 :: a1 :: a2 :: a3 :: a4 :: a5 :: a6 :: a7 :: a8 :: a9 :: a10 :: a11 :: some (.int x) :: r) (.int x :: st) M) : hX E cells slots pc (a0 :: a1 :: a2 :: a3 :: a4 :: a5 :: a6 :: a7 :: a8 :: a9 :: a10 :: a11 :: some (.int x) :: r) st M := by
  obtain ⟨p, e, R', s, m, args, below, meth, c, Q, A, K'⟩ := E
  obtain ⟨rfl, rfl, hx, hb, hml, hown, hts, hg, hA, hlk, hnm⟩ := C
  subst hq
  exact fun H locs ls h1 h2 h3 h4 => lv_iload hx hb hd (h4.at (k := 12) rfl) (kk H locs ls h1 h2 h3 h4)
theorem x_lload_12 (q : Nat) (C : hCx E K cc n own nm R) {a0 a1 a2 a3 a4 a5 a6 a7 a8 a9 a10 a11 : Option Value} {r : List (Option Value)} {x : Int64} (hd : decode cc pc = .ok (.lload 12, 2)) (hq : pc + 2 = q) (kk : hX E cells slots q (a0 :: a1 :: a2 :: a3 :: a4 :: a5 :: a6 :: a7 :: a8 :: a9 :: a10 :: a11 :: some (.long x) :: r) (.long x :: st) M) : hX E cells slots pc (a0 :: a1 :: a2 :: a3 :: a4 :: a5 :: a6 :: a7 :: a8 :: a9 :: a10 :: a11 :: some (.long x) :: r) st M := by
  obtain ⟨p, e, R', s, m, args, below, meth, c, Q, A, K'⟩ := E
  obtain ⟨rfl, rfl, hx, hb, hml, hown, hts, hg, hA, hlk, hnm⟩ := C
  subst hq
  exact fun H locs ls h1 h2 h3 h4 => lv_lload hx hb hd (h4.at (k := 12) rfl) (kk H locs ls h1 h2 h3 h4)
theorem x_istore_12 (q : Nat) (C : hCx E K cc n own nm R) {a0 a1 a2 a3 a4 a5 a6 a7 a8 a9 a10 a11 : Option Value} {r : List (Option Value)} {b : Option Value} {x : Int32} (hd : decode cc pc = .ok (.istore 12, 2)) (hq : pc + 2 = q) (hn : hNL a11 = true) (kk : hX E cells slots q (a0 :: a1 :: a2 :: a3 :: a4 :: a5 :: a6 :: a7 :: a8 :: a9 :: a10 :: a11 :: some (.int x) :: r) st M) : hX E cells slots pc (a0 :: a1 :: a2 :: a3 :: a4 :: a5 :: a6 :: a7 :: a8 :: a9 :: a10 :: a11 :: b :: r) (.int x :: st) M := by
  obtain ⟨p, e, R', s, m, args, below, meth, c, Q, A, K'⟩ := E
  obtain ⟨rfl, rfl, hx, hb, hml, hown, hts, hg, hA, hlk, hnm⟩ := C
  subst hq
  intro H locs ls h1 h2 h3 h4
  have hk : 12 < c.maxLocals := by have h := h4.1; simp only [List.length_cons] at h; omega
  exact lv_istore hx hb hd h4.2 hk rfl (fun ls2 hl => kk H locs ls2 h1 h2 h3 (hL.st1 (k := 12) (v := .int x) h4.1 hk (Or.inr ⟨11, _, rfl, rfl, hn⟩) hl))
theorem x_lstore_12 (q : Nat) (C : hCx E K cc n own nm R) {a0 a1 a2 a3 a4 a5 a6 a7 a8 a9 a10 a11 : Option Value} {r : List (Option Value)} {b b2 : Option Value} {x : Int64} (hd : decode cc pc = .ok (.lstore 12, 2)) (hq : pc + 2 = q) (hn : hNL a11 = true) (kk : hX E cells slots q (a0 :: a1 :: a2 :: a3 :: a4 :: a5 :: a6 :: a7 :: a8 :: a9 :: a10 :: a11 :: some (.long x) :: none :: r) st M) : hX E cells slots pc (a0 :: a1 :: a2 :: a3 :: a4 :: a5 :: a6 :: a7 :: a8 :: a9 :: a10 :: a11 :: b :: b2 :: r) (.long x :: st) M := by
  obtain ⟨p, e, R', s, m, args, below, meth, c, Q, A, K'⟩ := E
  obtain ⟨rfl, rfl, hx, hb, hml, hown, hts, hg, hA, hlk, hnm⟩ := C
  subst hq
  intro H locs ls h1 h2 h3 h4
  have hk : 12 + 1 < c.maxLocals := by have h := h4.1; simp only [List.length_cons] at h; omega
  exact lv_lstore hx hb hd h4.2 hk rfl (fun ls2 hl => kk H locs ls2 h1 h2 h3 (hL.st2 (k := 12) (v := .long x) h4.1 hk (Or.inr ⟨11, _, rfl, rfl, hn⟩) hl))
theorem x_iinc_12 (q : Nat) (C : hCx E K cc n own nm R) {a0 a1 a2 a3 a4 a5 a6 a7 a8 a9 a10 a11 : Option Value} {r : List (Option Value)} {x : Int32} {i : Int} {v : Int32} (hd : decode cc pc = .ok (.iinc 12 i, 3)) (hq : pc + 3 = q) (hn : hNL a11 = true) (hv : x + Int32.ofInt i = v) (kk : hX E cells slots q (a0 :: a1 :: a2 :: a3 :: a4 :: a5 :: a6 :: a7 :: a8 :: a9 :: a10 :: a11 :: some (.int v) :: r) st M) : hX E cells slots pc (a0 :: a1 :: a2 :: a3 :: a4 :: a5 :: a6 :: a7 :: a8 :: a9 :: a10 :: a11 :: some (.int x) :: r) st M := by
  obtain ⟨p, e, R', s, m, args, below, meth, c, Q, A, K'⟩ := E
  obtain ⟨rfl, rfl, hx, hb, hml, hown, hts, hg, hA, hlk, hnm⟩ := C
  subst hq
  intro H locs ls h1 h2 h3 h4
  have hk : 12 < c.maxLocals := by have h := h4.1; simp only [List.length_cons] at h; omega
  obtain ⟨k, hkk⟩ := List.getElem?_of_mem ((hLs_mem (a0 :: a1 :: a2 :: a3 :: a4 :: a5 :: a6 :: a7 :: a8 :: a9 :: a10 :: a11 :: some (.int x) :: r) 0 12 (.int x)).mpr ⟨Nat.zero_le _, rfl⟩)
  exact lv_iinc hx hb hd h4.2 hkk hv hk rfl (fun ls2 hl => kk H locs ls2 h1 h2 h3 (hL.st1 (k := 12) (v := .int v) h4.1 hk (Or.inr ⟨11, _, rfl, rfl, hn⟩) hl))
theorem x_fg_12 {a0 a1 a2 a3 a4 a5 a6 a7 a8 a9 a10 a11 : Option Value} {r : List (Option Value)} {b : Option Value} (kk : hX E cells slots pc (a0 :: a1 :: a2 :: a3 :: a4 :: a5 :: a6 :: a7 :: a8 :: a9 :: a10 :: a11 :: none :: r) st M) : hX E cells slots pc (a0 :: a1 :: a2 :: a3 :: a4 :: a5 :: a6 :: a7 :: a8 :: a9 :: a10 :: a11 :: b :: r) st M := x_w (lo' := (a0 :: a1 :: a2 :: a3 :: a4 :: a5 :: a6 :: a7 :: a8 :: a9 :: a10 :: a11 :: none :: r)) rfl (fun j v hj => by
  match j, hj with
  | 0, hj => exact hj
  | 1, hj => exact hj
  | 2, hj => exact hj
  | 3, hj => exact hj
  | 4, hj => exact hj
  | 5, hj => exact hj
  | 6, hj => exact hj
  | 7, hj => exact hj
  | 8, hj => exact hj
  | 9, hj => exact hj
  | 10, hj => exact hj
  | 11, hj => exact hj
  | 12, hj => cases hj
  | j + 13, hj => exact hj) kk
theorem x_iload_13 (q : Nat) (C : hCx E K cc n own nm R) {a0 a1 a2 a3 a4 a5 a6 a7 a8 a9 a10 a11 a12 : Option Value} {r : List (Option Value)} {x : Int32} (hd : decode cc pc = .ok (.iload 13, 2)) (hq : pc + 2 = q) (kk : hX E cells slots q (a0 :: a1 :: a2 :: a3 :: a4 :: a5 :: a6 :: a7 :: a8 :: a9 :: a10 :: a11 :: a12 :: some (.int x) :: r) (.int x :: st) M) : hX E cells slots pc (a0 :: a1 :: a2 :: a3 :: a4 :: a5 :: a6 :: a7 :: a8 :: a9 :: a10 :: a11 :: a12 :: some (.int x) :: r) st M := by
  obtain ⟨p, e, R', s, m, args, below, meth, c, Q, A, K'⟩ := E
  obtain ⟨rfl, rfl, hx, hb, hml, hown, hts, hg, hA, hlk, hnm⟩ := C
  subst hq
  exact fun H locs ls h1 h2 h3 h4 => lv_iload hx hb hd (h4.at (k := 13) rfl) (kk H locs ls h1 h2 h3 h4)
theorem x_lload_13 (q : Nat) (C : hCx E K cc n own nm R) {a0 a1 a2 a3 a4 a5 a6 a7 a8 a9 a10 a11 a12 : Option Value} {r : List (Option Value)} {x : Int64} (hd : decode cc pc = .ok (.lload 13, 2)) (hq : pc + 2 = q) (kk : hX E cells slots q (a0 :: a1 :: a2 :: a3 :: a4 :: a5 :: a6 :: a7 :: a8 :: a9 :: a10 :: a11 :: a12 :: some (.long x) :: r) (.long x :: st) M) : hX E cells slots pc (a0 :: a1 :: a2 :: a3 :: a4 :: a5 :: a6 :: a7 :: a8 :: a9 :: a10 :: a11 :: a12 :: some (.long x) :: r) st M := by
  obtain ⟨p, e, R', s, m, args, below, meth, c, Q, A, K'⟩ := E
  obtain ⟨rfl, rfl, hx, hb, hml, hown, hts, hg, hA, hlk, hnm⟩ := C
  subst hq
  exact fun H locs ls h1 h2 h3 h4 => lv_lload hx hb hd (h4.at (k := 13) rfl) (kk H locs ls h1 h2 h3 h4)
theorem x_istore_13 (q : Nat) (C : hCx E K cc n own nm R) {a0 a1 a2 a3 a4 a5 a6 a7 a8 a9 a10 a11 a12 : Option Value} {r : List (Option Value)} {b : Option Value} {x : Int32} (hd : decode cc pc = .ok (.istore 13, 2)) (hq : pc + 2 = q) (hn : hNL a12 = true) (kk : hX E cells slots q (a0 :: a1 :: a2 :: a3 :: a4 :: a5 :: a6 :: a7 :: a8 :: a9 :: a10 :: a11 :: a12 :: some (.int x) :: r) st M) : hX E cells slots pc (a0 :: a1 :: a2 :: a3 :: a4 :: a5 :: a6 :: a7 :: a8 :: a9 :: a10 :: a11 :: a12 :: b :: r) (.int x :: st) M := by
  obtain ⟨p, e, R', s, m, args, below, meth, c, Q, A, K'⟩ := E
  obtain ⟨rfl, rfl, hx, hb, hml, hown, hts, hg, hA, hlk, hnm⟩ := C
  subst hq
  intro H locs ls h1 h2 h3 h4
  have hk : 13 < c.maxLocals := by have h := h4.1; simp only [List.length_cons] at h; omega
  exact lv_istore hx hb hd h4.2 hk rfl (fun ls2 hl => kk H locs ls2 h1 h2 h3 (hL.st1 (k := 13) (v := .int x) h4.1 hk (Or.inr ⟨12, _, rfl, rfl, hn⟩) hl))
theorem x_lstore_13 (q : Nat) (C : hCx E K cc n own nm R) {a0 a1 a2 a3 a4 a5 a6 a7 a8 a9 a10 a11 a12 : Option Value} {r : List (Option Value)} {b b2 : Option Value} {x : Int64} (hd : decode cc pc = .ok (.lstore 13, 2)) (hq : pc + 2 = q) (hn : hNL a12 = true) (kk : hX E cells slots q (a0 :: a1 :: a2 :: a3 :: a4 :: a5 :: a6 :: a7 :: a8 :: a9 :: a10 :: a11 :: a12 :: some (.long x) :: none :: r) st M) : hX E cells slots pc (a0 :: a1 :: a2 :: a3 :: a4 :: a5 :: a6 :: a7 :: a8 :: a9 :: a10 :: a11 :: a12 :: b :: b2 :: r) (.long x :: st) M := by
  obtain ⟨p, e, R', s, m, args, below, meth, c, Q, A, K'⟩ := E
  obtain ⟨rfl, rfl, hx, hb, hml, hown, hts, hg, hA, hlk, hnm⟩ := C
  subst hq
  intro H locs ls h1 h2 h3 h4
  have hk : 13 + 1 < c.maxLocals := by have h := h4.1; simp only [List.length_cons] at h; omega
  exact lv_lstore hx hb hd h4.2 hk rfl (fun ls2 hl => kk H locs ls2 h1 h2 h3 (hL.st2 (k := 13) (v := .long x) h4.1 hk (Or.inr ⟨12, _, rfl, rfl, hn⟩) hl))
theorem x_iinc_13 (q : Nat) (C : hCx E K cc n own nm R) {a0 a1 a2 a3 a4 a5 a6 a7 a8 a9 a10 a11 a12 : Option Value} {r : List (Option Value)} {x : Int32} {i : Int} {v : Int32} (hd : decode cc pc = .ok (.iinc 13 i, 3)) (hq : pc + 3 = q) (hn : hNL a12 = true) (hv : x + Int32.ofInt i = v) (kk : hX E cells slots q (a0 :: a1 :: a2 :: a3 :: a4 :: a5 :: a6 :: a7 :: a8 :: a9 :: a10 :: a11 :: a12 :: some (.int v) :: r) st M) : hX E cells slots pc (a0 :: a1 :: a2 :: a3 :: a4 :: a5 :: a6 :: a7 :: a8 :: a9 :: a10 :: a11 :: a12 :: some (.int x) :: r) st M := by
  obtain ⟨p, e, R', s, m, args, below, meth, c, Q, A, K'⟩ := E
  obtain ⟨rfl, rfl, hx, hb, hml, hown, hts, hg, hA, hlk, hnm⟩ := C
  subst hq
  intro H locs ls h1 h2 h3 h4
  have hk : 13 < c.maxLocals := by have h := h4.1; simp only [List.length_cons] at h; omega
  obtain ⟨k, hkk⟩ := List.getElem?_of_mem ((hLs_mem (a0 :: a1 :: a2 :: a3 :: a4 :: a5 :: a6 :: a7 :: a8 :: a9 :: a10 :: a11 :: a12 :: some (.int x) :: r) 0 13 (.int x)).mpr ⟨Nat.zero_le _, rfl⟩)
  exact lv_iinc hx hb hd h4.2 hkk hv hk rfl (fun ls2 hl => kk H locs ls2 h1 h2 h3 (hL.st1 (k := 13) (v := .int v) h4.1 hk (Or.inr ⟨12, _, rfl, rfl, hn⟩) hl))
theorem x_fg_13 {a0 a1 a2 a3 a4 a5 a6 a7 a8 a9 a10 a11 a12 : Option Value} {r : List (Option Value)} {b : Option Value} (kk : hX E cells slots pc (a0 :: a1 :: a2 :: a3 :: a4 :: a5 :: a6 :: a7 :: a8 :: a9 :: a10 :: a11 :: a12 :: none :: r) st M) : hX E cells slots pc (a0 :: a1 :: a2 :: a3 :: a4 :: a5 :: a6 :: a7 :: a8 :: a9 :: a10 :: a11 :: a12 :: b :: r) st M := x_w (lo' := (a0 :: a1 :: a2 :: a3 :: a4 :: a5 :: a6 :: a7 :: a8 :: a9 :: a10 :: a11 :: a12 :: none :: r)) rfl (fun j v hj => by
  match j, hj with
  | 0, hj => exact hj
  | 1, hj => exact hj
  | 2, hj => exact hj
  | 3, hj => exact hj
  | 4, hj => exact hj
  | 5, hj => exact hj
  | 6, hj => exact hj
  | 7, hj => exact hj
  | 8, hj => exact hj
  | 9, hj => exact hj
  | 10, hj => exact hj
  | 11, hj => exact hj
  | 12, hj => exact hj
  | 13, hj => cases hj
  | j + 14, hj => exact hj) kk
theorem x_iload_14 (q : Nat) (C : hCx E K cc n own nm R) {a0 a1 a2 a3 a4 a5 a6 a7 a8 a9 a10 a11 a12 a13 : Option Value} {r : List (Option Value)} {x : Int32} (hd : decode cc pc = .ok (.iload 14, 2)) (hq : pc + 2 = q) (kk : hX E cells slots q (a0 :: a1 :: a2 :: a3 :: a4 :: a5 :: a6 :: a7 :: a8 :: a9 :: a10 :: a11 :: a12 :: a13 :: some (.int x) :: r) (.int x :: st) M) : hX E cells slots pc (a0 :: a1 :: a2 :: a3 :: a4 :: a5 :: a6 :: a7 :: a8 :: a9 :: a10 :: a11 :: a12 :: a13 :: some (.int x) :: r) st M := by
  obtain ⟨p, e, R', s, m, args, below, meth, c, Q, A, K'⟩ := E
  obtain ⟨rfl, rfl, hx, hb, hml, hown, hts, hg, hA, hlk, hnm⟩ := C
  subst hq
  exact fun H locs ls h1 h2 h3 h4 => lv_iload hx hb hd (h4.at (k := 14) rfl) (kk H locs ls h1 h2 h3 h4)
theorem x_lload_14 (q : Nat) (C : hCx E K cc n own nm R) {a0 a1 a2 a3 a4 a5 a6 a7 a8 a9 a10 a11 a12 a13 : Option Value} {r : List (Option Value)} {x : Int64} (hd : decode cc pc = .ok (.lload 14, 2)) (hq : pc + 2 = q) (kk : hX E cells slots q (a0 :: a1 :: a2 :: a3 :: a4 :: a5 :: a6 :: a7 :: a8 :: a9 :: a10 :: a11 :: a12 :: a13 :: some (.long x) :: r) (.long x :: st) M) : hX E cells slots pc (a0 :: a1 :: a2 :: a3 :: a4 :: a5 :: a6 :: a7 :: a8 :: a9 :: a10 :: a11 :: a12 :: a13 :: some (.long x) :: r) st M := by
  obtain ⟨p, e, R', s, m, args, below, meth, c, Q, A, K'⟩ := E
  obtain ⟨rfl, rfl, hx, hb, hml, hown, hts, hg, hA, hlk, hnm⟩ := C
  subst hq
  exact fun H locs ls h1 h2 h3 h4 => lv_lload hx hb hd (h4.at (k := 14) rfl) (kk H locs ls h1 h2 h3 h4)
theorem x_istore_14 (q : Nat) (C : hCx E K cc n own nm R) {a0 a1 a2 a3 a4 a5 a6 a7 a8 a9 a10 a11 a12 a13 : Option Value} {r : List (Option Value)} {b : Option Value} {x : Int32} (hd : decode cc pc = .ok (.istore 14, 2)) (hq : pc + 2 = q) (hn : hNL a13 = true) (kk : hX E cells slots q (a0 :: a1 :: a2 :: a3 :: a4 :: a5 :: a6 :: a7 :: a8 :: a9 :: a10 :: a11 :: a12 :: a13 :: some (.int x) :: r) st M) : hX E cells slots pc (a0 :: a1 :: a2 :: a3 :: a4 :: a5 :: a6 :: a7 :: a8 :: a9 :: a10 :: a11 :: a12 :: a13 :: b :: r) (.int x :: st) M := by
  obtain ⟨p, e, R', s, m, args, below, meth, c, Q, A, K'⟩ := E
  obtain ⟨rfl, rfl, hx, hb, hml, hown, hts, hg, hA, hlk, hnm⟩ := C
  subst hq
  intro H locs ls h1 h2 h3 h4
  have hk : 14 < c.maxLocals := by have h := h4.1; simp only [List.length_cons] at h; omega
  exact lv_istore hx hb hd h4.2 hk rfl (fun ls2 hl => kk H locs ls2 h1 h2 h3 (hL.st1 (k := 14) (v := .int x) h4.1 hk (Or.inr ⟨13, _, rfl, rfl, hn⟩) hl))
theorem x_lstore_14 (q : Nat) (C : hCx E K cc n own nm R) {a0 a1 a2 a3 a4 a5 a6 a7 a8 a9 a10 a11 a12 a13 : Option Value} {r : List (Option Value)} {b b2 : Option Value} {x : Int64} (hd : decode cc pc = .ok (.lstore 14, 2)) (hq : pc + 2 = q) (hn : hNL a13 = true) (kk : hX E cells slots q (a0 :: a1 :: a2 :: a3 :: a4 :: a5 :: a6 :: a7 :: a8 :: a9 :: a10 :: a11 :: a12 :: a13 :: some (.long x) :: none :: r) st M) : hX E cells slots pc (a0 :: a1 :: a2 :: a3 :: a4 :: a5 :: a6 :: a7 :: a8 :: a9 :: a10 :: a11 :: a12 :: a13 :: b :: b2 :: r) (.long x :: st) M := by
  obtain ⟨p, e, R', s, m, args, below, meth, c, Q, A, K'⟩ := E
  obtain ⟨rfl, rfl, hx, hb, hml, hown, hts, hg, hA, hlk, hnm⟩ := C
  subst hq
  intro H locs ls h1 h2 h3 h4
  have hk : 14 + 1 < c.maxLocals := by have h := h4.1; simp only [List.length_cons] at h; omega
  exact lv_lstore hx hb hd h4.2 hk rfl (fun ls2 hl => kk H locs ls2 h1 h2 h3 (hL.st2 (k := 14) (v := .long x) h4.1 hk (Or.inr ⟨13, _, rfl, rfl, hn⟩) hl))
theorem x_iinc_14 (q : Nat) (C : hCx E K cc n own nm R) {a0 a1 a2 a3 a4 a5 a6 a7 a8 a9 a10 a11 a12 a13 : Option Value} {r : List (Option Value)} {x : Int32} {i : Int} {v : Int32} (hd : decode cc pc = .ok (.iinc 14 i, 3)) (hq : pc + 3 = q) (hn : hNL a13 = true) (hv : x + Int32.ofInt i = v) (kk : hX E cells slots q (a0 :: a1 :: a2 :: a3 :: a4 :: a5 :: a6 :: a7 :: a8 :: a9 :: a10 :: a11 :: a12 :: a13 :: some (.int v) :: r) st M) : hX E cells slots pc (a0 :: a1 :: a2 :: a3 :: a4 :: a5 :: a6 :: a7 :: a8 :: a9 :: a10 :: a11 :: a12 :: a13 :: some (.int x) :: r) st M := by
  obtain ⟨p, e, R', s, m, args, below, meth, c, Q, A, K'⟩ := E
  obtain ⟨rfl, rfl, hx, hb, hml, hown, hts, hg, hA, hlk, hnm⟩ := C
  subst hq
  intro H locs ls h1 h2 h3 h4
  have hk : 14 < c.maxLocals := by have h := h4.1; simp only [List.length_cons] at h; omega
  obtain ⟨k, hkk⟩ := List.getElem?_of_mem ((hLs_mem (a0 :: a1 :: a2 :: a3 :: a4 :: a5 :: a6 :: a7 :: a8 :: a9 :: a10 :: a11 :: a12 :: a13 :: some (.int x) :: r) 0 14 (.int x)).mpr ⟨Nat.zero_le _, rfl⟩)
  exact lv_iinc hx hb hd h4.2 hkk hv hk rfl (fun ls2 hl => kk H locs ls2 h1 h2 h3 (hL.st1 (k := 14) (v := .int v) h4.1 hk (Or.inr ⟨13, _, rfl, rfl, hn⟩) hl))
theorem x_fg_14 {a0 a1 a2 a3 a4 a5 a6 a7 a8 a9 a10 a11 a12 a13 : Option Value} {r : List (Option Value)} {b : Option Value} (kk : hX E cells slots pc (a0 :: a1 :: a2 :: a3 :: a4 :: a5 :: a6 :: a7 :: a8 :: a9 :: a10 :: a11 :: a12 :: a13 :: none :: r) st M) : hX E cells slots pc (a0 :: a1 :: a2 :: a3 :: a4 :: a5 :: a6 :: a7 :: a8 :: a9 :: a10 :: a11 :: a12 :: a13 :: b :: r) st M := x_w (lo' := (a0 :: a1 :: a2 :: a3 :: a4 :: a5 :: a6 :: a7 :: a8 :: a9 :: a10 :: a11 :: a12 :: a13 :: none :: r)) rfl (fun j v hj => by
  match j, hj with
  | 0, hj => exact hj
  | 1, hj => exact hj
  | 2, hj => exact hj
  | 3, hj => exact hj
  | 4, hj => exact hj
  | 5, hj => exact hj
  | 6, hj => exact hj
  | 7, hj => exact hj
  | 8, hj => exact hj
  | 9, hj => exact hj
  | 10, hj => exact hj
  | 11, hj => exact hj
  | 12, hj => exact hj
  | 13, hj => exact hj
  | 14, hj => cases hj
  | j + 15, hj => exact hj) kk
theorem x_iload_15 (q : Nat) (C : hCx E K cc n own nm R) {a0 a1 a2 a3 a4 a5 a6 a7 a8 a9 a10 a11 a12 a13 a14 : Option Value} {r : List (Option Value)} {x : Int32} (hd : decode cc pc = .ok (.iload 15, 2)) (hq : pc + 2 = q) (kk : hX E cells slots q (a0 :: a1 :: a2 :: a3 :: a4 :: a5 :: a6 :: a7 :: a8 :: a9 :: a10 :: a11 :: a12 :: a13 :: a14 :: some (.int x) :: r) (.int x :: st) M) : hX E cells slots pc (a0 :: a1 :: a2 :: a3 :: a4 :: a5 :: a6 :: a7 :: a8 :: a9 :: a10 :: a11 :: a12 :: a13 :: a14 :: some (.int x) :: r) st M := by
  obtain ⟨p, e, R', s, m, args, below, meth, c, Q, A, K'⟩ := E
  obtain ⟨rfl, rfl, hx, hb, hml, hown, hts, hg, hA, hlk, hnm⟩ := C
  subst hq
  exact fun H locs ls h1 h2 h3 h4 => lv_iload hx hb hd (h4.at (k := 15) rfl) (kk H locs ls h1 h2 h3 h4)
theorem x_lload_15 (q : Nat) (C : hCx E K cc n own nm R) {a0 a1 a2 a3 a4 a5 a6 a7 a8 a9 a10 a11 a12 a13 a14 : Option Value} {r : List (Option Value)} {x : Int64} (hd : decode cc pc = .ok (.lload 15, 2)) (hq : pc + 2 = q) (kk : hX E cells slots q (a0 :: a1 :: a2 :: a3 :: a4 :: a5 :: a6 :: a7 :: a8 :: a9 :: a10 :: a11 :: a12 :: a13 :: a14 :: some (.long x) :: r) (.long x :: st) M) : hX E cells slots pc (a0 :: a1 :: a2 :: a3 :: a4 :: a5 :: a6 :: a7 :: a8 :: a9 :: a10 :: a11 :: a12 :: a13 :: a14 :: some (.long x) :: r) st M := by
  obtain ⟨p, e, R', s, m, args, below, meth, c, Q, A, K'⟩ := E
  obtain ⟨rfl, rfl, hx, hb, hml, hown, hts, hg, hA, hlk, hnm⟩ := C
  subst hq
  exact fun H locs ls h1 h2 h3 h4 => lv_lload hx hb hd (h4.at (k := 15) rfl) (kk H locs ls h1 h2 h3 h4)
theorem x_istore_15 (q : Nat) (C : hCx E K cc n own nm R) {a0 a1 a2 a3 a4 a5 a6 a7 a8 a9 a10 a11 a12 a13 a14 : Option Value} {r : List (Option Value)} {b : Option Value} {x : Int32} (hd : decode cc pc = .ok (.istore 15, 2)) (hq : pc + 2 = q) (hn : hNL a14 = true) (kk : hX E cells slots q (a0 :: a1 :: a2 :: a3 :: a4 :: a5 :: a6 :: a7 :: a8 :: a9 :: a10 :: a11 :: a12 :: a13 :: a14 :: some (.int x) :: r) st M) : hX E cells slots pc (a0 :: a1 :: a2 :: a3 :: a4 :: a5 :: a6 :: a7 :: a8 :: a9 :: a10 :: a11 :: a12 :: a13 :: a14 :: b :: r) (.int x :: st) M := by
  obtain ⟨p, e, R', s, m, args, below, meth, c, Q, A, K'⟩ := E
  obtain ⟨rfl, rfl, hx, hb, hml, hown, hts, hg, hA, hlk, hnm⟩ := C
  subst hq
  intro H locs ls h1 h2 h3 h4
  have hk : 15 < c.maxLocals := by have h := h4.1; simp only [List.length_cons] at h; omega
  exact lv_istore hx hb hd h4.2 hk rfl (fun ls2 hl => kk H locs ls2 h1 h2 h3 (hL.st1 (k := 15) (v := .int x) h4.1 hk (Or.inr ⟨14, _, rfl, rfl, hn⟩) hl))
theorem x_lstore_15 (q : Nat) (C : hCx E K cc n own nm R) {a0 a1 a2 a3 a4 a5 a6 a7 a8 a9 a10 a11 a12 a13 a14 : Option Value} {r : List (Option Value)} {b b2 : Option Value} {x : Int64} (hd : decode cc pc = .ok (.lstore 15, 2)) (hq : pc + 2 = q) (hn : hNL a14 = true) (kk : hX E cells slots q (a0 :: a1 :: a2 :: a3 :: a4 :: a5 :: a6 :: a7 :: a8 :: a9 :: a10 :: a11 :: a12 :: a13 :: a14 :: some (.long x) :: none :: r) st M) : hX E cells slots pc (a0 :: a1 :: a2 :: a3 :: a4 :: a5 :: a6 :: a7 :: a8 :: a9 :: a10 :: a11 :: a12 :: a13 :: a14 :: b :: b2 :: r) (.long x :: st) M := by
  obtain ⟨p, e, R', s, m, args, below, meth, c, Q, A, K'⟩ := E
  obtain ⟨rfl, rfl, hx, hb, hml, hown, hts, hg, hA, hlk, hnm⟩ := C
  subst hq
  intro H locs ls h1 h2 h3 h4
  have hk : 15 + 1 < c.maxLocals := by have h := h4.1; simp only [List.length_cons] at h; omega
  exact lv_lstore hx hb hd h4.2 hk rfl (fun ls2 hl => kk H locs ls2 h1 h2 h3 (hL.st2 (k := 15) (v := .long x) h4.1 hk (Or.inr ⟨14, _, rfl, rfl, hn⟩) hl))
theorem x_iinc_15 (q : Nat) (C : hCx E K cc n own nm R) {a0 a1 a2 a3 a4 a5 a6 a7 a8 a9 a10 a11 a12 a13 a14 : Option Value} {r : List (Option Value)} {x : Int32} {i : Int} {v : Int32} (hd : decode cc pc = .ok (.iinc 15 i, 3)) (hq : pc + 3 = q) (hn : hNL a14 = true) (hv : x + Int32.ofInt i = v) (kk : hX E cells slots q (a0 :: a1 :: a2 :: a3 :: a4 :: a5 :: a6 :: a7 :: a8 :: a9 :: a10 :: a11 :: a12 :: a13 :: a14 :: some (.int v) :: r) st M) : hX E cells slots pc (a0 :: a1 :: a2 :: a3 :: a4 :: a5 :: a6 :: a7 :: a8 :: a9 :: a10 :: a11 :: a12 :: a13 :: a14 :: some (.int x) :: r) st M := by
  obtain ⟨p, e, R', s, m, args, below, meth, c, Q, A, K'⟩ := E
  obtain ⟨rfl, rfl, hx, hb, hml, hown, hts, hg, hA, hlk, hnm⟩ := C
  subst hq
  intro H locs ls h1 h2 h3 h4
  have hk : 15 < c.maxLocals := by have h := h4.1; simp only [List.length_cons] at h; omega
  obtain ⟨k, hkk⟩ := List.getElem?_of_mem ((hLs_mem (a0 :: a1 :: a2 :: a3 :: a4 :: a5 :: a6 :: a7 :: a8 :: a9 :: a10 :: a11 :: a12 :: a13 :: a14 :: some (.int x) :: r) 0 15 (.int x)).mpr ⟨Nat.zero_le _, rfl⟩)
  exact lv_iinc hx hb hd h4.2 hkk hv hk rfl (fun ls2 hl => kk H locs ls2 h1 h2 h3 (hL.st1 (k := 15) (v := .int v) h4.1 hk (Or.inr ⟨14, _, rfl, rfl, hn⟩) hl))
theorem x_fg_15 {a0 a1 a2 a3 a4 a5 a6 a7 a8 a9 a10 a11 a12 a13 a14 : Option Value} {r : List (Option Value)} {b : Option Value} (kk : hX E cells slots pc (a0 :: a1 :: a2 :: a3 :: a4 :: a5 :: a6 :: a7 :: a8 :: a9 :: a10 :: a11 :: a12 :: a13 :: a14 :: none :: r) st M) : hX E cells slots pc (a0 :: a1 :: a2 :: a3 :: a4 :: a5 :: a6 :: a7 :: a8 :: a9 :: a10 :: a11 :: a12 :: a13 :: a14 :: b :: r) st M := x_w (lo' := (a0 :: a1 :: a2 :: a3 :: a4 :: a5 :: a6 :: a7 :: a8 :: a9 :: a10 :: a11 :: a12 :: a13 :: a14 :: none :: r)) rfl (fun j v hj => by
  match j, hj with
  | 0, hj => exact hj
  | 1, hj => exact hj
  | 2, hj => exact hj
  | 3, hj => exact hj
  | 4, hj => exact hj
  | 5, hj => exact hj
  | 6, hj => exact hj
  | 7, hj => exact hj
  | 8, hj => exact hj
  | 9, hj => exact hj
  | 10, hj => exact hj
  | 11, hj => exact hj
  | 12, hj => exact hj
  | 13, hj => exact hj
  | 14, hj => exact hj
  | 15, hj => cases hj
  | j + 16, hj => exact hj) kk
theorem x_iload_16 (q : Nat) (C : hCx E K cc n own nm R) {a0 a1 a2 a3 a4 a5 a6 a7 a8 a9 a10 a11 a12 a13 a14 a15 : Option Value} {r : List (Option Value)} {x : Int32} (hd : decode cc pc = .ok (.iload 16, 2)) (hq : pc + 2 = q) (kk : hX E cells slots q (a0 :: a1 :: a2 :: a3 :: a4 :: a5 :: a6 :: a7 :: a8 :: a9 :: a10 :: a11 :: a12 :: a13 :: a14 :: a15 :: some (.int x) :: r) (.int x :: st) M) : hX E cells slots pc (a0 :: a1 :: a2 :: a3 :: a4 :: a5 :: a6 :: a7 :: a8 :: a9 :: a10 :: a11 :: a12 :: a13 :: a14 :: a15 :: some (.int x) :: r) st M := by
  obtain ⟨p, e, R', s, m, args, below, meth, c, Q, A, K'⟩ := E
  obtain ⟨rfl, rfl, hx, hb, hml, hown, hts, hg, hA, hlk, hnm⟩ := C
  subst hq
  exact fun H locs ls h1 h2 h3 h4 => lv_iload hx hb hd (h4.at (k := 16) rfl) (kk H locs ls h1 h2 h3 h4)
theorem x_lload_16 (q : Nat) (C : hCx E K cc n own nm R) {a0 a1 a2 a3 a4 a5 a6 a7 a8 a9 a10 a11 a12 a13 a14 a15 : Option Value} {r : List (Option Value)} {x : Int64} (hd : decode cc pc = .ok (.lload 16, 2)) (hq : pc + 2 = q) (kk : hX E cells slots q (a0 :: a1 :: a2 :: a3 :: a4 :: a5 :: a6 :: a7 :: a8 :: a9 :: a10 :: a11 :: a12 :: a13 :: a14 :: a15 :: some (.long x) :: r) (.long x :: st) M) : hX E cells slots pc (a0 :: a1 :: a2 :: a3 :: a4 :: a5 :: a6 :: a7 :: a8 :: a9 :: a10 :: a11 :: a12 :: a13 :: a14 :: a15 :: some (.long x) :: r) st M := by
  obtain ⟨p, e, R', s, m, args, below, meth, c, Q, A, K'⟩ := E
  obtain ⟨rfl, rfl, hx, hb, hml, hown, hts, hg, hA, hlk, hnm⟩ := C
  subst hq
  exact fun H locs ls h1 h2 h3 h4 => lv_lload hx hb hd (h4.at (k := 16) rfl) (kk H locs ls h1 h2 h3 h4)
theorem x_istore_16 (q : Nat) (C : hCx E K cc n own nm R) {a0 a1 a2 a3 a4 a5 a6 a7 a8 a9 a10 a11 a12 a13 a14 a15 : Option Value} {r : List (Option Value)} {b : Option Value} {x : Int32} (hd : decode cc pc = .ok (.istore 16, 2)) (hq : pc + 2 = q) (hn : hNL a15 = true) (kk : hX E cells slots q (a0 :: a1 :: a2 :: a3 :: a4 :: a5 :: a6 :: a7 :: a8 :: a9 :: a10 :: a11 :: a12 :: a13 :: a14 :: a15 :: some (.int x) :: r) st M) : hX E cells slots pc (a0 :: a1 :: a2 :: a3 :: a4 :: a5 :: a6 :: a7 :: a8 :: a9 :: a10 :: a11 :: a12 :: a13 :: a14 :: a15 :: b :: r) (.int x :: st) M := by
  obtain ⟨p, e, R', s, m, args, below, meth, c, Q, A, K'⟩ := E
  obtain ⟨rfl, rfl, hx, hb, hml, hown, hts, hg, hA, hlk, hnm⟩ := C
  subst hq
  intro H locs ls h1 h2 h3 h4
  have hk : 16 < c.maxLocals := by have h := h4.1; simp only [List.length_cons] at h; omega
  exact lv_istore hx hb hd h4.2 hk rfl (fun ls2 hl => kk H locs ls2 h1 h2 h3 (hL.st1 (k := 16) (v := .int x) h4.1 hk (Or.inr ⟨15, _, rfl, rfl, hn⟩) hl))
theorem x_lstore_16 (q : Nat) (C : hCx E K cc n own nm R) {a0 a1 a2 a3 a4 a5 a6 a7 a8 a9 a10 a11 a12 a13 a14 a15 : Option Value} {r : List (Option Value)} {b b2 : Option Value} {x : Int64} (hd : decode cc pc = .ok (.lstore 16, 2)) (hq : pc + 2 = q) (hn : hNL a15 = true) (kk : hX E cells slots q (a0 :: a1 :: a2 :: a3 :: a4 :: a5 :: a6 :: a7 :: a8 :: a9 :: a10 :: a11 :: a12 :: a13 :: a14 :: a15 :: some (.long x) :: none :: r) st M) : hX E cells slots pc (a0 :: a1 :: a2 :: a3 :: a4 :: a5 :: a6 :: a7 :: a8 :: a9 :: a10 :: a11 :: a12 :: a13 :: a14 :: a15 :: b :: b2 :: r) (.long x :: st) M := by
  obtain ⟨p, e, R', s, m, args, below, meth, c, Q, A, K'⟩ := E
  obtain ⟨rfl, rfl, hx, hb, hml, hown, hts, hg, hA, hlk, hnm⟩ := C
  subst hq
  intro H locs ls h1 h2 h3 h4
  have hk : 16 + 1 < c.maxLocals := by have h := h4.1; simp only [List.length_cons] at h; omega
  exact lv_lstore hx hb hd h4.2 hk rfl (fun ls2 hl => kk H locs ls2 h1 h2 h3 (hL.st2 (k := 16) (v := .long x) h4.1 hk (Or.inr ⟨15, _, rfl, rfl, hn⟩) hl))
theorem x_iinc_16 (q : Nat) (C : hCx E K cc n own nm R) {a0 a1 a2 a3 a4 a5 a6 a7 a8 a9 a10 a11 a12 a13 a14 a15 : Option Value} {r : List (Option Value)} {x : Int32} {i : Int} {v : Int32} (hd : decode cc pc = .ok (.iinc 16 i, 3)) (hq : pc + 3 = q) (hn : hNL a15 = true) (hv : x + Int32.ofInt i = v) (kk : hX E cells slots q (a0 :: a1 :: a2 :: a3 :: a4 :: a5 :: a6 :: a7 :: a8 :: a9 :: a10 :: a11 :: a12 :: a13 :: a14 :: a15 :: some (.int v) :: r) st M) : hX E cells slots pc (a0 :: a1 :: a2 :: a3 :: a4 :: a5 :: a6 :: a7 :: a8 :: a9 :: a10 :: a11 :: a12 :: a13 :: a14 :: a15 :: some (.int x) :: r) st M := by
  obtain ⟨p, e, R', s, m, args, below, meth, c, Q, A, K'⟩ := E
  obtain ⟨rfl, rfl, hx, hb, hml, hown, hts, hg, hA, hlk, hnm⟩ := C
  subst hq
  intro H locs ls h1 h2 h3 h4
  have hk : 16 < c.maxLocals := by have h := h4.1; simp only [List.length_cons] at h; omega
  obtain ⟨k, hkk⟩ := List.getElem?_of_mem ((hLs_mem (a0 :: a1 :: a2 :: a3 :: a4 :: a5 :: a6 :: a7 :: a8 :: a9 :: a10 :: a11 :: a12 :: a13 :: a14 :: a15 :: some (.int x) :: r) 0 16 (.int x)).mpr ⟨Nat.zero_le _, rfl⟩)
  exact lv_iinc hx hb hd h4.2 hkk hv hk rfl (fun ls2 hl => kk H locs ls2 h1 h2 h3 (hL.st1 (k := 16) (v := .int v) h4.1 hk (Or.inr ⟨15, _, rfl, rfl, hn⟩) hl))
theorem x_fg_16 {a0 a1 a2 a3 a4 a5 a6 a7 a8 a9 a10 a11 a12 a13 a14 a15 : Option Value} {r : List (Option Value)} {b : Option Value} (kk : hX E cells slots pc (a0 :: a1 :: a2 :: a3 :: a4 :: a5 :: a6 :: a7 :: a8 :: a9 :: a10 :: a11 :: a12 :: a13 :: a14 :: a15 :: none :: r) st M) : hX E cells slots pc (a0 :: a1 :: a2 :: a3 :: a4 :: a5 :: a6 :: a7 :: a8 :: a9 :: a10 :: a11 :: a12 :: a13 :: a14 :: a15 :: b :: r) st M := x_w (lo' := (a0 :: a1 :: a2 :: a3 :: a4 :: a5 :: a6 :: a7 :: a8 :: a9 :: a10 :: a11 :: a12 :: a13 :: a14 :: a15 :: none :: r)) rfl (fun j v hj => by
  match j, hj with
  | 0, hj => exact hj
  | 1, hj => exact hj
  | 2, hj => exact hj
  | 3, hj => exact hj
  | 4, hj => exact hj
  | 5, hj => exact hj
  | 6, hj => exact hj
  | 7, hj => exact hj
  | 8, hj => exact hj
  | 9, hj => exact hj
  | 10, hj => exact hj
  | 11, hj => exact hj
  | 12, hj => exact hj
  | 13, hj => exact hj
  | 14, hj => exact hj
  | 15, hj => exact hj
  | 16, hj => cases hj
  | j + 17, hj => exact hj) kk
theorem x_iload_17 (q : Nat) (C : hCx E K cc n own nm R) {a0 a1 a2 a3 a4 a5 a6 a7 a8 a9 a10 a11 a12 a13 a14 a15 a16 : Option Value} {r : List (Option Value)} {x : Int32} (hd : decode cc pc = .ok (.iload 17, 2)) (hq : pc + 2 = q) (kk : hX E cells slots q (a0 :: a1 :: a2 :: a3 :: a4 :: a5 :: a6 :: a7 :: a8 :: a9 :: a10 :: a11 :: a12 :: a13 :: a14 :: a15 :: a16 :: some (.int x) :: r) (.int x :: st) M) : hX E cells slots pc (a0 :: a1 :: a2 :: a3 :: a4 :: a5 :: a6 :: a7 :: a8 :: a9 :: a10 :: a11 :: a12 :: a13 :: a14 :: a15 :: a16 :: some (.int x) :: r) st M := by
  obtain ⟨p, e, R', s, m, args, below, meth, c, Q, A, K'⟩ := E
  obtain ⟨rfl, rfl, hx, hb, hml, hown, hts, hg, hA, hlk, hnm⟩ := C
  subst hq
  exact fun H locs ls h1 h2 h3 h4 => lv_iload hx hb hd (h4.at (k := 17) rfl) (kk H locs ls h1 h2 h3 h4)
theorem x_lload_17 (q : Nat) (C : hCx E K cc n own nm R) {a0 a1 a2 a3 a4 a5 a6 a7 a8 a9 a10 a11 a12 a13 a14 a15 a16 : Option Value} {r : List (Option Value)} {x : Int64} (hd : decode cc pc = .ok (.lload 17, 2)) (hq : pc + 2 = q) (kk : hX E cells slots q (a0 :: a1 :: a2 :: a3 :: a4 :: a5 :: a6 :: a7 :: a8 :: a9 :: a10 :: a11 :: a12 :: a13 :: a14 :: a15 :: a16 :: some (.long x) :: r) (.long x :: st) M) : hX E cells slots pc (a0 :: a1 :: a2 :: a3 :: a4 :: a5 :: a6 :: a7 :: a8 :: a9 :: a10 :: a11 :: a12 :: a13 :: a14 :: a15 :: a16 :: some (.long x) :: r) st M := by
  obtain ⟨p, e, R', s, m, args, below, meth, c, Q, A, K'⟩ := E
  obtain ⟨rfl, rfl, hx, hb, hml, hown, hts, hg, hA, hlk, hnm⟩ := C
  subst hq
  exact fun H locs ls h1 h2 h3 h4 => lv_lload hx hb hd (h4.at (k := 17) rfl) (kk H locs ls h1 h2 h3 h4)
theorem x_istore_17 (q : Nat) (C : hCx E K cc n own nm R) {a0 a1 a2 a3 a4 a5 a6 a7 a8 a9 a10 a11 a12 a13 a14 a15 a16 : Option Value} {r : List (Option Value)} {b : Option Value} {x : Int32} (hd : decode cc pc = .ok (.istore 17, 2)) (hq : pc + 2 = q) (hn : hNL a16 = true) (kk : hX E cells slots q (a0 :: a1 :: a2 :: a3 :: a4 :: a5 :: a6 :: a7 :: a8 :: a9 :: a10 :: a11 :: a12 :: a13 :: a14 :: a15 :: a16 :: some (.int x) :: r) st M) : hX E cells slots pc (a0 :: a1 :: a2 :: a3 :: a4 :: a5 :: a6 :: a7 :: a8 :: a9 :: a10 :: a11 :: a12 :: a13 :: a14 :: a15 :: a16 :: b :: r) (.int x :: st) M := by
  obtain ⟨p, e, R', s, m, args, below, meth, c, Q, A, K'⟩ := E
  obtain ⟨rfl, rfl, hx, hb, hml, hown, hts, hg, hA, hlk, hnm⟩ := C
  subst hq
  intro H locs ls h1 h2 h3 h4
  have hk : 17 < c.maxLocals := by have h := h4.1; simp only [List.length_cons] at h; omega
  exact lv_istore hx hb hd h4.2 hk rfl (fun ls2 hl => kk H locs ls2 h1 h2 h3 (hL.st1 (k := 17) (v := .int x) h4.1 hk (Or.inr ⟨16, _, rfl, rfl, hn⟩) hl))
theorem x_lstore_17 (q : Nat) (C : hCx E K cc n own nm R) {a0 a1 a2 a3 a4 a5 a6 a7 a8 a9 a10 a11 a12 a13 a14 a15 a16 : Option Value} {r : List (Option Value)} {b b2 : Option Value} {x : Int64} (hd : decode cc pc = .ok (.lstore 17, 2)) (hq : pc + 2 = q) (hn : hNL a16 = true) (kk : hX E cells slots q (a0 :: a1 :: a2 :: a3 :: a4 :: a5 :: a6 :: a7 :: a8 :: a9 :: a10 :: a11 :: a12 :: a13 :: a14 :: a15 :: a16 :: some (.long x) :: none :: r) st M) : hX E cells slots pc (a0 :: a1 :: a2 :: a3 :: a4 :: a5 :: a6 :: a7 :: a8 :: a9 :: a10 :: a11 :: a12 :: a13 :: a14 :: a15 :: a16 :: b :: b2 :: r) (.long x :: st) M := by
  obtain ⟨p, e, R', s, m, args, below, meth, c, Q, A, K'⟩ := E
  obtain ⟨rfl, rfl, hx, hb, hml, hown, hts, hg, hA, hlk, hnm⟩ := C
  subst hq
  intro H locs ls h1 h2 h3 h4
  have hk : 17 + 1 < c.maxLocals := by have h := h4.1; simp only [List.length_cons] at h; omega
  exact lv_lstore hx hb hd h4.2 hk rfl (fun ls2 hl => kk H locs ls2 h1 h2 h3 (hL.st2 (k := 17) (v := .long x) h4.1 hk (Or.inr ⟨16, _, rfl, rfl, hn⟩) hl))
theorem x_iinc_17 (q : Nat) (C : hCx E K cc n own nm R) {a0 a1 a2 a3 a4 a5 a6 a7 a8 a9 a10 a11 a12 a13 a14 a15 a16 : Option Value} {r : List (Option Value)} {x : Int32} {i : Int} {v : Int32} (hd : decode cc pc = .ok (.iinc 17 i, 3)) (hq : pc + 3 = q) (hn : hNL a16 = true) (hv : x + Int32.ofInt i = v) (kk : hX E cells slots q (a0 :: a1 :: a2 :: a3 :: a4 :: a5 :: a6 :: a7 :: a8 :: a9 :: a10 :: a11 :: a12 :: a13 :: a14 :: a15 :: a16 :: some (.int v) :: r) st M) : hX E cells slots pc (a0 :: a1 :: a2 :: a3 :: a4 :: a5 :: a6 :: a7 :: a8 :: a9 :: a10 :: a11 :: a12 :: a13 :: a14 :: a15 :: a16 :: some (.int x) :: r) st M := by
  obtain ⟨p, e, R', s, m, args, below, meth, c, Q, A, K'⟩ := E
  obtain ⟨rfl, rfl, hx, hb, hml, hown, hts, hg, hA, hlk, hnm⟩ := C
  subst hq
  intro H locs ls h1 h2 h3 h4
  have hk : 17 < c.maxLocals := by have h := h4.1; simp only [List.length_cons] at h; omega
  obtain ⟨k, hkk⟩ := List.getElem?_of_mem ((hLs_mem (a0 :: a1 :: a2 :: a3 :: a4 :: a5 :: a6 :: a7 :: a8 :: a9 :: a10 :: a11 :: a12 :: a13 :: a14 :: a15 :: a16 :: some (.int x) :: r) 0 17 (.int x)).mpr ⟨Nat.zero_le _, rfl⟩)
  exact lv_iinc hx hb hd h4.2 hkk hv hk rfl (fun ls2 hl => kk H locs ls2 h1 h2 h3 (hL.st1 (k := 17) (v := .int v) h4.1 hk (Or.inr ⟨16, _, rfl, rfl, hn⟩) hl))
theorem x_fg_17 {a0 a1 a2 a3 a4 a5 a6 a7 a8 a9 a10 a11 a12 a13 a14 a15 a16 : Option Value} {r : List (Option Value)} {b : Option Value} (kk : hX E cells slots pc (a0 :: a1 :: a2 :: a3 :: a4 :: a5 :: a6 :: a7 :: a8 :: a9 :: a10 :: a11 :: a12 :: a13 :: a14 :: a15 :: a16 :: none :: r) st M) : hX E cells slots pc (a0 :: a1 :: a2 :: a3 :: a4 :: a5 :: a6 :: a7 :: a8 :: a9 :: a10 :: a11 :: a12 :: a13 :: a14 :: a15 :: a16 :: b :: r) st M := x_w (lo' := (a0 :: a1 :: a2 :: a3 :: a4 :: a5 :: a6 :: a7 :: a8 :: a9 :: a10 :: a11 :: a12 :: a13 :: a14 :: a15 :: a16 :: none :: r)) rfl (fun j v hj => by
  match j, hj with
  | 0, hj => exact hj
  | 1, hj => exact hj
  | 2, hj => exact hj
  | 3, hj => exact hj
  | 4, hj => exact hj
  | 5, hj => exact hj
  | 6, hj => exact hj
  | 7, hj => exact hj
  | 8, hj => exact hj
  | 9, hj => exact hj
  | 10, hj => exact hj
  | 11, hj => exact hj
  | 12, hj => exact hj
  | 13, hj => exact hj
  | 14, hj => exact hj
  | 15, hj => exact hj
  | 16, hj => exact hj
  | 17, hj => cases hj
  | j + 18, hj => exact hj) kk
end Rows
