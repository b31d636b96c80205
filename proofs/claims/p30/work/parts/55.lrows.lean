/-! more rows; methods that read the law's script -/
section RowsL
variable {E : hEv} {K : hKv} {cc : ByteArray} {n : Nat} {own nm : String} {R : Room} {cells slots pc : Nat} {lo : List (Option Value)} {st : List Value} {M : hM}
theorem x_ishr (q : Nat) (C : hCx E K cc n own nm R) {x y : Int32} (hd : decode cc pc = .ok (.ishr, 1)) (hq : pc + 1 = q) (kk : hX E cells slots q lo (.int (x >>> (y &&& 31)) :: st) M) : hX E cells slots pc lo (.int y :: .int x :: st) M := by
  obtain ⟨p, e, R', s, m, args, below, meth, c, Q, A, K'⟩ := E
  obtain ⟨rfl, rfl, hx, hb, hml, hown, hts, hg, hA, hlk, hnm⟩ := C
  subst hq
  exact fun H locs ls h1 h2 h3 h4 => lv_ishr hx hb hd (kk H locs ls h1 h2 h3 h4)
theorem x_pop (q : Nat) (C : hCx E K cc n own nm R) {v : Value} (hd : decode cc pc = .ok (.pop, 1)) (hq : pc + 1 = q) (hc : v.category = 1) (kk : hX E cells slots q lo st M) : hX E cells slots pc lo (v :: st) M := by
  obtain ⟨p, e, R', s, m, args, below, meth, c, Q, A, K'⟩ := E
  obtain ⟨rfl, rfl, hx, hb, hml, hown, hts, hg, hA, hlk, hnm⟩ := C
  subst hq
  exact fun H locs ls h1 h2 h3 h4 => lv_pop hx hb hd hc (kk H locs ls h1 h2 h3 h4)
theorem x_dup2 (q : Nat) (C : hCx E K cc n own nm R) {v w : Value} (hd : decode cc pc = .ok (.dup2, 1)) (hq : pc + 1 = q) (hc : v.category = 1) (hc2 : w.category = 1) (kk : hX E cells slots q lo (v :: w :: v :: w :: st) M) : hX E cells slots pc lo (v :: w :: st) M := by
  obtain ⟨p, e, R', s, m, args, below, meth, c, Q, A, K'⟩ := E
  obtain ⟨rfl, rfl, hx, hb, hml, hown, hts, hg, hA, hlk, hnm⟩ := C
  subst hq
  exact fun H locs ls h1 h2 h3 h4 => lv_dup2_11 hx hb hd hc hc2 (kk H locs ls h1 h2 h3 h4)
end RowsL
/-- the script of a walk -/
def hSc (E : hEv) (b L : Nat) (xs : Nat → Int32) : Prop := match E with
  | (_, _, _, s, _, _, _, _, _, _, A, _) => va_X b L xs s s.heap ∧ b < s.heap.size ∧ ¬ A b
def hPcs (K : hKv) (b L : Nat) (xs : Nat → Int32) (M : hM) (av : List Value) (sz : Nat) : Array Value → State → Prop := va_Pc av (fun U => (U.heap.size = sz ∧ hOk K M U.heap ∧ hG K U) ∧ va_X b L xs U U.heap ∧ b < sz ∧ M b = none)
/-- a contract of a method that reads the script -/
def hCs (K : hKv) (b L : Nat) (xs : Nat → Int32) (Y : hYd) (R : Room) (av : List Value) (M : hM) (post : Option Value → hM → Prop) : Prop := ∀ sz : Nat, Met K.1 Y.1 (hWs Y) R (hPcs K b L xs M av sz) (hQ K post (hA M sz)) R.cells R.slots (hA M sz)
theorem hPcs.blind {K : hKv} {b L : Nat} {xs : Nat → Int32} {M : hM} {av : List Value} {sz : Nat} : FrameBlind (hPcs K b L xs M av sz) := fun a U g mk h => ⟨h.1, ⟨h.2.1.1, h.2.1.2.1, h.2.1.2.2.same rfl⟩, h.2.2.1.moved (Vm.Alike.refl U.vm), h.2.2.2⟩
theorem hCs.of {K : hKv} {b L : Nat} {xs : Nat → Int32} {Y : hYd} {R : Room} {av : List Value} {M : hM} {post : Option Value → hM → Prop} (lo : List (Option Value)) (hy : plainName Y.1.cls = true) (hn : (lg_sl av).length ≤ Y.2.2.1) (hlen : lo.length = Y.2.2.1) (hlo : hLs 0 lo = lv_args 0 av)
    (body : ∀ E : hEv, hCx E K Y.2.1 Y.2.2.1 Y.1.cls Y.1.name R → hRt E K Y.2.2.2 R post → hSc E b L xs → hX E 0 0 0 lo [] M) : hCs K b L xs Y R av M post := by
  intro sz
  refine Met.ofW (cc := Y.2.1) (maxL := Y.2.2.1) (ret := Y.2.2.2) (ws' := WA) hy rfl ?_
  intro p e s m args below meth c s₁ B hml hv
  obtain ⟨rfl, ⟨hsz, hP, hK⟩, hXs, hbs, hbM⟩ := hv
  have hts := atoms_spec (ws := hWs Y) B.pre
  have hown : s.vm.findClass Y.1.cls = some m.cls := findClass_of_methodNamed B.named
  have hin : meth.name = Y.1.name := (name_of_methodNamed B.named B.method).1
  have hl := lv_entry av (n := Y.2.2.1) hn
  have hX0 := body (p, e, R, s, m, av.toArray, below, meth, c, MQ below (hQ K post (hA M sz)) av.toArray s R.cells R.slots (hA M sz), hA M sz, K) ⟨rfl, rfl, B.exec, B.bytes, hml, hown, fun w hw => hts w (List.mem_cons_of_mem _ hw), hK, fun q hq => Or.inr (by rw [← hsz]; exact hq), B.notSynchronized, hin⟩ ⟨B.returns, rfl⟩
    ⟨hXs, by rw [hsz]; exact hbs, fun z => z.elim (fun z => z hbM) (fun z => absurd hbs (Nat.not_lt.mpr z))⟩
  rw [lg_entry_eq]
  exact hX0 s.heap [] _ hP (fun a ha => Or.inl ha) va_S.rf ⟨by rw [hml]; exact hlen, by rw [hlo, hml]; exact hl⟩
section RowsM
variable {E : hEv} {K : hKv} {cc : ByteArray} {n : Nat} {own nm : String} {R : Room} {cells slots pc : Nat} {lo : List (Option Value)} {st : List Value} {M : hM}
theorem x_callSs {Y : hYd} {np idx : Nat} {R2 : Room} {As rest : List Value} {post : Option Value → hM → Prop} {b L : Nat} {xs : Nat → Int32} (q : Nat) (C : hCx E K cc n own nm R) (S : hSc E b L xs) (hc : hCs K b L xs Y R2 As M post) (hy : hYf Y np) (hs : Cond.static Y.1 ∈ WA) (hl : hLk own idx Y.1) (hd : decode cc pc = .ok (.invokestatic idx, 3)) (hn : As.length = np) (hrm : R2.frames + 1 ≤ R.frames ∧ 8 + (Y.2.2.1 + 11) + R2.locals ≤ R.locals) (hcs : cells + R2.cells ≤ R.cells ∧ slots + R2.slots ≤ R.slots) (hrest : (rest.map fun v => v.category).sum ≤ 8) (hq : pc + 3 = q)
    (kk : ∀ (v : Option Value) (M' : hM), post v M' → hX E (cells + R2.cells) (slots + R2.slots) q lo (v.toList ++ rest) M') : hX E cells slots pc lo (As.reverse ++ rest) M := by
  obtain ⟨p, e, R', s, m, args, below, meth, c, Q, A, K'⟩ := E
  obtain ⟨rfl, rfl, hx, hb, hml, hown, hts, hg, hA, hlk, hnm⟩ := C
  obtain ⟨hXs, hbl, hbA⟩ := S
  subst hq
  intro H locs ls h1 h2 h3 h4
  have hG := hWs_good hy
  have hbM : M b = none := Classical.not_not.mp fun z => hbA (h2 b z)
  have hP : ∀ U : State, U.heap = H → s.WarmedH U.vm → hPcs K' b L xs M As H.size As.toArray U := fun U hU hW => ⟨rfl, ⟨by rw [hU], by rw [hU]; exact h1, hg.warm hW⟩, (hXs.moved hW.alike).kept (by rw [hU]; exact h3.2.1 b hbl hbA), Nat.lt_of_lt_of_le hbl h3.1, hbM⟩
  rcases hl with hl | hl
  · exact h_run hA h1 h2 h3 h4 (va_runS ⟨hx, hb, hml, hown, hts⟩ (hc H.size) ⟨callB_of np hts hG rfl rfl rfl (hts _ hy.2.1) (hts _ hl) hy.2.2 hrm, hts _ hs⟩ ⟨hPcs.blind, hP⟩ rfl hn (by rw [← hml]; exact h4.2.1) rfl (lv_room hrest) hd hcs) kk
  · exact h_run hA h1 h2 h3 h4 (va_runSN (host := "RootRows") ⟨hx, hb, hml, hown, hts⟩ (hc H.size) ⟨va_cnB np hts hG rfl rfl rfl (hg.2.1 _ hl) (hts _ hy.2.1) hy.2.2 hrm, hts _ hs, trivial⟩ ⟨hPcs.blind, hP⟩ rfl hn (by rw [← hml]; exact h4.2.1) rfl (lv_room hrest) hd hcs) kk
theorem x_sld (q j : Nat) (C : hCx E K cc n own nm R) {b L : Nat} {xs : Nat → Int32} (S : hSc E b L xs) {i : Int32} (hi : i = nI j) (hj : j < L) (hn : L < 2 ^ 31) (hd : decode cc pc = .ok (.iaload, 1)) (hq : pc + 1 = q) (kk : hX E cells slots q lo (.int (xs j) :: st) M) : hX E cells slots pc lo (.int i :: .ref b :: st) M := by
  obtain ⟨p, e, R', s, m, args, below, meth, c, Q, A, K'⟩ := E
  obtain ⟨rfl, rfl, hx, hb, hml, hown, hts, hg, hA, hlk, hnm⟩ := C
  obtain ⟨hXs, hbl, hbA⟩ := S
  subst hq
  subst hi
  intro H locs ls h1 h2 h3 h4
  have hcl : (nI j).toNatClampNeg = j := nI_clamp (by omega)
  refine va_sld hx hb hXs hbl hbA h3 ?_ hd ?_
  · rintro (q | q)
    · exact nI_n0 (by omega) q
    · rw [hcl] at q; omega
  · rw [hcl]; exact kk H locs ls h1 h2 h3 h4
theorem x_alenX (q : Nat) (C : hCx E K cc n own nm R) {b L : Nat} {xs : Nat → Int32} (S : hSc E b L xs) (hd : decode cc pc = .ok (.arraylength, 1)) (hq : pc + 1 = q) (kk : hX E cells slots q lo (.int (nI L) :: st) M) : hX E cells slots pc lo (.ref b :: st) M := by
  obtain ⟨p, e, R', s, m, args, below, meth, c, Q, A, K'⟩ := E
  obtain ⟨rfl, rfl, hx, hb, hml, hown, hts, hg, hA, hlk, hnm⟩ := C
  obtain ⟨hXs, hbl, hbA⟩ := S
  subst hq
  intro H locs ls h1 h2 h3 h4
  exact va_slen hx hb hXs hbl hbA h3 hd (kk H locs ls h1 h2 h3 h4)
end RowsM
