/-! the characters in a number: the lowest byte last -/
theorem l_bits {u : Nat} (h : u < 2 ^ 64) : (lN u).toBitVec.toNat = u := by
  show (BitVec.ofNat 64 u).toNat = u
  rw [BitVec.toNat_ofNat]; exact Nat.mod_eq_of_lt h
theorem l_ext {x : Int64} {u : Nat} (h : x.toBitVec.toNat = u) : x = lN u := by
  apply Int64.toBitVec.inj
  apply BitVec.eq_of_toNat_eq
  rw [h]
  show u = (BitVec.ofNat 64 u).toNat
  rw [BitVec.toNat_ofNat]
  have := x.toBitVec.isLt
  rw [h] at this
  exact (Nat.mod_eq_of_lt this).symm
theorem l_and8 {u : Nat} (h : u < 2 ^ 64) : lN u &&& 255 = lN (u % 256) := by
  apply l_ext
  rw [Int64.toBitVec_and, BitVec.toNat_and, l_bits h, show (Int64.toBitVec 255).toNat = 2 ^ 8 - 1 from rfl, Nat.and_two_pow_sub_one_eq_mod]
theorem l_shr8 {u : Nat} (h : u < 2 ^ 64) : ((lN u).toUInt64 >>> ((8 : Int32).toInt64.toUInt64 &&& Int64.toUInt64 63)).toInt64 = lN (u / 256) := by
  rw [show ((8 : Int32).toInt64.toUInt64 &&& Int64.toUInt64 63) = 8 from by decide]
  apply l_ext
  show ((lN u).toUInt64 >>> 8).toNat = u / 256
  rw [UInt64.toNat_shiftRight]
  show (lN u).toBitVec.toNat >>> (8 % 64) = _
  rw [l_bits h, Nat.shiftRight_eq_div_pow]
theorem l_eq0 {u : Nat} (h : u < 2 ^ 64) : lN u = 0 ↔ u = 0 := by
  constructor
  · intro q
    have := congrArg (fun x => Int64.toBitVec x |>.toNat) q
    simp only [l_bits h] at this
    exact this
  · rintro rfl; rfl
theorem l_i {c : Nat} : (lN c).toInt32 = nI c := Int64.toInt32_ofNat'
theorem l_of (x : Int64) : ∃ u, u < 2 ^ 64 ∧ x = lN u ∧ x.toBitVec.toNat = u := ⟨x.toBitVec.toNat, x.toBitVec.isLt, l_ext rfl, rfl⟩
def chs : Nat → Nat → Option (List Nat)
  | 0, u => if u = 0 then some [] else none
  | f + 1, u => if u = 0 then some [] else if 33 ≤ u % 256 ∧ u % 256 ≤ 126 then (match chs f (u / 256) with | none => none | some l => some (l ++ [u % 256])) else none
/-- the characters of a number, if it holds any, and nothing else -/
def chars (a : Int64) : Option (List Nat) := match chs 8 a.toBitVec.toNat with
  | none => none
  | some [] => none
  | some l => some l
theorem chs_ok : ∀ (f u : Nat) (l : List Nat), chs f u = some l → l.length ≤ f ∧ ∀ c ∈ l, 33 ≤ c ∧ c ≤ 126
  | 0, u, l, h => by
    rw [chs] at h
    split at h
    · cases h; exact ⟨Nat.le_refl _, fun c hc => absurd hc List.not_mem_nil⟩
    · cases h
  | f + 1, u, l, h => by
    rw [chs] at h
    split at h
    · cases h; exact ⟨Nat.zero_le _, fun c hc => absurd hc List.not_mem_nil⟩
    · split at h
      · next hr =>
        cases hq : chs f (u / 256) with
        | none => rw [hq] at h; cases h
        | some k =>
          rw [hq] at h; cases h
          obtain ⟨a, b⟩ := chs_ok f (u / 256) k hq
          refine ⟨by rw [List.length_append]; simp only [List.length_cons, List.length_nil]; omega, fun c hc => ?_⟩
          rcases List.mem_append.mp hc with hc | hc
          · exact b c hc
          · rw [List.mem_singleton.mp hc]; exact hr
      · cases h
theorem chars_ok {a : Int64} {l : List Nat} (h : chars a = some l) : l.length ≤ 8 ∧ 1 ≤ l.length ∧ ∀ c ∈ l, 33 ≤ c ∧ c ≤ 126 := by
  unfold chars at h
  cases hq : chs 8 a.toBitVec.toNat with
  | none => rw [hq] at h; cases h
  | some k =>
    rw [hq] at h
    cases k with
    | nil => cases h
    | cons c k => cases h; exact ⟨(chs_ok _ _ _ hq).1, by simp, (chs_ok _ _ _ hq).2⟩
noncomputable def sp_put (σ : hSt) (a : Int64) : Int32 × hSt := match chars a with
  | none => (-2, σ)
  | some l => spQ (60 < σ.2.2.2.length + l.length) (-4, σ) (nI (σ.2.2.2.length + l.length), (σ.1, σ.2.1, σ.2.2.1, σ.2.2.2 ++ l))
/-- the byte that stands k places from the lowest -/
def byt (u k : Nat) : Nat := u / 256 ^ k % 256
theorem byt_s {u k : Nat} : byt (u / 256) k = byt u (k + 1) := by unfold byt; rw [Nat.div_div_eq_div_mul, Nat.pow_succ, Nat.mul_comm]
theorem chs_byt : ∀ (f u : Nat) (l : List Nat), chs f u = some l → (∀ k, k < l.length → l.getD (l.length - 1 - k) 0 = byt u k) ∧ u / 256 ^ l.length = 0
  | 0, u, l, h => by
    rw [chs] at h
    split at h
    · next hu => cases h; exact ⟨fun k hk => absurd hk (Nat.not_lt_zero _), by rw [hu]; rfl⟩
    · cases h
  | f + 1, u, l, h => by
    rw [chs] at h
    split at h
    · next hu => cases h; exact ⟨fun k hk => absurd hk (Nat.not_lt_zero _), by rw [hu]; rfl⟩
    · split at h
      · cases hq : chs f (u / 256) with
        | none => rw [hq] at h; cases h
        | some k =>
          rw [hq] at h; cases h
          obtain ⟨a, b⟩ := chs_byt f (u / 256) k hq
          refine ⟨fun j hj => ?_, ?_⟩
          · rw [List.length_append] at hj ⊢
            simp only [List.length_cons, List.length_nil] at hj ⊢
            cases j with
            | zero => rw [show k.length + 1 - 1 - 0 = k.length by omega, List.getD_eq_getElem?_getD, List.getElem?_append_right (Nat.le_refl _), Nat.sub_self]; unfold byt; rw [Nat.pow_zero, Nat.div_one]; rfl
            | succ j => rw [← byt_s, ← a j (by omega), show k.length + 1 - 1 - (j + 1) = k.length - 1 - j by omega, List.getD_eq_getElem?_getD, List.getD_eq_getElem?_getD, List.getElem?_append_left (by omega)]
          · rw [List.length_append]
            simp only [List.length_cons, List.length_nil]
            rw [Nat.pow_succ, Nat.mul_comm, ← Nat.div_div_eq_div_mul]; exact b
      · cases h
