/-- scratch alone is written -/
def msP (z z2 : Nat → Int32) (F F2 : Nat → Nat → Int32) : Prop := z2 0 = z 0 ∧ z2 1 = z 1 ∧ ∀ i, i ≤ 8 → F2 i = F i
theorem msP.rf {z : Nat → Int32} {F : Nat → Nat → Int32} : msP z z F F := ⟨rfl, rfl, fun _ _ => rfl⟩
theorem msP.tr {z z1 z2 : Nat → Int32} {F F1 F2 : Nat → Nat → Int32} (h : msP z z1 F F1) (g : msP z1 z2 F1 F2) : msP z z2 F F2 := ⟨g.1.trans h.1, g.2.1.trans h.2.1, fun i hi => (g.2.2 i hi).trans (h.2.2 i hi)⟩
theorem nI_c {c k : Nat} (hc : c < 2 ^ 31) (hk : k < 2 ^ 31) : nI c = nI k ↔ c = k := nI_eq hc hk
