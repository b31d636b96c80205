/-- only 8 to 11 are written -/
def msF (z z2 : Nat → Int32) : Prop := ∀ i, i < 8 → z2 i = z i
theorem msF.rf {z : Nat → Int32} : msF z z := fun _ _ => rfl
theorem msF.tr {z z1 z2 : Nat → Int32} (h : msF z z1) (g : msF z1 z2) : msF z z2 := fun i hi => (g i hi).trans (h i hi)
