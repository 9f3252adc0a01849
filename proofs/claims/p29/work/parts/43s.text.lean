/-- nothing but the proposal -/
def Sm5 (V V1 : VV) : Prop := ∀ i j, i ≠ 5 → V1 i j = V i j
theorem sm5_b {V : VV} {k g d s l sp o : Int32} : Sm5 V (becomeV V k g d s l sp o) := by
  intro i j h
  unfold becomeV
  rw [up_no h, up_no h, up_no h, up_no h, up_no h, up_no h, up_no h]
