def mosS (V : VV) (n s : Nat) : Nat → Int32
  | 0 => -101
  | k + 1 => if dN (ovR V s (nI (k + 1) - 61)) n (RF V 2 s) 4 - b2i (decide (airR (RF (ovR V s (nI (k + 1) - 61))) ((ovR V s (nI (k + 1) - 61)) 201) 3 s = 2)) = 0 then nI (k + 1) - 61 else mosS V n s k
theorem ov_z {V V1 : VV} (h : V1 201 = V 201) {s : Nat} {b : Int32} : (ovR V1 s b) 201 = (ovR V s b) 201 := by
  unfold ovR; funext j; simp only [up, if_true]; rw [h]
theorem mosS_sm {V V1 : VV} (h : V1 201 = V 201) {n s : Nat} : ∀ {k : Nat}, mosS V1 n s k = mosS V n s k
  | 0 => rfl
  | k + 1 => by rw [mosS, mosS, dN_sm (ov_z h), RF_z (ov_z h), ov_z h, RF_z h, mosS_sm h]
