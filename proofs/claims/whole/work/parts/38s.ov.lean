theorem mo_pred (k : Nat) : nI (k + 1) - 61 + Int32.ofInt (-1) = nI k - 61 := by
  rw [nI_succ, Int32.sub_eq_add_neg, Int32.sub_eq_add_neg, Int32.add_assoc, Int32.add_assoc]
  exact congrArg (nI k + ·) (by decide)
theorem mo_ge {k : Nat} (hk : k < 1000) : ¬ nI (k + 1) - 61 < -60 := by
  intro h
  have h1 := Int32.lt_iff_toInt_lt.mp h
  have h2 : (nI (k + 1) - 61).toInt = ((k + 1 : Nat) : Int) - 61 := pk_sub_toInt (a := k + 1) (b := 61) (by omega) (by decide)
  have h3 : (-60 : Int32).toInt = -60 := by decide
  rw [h2, h3] at h1
  omega
def mosS (V : VV) (n s : Nat) : Nat → Int32
  | 0 => -101
  | k + 1 => if dN (ovR V s (nI (k + 1) - 61)) n (RF V 2 s) 4 - b2i (decide (airR (RF (ovR V s (nI (k + 1) - 61))) ((ovR V s (nI (k + 1) - 61)) 201) 3 s = 2)) = 0 then nI (k + 1) - 61 else mosS V n s k
/-- behind a day with another overrun -/
def OvP (V : VV) (s : Nat) (b : Int32) (V1 : VV) : Prop := SmL V V1 ∧ V1 208 s = airR (RF (ovR V s b)) ((ovR V s b) 201) 3 s
theorem ov_z {V V1 : VV} (h : V1 201 = V 201) {s : Nat} {b : Int32} : (ovR V1 s b) 201 = (ovR V s b) 201 := by
  unfold ovR; funext j; simp only [up, if_true]; rw [h]
theorem mosS_sm {V V1 : VV} (h : V1 201 = V 201) {n s : Nat} : ∀ {k : Nat}, mosS V1 n s k = mosS V n s k
  | 0 => rfl
  | k + 1 => by rw [mosS, mosS, dN_sm (ov_z h), RF_z (ov_z h), ov_z h, RF_z h, mosS_sm h]
