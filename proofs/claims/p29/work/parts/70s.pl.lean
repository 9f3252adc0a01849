/-- behind a playing of the plan now: what f answers of the memory then -/
def Pl (f : VV → Int32) (n : Nat) (V : VV) (L : LL) (N : NN) (I : List Nat) : PP := fun r1 V1 L1 N1 I1 => r1 = .inl (some (aI (f V1))) ∧ AirI 6 V V1 (V 35) n ∧ L1 = L ∧ N1 = N ∧ I1 = I
theorem airI_20 {V V1 : VV} {ov : Nat → Int32} {n : Nat} (h : AirI 6 V V1 ov n) : V1 20 = V 20 := h.1 20 (by decide)
