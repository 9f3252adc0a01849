theorem wkN_sm {V V1 : VV} (h : V1 201 = V 201) {n w k : Nat} : wkN V1 n w k = wkN V n w k := by
  unfold wkN
  exact congrArg (fun f => sumTo f k) (funext fun d => dN_sm h)
theorem shN_sm {V V1 : VV} (h : V1 201 = V 201) {n : Nat} : shN V1 n = shN V n := by
  unfold shN; rw [wkN_sm h, h]
