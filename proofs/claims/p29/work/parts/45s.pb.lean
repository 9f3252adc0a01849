def bm (j : Nat) : Bool := decide (j ≤ 16 ∧ j ≠ 7 ∧ j ≠ 8)
/-- the plan at the id b is there -/
def PB (I : List Nat) (b : Nat) : Prop := ∀ j, bm j = true → b + j ∈ I
