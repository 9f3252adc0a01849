/-- ends as P says where B holds; else throws X, the memory as it was -/
def Ei (B : Bool) (X : String) (P : PP) (V : VV) (L : LL) (N : NN) (I : List Nat) : PP := fun r1 V1 L1 N1 I1 => if B = true then P r1 V1 L1 N1 I1 else r1 = .inr X ∧ V1 = V ∧ L1 = L ∧ N1 = N ∧ I1 = I
theorem ei_t {B : Bool} {X : String} {P : PP} {V : VV} {L : LL} {N : NN} {I : List Nat} {r1 : RR} {V1 : VV} {L1 : LL} {N1 : NN} {I1 : List Nat} (hB : B = true) (h : P r1 V1 L1 N1 I1) : Ei B X P V L N I r1 V1 L1 N1 I1 := by unfold Ei; rw [if_pos hB]; exact h
theorem ei_f {B : Bool} {X : String} {P : PP} {V : VV} {L : LL} {N : NN} {I : List Nat} (hB : B = false) : Ei B X P V L N I (.inr X) V L N I := by unfold Ei; rw [if_neg (by rw [hB]; decide)]; exact ⟨rfl, rfl, rfl, rfl, rfl⟩
