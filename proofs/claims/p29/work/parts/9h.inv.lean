def InvX (V : VV) (N : NN) (I : List Nat) (n o m l0 : Nat) : Prop := P2 V 20 (V 201) n ∧ Rw (V 201) n ∧ HH V N I o m ∧ SvI V N o m ∧ V 200 2 = nI m ∧ V 0 6 = V 200 4 ∧ V 3 1 = nI l0 ∧ V 200 5 = nI l0 ∧ l0 ≤ 60 ∧ (∀ i, i < l0 → V 4 i = V 203 i) ∧ ∃ a, V 3 2 = nI a
def Inv (V : VV) (N : NN) (I : List Nat) : Prop := ∃ n o m l0, InvX V N I n o m l0
/-- places that are written anew before they are read -/
def Scr (i j : Nat) : Prop := i = 2 ∨ (5 ≤ i ∧ i ≤ 19) ∨ (37 ≤ i ∧ i ≤ 39) ∨ (157 ≤ i ∧ i < 200) ∨ (i = 200 ∧ j ≠ 2 ∧ j ≠ 4 ∧ j ≠ 5) ∨ 204 ≤ i ∨ (i = 0 ∧ j ≠ 6) ∨ (i = 3 ∧ j ≠ 1 ∧ j ≠ 2)
def Sx (V V1 : VV) : Prop := ∀ i j, ¬ Scr i j → V1 i j = V i j
theorem sx_z {V V1 : VV} (h : Sx V V1) : V1 201 = V 201 := funext fun j => h 201 j (by unfold Scr; omega)
theorem sx_f {V V1 : VV} (h : Sx V V1) {i : Nat} (hi : i = 1 ∨ i = 4 ∨ (20 ≤ i ∧ i ≤ 36) ∨ (40 ≤ i ∧ i ≤ 156) ∨ (201 ≤ i ∧ i ≤ 203)) : V1 i = V i := funext fun j => h i j (by unfold Scr; omega)
theorem sx_air {V V1 : VV} {ov : Nat → Int32} {n : Nat} (h : AirI 6 V V1 ov n) : Sx V V1 := fun i j z => congrFun (h.1 i (fun q => z (by unfold Scr; omega))) j
theorem sx_air2 {V V1 : VV} {ov : Nat → Int32} {n : Nat} (h : AirI 12 V V1 ov n) : Sx V V1 := fun i j z => congrFun (h.1 i (fun q => z (by unfold Scr; omega))) j
theorem sx_sma {V V1 : VV} (h : SmA 12 V V1) : Sx V V1 := fun i j z => congrFun (h i (fun q => z (by unfold Scr; omega))) j
theorem sx_bec {V : VV} {k g d s l sp o : Int32} : Sx V (becomeV V k g d s l sp o) := fun i j z => sm5_b i j (fun q => z (by unfold Scr; omega))
theorem InvX.sx {V V1 : VV} {N : NN} {I : List Nat} {n o m l0 : Nat} (h : InvX V N I n o m l0) (hs : Sx V V1) : InvX V1 N I n o m l0 := by
  obtain ⟨h1, h2, h3, h4, h5, h6, h7, h8, h9, h10, a, h11⟩ := h
  have ez := sx_z hs
  have e1 : V1 1 = V 1 := sx_f hs (by omega)
  obtain ⟨k1, k2, k3, k4, k5⟩ := h3
  refine ⟨P2.cg h2.1 (fun i a b => sx_f hs (by omega)) (fun j _ => congrFun ez j) h1, Rw.cg (fun j _ => congrFun ez j) h2, ⟨k1, by rw [e1]; exact k2, k3, by rw [e1]; exact k4, k5⟩, SvI.cg (fun i a b => sx_f hs (by omega)) (sx_f hs (by omega)) h4, ?_, ?_, ?_, ?_, h9, fun i hi => ?_, a, ?_⟩
  · rw [hs 200 2 (by unfold Scr; omega)]; exact h5
  · rw [hs 200 4 (by unfold Scr; omega), hs 0 6 (by unfold Scr; omega)]; exact h6
  · rw [hs 3 1 (by unfold Scr; omega)]; exact h7
  · rw [hs 200 5 (by unfold Scr; omega)]; exact h8
  · rw [sx_f hs (i := 4) (by omega), sx_f hs (i := 203) (by omega)]; exact h10 i hi
  · rw [hs 3 2 (by unfold Scr; omega)]; exact h11
theorem ei_c {B : Bool} {X : String} {P : PP} {V : VV} {L : LL} {N : NN} {I : List Nat} {r : RR} {V2 : VV} {L2 : LL} {N2 : NN} {I2 : List Nat} (h : Ei B X P V L N I r V2 L2 N2 I2) : (B = true ∧ P r V2 L2 N2 I2) ∨ (B = false ∧ r = .inr X ∧ V2 = V ∧ L2 = L ∧ N2 = N ∧ I2 = I) := by
  unfold Ei at h
  cases B with
  | true => rw [if_pos rfl] at h; exact Or.inl ⟨rfl, h⟩
  | false => rw [if_neg (by decide)] at h; exact Or.inr ⟨rfl, h⟩
abbrev xS : String := "java/lang/IllegalStateException"
section
variable {l : Launch} {V : VV} {L : LL} {N : NN} {I : List Nat} {n o m l0 : Nat}
theorem InvX.d {V : VV} (h : InvX V N I n o m l0) : ∀ s, s < n → ∃ d, d < 7 ∧ V 31 s = nI d := fun s hs => by
  obtain ⟨d, a, b⟩ := rw_d h.2.1 hs
  exact ⟨d, a, (h.1.2.2.2.2 2 (by decide) s hs).trans b⟩
theorem InvX.g {V : VV} (h : InvX V N I n o m l0) : ∀ s, s < n → ∃ d, d < 6 ∧ V 30 s = nI d := fun s hs => by
  obtain ⟨d, a, b⟩ := rw_g h.2.1 hs
  exact ⟨d, a, (h.1.2.2.2.2 1 (by decide) s hs).trans b⟩
end
