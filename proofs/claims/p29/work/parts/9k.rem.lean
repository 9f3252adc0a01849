section
variable {l : Launch} {V : VV} {L : LL} {N : NN} {I : List Nat} {n o m l0 : Nat}
/-- the frame of a change: what neither plan nor row of numbers is -/
theorem mut_fr {V1 V2 V3 : VV} {N2 : NN} {I2 : List Nat} {n2 : Nat} (h : InvX V N I n o m l0) (hsv : SavP V N o m V1 N2) (hIN : IN N2 I2) (hV2 : ∀ i, i = 0 ∨ i = 1 ∨ i = 3 ∨ i = 4 ∨ 40 ≤ i → V2 i = V1 i) (hV3 : ∀ i, i ≠ 200 → i ≠ 201 → i < 204 → V3 i = svR (up V2 200 0 0) m i) (hV3j : ∀ j, j = 2 ∨ j = 4 ∨ j = 5 → V3 200 j = svR (up V2 200 0 0) m 200 j) (hP3 : P2 V3 20 (V3 201) n2) (hR3 : Rw (V3 201) n2) : Inv V3 N2 I2 := by
  obtain ⟨h1, h2, h3, h4, h5, h6, h7, h8, h9, h10, a, h11⟩ := h
  have e1 : ∀ i, i ≠ 1 → (i < 40 ∨ 157 ≤ i) → V1 i = V i := fun i a b => hsv.no b a
  have e3 : ∀ i, i ≠ 200 → i ≠ 201 → i ≠ 202 → i < 204 → V3 i = V2 i := fun i a b c d => by rw [hV3 i a b d, svR_i c a, up_nf a]
  have e30 : ∀ j, j = 4 ∨ j = 5 → V3 200 j = V2 200 j := fun j a => by rw [hV3j j (by omega), svR_j (by omega), up_nk (by omega)]
  have eU : ∀ i, i ≠ 200 → (up V2 200 0 0) i = V2 i := fun i hi => up_nf hi
  refine mut_inv (U := up V2 200 0 0) (l2 := l0) (a := a) h3.2.2.1 h3.2.2.2.2 h4 h1 h2 hsv (fun i a b => ?_) ?_ ?_ ?_ ?_ ?_ hIN hP3 hR3 ?_ ?_ ?_ h9 (fun i hi => ?_) ?_
  · rw [e3 i (by omega) (by omega) (by omega) (by omega), hV2 i (by omega)]
  · rw [e3 1 (by decide) (by decide) (by decide) (by decide), hV2 1 (by omega)]
  · rw [eU 201 (by decide), hV2 201 (by omega), e1 201 (by decide) (by decide)]
  · rw [eU 202 (by decide), hV2 202 (by omega), e1 202 (by decide) (by decide)]
  · exact hV3 202 (by decide) (by decide) (by decide)
  · exact hV3j 2 (by decide)
  · rw [e3 0 (by decide) (by decide) (by decide) (by decide), hV2 0 (by omega), e1 0 (by decide) (by decide), e30 4 (by decide), hV2 200 (by omega), e1 200 (by decide) (by decide)]
    exact h6
  · rw [e3 3 (by decide) (by decide) (by decide) (by decide), hV2 3 (by omega), e1 3 (by decide) (by decide)]; exact h7
  · rw [e30 5 (by decide), hV2 200 (by omega), e1 200 (by decide) (by decide)]; exact h8
  · rw [e3 4 (by decide) (by decide) (by decide) (by decide), hV2 4 (by omega), e1 4 (by decide) (by decide), e3 203 (by decide) (by decide) (by decide) (by decide), hV2 203 (by omega), e1 203 (by decide) (by decide)]; exact h10 i hi
  · rw [e3 3 (by decide) (by decide) (by decide) (by decide), hV2 3 (by omega), e1 3 (by decide) (by decide)]; exact h11
theorem no_orig {z : Nat → Int32} {p : Nat} (hR : Rw z n) (hp : p < n) : ∀ s, p + (n - 1 - p) < s → s < n → zF z 7 s ≠ nI p := fun s a b => by omega
end
