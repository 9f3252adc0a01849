theorem svR_i {U : VV} {m i : Nat} (h : i ≠ 202) (h2 : i ≠ 200) : svR U m i = U i := funext fun j => svR_no ⟨h, fun q => h2 q.1⟩
theorem svR_j {U : VV} {m j : Nat} (h : j ≠ 2) : svR U m 200 j = U 200 j := svR_no ⟨by decide, fun q => h q.2⟩
theorem svR_2 {U : VV} {m : Nat} : svR U m 200 2 = nI (svM m + 1) := by
  unfold svR svM
  split
  · rw [up_ss]
  · rw [up_ss]
theorem svO_lt {o m : Nat} (ho : o < 6) : svO o m < 6 := by unfold svO; split <;> omega
theorem svM_le {m : Nat} (hm : m ≤ 6) : svM m + 1 ≤ 6 := by unfold svM; split <;> omega
theorem mut_inv {Vp V1 V3 U : VV} {N N2 : NN} {I2 : List Nat} {n o m n2 l2 a : Nat} (ho : o < 6) (hm : m ≤ 6) (hS : SvI Vp N o m) (hP : P2 Vp 20 (Vp 201) n) (hR : Rw (Vp 201) n) (hsv : SavP Vp N o m V1 N2) (h3 : ∀ i, 40 ≤ i → i ≤ 156 → V3 i = V1 i) (h31 : V3 1 = V1 1) (hU1 : U 201 = Vp 201) (hU2 : U 202 = Vp 202)
    (hz : V3 202 = svR U m 202) (hz2 : V3 200 2 = svR U m 200 2) (hIN : IN N2 I2) (hP3 : P2 V3 20 (V3 201) n2) (hR3 : Rw (V3 201) n2) (h6 : V3 0 6 = V3 200 4) (h7 : V3 3 1 = nI l2) (h8 : V3 200 5 = nI l2) (h9 : l2 ≤ 60) (h10 : ∀ i, i < l2 → V3 4 i = V3 203 i) (h11 : V3 3 2 = nI a) : Inv V3 N2 I2 := by
  refine ⟨n2, svO o m, svM m + 1, l2, hP3, hR3, ⟨hIN, ?_, svO_lt ho, ?_, svM_le hm⟩, sv_rel ho hm hS hP hR hsv h3 hU1 hU2 hz, ?_, h6, h7, h8, h9, h10, a, h11⟩
  · rw [h31]; exact hsv.2.1
  · rw [h31]; exact hsv.2.2.1
  · rw [hz2]; exact svR_2
section
variable {l : Launch} {V : VV} {L : LL} {N : NN} {I : List Nat} {n o m l0 : Nat}
/-- one number of the plan changes, and one of the row -/
theorem one_inv {V1 V2 V3 : VV} {N2 : NN} {I2 : List Nat} (h : InvX V N I n o m l0) (hsv : SavP V N o m V1 N2) (hIN : IN N2 I2) {ra p q : Nat} {v : Int32} (hra : 21 ≤ ra ∧ ra ≤ 36) (hV2 : V2 = up V1 ra p v) (hV3 : V3 = up (svR (up V2 200 0 0) m) 201 q v) (hP3 : P2 V3 20 (V3 201) n) (hR3 : Rw (V3 201) n) : V3 200 0 = nI 0 ∧ Inv V3 N2 I2 := by
  obtain ⟨h1, h2, h3, h4, h5, h6, h7, h8, h9, h10, a, h11⟩ := h
  have e1 : ∀ i, i ≠ 1 → (i < 40 ∨ 157 ≤ i) → V1 i = V i := fun i a b => hsv.no b a
  have e2 : ∀ i, i ≠ ra → V2 i = V1 i := fun i hi => by rw [hV2]; exact up_nf hi
  have e3 : ∀ i, i ≠ 200 → i ≠ 201 → i ≠ 202 → V3 i = V2 i := fun i a b c => by rw [hV3, up_nf b, svR_i c a, up_nf a]
  have e30 : ∀ j, j ≠ 0 → j ≠ 2 → V3 200 j = V2 200 j := fun j a b => by rw [hV3, up_no (by decide), svR_j b, up_nk a]
  have eU : ∀ i, i ≠ 200 → (up V2 200 0 0) i = V2 i := fun i hi => up_nf hi
  refine ⟨by rw [hV3, up_no (by decide), svR_j (by decide), up_ss]; rfl, ?_⟩
  refine mut_inv (U := up V2 200 0 0) (l2 := l0) (a := a) h3.2.2.1 h3.2.2.2.2 h4 h1 h2 hsv (fun i a b => ?_) ?_ ?_ ?_ ?_ ?_ hIN hP3 hR3 ?_ ?_ ?_ h9 (fun i hi => ?_) ?_
  · rw [e3 i (by omega) (by omega) (by omega), e2 i (by omega)]
  · rw [e3 1 (by decide) (by decide) (by decide), e2 1 (by omega)]
  · rw [eU 201 (by decide), e2 201 (by omega), e1 201 (by decide) (by decide)]
  · rw [eU 202 (by decide), e2 202 (by omega), e1 202 (by decide) (by decide)]
  · rw [hV3, up_nf (by decide)]
  · rw [hV3, up_no (by decide)]
  · rw [e3 0 (by decide) (by decide) (by decide), e2 0 (by omega), e1 0 (by decide) (by decide), e30 4 (by decide) (by decide), e2 200 (by omega), e1 200 (by decide) (by decide)]
    exact h6
  · rw [e3 3 (by decide) (by decide) (by decide), e2 3 (by omega), e1 3 (by decide) (by decide)]; exact h7
  · rw [e30 5 (by decide) (by decide), e2 200 (by omega), e1 200 (by decide) (by decide)]; exact h8
  · rw [e3 4 (by decide) (by decide) (by decide), e2 4 (by omega), e1 4 (by decide) (by decide), e3 203 (by decide) (by decide) (by decide), e2 203 (by omega), e1 203 (by decide) (by decide)]; exact h10 i hi
  · rw [e3 3 (by decide) (by decide) (by decide), e2 3 (by omega), e1 3 (by decide) (by decide)]; exact h11
/-- the plan and the row behind one change -/
theorem one_p2 {V1 V3 : VV} {N2 : NN} (h : InvX V N I n o m l0) (hsv : SavP V N o m V1 N2) {ra p q : Nat} {v : Int32} (hV3 : V3 = up (svR (up (up V1 ra p v) 200 0 0) m) 201 q v)
    (hc : (ra = 21 ∧ p < 8 ∧ q = p) ∨ (ra = 22 ∧ p < 6 ∧ q = 8 + 5 * p) ∨ (ra = 35 ∧ p < n ∧ q = 40 + 8 * p + 6)) : P2 V3 20 (V3 201) n := by
  obtain ⟨⟨p1, p2, p3, p4, p5⟩, h2, h3, _⟩ := h
  have hn := h2.1
  have eV : ∀ i, i ≠ 1 → i < 40 → V3 i = up V ra p v i := fun i a b => by
    rw [hV3, up_nf (by omega), svR_i (by omega) (by omega), up_nf (by omega)]
    funext j
    dsimp only [up]
    rw [hsv.no (Or.inl b) a]
  have ez : ∀ j, V3 201 j = if j = q then v else V 201 j := fun j => by
    rw [hV3]
    by_cases w : j = q
    · rw [if_pos w, w, up_ss]
    · rw [if_neg w, up_nk w, svR_i (by decide) (by decide), up_nf (by decide), up_nf (by omega), hsv.no (Or.inr (by decide)) (by decide)]
  refine ⟨fun k hk => ?_, fun g hg k hk => ?_, ?_, ?_, fun k hk s hs => ?_⟩
  · rw [eV _ (by decide) (by decide), ez]
    rcases hc with ⟨rfl, a, rfl⟩ | ⟨rfl, a, rfl⟩ | ⟨rfl, a, rfl⟩
    · by_cases w : k = q
      · rw [if_pos w, w, up_ss]
      · rw [if_neg w, up_nk w]; exact p1 k hk
    · rw [if_neg (by omega), up_no (by decide)]; exact p1 k hk
    · rw [if_neg (by omega), up_no (by decide)]; exact p1 k hk
  · rw [eV _ (by omega) (by omega), ez]
    rcases hc with ⟨rfl, a, rfl⟩ | ⟨rfl, a, rfl⟩ | ⟨rfl, a, rfl⟩
    · rw [if_neg (by omega), up_no (by omega)]; exact p2 g hg k hk
    · by_cases w : g = p ∧ k = 0
      · obtain ⟨rfl, rfl⟩ := w
        rw [if_pos (by omega)]
        exact up_ss
      · rw [if_neg (by omega)]
        by_cases w2 : k = 0
        · rw [up_nk (fun z => w ⟨z, w2⟩)]; exact p2 g hg k hk
        · rw [up_no (by omega)]; exact p2 g hg k hk
    · rw [if_neg (by omega), up_no (by omega)]; exact p2 g hg k hk
  · rw [eV _ (by decide) (by decide), ez, if_neg (by omega), up_no (by omega)]; exact p3
  · rw [eV _ (by decide) (by decide), up_no (by omega)]; exact p4
  · rw [eV _ (by omega) (by omega)]
    unfold zF
    rw [ez]
    rcases hc with ⟨rfl, a, rfl⟩ | ⟨rfl, a, rfl⟩ | ⟨rfl, a, rfl⟩
    · rw [if_neg (by omega), up_no (by omega)]; exact p5 k hk s hs
    · rw [if_neg (by omega), up_no (by omega)]; exact p5 k hk s hs
    · by_cases w : s = p ∧ k = 6
      · obtain ⟨rfl, rfl⟩ := w
        rw [if_pos rfl]
        exact up_ss
      · rw [if_neg (by omega)]
        by_cases w2 : k = 6
        · subst w2
          rw [up_nk (fun z => w ⟨z, rfl⟩)]; exact p5 6 hk s hs
        · rw [up_no (by omega)]; exact p5 k hk s hs
theorem one_rw {V1 V3 : VV} {N2 : NN} (h : InvX V N I n o m l0) (hsv : SavP V N o m V1 N2) {ra p q : Nat} {v : Int32} (hra : ra < 40) (hV3 : V3 = up (svR (up (up V1 ra p v) 200 0 0) m) 201 q v)
    (hc : (q < 8 ∧ isValB q v = true) ∨ (8 ≤ q ∧ q < 38) ∨ ∃ s, s < n ∧ q = 40 + 8 * s + 6 ∧ -60 ≤ v.toInt ∧ v.toInt ≤ 120) : Rw (V3 201) n := by
  obtain ⟨_, ⟨r1, r2, r3, r4, r5, r6⟩, h3, _⟩ := h
  have ez : ∀ j, V3 201 j = if j = q then v else V 201 j := fun j => by
    rw [hV3]
    by_cases w : j = q
    · rw [if_pos w, w, up_ss]
    · rw [if_neg w, up_nk w, svR_i (by decide) (by decide), up_nf (by decide), up_nf (by omega), hsv.no (Or.inr (by decide)) (by decide)]
  have ek : ∀ k, k < 8 → k ≠ 6 → ∀ s, zF (V3 201) k s = zF (V 201) k s := fun k hk k6 s => by
    unfold zF
    rw [ez, if_neg (by rcases hc with c | c | ⟨s, _, c, _⟩ <;> omega)]
  refine ⟨r1, ?_, fun k hk => ?_, fun s hs => ?_, fun s hs => ?_, fun s t hst ht => ?_⟩
  · rw [ez, if_neg (by rcases hc with c | c | ⟨s, _, c, _⟩ <;> omega)]; exact r2
  · rw [ez]
    by_cases w : k = q
    · rw [if_pos w, w]
      rcases hc with c | c | ⟨s, _, c, _⟩
      · exact c.2
      · omega
      · omega
    · rw [if_neg w]; exact r3 k hk
  · obtain ⟨b0, b1, b2, b3, b4, b5, b6⟩ := r4 s hs
    unfold ShB
    rw [ek 0 (by decide) (by decide), ek 1 (by decide) (by decide), ek 2 (by decide) (by decide), ek 3 (by decide) (by decide), ek 4 (by decide) (by decide), ek 5 (by decide) (by decide)]
    refine ⟨b0, b1, b2, b3, b4, b5, ?_⟩
    show -60 ≤ (V3 201 (40 + 8 * s + 6)).toInt ∧ _
    unfold zF
    rw [ez]
    by_cases w : 40 + 8 * s + 6 = q
    · rw [if_pos w]
      rcases hc with c | c | ⟨s, _, c, d⟩
      · omega
      · omega
      · exact d
    · rw [if_neg w]; exact b6
  · rw [ek 7 (by decide) (by decide), ek 0 (by decide) (by decide)]
    rcases r5 s hs with c | ⟨c1, o, c2, c3, c4⟩
    · exact Or.inl c
    · exact Or.inr ⟨c1, o, c2, c3, by rw [ek 0 (by decide) (by decide)]; exact c4⟩
  · unfold keyT
    rw [ek 2 (by decide) (by decide), ek 3 (by decide) (by decide), ek 2 (by decide) (by decide), ek 3 (by decide) (by decide)]
    exact r6 s t hst ht
end
