section
variable {l : Launch} {V : VV} {L : LL} {N : NN} {I : List Nat} {n o m l0 : Nat}
theorem rfN_cg {T S : VV} {n g o : Nat} (h1 : S 201 = T 201) (h2 : S 204 = T 204) : rfN S n g o = rfN T n g o := by
  unfold rfN; rw [RF_z h1, h1, h2]
theorem plN_cg {T S : VV} {n : Nat} (h1 : S 201 = T 201) (h2 : S 204 = T 204) : plN S n = plN T n := by
  unfold plN; rw [RF_z h1, h2]
theorem prp_cg {V U V' U' : VV} (h : Prp V U) (h1 : V' 5 = V 5) (h2 : U' 204 = U 204) : Prp V' U' := by
  unfold Prp; rw [h1, h2]; exact h
theorem InvX.c {V : VV} (h : InvX V N I n o m l0) (R : Int32) : InvX (up (up V 0 6 R) 200 4 R) N I n o m l0 := by
  obtain ⟨h1, h2, h3, h4, h5, h6, h7, h8, h9, h10, a, h11⟩ := h
  have e : ∀ i, i ≠ 0 → i ≠ 200 → (up (up V 0 6 R) 200 4 R) i = V i := fun i a b => by rw [up_nf b, up_nf a]
  have ez := e 201 (by decide) (by decide)
  have e1 := e 1 (by decide) (by decide)
  refine ⟨P2.cg h2.1 (fun i a b => e i (by omega) (by omega)) (fun j _ => congrFun ez j) h1, Rw.cg (fun j _ => congrFun ez j) h2, ⟨h3.1, by rw [e1]; exact h3.2.1, h3.2.2.1, by rw [e1]; exact h3.2.2.2.1, h3.2.2.2.2⟩, SvI.cg (fun i a b => e i (by omega) (by omega)) (e 202 (by decide) (by decide)) h4, ?_, ?_, ?_, ?_, h9, fun i hi => ?_, a, ?_⟩
  · rw [up_nk (by decide), up_no (by decide)]; exact h5
  · rw [up_no (by decide), up_ss, up_ss]
  · rw [e 3 (by decide) (by decide)]; exact h7
  · rw [up_nk (by decide), up_no (by decide)]; exact h8
  · rw [e 4 (by decide) (by decide), e 203 (by decide) (by decide)]; exact h10 i hi
  · rw [e 3 (by decide) (by decide)]; exact h11
/-- a proposal is entered: both sides -/
theorem ent_step {Vb : VV} (h : InvX V N I n o m l0) (hb : Sx V Vb) {gN qN q2 : Nat} {kind g d st ln sp og : Int32} (f0 : Vb 5 0 = kind) (f1 : Vb 5 1 = g) (f2 : Vb 5 2 = d) (f3 : Vb 5 3 = st) (f4 : Vb 5 4 = ln) (f5 : Vb 5 5 = sp) (f6 : Vb 5 6 = og) (hr : rightB g d st ln sp = true) (hg : g = nI gN) (hg6 : gN < 6)
    (hk : (kind = 2 ∧ og = nI q2 ∧ q2 < n ∧ qN = q2) ∨ ((kind = 0 ∨ kind = 1) ∧ og = -1)) {r : RR} {V2 : VV} {L2 : LL} {N2 : NN} {I2 : List Nat} (hp : EpR Vb L N I o m n (rfS Vb n gN qN) r V2 L2 N2 I2) :
    V2 201 = V 201 ∧ V2 200 2 = nI m ∧ IN N2 I2 ∧ ((rfN (tapeV (up V2 200 0 0) kind g d st ln sp og) n gN q2 = 0 ∧ r = .inl (some (aI (nI (plN (tapeV (up V2 200 0 0) kind g d st ln sp og) n)))) ∧ addedV (tapeV (up V2 200 0 0) kind g d st ln sp og) m n 200 0 = nI 0 ∧ Inv (addedV (tapeV (up V2 200 0 0) kind g d st ln sp og) m n) N2 I2) ∨
      (rfN (tapeV (up V2 200 0 0) kind g d st ln sp og) n gN q2 ≠ 0 ∧ r = .inr xS ∧ ∀ c, Inv (up (up (tapeV (up V2 200 0 0) kind g d st ln sp og) 200 4 (rfN (tapeV (up V2 200 0 0) kind g d st ln sp og) n gN q2)) 200 0 c) N2 I2)) := by
  have hB := h.sx hb
  obtain ⟨h1, h2, h3, h4, h5, h6, h7, h8, h9, h10, a, h11⟩ := id hB
  have hn24 := h2.1
  have zb : Vb 201 = V 201 := sx_z hb
  obtain ⟨t0, t1, t2, t3, t4, t5, t6, t7⟩ := tape_at (V := up V2 200 0 0) (k := kind) (g := g) (d := d) (s := st) (l := ln) (sp := sp) (o := og)
  obtain ⟨r1, r2, r3, r4, r5⟩ := right_t hr
  have hprb : Prp Vb (tapeV (up V2 200 0 0) kind g d st ln sp og) := prp_of f0 f1 f2 f3 f4 f5 f6
  have hT : ∀ i, i ≠ 204 → i ≠ 200 → tapeV (up V2 200 0 0) kind g d st ln sp og i = V2 i := fun i a b => by rw [tape_nf a, up_nf b]
  have hcode : V2 201 = Vb 201 → rfS Vb n gN qN = rfN (tapeV (up V2 200 0 0) kind g d st ln sp og) n gN q2 := fun e => by
    have eT : tapeV (up V2 200 0 0) kind g d st ln sp og 201 = Vb 201 := (hT 201 (by decide) (by decide)).trans e
    refine rf_eq (P2.cg hn24 (fun _ _ _ => rfl) (fun j _ => congrFun eT j) h1) (Rw.cg (fun j _ => congrFun eT j) h2) hprb hg6 (by rw [t3]; omega) (by rw [t3]; omega) (by rw [t5]; omega) (by rw [t5]; omega) (fun z => ?_)
    rw [t0] at z
    rcases hk with ⟨k1, k2, k3, k4⟩ | ⟨k1 | k1, _⟩
    · exact ⟨k4, by omega⟩
    · rw [k1] at z; exact absurd z (by decide)
    · rw [k1] at z; exact absurd z (by decide)
  by_cases hR : rfS Vb n gN qN = 0
  · unfold EpR at hp
    rw [if_pos hR] at hp
    obtain ⟨V1, hsv, hV2, hr1, rfl, hIN⟩ := hp
    have e1 : ∀ i, i ≠ 1 → (i < 40 ∨ 157 ≤ i) → V1 i = up Vb 0 6 0 i := fun i a b => hsv.no b a
    have e1' : ∀ i, i ≠ 1 → i ≠ 0 → (i < 40 ∨ 157 ≤ i) → V1 i = Vb i := fun i a c b => (e1 i a b).trans (up_nf c)
    have e2 : ∀ i, i < 20 ∨ (20 < i ∧ i < 29) ∨ 36 < i → V2 i = V1 i := fun i hi => by rw [hV2]; exact ins_nf (by omega) (by omega)
    have z2 : V2 201 = Vb 201 := (e2 201 (by omega)).trans (e1' 201 (by decide) (by decide) (by decide))
    have hST : ∀ i, i ≠ 202 → i ≠ 200 → svR (up (up (tapeV (up V2 200 0 0) kind g d st ln sp og) 200 4 0) 200 0 0) m i = tapeV (up V2 200 0 0) kind g d st ln sp og i := fun i a b => by rw [svR_i a b, up_nf b, up_nf b]
    have hU : ∀ i, i ≠ 204 → i ≠ 200 → up (up (tapeV (up V2 200 0 0) kind g d st ln sp og) 200 4 0) 200 0 0 i = V2 i := fun i a b => by rw [up_nf b, up_nf b, hT i a b]
    have hS1 : ∀ i, i ≠ 204 → i ≠ 202 → i ≠ 200 → svR (up (up (tapeV (up V2 200 0 0) kind g d st ln sp og) 200 4 0) 200 0 0) m i = V2 i := fun i a b c => (hST i b c).trans (hT i a c)
    have hSj : ∀ j, j ≠ 2 → j ≠ 0 → j ≠ 4 → svR (up (up (tapeV (up V2 200 0 0) kind g d st ln sp og) 200 4 0) 200 0 0) m 200 j = V2 200 j := fun j a b c => by rw [svR_j a, up_nk b, up_nk c, tape_nf (by decide), up_nk b]
    have hS0 : svR (up (up (tapeV (up V2 200 0 0) kind g d st ln sp og) 200 4 0) 200 0 0) m 200 0 = 0 := by rw [svR_j (by decide), up_ss]
    have hS4 : svR (up (up (tapeV (up V2 200 0 0) kind g d st ln sp og) 200 4 0) 200 0 0) m 200 4 = 0 := by rw [svR_j (by decide), up_nk (by decide), up_ss]
    have hc0 := hcode z2
    have h0S : rfN (svR (up (up (tapeV (up V2 200 0 0) kind g d st ln sp og) 200 4 0) 200 0 0) m) n gN q2 = 0 := by
      rw [rfN_cg (hST 201 (by decide) (by decide)) (hST 204 (by decide) (by decide)), ← hc0]; exact hR
    have zS : (svR (up (up (tapeV (up V2 200 0 0) kind g d st ln sp og) 200 4 0) 200 0 0) m) 201 = Vb 201 := (hS1 201 (by decide) (by decide) (by decide)).trans z2
    have s204 := hST 204 (by decide) (by decide)
    have hent := ent_rel (V := V1) (U := svR (up (up (tapeV (up V2 200 0 0) kind g d st ln sp og) 200 4 0) 200 0 0) m) (n := n) (g := gN) (o := q2)
      (P2.cg hn24 (fun i a b => e1' i (by omega) (by omega) (by omega)) (fun j _ => congrFun zS j) h1) (Rw.cg (fun j _ => congrFun zS j) h2) (prp_cg hprb (e1' 5 (by decide) (by decide) (by decide)) s204)
      (by
        unfold ShB
        dsimp only
        rw [s204, t0, t1, t2, t3, t4, t5, t6]
        refine ⟨?_, r1, r2, r3, r4, r5, by decide⟩
        rcases hk with ⟨k1, _⟩ | ⟨k1 | k1, _⟩ <;> rw [k1] <;> decide)
      (by
        rw [s204, t0, t7]
        rcases hk with ⟨k1, k2, k3, k4⟩ | ⟨k1, k2⟩
        · exact Or.inl ⟨k1, k2, k3⟩
        · refine Or.inr ⟨fun z => ?_, k2⟩
          rcases k1 with k1 | k1 <;> rw [k1] at z <;> exact absurd z (by decide)) h0S
    obtain ⟨i1, i2, i3, i4⟩ := hent
    have hpl : plN (svR (up (up (tapeV (up V2 200 0 0) kind g d st ln sp og) 200 4 0) 200 0 0) m) n = plN (tapeV (up V2 200 0 0) kind g d st ln sp og) n := plN_cg (hST 201 (by decide) (by decide)) s204
    rw [hpl] at i1 i2 i3 i4
    rw [i1] at hV2 hr1
    have hadd : addedV (tapeV (up V2 200 0 0) kind g d st ln sp og) m n = insR (svR (up (up (tapeV (up V2 200 0 0) kind g d st ln sp og) 200 4 0) 200 0 0) m) n (plN (tapeV (up V2 200 0 0) kind g d st ln sp og) n) := rfl
    have m2 : V2 200 2 = nI m := by rw [e2 200 (by omega), e1' 200 (by decide) (by decide) (by decide)]; exact h5
    rw [← hV2] at i3
    refine ⟨z2.trans zb, m2, hIN, Or.inl ⟨hc0.symm.trans hR, hr1, ?_, ?_⟩⟩
    · rw [hadd, insR_no (by decide)]; exact hS0
    · rw [hadd]
      generalize hXX : insR (svR (up (up (tapeV (up V2 200 0 0) kind g d st ln sp og) 200 4 0) 200 0 0) m) n (plN (tapeV (up V2 200 0 0) kind g d st ln sp og) n) = V3 at i3 i4 ⊢
      have f3 : ∀ i, i ≠ 201 → V3 i = svR (up (up (tapeV (up V2 200 0 0) kind g d st ln sp og) 200 4 0) 200 0 0) m i := fun i hi => by rw [← hXX]; exact insR_no hi
      have f3' : ∀ i, i ≠ 200 → i ≠ 201 → i ≠ 202 → i ≠ 204 → V3 i = V2 i := fun i a b c d => (f3 i b).trans (hS1 i d c a)
      have hVp : ∀ i, i ≠ 0 → (up Vb 0 6 0) i = Vb i := fun i hi => up_nf hi
      have zp : (up Vb 0 6 0) 201 = Vb 201 := hVp 201 (by decide)
      refine mut_inv (Vp := up Vb 0 6 0) (U := up (up (tapeV (up V2 200 0 0) kind g d st ln sp og) 200 4 0) 200 0 0) (l2 := l0) (a := a) h3.2.2.1 h3.2.2.2.2 (SvI.cg (fun i a b => hVp i (by omega)) (hVp 202 (by decide)) h4) (P2.cg hn24 (fun i a b => hVp i (by omega)) (fun j _ => congrFun zp j) h1) (Rw.cg (fun j _ => congrFun zp j) h2) hsv (fun i a b => ?_) ?_ ?_ ?_ ?_ ?_ hIN (P2.cg (by have := i4.1; omega) (fun i a b => f3' i (by omega) (by omega) (by omega) (by omega)) (fun _ _ => rfl) i3) i4 ?_ ?_ ?_ h9 (fun i hi => ?_) ?_
      · rw [f3' i (by omega) (by omega) (by omega) (by omega), e2 i (by omega)]
      · rw [f3' 1 (by decide) (by decide) (by decide) (by decide), e2 1 (by omega)]
      · rw [hU 201 (by decide) (by decide), z2, zp]
      · rw [hU 202 (by decide) (by decide), e2 202 (by omega), e1 202 (by decide) (by decide)]
      · rw [f3 202 (by decide)]
      · rw [f3 200 (by decide)]
      · rw [f3' 0 (by decide) (by decide) (by decide) (by decide), e2 0 (by omega), e1 0 (by decide) (by decide), up_ss, f3 200 (by decide), hS4]
      · rw [f3' 3 (by decide) (by decide) (by decide) (by decide), e2 3 (by omega), e1' 3 (by decide) (by decide) (by decide)]; exact h7
      · rw [f3 200 (by decide), hSj 5 (by decide) (by decide) (by decide), e2 200 (by omega), e1' 200 (by decide) (by decide) (by decide)]; exact h8
      · rw [f3' 4 (by decide) (by decide) (by decide) (by decide), e2 4 (by omega), e1' 4 (by decide) (by decide) (by decide), f3' 203 (by decide) (by decide) (by decide) (by decide), e2 203 (by omega), e1' 203 (by decide) (by decide) (by decide)]; exact h10 i hi
      · rw [f3' 3 (by decide) (by decide) (by decide) (by decide), e2 3 (by omega), e1' 3 (by decide) (by decide) (by decide)]; exact h11
  · unfold EpR at hp
    rw [if_neg hR] at hp
    obtain ⟨hr1, hV2, rfl, rfl, rfl⟩ := hp
    have e2 : ∀ i, i ≠ 0 → V2 i = Vb i := fun i hi => by rw [hV2, up_nf hi]
    have z2 : V2 201 = Vb 201 := e2 201 (by decide)
    have hc0 := hcode z2
    refine ⟨z2.trans zb, by rw [e2 200 (by decide)]; exact h5, h3.1, Or.inr ⟨fun z => hR (hc0.trans z), hr1, fun c => ⟨n, o, m, l0, ?_⟩⟩⟩
    rw [← hc0]
    refine InvX.sx (hB.c (rfS Vb n gN qN)) fun i j hs => ?_
    by_cases q : i = 200
    · subst q
      rw [up_nk (fun z => hs (by unfold Scr; omega))]
      by_cases q4 : j = 4
      · rw [q4, up_ss, up_ss]
      · rw [up_nk q4, up_nk q4, tape_nf (by decide), up_nk (fun z => hs (by unfold Scr; omega)), e2 200 (by decide), up_no (by decide)]
    · rw [up_no q, up_no q, up_no q, tape_nf (fun z => hs (by unfold Scr; omega)), up_no q, hV2]
end
