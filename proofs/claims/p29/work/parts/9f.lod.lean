theorem tape_at {V : VV} {k g d s l sp o : Int32} : tapeV V k g d s l sp o 204 0 = k ∧ tapeV V k g d s l sp o 204 1 = g ∧ tapeV V k g d s l sp o 204 2 = d ∧ tapeV V k g d s l sp o 204 3 = s ∧ tapeV V k g d s l sp o 204 4 = l ∧ tapeV V k g d s l sp o 204 5 = sp ∧ tapeV V k g d s l sp o 204 6 = 0 ∧ tapeV V k g d s l sp o 204 7 = o := by
  simp [tapeV, up]
theorem prp_of {W V : VV} {k g d s l sp o : Int32} (h0 : W 5 0 = k) (h1 : W 5 1 = g) (h2 : W 5 2 = d) (h3 : W 5 3 = s) (h4 : W 5 4 = l) (h5 : W 5 5 = sp) (h6 : W 5 6 = o) : Prp W (tapeV V k g d s l sp o) := by
  obtain ⟨t0, t1, t2, t3, t4, t5, t6, t7⟩ := tape_at (V := V) (k := k) (g := g) (d := d) (s := s) (l := l) (sp := sp) (o := o)
  refine ⟨fun i hi => ?_, t6, h6.trans t7.symm⟩
  rcases (show i = 0 ∨ i = 1 ∨ i = 2 ∨ i = 3 ∨ i = 4 ∨ i = 5 by omega) with rfl | rfl | rfl | rfl | rfl | rfl
  · exact h0.trans t0.symm
  · exact h1.trans t1.symm
  · exact h2.trans t2.symm
  · exact h3.trans t3.symm
  · exact h4.trans t4.symm
  · exact h5.trans t5.symm
/-- a show that was read, and is about to be loaded: both sides answer the same and do the same -/
theorem one_rel {M3 U : VV} {n e : Nat} {k g d st ln sp o : Int32} (hP : P2 M3 20 (U 201) n) (hR : Rw (U 201) n)
    (h0 : M3 5 0 = k) (h1 : M3 5 1 = g) (h2 : M3 5 2 = d) (h3 : M3 5 3 = st) (h4 : M3 5 4 = ln) (h5 : M3 5 5 = sp) (h6 : M3 5 6 = o)
    (hk : (k = 2 ∧ g = 0 ∧ ln = 0 ∧ sp = 0 ∧ withinB d 0 6 = true ∧ U 209 e = 2 ∧ U 209 (e + 1) = o ∧ U 209 (e + 2) = d ∧ U 209 (e + 3) = st) ∨ ((k = 0 ∨ k = 1) ∧ o = -1 ∧ U 209 e = k ∧ U 209 (e + 1) = g ∧ U 209 (e + 2) = d ∧ U 209 (e + 3) = st ∧ U 209 (e + 4) = ln ∧ U 209 (e + 5) = sp)) :
    rrC M3 n = arC U n e ∧ (rrC M3 n = 0 → ∀ y, let MM := up (rrV M3 n) 0 6 y
      plS MM n ≤ n ∧ P2 (insV MM n (plS MM n)) 20 (arV U n e 201) (n + 1) ∧ Rw (arV U n e 201) (n + 1)) ∧ (rrC M3 n ≠ 0 → ∀ y, P2 (up (rrV M3 n) 0 6 y) 20 (arV U n e 201) n ∧ Rw (arV U n e 201) n) := by
  have hn := hR.1
  -- the proposal and the fresh show, when its numbers are right
  have key : ∀ (W : VV) (T : VV) (gg oo o2 : Nat), (∀ i, i ≠ 5 → i ≠ 0 → W i = M3 i) → (∀ i, i ≠ 204 → T i = U i) → Prp W T → rightB (T 204 1) (T 204 2) (T 204 3) (T 204 4) (T 204 5) = true → T 204 1 = nI gg → gg < 6 → ((T 204 0 = 2 ∧ T 204 7 = nI o2 ∧ o2 < n ∧ oo = o2) ∨ ((T 204 0 = 0 ∨ T 204 0 = 1) ∧ T 204 7 = -1)) →
      rfS W n gg oo = rfN T n gg o2 ∧ (rfN T n gg o2 = 0 → plS W n = plN T n ∧ plN T n ≤ n ∧ P2 (insV W n (plN T n)) 20 (insR T n (plN T n) 201) (n + 1) ∧ Rw (insR T n (plN T n) 201) (n + 1)) := by
    intro W T gg oo o2 hW hT hpr hrt hgg hg6 hkk
    have hz : T 201 = U 201 := hT 201 (by decide)
    have hP2 : P2 W 20 (T 201) n := P2.cg hn (fun i a b => hW i (by omega) (by omega)) (fun j _ => congrFun hz j) hP
    have hR2 : Rw (T 201) n := Rw.cg (fun j _ => congrFun hz j) hR
    obtain ⟨r1, r2, r3, r4, r5⟩ := right_t hrt
    refine ⟨rf_eq hP2 hR2 hpr hg6 (by omega) (by omega) (by omega) (by omega) (fun z => ?_), fun z => ent_rel (o := o2) hP2 hR2 hpr ?_ ?_ z⟩
    · rcases hkk with ⟨a, b, c, d⟩ | ⟨a, b⟩
      · exact ⟨d, d ▸ c⟩
      · rcases a with a | a <;> rw [a] at z <;> exact absurd z (by decide)
    · unfold ShB
      dsimp only
      refine ⟨?_, r1, r2, r3, r4, r5, ?_⟩
      · rcases hkk with ⟨a, _⟩ | ⟨a | a, _⟩ <;> rw [a] <;> decide
      · rw [hpr.2.1]; decide
    · rcases hkk with ⟨a, b, c, _⟩ | ⟨a, b⟩
      · exact Or.inl ⟨a, b, c⟩
      · refine Or.inr ⟨fun z => ?_, b⟩
        rcases a with a | a <;> rw [a] at z <;> exact absurd z (by decide)
  have hsame : ∀ y, rrV M3 n = M3 → P2 (up (rrV M3 n) 0 6 y) 20 (U 201) n := fun y hy => by
    rw [hy]
    exact P2.cg hn (fun i a b => up_nf (by omega)) (fun _ _ => rfl) hP
  -- what follows once both know that the numbers are right
  have fin : ∀ (T : VV) (gg oo o2 : Nat), (∀ i, i ≠ 5 → i ≠ 0 → rrV M3 n i = M3 i) → (∀ i, i ≠ 204 → T i = U i) → (∀ y, Prp (up (rrV M3 n) 0 6 y) T) → rightB (T 204 1) (T 204 2) (T 204 3) (T 204 4) (T 204 5) = true → T 204 1 = nI gg → gg < 6 → ((T 204 0 = 2 ∧ T 204 7 = nI o2 ∧ o2 < n ∧ oo = o2) ∨ ((T 204 0 = 0 ∨ T 204 0 = 1) ∧ T 204 7 = -1)) →
      rrC M3 n = rfS (rrV M3 n) n gg oo → arOk U n e = true → arR U n e = rfN T n gg o2 → arT U e = T →
      rrC M3 n = arC U n e ∧ (rrC M3 n = 0 → ∀ y, let MM := up (rrV M3 n) 0 6 y
        plS MM n ≤ n ∧ P2 (insV MM n (plS MM n)) 20 (arV U n e 201) (n + 1) ∧ Rw (arV U n e 201) (n + 1)) ∧ (rrC M3 n ≠ 0 → ∀ y, P2 (up (rrV M3 n) 0 6 y) 20 (arV U n e 201) n ∧ Rw (arV U n e 201) n) := by
    intro T gg oo o2 hW hT hpr hrt hgg hg6 hkk hc hok har hat
    have hW2 : ∀ y i, i ≠ 5 → i ≠ 0 → up (rrV M3 n) 0 6 y i = M3 i := fun y i a b => (up_nf b).trans (hW i a b)
    have hz : T 201 = U 201 := hT 201 (by decide)
    have hcode : rrC M3 n = arR U n e := by
      have e1 : rfS (up (rrV M3 n) 0 6 0) n gg oo = rfS (rrV M3 n) n gg oo := by
        unfold rfS
        have ecf : CF (up (rrV M3 n) 0 6 0) = CF (rrV M3 n) := funext fun k => up_nf (by omega)
        rw [ecf, up_nf (by decide), up_nf (by decide), up_nf (by decide), up_nf (by decide)]
      rw [hc, har, ← e1]
      exact (key (up (rrV M3 n) 0 6 0) T gg oo o2 (hW2 0) hT (hpr 0) hrt hgg hg6 hkk).1
    refine ⟨?_, fun z y => ?_, fun z y => ?_⟩
    · rw [hcode]; unfold arC; rw [if_pos hok]
    · have h0' : arR U n e = 0 := hcode ▸ z
      obtain ⟨i1, i2, i3, i4⟩ := (key (up (rrV M3 n) 0 6 y) T gg oo o2 (hW2 y) hT (hpr y) hrt hgg hg6 hkk).2 (har ▸ h0')
      have ev : arV U n e = insR T n (plN T n) := by unfold arV; rw [if_pos hok, if_pos h0', hat]
      rw [ev]
      show plS (up (rrV M3 n) 0 6 y) n ≤ n ∧ P2 (insV (up (rrV M3 n) 0 6 y) n (plS (up (rrV M3 n) 0 6 y) n)) 20 _ _ ∧ _
      rw [i1]
      exact ⟨i2, i3, i4⟩
    · have h0' : ¬ arR U n e = 0 := fun q => z (hcode.trans q)
      have ev : arV U n e = T := by unfold arV; rw [if_pos hok, if_neg h0', hat]
      rw [ev]
      exact ⟨P2.cg hn (fun i a b => hW2 y i (by omega) (by omega)) (fun j _ => congrFun hz j) hP, Rw.cg (fun j _ => congrFun hz j) hR⟩
  -- what follows once both know that they aren't
  have bad : rrC M3 n = 20 → arOk U n e = false → (∀ i, i ≠ 5 → i ≠ 0 → rrV M3 n i = M3 i) → rrC M3 n = arC U n e ∧ (rrC M3 n = 0 → ∀ y, let MM := up (rrV M3 n) 0 6 y
        plS MM n ≤ n ∧ P2 (insV MM n (plS MM n)) 20 (arV U n e 201) (n + 1) ∧ Rw (arV U n e 201) (n + 1)) ∧ (rrC M3 n ≠ 0 → ∀ y, P2 (up (rrV M3 n) 0 6 y) 20 (arV U n e 201) n ∧ Rw (arV U n e 201) n) := fun hc hok hW => by
    have ev : arV U n e = U := by unfold arV; rw [if_neg (by rw [hok]; decide)]
    refine ⟨?_, fun z => absurd (hc.symm.trans z) (by decide), fun _ y => ?_⟩
    · rw [hc]; unfold arC; rw [if_neg (by rw [hok]; decide)]
    · rw [ev]
      exact ⟨P2.cg hn (fun i a b => (up_nf (by omega)).trans (hW i (by omega) (by omega))) (fun _ _ => rfl) hP, hR⟩
  have hWW : ∀ i, i ≠ 5 → i ≠ 0 → rrV M3 n i = M3 i := fun i a _ => rrV_nf a
  rcases hk with ⟨k1, k2, k3, k4, k5, k6, k7, k8, k9⟩ | ⟨k1, k2, k3, k4, k5, k6, k7, k8⟩
  · -- a repeat
    subst k1
    have hrb : rrB M3 n = withinB o 0 (nI n - 1) := by unfold rrB; rw [h6]; exact num_eq hn
    cases ho : withinB o 0 (nI n - 1) with
    | false =>
      exact bad (rrC_1 h0 (hrb.trans ho)) (arOk_1 k6 (by rw [k7]; exact ho)) hWW
    | true =>
      obtain ⟨oo, hoo, hoe⟩ := shNat hn ho
      have hcl : o.toNatClampNeg = oo := by rw [hoe]; exact nI_clamp (by omega)
      have hv : rrV M3 n = up (up M3 5 1 (M3 30 oo)) 5 4 (M3 33 oo) := by rw [rrV_t h0 (hrb.trans ho), h6, hcl]
      have e30 : M3 30 oo = RF U 1 oo := hP.2.2.2.2 1 (by decide) oo hoo
      have e33 : M3 33 oo = RF U 4 oo := hP.2.2.2.2 4 (by decide) oo hoo
      obtain ⟨_, b1, _, _, b4, _, _⟩ := hR.2.2.2.1 oo hoo
      have b1' : 0 ≤ (RF U 1 oo).toInt ∧ (RF U 1 oo).toInt ≤ 5 := b1
      have b4' : 5 ≤ (RF U 4 oo).toInt ∧ (RF U 4 oo).toInt ≤ 240 := b4
      have v0 : rrV M3 n 5 0 = 2 := by rw [hv, up_nk (by decide), up_nk (by decide)]; exact h0
      have v1 : rrV M3 n 5 1 = RF U 1 oo := by rw [hv, up_nk (by decide), up_ss]; exact e30
      have v2 : rrV M3 n 5 2 = d := by rw [hv, up_nk (by decide), up_nk (by decide)]; exact h2
      have v3 : rrV M3 n 5 3 = st := by rw [hv, up_nk (by decide), up_nk (by decide)]; exact h3
      have v4 : rrV M3 n 5 4 = RF U 4 oo := by rw [hv, up_ss]; exact e33
      have v5 : rrV M3 n 5 5 = 0 := by rw [hv, up_nk (by decide), up_nk (by decide), h5]; exact k4
      have v6 : rrV M3 n 5 6 = nI oo := by rw [hv, up_nk (by decide), up_nk (by decide), h6]; exact hoe
      have hnr : ¬ (M3 5 0 = 2 ∧ rrB M3 n = false) := fun q => by rw [hrb, ho] at q; cases q.2
      have hrange : rightB (RF U 1 oo) d st (RF U 4 oo) 0 = withinB st 0 1439 := by
        have w1 : withinB (RF U 1 oo) 0 5 = true := win_t.mpr b1'
        have w4 : withinB (RF U 4 oo) 5 240 = true := win_t.mpr b4'
        have w5 : decide ((0 : Int32) ≤ RF U 4 oo) = true := decide_eq_true (t_le.mpr (by rw [t_0]; omega))
        unfold rightB
        rw [w1, k5, w4, w5, show withinB 0 0 30 = true from rfl]
        simp
      cases hst : withinB st 0 1439 with
      | false =>
        exact bad (rrC_2 hnr (by rw [v1, v2, v3, v4, v5, range_eq, hrange]; exact hst)) (arOk_2 k6 (by rw [k9]; exact hst)) hWW
      | true =>
        obtain ⟨gg, hgg, hgg2⟩ := nat_of (x := RF U 1 oo) (by omega)
        have harO : arO U e = oo := by unfold arO; rw [k7]; exact hcl
        have hat : arT U e = tapeV U 2 (RF U 1 oo) d st (RF U 4 oo) 0 (nI oo) := by unfold arT; rw [if_pos k6, harO, k8, k9]
        have hgc : (RF U 1 oo).toNatClampNeg = gg := by rw [hgg]; exact nI_clamp (by omega)
        obtain ⟨t0, t1, t2, t3, t4, t5, t6, t7⟩ := tape_at (V := U) (k := 2) (g := RF U 1 oo) (d := d) (s := st) (l := RF U 4 oo) (sp := 0) (o := nI oo)
        refine fin (tapeV U 2 (RF U 1 oo) d st (RF U 4 oo) 0 (nI oo)) gg oo oo hWW (fun i hi => tape_nf hi) (fun y => ?_) ?_ (t1.trans hgg) (by omega) (Or.inl ⟨t0, t7, hoo, rfl⟩) ?_ (arOk_3 k6 (by rw [k7]; exact ho) (by rw [k9]; exact hst)) ?_ hat
        · exact prp_of ((up_no (by decide)).trans v0) ((up_no (by decide)).trans v1) ((up_no (by decide)).trans v2) ((up_no (by decide)).trans v3) ((up_no (by decide)).trans v4) ((up_no (by decide)).trans v5) ((up_no (by decide)).trans v6)
        · rw [t1, t2, t3, t4, t5, hrange]; exact hst
        · rw [rrC_3 hnr (by rw [v1, v2, v3, v4, v5, range_eq, hrange]; exact hst), v1, h6, hgc, hcl]
        · unfold arR; rw [hat, harO]; unfold arG; rw [if_pos k6, harO, hgc]
  · -- a show of its own
    have hk2 : ¬ k = 2 := by rcases k1 with q | q <;> rw [q] <;> decide
    have hv : rrV M3 n = M3 := rrV_f (by rw [h0]; exact hk2)
    have hnr : ¬ (M3 5 0 = 2 ∧ rrB M3 n = false) := fun q => hk2 (h0.symm.trans q.1)
    have hu2 : ¬ U 209 e = 2 := by rw [k3]; exact hk2
    cases hr : rightB g d st ln sp with
    | false => exact bad (rrC_2 hnr (by rw [hv, h1, h2, h3, h4, h5, range_eq]; exact hr)) (arOk_4 hu2 (by rw [k4, k5, k6, k7, k8]; exact hr)) hWW
    | true =>
      obtain ⟨gg, hg6, hgg⟩ := right_g hr
      have hat : arT U e = tapeV U k g d st ln sp (-1) := by unfold arT; rw [if_neg hu2, k3, k4, k5, k6, k7, k8]
      have hgc : g.toNatClampNeg = gg := by rw [hgg]; exact nI_clamp (by omega)
      obtain ⟨t0, t1, t2, t3, t4, t5, t6, t7⟩ := tape_at (V := U) (k := k) (g := g) (d := d) (s := st) (l := ln) (sp := sp) (o := -1)
      refine fin (tapeV U k g d st ln sp (-1)) gg (M3 5 6).toNatClampNeg (arO U e) hWW (fun i hi => tape_nf hi) (fun y => ?_) ?_ (t1.trans hgg) hg6 (Or.inr ⟨by rw [t0]; exact k1, t7⟩) ?_ (arOk_4 hu2 (by rw [k4, k5, k6, k7, k8]; exact hr)) ?_ hat
      · rw [hv]
        exact prp_of ((up_no (by decide)).trans h0) ((up_no (by decide)).trans h1) ((up_no (by decide)).trans h2) ((up_no (by decide)).trans h3) ((up_no (by decide)).trans h4) ((up_no (by decide)).trans h5) ((up_no (by decide)).trans (h6.trans k2))
      · rw [t1, t2, t3, t4, t5]; exact hr
      · rw [rrC_3 hnr (by rw [hv, h1, h2, h3, h4, h5, range_eq]; exact hr), hv, h1, hgc]
      · unfold arR; rw [hat]; unfold arG; rw [if_neg hu2, k4, hgc]
