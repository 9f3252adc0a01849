-- loading: both sides
theorem st_gv {V1 : VV} {t s n : Nat} {b : Bool} (h : V1 200 15 = nI t) (h2 : V1 200 13 = nI s) : St (goV V1 b (nI n)) t (if b = true then n else s) := by
  refine ⟨goV_15.trans h, ?_⟩
  unfold goV
  rw [up_ss]
  cases b with
  | true => rfl
  | false => exact h2
theorem goV_j {V1 : VV} {b : Bool} {x : Int32} {j : Nat} : goV V1 b x 209 j = V1 209 j := goV_9
/-- a step stays within its show or goes to the next; the shows before stay -/
theorem tk_st {V : VV} {t s : Nat} {c : Int32} (h : St V t s) (hs : s ≤ 30) : ∃ t2 s2, St (tkP V t s c).2 t2 s2 ∧ t ≤ t2 ∧ t2 ≤ t + 1 ∧ s2 ≤ 30 ∧ ∀ i, i < 6 * t → (tkP V t s c).2 209 i = V 209 i := by
  have hg : ∀ (V1 : VV) (b : Bool) (n : Nat), V1 200 15 = nI t → V1 200 13 = nI s → n ≤ 30 → (∀ i, i < 6 * t → V1 209 i = V 209 i) → ∃ t2 s2, St (goV V1 b (nI n)) t2 s2 ∧ t ≤ t2 ∧ t2 ≤ t + 1 ∧ s2 ≤ 30 ∧ ∀ i, i < 6 * t → (goV V1 b (nI n)) 209 i = V 209 i := fun V1 b n h1 h2 hn h3 => ⟨t, _, st_gv h1 h2, Nat.le_refl t, by omega, by split <;> omega, fun i hi => goV_j.trans (h3 i hi)⟩
  have he : ∀ c, ∃ t2 s2, St (enV V t c) t2 s2 ∧ t ≤ t2 ∧ t2 ≤ t + 1 ∧ s2 ≤ 30 ∧ ∀ i, i < 6 * t → (enV V t c) 209 i = V 209 i := fun c => by
    unfold enV
    split
    · exact ⟨t + 1, 0, ⟨(up_nk (by decide)).trans up_ss, up_ss⟩, by omega, Nat.le_refl _, by omega, fun i _ => (up_no (by decide)).trans (up_no (by decide))⟩
    · exact ⟨t, s, h, Nat.le_refl t, by omega, hs, fun _ _ => rfl⟩
  have hu : ∀ (k : Nat) (x : Int32) (j : Nat), (up V 209 k x) 200 j = V 200 j := fun k x j => up_no (by decide)
  have h0 : ∀ i, i < 6 * t → V 209 i = V 209 i := fun _ _ => rfl
  have hbg : ∀ i, i < 6 * t → (bg0 V t c) 209 i = V 209 i := fun i hi => by unfold bg0; rw [up_nk (by omega), up_nk (by omega)]
  have hbg2 : ∀ j, (bg0 V t c) 200 j = V 200 j := fun j => by unfold bg0; rw [up_no (by decide), up_no (by decide)]
  unfold tkP
  split
  · unfold begP
    split
    · exact hg _ _ 10 ((hbg2 15).trans h.1) ((hbg2 13).trans h.2) (by decide) hbg
    · exact hg _ _ 1 ((hbg2 15).trans h.1) ((hbg2 13).trans h.2) (by decide) hbg
  split
  · exact hg _ _ 2 ((hu _ _ 15).trans h.1) ((hu _ _ 13).trans h.2) (by decide) (fun i hi => up_nk (by omega))
  split
  · exact hg _ _ 3 h.1 h.2 (by decide) h0
  split
  · exact hg _ _ 4 ((hu _ _ 15).trans h.1) ((hu _ _ 13).trans h.2) (by decide) (fun i hi => up_nk (by omega))
  split
  · exact hg _ _ 11 h.1 h.2 (by decide) h0
  split
  · refine hg (up (up V 209 (6 * t + pcN (s - 10)) (c - 48)) 200 14 1) (withinB c 48 57) (20 + (s - 10)) ?_ ?_ (by omega) (fun i hi => ?_)
    · rw [up_nk (by decide), up_no (by decide)]; exact h.1
    · rw [up_nk (by decide), up_no (by decide)]; exact h.2
    · rw [up_no (by decide), up_nk (by unfold pcN; split <;> omega)]
  unfold gnP
  split
  · refine ⟨t, s, ⟨?_, ?_⟩, Nat.le_refl t, by omega, hs, fun i hi => ?_⟩
    · show ndV V t c (s - 20) 200 15 = _
      unfold ndV
      rw [up_nk (by decide), up_no (by decide)]; exact h.1
    · show ndV V t c (s - 20) 200 13 = _
      unfold ndV
      rw [up_nk (by decide), up_no (by decide)]; exact h.2
    · show ndV V t c (s - 20) 209 i = _
      unfold ndV
      rw [up_no (by decide), up_nk (by unfold pcN; split <;> omega)]
  split
  · exact hg _ _ 3 h.1 h.2 (by decide) h0
  split
  · split
    · exact he c
    · exact hg _ _ 12 h.1 h.2 (by decide) h0
  split
  · split
    · exact hg _ _ 13 h.1 h.2 (by decide) h0
    · exact he c
  · exact he c
theorem rt_keep : ∀ {n : Nat} {A : VV} {t s k : Nat}, St A t s → s ≤ 30 → t + n ≤ 900 → ∃ T s2, St (rtP n A k).2 T s2 ∧ t ≤ T ∧ T ≤ 900 ∧ s2 ≤ 30 ∧ ∀ i, i < 6 * t → (rtP n A k).2 209 i = A 209 i
  | 0, A, t, s, k, h, hs, ht => ⟨t, s, h, Nat.le_refl t, by omega, hs, fun _ _ => rfl⟩
  | n + 1, A, t, s, k, h, hs, ht => by
    obtain ⟨t2, s2, h1, h2, h3, h4, h5⟩ := tk_st (c := A 203 k) h hs
    rw [rtP, tk_s h (by omega) (by omega)]
    split
    · obtain ⟨T, s3, i1, i2, i3, i4, i5⟩ := rt_keep (n := n) (k := k + 1) h1 h4 (by omega)
      exact ⟨T, s3, i1, by omega, i3, i4, fun i hi => (i5 i (by omega)).trans (h5 i hi)⟩
    · exact ⟨t2, s2, h1, h2, by omega, h4, h5⟩
theorem tape_at {V : VV} {k g d s l sp o : Int32} : tapeV V k g d s l sp o 204 0 = k ∧ tapeV V k g d s l sp o 204 1 = g ∧ tapeV V k g d s l sp o 204 2 = d ∧ tapeV V k g d s l sp o 204 3 = s ∧ tapeV V k g d s l sp o 204 4 = l ∧ tapeV V k g d s l sp o 204 5 = sp ∧ tapeV V k g d s l sp o 204 6 = 0 ∧ tapeV V k g d s l sp o 204 7 = o := by
  simp [tapeV, up]
theorem prp_of {W V : VV} {k g d s l sp o : Int32} (h0 : W 5 0 = k) (h1 : W 5 1 = g) (h2 : W 5 2 = d) (h3 : W 5 3 = s) (h4 : W 5 4 = l) (h5 : W 5 5 = sp) (h6 : W 5 6 = o) : Prp W (tapeV V k g d s l sp o) := by
  obtain ⟨t0, t1, t2, t3, t4, t5, t6, t7⟩ := tape_at (V := V) (k := k) (g := g) (d := d) (s := s) (l := l) (sp := sp) (o := o)
  refine ⟨fun i hi => ?_, t6, h6.trans t7.symm⟩
  rcases (show i = 0 ∨ i = 1 ∨ i = 2 ∨ i = 3 ∨ i = 4 ∨ i = 5 by omega) with rfl | rfl | rfl | rfl | rfl | rfl
  · exact h0.trans t0.symm
  · exact h1.trans t1.symm
  · exact h2.trans t2.symm
  · exact h3.trans t3.symm
  · exact h4.trans t4.symm
  · exact h5.trans t5.symm
/-- a show that was read, and is about to be loaded: both sides answer the same and do the same -/
theorem one_rel {M3 U : VV} {n e : Nat} {k g d st ln sp o : Int32} (hP : P2 M3 20 (U 201) n) (hR : Rw (U 201) n)
    (h0 : M3 5 0 = k) (h1 : M3 5 1 = g) (h2 : M3 5 2 = d) (h3 : M3 5 3 = st) (h4 : M3 5 4 = ln) (h5 : M3 5 5 = sp) (h6 : M3 5 6 = o)
    (hk : (k = 2 ∧ g = 0 ∧ ln = 0 ∧ sp = 0 ∧ withinB d 0 6 = true ∧ U 209 e = 2 ∧ U 209 (e + 1) = o ∧ U 209 (e + 2) = d ∧ U 209 (e + 3) = st) ∨ ((k = 0 ∨ k = 1) ∧ o = -1 ∧ U 209 e = k ∧ U 209 (e + 1) = g ∧ U 209 (e + 2) = d ∧ U 209 (e + 3) = st ∧ U 209 (e + 4) = ln ∧ U 209 (e + 5) = sp)) :
    rrC M3 n = arC U n e ∧ (rrC M3 n = 0 → ∀ y, let MM := up (rrV M3 n) 0 6 y
      plS MM n ≤ n ∧ P2 (insV MM n (plS MM n)) 20 (arV U n e 201) (n + 1) ∧ Rw (arV U n e 201) (n + 1)) ∧ (rrC M3 n ≠ 0 → ∀ y, P2 (up (rrV M3 n) 0 6 y) 20 (arV U n e 201) n ∧ Rw (arV U n e 201) n) := by
  have hn := hR.1
  -- the proposal and the fresh show, when its numbers are right
  have key : ∀ (W : VV) (T : VV) (gg oo o2 : Nat), (∀ i, i ≠ 5 → i ≠ 0 → W i = M3 i) → (∀ i, i ≠ 204 → T i = U i) → Prp W T → rightB (T 204 1) (T 204 2) (T 204 3) (T 204 4) (T 204 5) = true → T 204 1 = nI gg → gg < 6 → ((T 204 0 = 2 ∧ T 204 7 = nI o2 ∧ o2 < n ∧ oo = o2) ∨ ((T 204 0 = 0 ∨ T 204 0 = 1) ∧ T 204 7 = -1)) →
      rfS W n gg oo = rfN T n gg o2 ∧ (rfN T n gg o2 = 0 → plS W n = plN T n ∧ plN T n ≤ n ∧ P2 (insV W n (plN T n)) 20 (insR T n (plN T n) 201) (n + 1) ∧ Rw (insR T n (plN T n) 201) (n + 1)) := by
    intro W T gg oo o2 hW hT hpr hrt hgg hg6 hkk
    have hz : T 201 = U 201 := hT 201 (by decide)
    have hP2 : P2 W 20 (T 201) n := P2.cg hn (fun i a b => hW i (by omega) (by omega)) (fun j _ => congrFun hz j) hP
    have hR2 : Rw (T 201) n := Rw.cg (fun j _ => congrFun hz j) hR
    obtain ⟨r1, r2, r3, r4, r5⟩ := right_t hrt
    refine ⟨rf_eq hP2 hR2 hpr hg6 (by omega) (by omega) (by omega) (by omega) (fun z => ?_), fun z => ent_rel (o := o2) hP2 hR2 hpr ?_ ?_ z⟩
    · rcases hkk with ⟨a, b, c, d⟩ | ⟨a, b⟩
      · exact ⟨d, d ▸ c⟩
      · rcases a with a | a <;> rw [a] at z <;> exact absurd z (by decide)
    · unfold ShB
      dsimp only
      refine ⟨?_, r1, r2, r3, r4, r5, ?_⟩
      · rcases hkk with ⟨a, _⟩ | ⟨a | a, _⟩ <;> rw [a] <;> decide
      · rw [hpr.2.1]; decide
    · rcases hkk with ⟨a, b, c, _⟩ | ⟨a, b⟩
      · exact Or.inl ⟨a, b, c⟩
      · refine Or.inr ⟨fun z => ?_, b⟩
        rcases a with a | a <;> rw [a] at z <;> exact absurd z (by decide)
  have hsame : ∀ y, rrV M3 n = M3 → P2 (up (rrV M3 n) 0 6 y) 20 (U 201) n := fun y hy => by
    rw [hy]
    exact P2.cg hn (fun i a b => up_nf (by omega)) (fun _ _ => rfl) hP
  -- what follows once both know that the numbers are right
  have fin : ∀ (T : VV) (gg oo o2 : Nat), (∀ i, i ≠ 5 → i ≠ 0 → rrV M3 n i = M3 i) → (∀ i, i ≠ 204 → T i = U i) → (∀ y, Prp (up (rrV M3 n) 0 6 y) T) → rightB (T 204 1) (T 204 2) (T 204 3) (T 204 4) (T 204 5) = true → T 204 1 = nI gg → gg < 6 → ((T 204 0 = 2 ∧ T 204 7 = nI o2 ∧ o2 < n ∧ oo = o2) ∨ ((T 204 0 = 0 ∨ T 204 0 = 1) ∧ T 204 7 = -1)) →
      rrC M3 n = rfS (rrV M3 n) n gg oo → arOk U n e = true → arR U n e = rfN T n gg o2 → arT U e = T →
      rrC M3 n = arC U n e ∧ (rrC M3 n = 0 → ∀ y, let MM := up (rrV M3 n) 0 6 y
        plS MM n ≤ n ∧ P2 (insV MM n (plS MM n)) 20 (arV U n e 201) (n + 1) ∧ Rw (arV U n e 201) (n + 1)) ∧ (rrC M3 n ≠ 0 → ∀ y, P2 (up (rrV M3 n) 0 6 y) 20 (arV U n e 201) n ∧ Rw (arV U n e 201) n) := by
    intro T gg oo o2 hW hT hpr hrt hgg hg6 hkk hc hok har hat
    have hW2 : ∀ y i, i ≠ 5 → i ≠ 0 → up (rrV M3 n) 0 6 y i = M3 i := fun y i a b => (up_nf b).trans (hW i a b)
    have hz : T 201 = U 201 := hT 201 (by decide)
    have hcode : rrC M3 n = arR U n e := by
      have e1 : rfS (up (rrV M3 n) 0 6 0) n gg oo = rfS (rrV M3 n) n gg oo := by
        unfold rfS
        have ecf : CF (up (rrV M3 n) 0 6 0) = CF (rrV M3 n) := funext fun k => up_nf (by omega)
        rw [ecf, up_nf (by decide), up_nf (by decide), up_nf (by decide), up_nf (by decide)]
      rw [hc, har, ← e1]
      exact (key (up (rrV M3 n) 0 6 0) T gg oo o2 (hW2 0) hT (hpr 0) hrt hgg hg6 hkk).1
    refine ⟨?_, fun z y => ?_, fun z y => ?_⟩
    · rw [hcode]; unfold arC; rw [if_pos hok]
    · have h0' : arR U n e = 0 := hcode ▸ z
      obtain ⟨i1, i2, i3, i4⟩ := (key (up (rrV M3 n) 0 6 y) T gg oo o2 (hW2 y) hT (hpr y) hrt hgg hg6 hkk).2 (har ▸ h0')
      have ev : arV U n e = insR T n (plN T n) := by unfold arV; rw [if_pos hok, if_pos h0', hat]
      rw [ev]
      show plS (up (rrV M3 n) 0 6 y) n ≤ n ∧ P2 (insV (up (rrV M3 n) 0 6 y) n (plS (up (rrV M3 n) 0 6 y) n)) 20 _ _ ∧ _
      rw [i1]
      exact ⟨i2, i3, i4⟩
    · have h0' : ¬ arR U n e = 0 := fun q => z (hcode.trans q)
      have ev : arV U n e = T := by unfold arV; rw [if_pos hok, if_neg h0', hat]
      rw [ev]
      exact ⟨P2.cg hn (fun i a b => hW2 y i (by omega) (by omega)) (fun j _ => congrFun hz j) hP, Rw.cg (fun j _ => congrFun hz j) hR⟩
  -- what follows once both know that they aren't
  have bad : rrC M3 n = 20 → arOk U n e = false → (∀ i, i ≠ 5 → i ≠ 0 → rrV M3 n i = M3 i) → rrC M3 n = arC U n e ∧ (rrC M3 n = 0 → ∀ y, let MM := up (rrV M3 n) 0 6 y
        plS MM n ≤ n ∧ P2 (insV MM n (plS MM n)) 20 (arV U n e 201) (n + 1) ∧ Rw (arV U n e 201) (n + 1)) ∧ (rrC M3 n ≠ 0 → ∀ y, P2 (up (rrV M3 n) 0 6 y) 20 (arV U n e 201) n ∧ Rw (arV U n e 201) n) := fun hc hok hW => by
    have ev : arV U n e = U := by unfold arV; rw [if_neg (by rw [hok]; decide)]
    refine ⟨?_, fun z => absurd (hc.symm.trans z) (by decide), fun _ y => ?_⟩
    · rw [hc]; unfold arC; rw [if_neg (by rw [hok]; decide)]
    · rw [ev]
      exact ⟨P2.cg hn (fun i a b => (up_nf (by omega)).trans (hW i (by omega) (by omega))) (fun _ _ => rfl) hP, hR⟩
  have hWW : ∀ i, i ≠ 5 → i ≠ 0 → rrV M3 n i = M3 i := fun i a _ => rrV_nf a
  rcases hk with ⟨k1, k2, k3, k4, k5, k6, k7, k8, k9⟩ | ⟨k1, k2, k3, k4, k5, k6, k7, k8⟩
  · -- a repeat
    subst k1
    have hrb : rrB M3 n = withinB o 0 (nI n - 1) := by unfold rrB; rw [h6]; exact num_eq hn
    cases ho : withinB o 0 (nI n - 1) with
    | false =>
      exact bad (rrC_1 h0 (hrb.trans ho)) (arOk_1 k6 (by rw [k7]; exact ho)) hWW
    | true =>
      obtain ⟨oo, hoo, hoe⟩ := shNat hn ho
      have hcl : o.toNatClampNeg = oo := by rw [hoe]; exact nI_clamp (by omega)
      have hv : rrV M3 n = up (up M3 5 1 (M3 30 oo)) 5 4 (M3 33 oo) := by rw [rrV_t h0 (hrb.trans ho), h6, hcl]
      have e30 : M3 30 oo = RF U 1 oo := hP.2.2.2.2 1 (by decide) oo hoo
      have e33 : M3 33 oo = RF U 4 oo := hP.2.2.2.2 4 (by decide) oo hoo
      obtain ⟨_, b1, _, _, b4, _, _⟩ := hR.2.2.2.1 oo hoo
      have b1' : 0 ≤ (RF U 1 oo).toInt ∧ (RF U 1 oo).toInt ≤ 5 := b1
      have b4' : 5 ≤ (RF U 4 oo).toInt ∧ (RF U 4 oo).toInt ≤ 240 := b4
      have v0 : rrV M3 n 5 0 = 2 := by rw [hv, up_nk (by decide), up_nk (by decide)]; exact h0
      have v1 : rrV M3 n 5 1 = RF U 1 oo := by rw [hv, up_nk (by decide), up_ss]; exact e30
      have v2 : rrV M3 n 5 2 = d := by rw [hv, up_nk (by decide), up_nk (by decide)]; exact h2
      have v3 : rrV M3 n 5 3 = st := by rw [hv, up_nk (by decide), up_nk (by decide)]; exact h3
      have v4 : rrV M3 n 5 4 = RF U 4 oo := by rw [hv, up_ss]; exact e33
      have v5 : rrV M3 n 5 5 = 0 := by rw [hv, up_nk (by decide), up_nk (by decide), h5]; exact k4
      have v6 : rrV M3 n 5 6 = nI oo := by rw [hv, up_nk (by decide), up_nk (by decide), h6]; exact hoe
      have hnr : ¬ (M3 5 0 = 2 ∧ rrB M3 n = false) := fun q => by rw [hrb, ho] at q; cases q.2
      have hrange : rightB (RF U 1 oo) d st (RF U 4 oo) 0 = withinB st 0 1439 := by
        have w1 : withinB (RF U 1 oo) 0 5 = true := win_t.mpr b1'
        have w4 : withinB (RF U 4 oo) 5 240 = true := win_t.mpr b4'
        have w5 : decide ((0 : Int32) ≤ RF U 4 oo) = true := decide_eq_true (t_le.mpr (by rw [t_0]; omega))
        unfold rightB
        rw [w1, k5, w4, w5, show withinB 0 0 30 = true from rfl]
        simp
      cases hst : withinB st 0 1439 with
      | false =>
        exact bad (rrC_2 hnr (by rw [v1, v2, v3, v4, v5, range_eq, hrange]; exact hst)) (arOk_2 k6 (by rw [k9]; exact hst)) hWW
      | true =>
        obtain ⟨gg, hgg, hgg2⟩ := nat_of (x := RF U 1 oo) (by omega)
        have harO : arO U e = oo := by unfold arO; rw [k7]; exact hcl
        have hat : arT U e = tapeV U 2 (RF U 1 oo) d st (RF U 4 oo) 0 (nI oo) := by unfold arT; rw [if_pos k6, harO, k8, k9]
        have hgc : (RF U 1 oo).toNatClampNeg = gg := by rw [hgg]; exact nI_clamp (by omega)
        obtain ⟨t0, t1, t2, t3, t4, t5, t6, t7⟩ := tape_at (V := U) (k := 2) (g := RF U 1 oo) (d := d) (s := st) (l := RF U 4 oo) (sp := 0) (o := nI oo)
        refine fin (tapeV U 2 (RF U 1 oo) d st (RF U 4 oo) 0 (nI oo)) gg oo oo hWW (fun i hi => tape_nf hi) (fun y => ?_) ?_ (t1.trans hgg) (by omega) (Or.inl ⟨t0, t7, hoo, rfl⟩) ?_ (arOk_3 k6 (by rw [k7]; exact ho) (by rw [k9]; exact hst)) ?_ hat
        · exact prp_of ((up_no (by decide)).trans v0) ((up_no (by decide)).trans v1) ((up_no (by decide)).trans v2) ((up_no (by decide)).trans v3) ((up_no (by decide)).trans v4) ((up_no (by decide)).trans v5) ((up_no (by decide)).trans v6)
        · rw [t1, t2, t3, t4, t5, hrange]; exact hst
        · rw [rrC_3 hnr (by rw [v1, v2, v3, v4, v5, range_eq, hrange]; exact hst), v1, h6, hgc, hcl]
        · unfold arR; rw [hat, harO]; unfold arG; rw [if_pos k6, harO, hgc]
  · -- a show of its own
    have hk2 : ¬ k = 2 := by rcases k1 with q | q <;> rw [q] <;> decide
    have hv : rrV M3 n = M3 := rrV_f (by rw [h0]; exact hk2)
    have hnr : ¬ (M3 5 0 = 2 ∧ rrB M3 n = false) := fun q => hk2 (h0.symm.trans q.1)
    have hu2 : ¬ U 209 e = 2 := by rw [k3]; exact hk2
    cases hr : rightB g d st ln sp with
    | false => exact bad (rrC_2 hnr (by rw [hv, h1, h2, h3, h4, h5, range_eq]; exact hr)) (arOk_4 hu2 (by rw [k4, k5, k6, k7, k8]; exact hr)) hWW
    | true =>
      obtain ⟨gg, hg6, hgg⟩ := right_g hr
      have hat : arT U e = tapeV U k g d st ln sp (-1) := by unfold arT; rw [if_neg hu2, k3, k4, k5, k6, k7, k8]
      have hgc : g.toNatClampNeg = gg := by rw [hgg]; exact nI_clamp (by omega)
      obtain ⟨t0, t1, t2, t3, t4, t5, t6, t7⟩ := tape_at (V := U) (k := k) (g := g) (d := d) (s := st) (l := ln) (sp := sp) (o := -1)
      refine fin (tapeV U k g d st ln sp (-1)) gg (M3 5 6).toNatClampNeg (arO U e) hWW (fun i hi => tape_nf hi) (fun y => ?_) ?_ (t1.trans hgg) hg6 (Or.inr ⟨by rw [t0]; exact k1, t7⟩) ?_ (arOk_4 hu2 (by rw [k4, k5, k6, k7, k8]; exact hr)) ?_ hat
      · rw [hv]
        exact prp_of ((up_no (by decide)).trans h0) ((up_no (by decide)).trans h1) ((up_no (by decide)).trans h2) ((up_no (by decide)).trans h3) ((up_no (by decide)).trans h4) ((up_no (by decide)).trans h5) ((up_no (by decide)).trans (h6.trans k2))
      · rw [t1, t2, t3, t4, t5]; exact hr
      · rw [rrC_3 hnr (by rw [hv, h1, h2, h3, h4, h5, range_eq]; exact hr), hv, h1, hgc]
      · unfold arR; rw [hat]; unfold arG; rw [if_neg hu2, k4, hgc]

theorem bec_at {V : VV} {k g d s l sp o : Int32} : becomeV V k g d s l sp o 5 0 = k ∧ becomeV V k g d s l sp o 5 1 = g ∧ becomeV V k g d s l sp o 5 2 = d ∧ becomeV V k g d s l sp o 5 3 = s ∧ becomeV V k g d s l sp o 5 4 = l ∧ becomeV V k g d s l sp o 5 5 = sp ∧ becomeV V k g d s l sp o 5 6 = o := by
  simp [becomeV, up]
theorem arV_39 {U : VV} {n e : Nat} (h : arC U n e ≠ 0) : arV U n e 201 = U 201 := by
  unfold arV
  split
  · rename_i q
    rw [if_neg (fun z => h (by unfold arC; rw [if_pos q]; exact z)), arT_nf (by decide)]
  · rfl
/-- the loop that loads: both sides -/
theorem lod_rel {l : Nat} : ∀ {k : Nat} {M U A W : VV} {n a j c f : Nat}, l - a ≤ k → j + k ≤ 70 → l ≤ 60 → a < l → P2 M 20 (U 201) n → Rw (U 201) n → Ch M A l → St A j 0 → rtP (l - a) A a = (l, W) → FinB W = true → (∀ i, U 209 i = W 209 i) → M 0 6 = 0 → U 200 4 = 0 → j + f = toN (W 200 15) + 1 →
    ∃ n2, P2 (lcM l k M n a c).1 20 ((ldP f U n j).1 201) n2 ∧ Rw ((ldP f U n j).1 201) n2 ∧ (lcM l k M n a c).2 + j = c + (ldP f U n j).2 ∧ (lcM l k M n a c).2 ≤ c + k ∧ (lcM l k M n a c).1 0 6 = (ldP f U n j).1 200 4 ∧
      (∀ i, i ≠ 0 → i ≠ 3 → i ≠ 5 → i ≠ 20 → ¬ (29 ≤ i ∧ i ≤ 36) → (lcM l k M n a c).1 i = M i) ∧ (∀ i, i ≠ 6 → (lcM l k M n a c).1 0 i = M 0 i) ∧ (∀ i, i ≠ 7 → (lcM l k M n a c).1 20 i = M 20 i) ∧ (∃ b, (lcM l k M n a c).1 3 2 = nI b) ∧
      (∀ i, i ≠ 200 → i ≠ 201 → i ≠ 204 → (ldP f U n j).1 i = U i) ∧ ∀ i, i ≠ 4 → (ldP f U n j).1 200 i = U 200 i
  | 0, M, U, A, W, n, a, j, c, f, hk, _, _, hal, _, _, _, _, _, _, _, _, _, _ => absurd hk (by omega)
  | k + 1, M, U, A, W, n, a, j, c, f, hk, hjk, hl, hal, hP, hR, hc, hA, hrt, hF, h9, hM0, hU4, hf => by
    have g := sh_go (x := M 3 3) hc hA (by omega) (Nat.le_of_lt hal)
    have hok : (shT M l a (M 3 3)).1 = true := by
      cases q : (shT M l a (M 3 3)).1 with
      | true => rfl
      | false =>
        have hfl := g.1 q
        unfold Fl at hfl
        rw [hrt] at hfl
        have := hfl.2 hfl.1.symm
        rw [hF] at this; cases this
    obtain ⟨⟨A2, r1, r2, r3, r4, ⟨s, d1, d2, d3, d4⟩, r6, r7⟩, r8⟩ := g.2 hok
    have hsm := (sh_le (V := M) (x := M 3 3) (Nat.le_of_lt hal)).2
    have hb3 : lc3 M l a 5 = (shT M l a (M 3 3)).2.1 5 := by unfold lc3; rw [stT_nf (by decide)]
    have hlc2 : lc2 M l a = if sgB (shT M l a (M 3 3)).2.1 l (shT M l a (M 3 3)).2.2.1 59 = true then (shT M l a (M 3 3)).2.2.1 + 1 else (shT M l a (M 3 3)).2.2.1 := rfl
    have hc2 : Ch (shT M l a (M 3 3)).2.1 A2 l := fun i hi => by rw [sm5_f hsm (by decide)]; exact ch_s hc r2 i hi
    have h3i : ∀ i, i ≠ 3 → i ≠ 5 → lc3 M l a i = M i := fun i a b => lc3_nf (by omega) a b
    rw [hrt] at r1
    generalize (shT M l a (M 3 3)).2.2.1 = b at *
    -- what comes behind the show
    have hnext : (b = l ∧ lc2 M l a = b ∧ W = A2 ∧ f = 1) ∨ ∃ A3, b + 1 < l ∧ lc2 M l a = b + 1 ∧ Ch M A3 l ∧ St A3 (j + 1) 0 ∧ rtP (l - (b + 1)) A3 (b + 1) = (l, W) ∧ (∀ i, A3 209 i = A2 209 i) ∧ (∀ i, i < 6 * (j + 1) → W 209 i = A2 209 i) ∧ 1 < f := by
      by_cases hbl : b = l
      · refine Or.inl ⟨hbl, ?_, ?_, ?_⟩
        · rw [hlc2, sg_f1 (by omega), if_neg (by decide)]
        · rw [hbl, Nat.sub_self] at r1
          exact congrArg Prod.snd r1
        · have e : W = A2 := by rw [hbl, Nat.sub_self] at r1; exact congrArg Prod.snd r1
          rw [e, d1.1, toN_nI (by omega)] at hf
          omega
      · have hbl2 : b < l := by omega
        have hd := d4 hbl2
        have ex : M 203 = M 203 := rfl
        cases q : decide (A2 203 b = 59) with
        | false =>
          have hfl := fl_rej (l := l) d1 (by omega) (by omega) hbl2 (hd.1.trans q)
          unfold Fl at hfl
          rw [← r1] at hfl
          exact absurd hfl.1.symm hbl
        | true =>
          have ex := of_decide_eq_true q
          have n1 := nx_step (s2 := 0) (t2 := j + 1) d1 (by omega) (by omega) hbl2 (hd.1.trans q) (by
            rw [hd.2 ex]; unfold enV; rw [if_pos rfl]
            exact ⟨(up_nk (by decide)).trans up_ss, up_ss⟩)
          have e9 : ∀ i, (tkP A2 j s (A2 203 b)).2 209 i = A2 209 i := fun i => by
            rw [hd.2 ex]; unfold enV; rw [if_pos rfl, up_no (by decide), up_no (by decide)]
          have hr3 : rtP (l - (b + 1)) (tkP A2 j s (A2 203 b)).2 (b + 1) = (l, W) := n1.1.symm.trans r1.symm
          have hne : b + 1 < l := by
            rcases Nat.lt_or_ge (b + 1) l with w | w
            · exact w
            · exfalso
              have e : b + 1 = l := by omega
              rw [e, Nat.sub_self] at hr3
              have eW : W = (tkP A2 j s (A2 203 b)).2 := (congrArg Prod.snd hr3).symm
              have := fin_s n1.2.1 (by omega) (by decide)
              rw [← eW, hF] at this
              rw [cm_f2 (by decide) (by decide) (by decide)] at this
              cases this
          obtain ⟨T, s3, k1, k2, k3, k4, k5⟩ := rt_keep (n := l - (b + 1)) (k := b + 1) n1.2.1 (by decide) (by omega)
          rw [hr3] at k1 k5
          refine Or.inr ⟨_, hne, ?_, ch_s (fun i hi => (ch_s hc r2) i hi) n1.2.2.1, n1.2.1, hr3, e9, fun i hi => (k5 i hi).trans (e9 i), ?_⟩
          · rw [hlc2, sg_eq hc2 hbl2, q, if_pos rfl]
          · have e := k1.1
            change W 200 15 = nI T at e
            rw [e, toN_nI (by omega)] at hf
            omega
    have hrow : ∀ i, i < 6 * (j + 1) → U 209 i = A2 209 i := fun i hi => by
      rw [h9]
      rcases hnext with ⟨_, _, e, _⟩ | ⟨A3, _, _, _, _, _, _, e, _⟩
      · rw [e]
      · exact e i hi
    have hf1 : ∃ f', f = f' + 1 := ⟨f - 1, by rcases hnext with ⟨_, _, _, e⟩ | ⟨A3, _, _, _, _, _, _, _, e⟩ <;> omega⟩
    obtain ⟨f', rfl⟩ := hf1
    have hP3 : P2 (lc3 M l a) 20 (U 201) n := P2.cg hR.1 (fun i p q => h3i i (by omega) (by omega)) (fun _ _ => rfl) hP
    have hone : rrC (lc3 M l a) n = arC U n (6 * j) ∧ (rrC (lc3 M l a) n = 0 → ∀ y, let MM := up (rrV (lc3 M l a) n) 0 6 y
        plS MM n ≤ n ∧ P2 (insV MM n (plS MM n)) 20 (arV U n (6 * j) 201) (n + 1) ∧ Rw (arV U n (6 * j) 201) (n + 1)) ∧ (rrC (lc3 M l a) n ≠ 0 → ∀ y, P2 (up (rrV (lc3 M l a) n) 0 6 y) 20 (arV U n (6 * j) 201) n ∧ Rw (arV U n (6 * j) 201) n) := by
      rcases r7 with ⟨q1, q2, q3⟩ | ⟨q1, q3⟩
      · rw [q3] at hb3
        obtain ⟨b0, b1, b2, b3, b4, b5, b6⟩ := bec_at (V := M) (k := 2) (g := 0) (d := A2 209 (6 * j + 2)) (s := A2 209 (6 * j + 3)) (l := 0) (sp := 0) (o := A2 209 (6 * j + 1))
        exact one_rel hP3 hR ((congrFun hb3 0).trans b0) ((congrFun hb3 1).trans b1) ((congrFun hb3 2).trans b2) ((congrFun hb3 3).trans b3) ((congrFun hb3 4).trans b4) ((congrFun hb3 5).trans b5) ((congrFun hb3 6).trans b6)
          (Or.inl ⟨rfl, rfl, rfl, rfl, q2, (hrow _ (by omega)).trans q1, hrow _ (by omega), hrow _ (by omega), hrow _ (by omega)⟩)
      · rw [q3] at hb3
        obtain ⟨b0, b1, b2, b3, b4, b5, b6⟩ := bec_at (V := M) (k := A2 209 (6 * j)) (g := A2 209 (6 * j + 1)) (d := A2 209 (6 * j + 2)) (s := A2 209 (6 * j + 3)) (l := A2 209 (6 * j + 4)) (sp := A2 209 (6 * j + 5)) (o := -1)
        exact one_rel hP3 hR ((congrFun hb3 0).trans b0) ((congrFun hb3 1).trans b1) ((congrFun hb3 2).trans b2) ((congrFun hb3 3).trans b3) ((congrFun hb3 4).trans b4) ((congrFun hb3 5).trans b5) ((congrFun hb3 6).trans b6)
          (Or.inr ⟨q1, rfl, hrow _ (by omega), hrow _ (by omega), hrow _ (by omega), hrow _ (by omega), hrow _ (by omega), hrow _ (by omega)⟩)
    obtain ⟨o1, o2, o3⟩ := hone
    have hcV : ∀ i, i ≠ 3 → i ≠ 5 → i ≠ 0 → lcV M l n a i = M i := fun i p q r => lcV_nf (by omega) p q r
    have hcV0 : ∀ i, i ≠ 6 → lcV M l n a 0 i = M 0 i := fun i hi => by
      unfold lcV; rw [up_nk hi, rrV_nf (by decide), h3i 0 (by decide) (by decide)]
    have hcV6 : lcV M l n a 0 6 = lcC M l n a := by unfold lcV; exact up_ss
    have hcV32 : lcV M l n a 3 2 = nI (lc2 M l a) := by unfold lcV; rw [up_no (by decide), rrV_nf (by decide)]; exact lc3_32
    have hUa : ∀ i, i ≠ 201 → i ≠ 204 → arV U n (6 * j) i = U i := fun i p q => funext fun x => ar_no p q
    by_cases hz : lcC M l n a = 0
    · have hz2 : arC U n (6 * j) = 0 := o1.symm.trans hz
      obtain ⟨p1, p2, p3⟩ := o2 hz (lcC M l n a)
      rw [lcM_4 hal hM0 hz, show ldP (f' + 1) U n j = ldP f' (up (arV U n (6 * j)) 200 4 0) (n + 1) (j + 1) from if_pos hz2]
      have hins : ∀ i, ¬ (29 ≤ i ∧ i ≤ 36) → i ≠ 20 → insV (lcV M l n a) n (plS (lcV M l n a) n) i = lcV M l n a i := fun i p q => ins_nf p q
      have hins20 : ∀ i, i ≠ 7 → insV (lcV M l n a) n (plS (lcV M l n a) n) 20 i = M 20 i := fun i p => (ins_20 p).trans (congrFun (hcV 20 (by decide) (by decide) (by decide)) i)
      have p2' : P2 (insV (lcV M l n a) n (plS (lcV M l n a) n)) 20 (arV U n (6 * j) 201) (n + 1) := p2
      generalize insV (lcV M l n a) n (plS (lcV M l n a) n) = Y at *
      generalize arV U n (6 * j) = Z at *
      have hUU : (up Z 200 4 0) 201 = Z 201 := up_nf (by decide)
      have y06 : Y 0 6 = 0 := by rw [hins 0 (by decide) (by decide), hcV6]; exact hz
      have yi : ∀ i, i ≠ 0 → i ≠ 3 → i ≠ 5 → i ≠ 20 → ¬ (29 ≤ i ∧ i ≤ 36) → Y i = M i := fun i q0 q3 q5 q20 q29 => by rw [hins i q29 q20, hcV i q3 q5 q0]
      have y0 : ∀ i, i ≠ 6 → Y 0 i = M 0 i := fun i hi => by rw [hins 0 (by decide) (by decide)]; exact hcV0 i hi
      have zi : ∀ i, i ≠ 200 → i ≠ 201 → i ≠ 204 → (up Z 200 4 0) i = U i := fun i q0 q1 q4 => by rw [up_nf q0]; exact hUa i q1 q4
      have z0 : ∀ i, i ≠ 4 → (up Z 200 4 0) 200 i = U 200 i := fun i hi => by rw [up_nk hi]; exact congrFun (hUa 200 (by decide) (by decide)) i
      rcases hnext with ⟨e1, e2, e3, e4⟩ | ⟨A3, e1, e2, e3, e4, e5, e6, e7, e8⟩
      · have : f' = 0 := by omega
        subst this
        have hend : lcM l k Y (n + 1) (lc2 M l a) (c + 1) = (Y, c + 1) := by
          cases k with
          | zero => rfl
          | succ k => exact lcM_1 (by omega)
        rw [hend, show ldP 0 (up Z 200 4 0) (n + 1) (j + 1) = (up Z 200 4 0, j + 1) from rfl]
        dsimp only
        refine ⟨n + 1, by rw [hUU]; exact p2', by rw [hUU]; exact p3, by omega, by omega, y06.trans up_ss.symm, yi, y0, hins20, ⟨lc2 M l a, ?_⟩, zi, z0⟩
        rw [hins 3 (by decide) (by decide)]; exact hcV32
      · rw [e2]
        have ih := lod_rel (k := k) (M := Y) (U := up Z 200 4 0) (A := A3) (W := W) (n := n + 1) (a := b + 1) (j := j + 1) (c := c + 1) (f := f') (by omega) (by omega) hl e1 (by rw [hUU]; exact p2') (by rw [hUU]; exact p3) (fun i hi => by rw [hins 4 (by decide) (by decide), hcV 4 (by decide) (by decide) (by decide)]; exact e3 i hi) e4 e5 hF (fun i => by rw [up_no (by decide), hUa 209 (by decide) (by decide)]; exact h9 i) y06 up_ss (by omega)
        obtain ⟨n2, i1, i2, i3, i4, i5, i6, i7, i8, i9, i10, i11⟩ := ih
        exact ⟨n2, i1, i2, by omega, by omega, i5, fun i q0 q3 q5 q20 q29 => (i6 i q0 q3 q5 q20 q29).trans (yi i q0 q3 q5 q20 q29), fun i hi => (i7 i hi).trans (y0 i hi), fun i hi => (i8 i hi).trans (hins20 i hi), i9, fun i q0 q1 q4 => (i10 i q0 q1 q4).trans (zi i q0 q1 q4), fun i hi => (i11 i hi).trans (z0 i hi)⟩
    · have hz2 : ¬ arC U n (6 * j) = 0 := fun q => hz (o1.trans q)
      obtain ⟨p2, p3⟩ := o3 hz (lcC M l n a)
      have p2' : P2 (lcV M l n a) 20 (arV U n (6 * j) 201) n := p2
      rw [lcM_3 hal hM0 hz, show ldP (f' + 1) U n j = (up (arV U n (6 * j)) 200 4 (arC U n (6 * j)), j) from if_neg hz2]
      have hend : lcM l k (lcV M l n a) n (lc2 M l a) c = (lcV M l n a, c) := by
        cases k with
        | zero => rfl
        | succ k => exact lcM_2 (by rw [hcV6]; exact hz)
      rw [hend]
      dsimp only
      have hUU : ∀ y, (up (arV U n (6 * j)) 200 4 y) 201 = arV U n (6 * j) 201 := fun y => up_nf (by decide)
      refine ⟨n, by rw [hUU]; exact p2', by rw [hUU]; exact p3, by omega, by omega, hcV6.trans (Eq.trans o1 up_ss.symm), fun i q0 q3 q5 q20 q29 => hcV i q3 q5 q0, hcV0, fun i hi => congrFun (hcV 20 (by decide) (by decide) (by decide)) i, ⟨lc2 M l a, hcV32⟩, fun i q0 q1 q4 => ?_, fun i hi => ?_⟩
      · rw [up_nf q0]; exact hUa i q1 q4
      · rw [up_nk hi]; exact congrFun (hUa 200 (by decide) (by decide)) i
