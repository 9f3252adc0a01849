theorem zF_cg {z z2 : Nat → Int32} (h : ∀ j, j < 232 → z j = z2 j) {k s : Nat} (hk : k < 8) (hs : s < 24) : zF z k s = zF z2 k s := h _ (by omega)
theorem Rw.cg {z z2 : Nat → Int32} {n : Nat} (h : ∀ j, j < 232 → z j = z2 j) (H : Rw z2 n) : Rw z n := by
  obtain ⟨h1, h2, h3, h4, h5, h6⟩ := H
  have e : ∀ k, k < 8 → ∀ s, s < n → zF z k s = zF z2 k s := fun k hk s hs => zF_cg h hk (by omega)
  refine ⟨h1, (h 39 (by decide)).trans h2, fun k hk => by rw [h k (by omega)]; exact h3 k hk, fun s hs => shB_cg (fun k hk => e k (by omega) s hs) (h4 s hs), fun s hs => ?_, fun s t hst ht => ?_⟩
  · rw [e 7 (by decide) s hs, e 0 (by decide) s hs]
    rcases h5 s hs with c | ⟨c1, o, c2, c3, c4⟩
    · exact Or.inl c
    · exact Or.inr ⟨c1, o, c2, c3, by rw [e 0 (by decide) o (by omega)]; exact c4⟩
  · unfold keyT
    rw [e 2 (by decide) s (by omega), e 3 (by decide) s (by omega), e 2 (by decide) t ht, e 3 (by decide) t ht]
    exact h6 s t hst ht
theorem P2.cg {V V1 : VV} {b n : Nat} {z z2 : Nat → Int32} (hn : n ≤ 24) (hV : ∀ i, b ≤ i → i ≤ b + 16 → V1 i = V i) (h : ∀ j, j < 232 → z j = z2 j) (H : P2 V b z2 n) : P2 V1 b z n := by
  obtain ⟨h1, h2, h3, h4, h5⟩ := H
  refine ⟨fun k hk => ?_, fun g hg k hk => ?_, ?_, ?_, fun k hk s hs => ?_⟩
  · rw [hV (b + 1) (by omega) (by omega), h k (by omega)]; exact h1 k hk
  · rw [hV (b + 2 + k) (by omega) (by omega), h _ (by omega)]; exact h2 g hg k hk
  · rw [hV b (by omega) (by omega), h 38 (by decide)]; exact h3
  · rw [hV b (by omega) (by omega)]; exact h4
  · rw [hV (b + 9 + k) (by omega) (by omega), zF_cg h hk (by omega)]; exact h5 k hk s hs
theorem P2.pl {V V1 : VV} {b d n : Nat} {z : Nat → Int32} (hn : n ≤ 24) (hE : PlEq V b V1 d) (H : P2 V b z n) : P2 V1 d z n := by
  obtain ⟨h1, h2, h3, h4, h5⟩ := H
  obtain ⟨e1, e2, e3, e4, e5⟩ := hE
  exact ⟨fun k hk => (e1 k hk).trans (h1 k hk), fun g hg k hk => (e2 k hk g hg).trans (h2 g hg k hk), e3.trans h3, e4.trans h4, fun k hk s hs => (e5 k hk s (by omega)).trans (h5 k hk s hs)⟩
def zSv (V : VV) (j : Nat) : Nat → Int32 := fun i => V 202 (232 * j + i)
def slot (o j : Nat) : Nat := 40 + 20 * ((o + j) % 6)
/-- what is saved: m plans in the ring from o on, m rows from the first on -/
def SvI (V : VV) (N : NN) (o m : Nat) : Prop := ∀ j, j < m → N ((o + j) % 6) = false ∧ ∃ n, Rw (zSv V j) n ∧ P2 V (slot o j) (zSv V j) n
theorem SvI.cg {V V1 : VV} {N : NN} {o m : Nat} (h : ∀ i, 40 ≤ i → i ≤ 156 → V1 i = V i) (h2 : V1 202 = V 202) (H : SvI V N o m) : SvI V1 N o m := fun j hj => by
  obtain ⟨a, n, b, c⟩ := H j hj
  have ez : zSv V1 j = zSv V j := by unfold zSv; rw [h2]
  refine ⟨a, n, ez ▸ b, ez ▸ P2.cg b.1 (fun i h1 h2 => h i (by unfold slot at h1; omega) (by unfold slot at h2; omega)) (fun _ _ => rfl) c⟩
theorem sv_rel {V V1 V3 U : VV} {N N1 : NN} {o m n : Nat} (ho : o < 6) (hm : m ≤ 6) (hS : SvI V N o m) (hP : P2 V 20 (V 201) n) (hR : Rw (V 201) n) (hsv : SavP V N o m V1 N1) (h3 : ∀ i, 40 ≤ i → i ≤ 156 → V3 i = V1 i) (hU1 : U 201 = V 201) (hU2 : U 202 = V 202) (hz : V3 202 = svR U m 202) : SvI V3 N1 (svO o m) (svM m + 1) := by
  obtain ⟨s1, s2, s3, s4, s5⟩ := hsv
  have hkeep : ∀ j, j < 6 → j ≠ svP o m → ∀ i, 40 + 20 * j ≤ i → i ≤ 40 + 20 * j + 16 → V3 i = V i := fun j hj hjp i h1 h2 => by
    rw [h3 i (by omega) (by omega)]
    funext q
    exact s1 i q (by omega) (by omega)
  have hnew : ∀ (d : Nat), d = 40 + 20 * svP o m → ∀ zz : Nat → Int32, (∀ i, i < 232 → zz i = V 201 i) → ∃ n, Rw zz n ∧ P2 V3 d zz n := fun d hd zz hzz => by
    subst hd
    have hp := svP_lt (o := o) (m := m)
    exact ⟨n, Rw.cg hzz hR, P2.cg hR.1 (fun i h1 h2 => h3 i (by omega) (by omega)) hzz (P2.pl hR.1 s4 hP)⟩
  by_cases e6 : m = 6
  · subst e6
    have ho' : svO o 6 = (o + 1) % 6 := rfl
    have hm' : svM 6 + 1 = 6 := rfl
    have hp' : svP o 6 = ((o + 1) % 6 + 5) % 6 := rfl
    rw [ho', hm']
    intro j hj
    by_cases j5 : j = 5
    · subst j5
      refine ⟨by rw [s5]; exact if_pos hp'.symm, hnew _ (by rw [hp']; rfl) _ fun i hi => ?_⟩
      unfold zSv
      rw [hz]
      unfold svR
      rw [if_pos rfl, up_no (by decide)]
      unfold cpSv
      rw [if_pos ⟨rfl, by omega, by omega⟩, up_no (by decide), shSv_no (by decide), show 232 * 5 + i - 232 * 5 = i by omega, hU1]
    · obtain ⟨a, n1, b, c⟩ := hS (j + 1) (by omega)
      have ej : ((o + 1) % 6 + j) % 6 = (o + (j + 1)) % 6 := by omega
      have hne : ((o + 1) % 6 + j) % 6 ≠ svP o 6 := by rw [hp']; omega
      refine ⟨by rw [s5]; show (if _ then _ else _) = false; rw [if_neg hne, ej]; exact a, n1, ?_⟩
      have ez : ∀ i, i < 232 → zSv V3 j i = zSv V (j + 1) i := fun i hi => by
        unfold zSv
        rw [hz]
        unfold svR
        rw [if_pos rfl, up_no (by decide)]
        unfold cpSv
        rw [if_neg (by omega), up_no (by decide)]
        unfold shSv
        rw [if_pos ⟨rfl, by omega⟩, hU2, show 232 * j + i + 232 = 232 * (j + 1) + i by omega]
      refine ⟨Rw.cg ez b, ?_⟩
      have hs : slot ((o + 1) % 6) j = slot o (j + 1) := by unfold slot; rw [ej]
      rw [hs]
      refine P2.cg b.1 (fun i h1 h2 => hkeep ((o + (j + 1)) % 6) (by omega) (by rw [← ej]; exact hne) i (by unfold slot at h1; omega) (by unfold slot at h2; omega)) ez c
  · have ho' : svO o m = o := if_neg e6
    have hm' : svM m = m := if_neg e6
    have hp' : svP o m = (o + m) % 6 := by unfold svP; rw [ho', hm']
    rw [ho', hm']
    intro j hj
    by_cases jm : j = m
    · subst jm
      refine ⟨by rw [s5]; exact if_pos hp'.symm, hnew _ (by rw [hp']; rfl) _ fun i hi => ?_⟩
      unfold zSv
      rw [hz]
      unfold svR
      rw [if_neg e6, up_no (by decide)]
      unfold cpSv
      rw [if_pos ⟨rfl, by omega, by omega⟩, show 232 * j + i - 232 * j = i by omega, hU1]
    · obtain ⟨a, n1, b, c⟩ := hS j (by omega)
      have hne : (o + j) % 6 ≠ svP o m := by rw [hp']; omega
      refine ⟨by rw [s5]; show (if _ then _ else _) = false; rw [if_neg hne]; exact a, n1, ?_⟩
      have ez : ∀ i, i < 232 → zSv V3 j i = zSv V j i := fun i hi => by
        unfold zSv
        rw [hz]
        unfold svR
        rw [if_neg e6, up_no (by decide)]
        unfold cpSv
        rw [if_neg (by omega), hU2]
      refine ⟨Rw.cg ez b, P2.cg b.1 (fun i h1 h2 => hkeep ((o + j) % 6) (by omega) hne i (by unfold slot at h1; omega) (by unfold slot at h2; omega)) ez c⟩
/-- undoing: the last saved is the plan now -/
theorem un_rel {V V1 V3 : VV} {N : NN} {o m : Nat} (ho : o < 6) (hm : m ≤ 6) (hm0 : 0 < m) (hS : SvI V N o m) (hE : PlEq V (slot o (m - 1)) V1 20) (h3 : ∀ i, 20 ≤ i → i ≤ 36 → V3 i = V1 i) (hz : ∀ j, j < 232 → V3 201 j = V 202 (232 * (m - 1) + j)) : ∃ n, Rw (V3 201) n ∧ P2 V3 20 (V3 201) n := by
  obtain ⟨a, n, b, c⟩ := hS (m - 1) (by omega)
  have ez : ∀ j, j < 232 → V3 201 j = zSv V (m - 1) j := hz
  exact ⟨n, Rw.cg ez b, P2.cg b.1 h3 ez (P2.pl b.1 hE c)⟩
