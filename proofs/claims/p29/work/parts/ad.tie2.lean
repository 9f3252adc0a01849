-- the law's rows behind a change
def LI (V : VV) (N : NN) (I : List Nat) (T m : Nat) : Prop := ∃ n o l0, InvX V N I n o m l0 ∧ Tie V n T ∧ (0 ≤ (V 201 38).toInt ∧ (V 201 38).toInt ≤ T)
def ActP (V : VV) (L : LL) (T m : Nat) : PP := fun r1 V1 L1 N1 I1 => r1 = .inl (some (aI 1)) ∧ L1 = L ∧ (∀ i, 214 ≤ i ∧ i ≤ 217 → V1 i = V i) ∧ ∃ (V3 : VV) (m3 : Nat), (∀ i, ¬ (200 ≤ i ∧ i ≤ 209) → V3 i = V1 i) ∧ LI V3 N1 I1 (T + 1) m3 ∧ (m < 6 → m3 = m + 1 → ∀ j, j < 232 → V3 202 (232 * m + j) = V 201 j)
theorem Inv.m {V : VV} {N : NN} {I : List Nat} {k : Nat} (h : Inv V N I) (h2 : V 200 2 = nI k) (hk : k ≤ 6) : ∃ n o l0, InvX V N I n o k l0 := by
  obtain ⟨n, o, m, l0, h⟩ := h
  have hm := h.2.2.1.2.2.2.2
  obtain rfl : m = k := (nI_eq (by omega) (by omega)).mp (h.2.2.2.2.1.symm.trans h2)
  exact ⟨n, o, l0, h⟩
section
variable {V V1 V2 V3 W : VV} {L : LL} {N N2 : NN} {I I2 : List Nat} {n o m l0 T : Nat}
theorem InvX.law (h : InvX V N I n o m l0) (hs : ∀ i, i < 210 → W i = V i) : InvX W N I n o m l0 := h.sx (V1 := W) fun i j z => by rw [hs i (by unfold Scr at z; omega)]
theorem InvX.scr (h : InvX V N I n o m l0) (hs : ∀ i, ¬ (5 ≤ i ∧ i ≤ 19) → i < 210 → W i = V i) : InvX W N I n o m l0 := h.sx (V1 := W) fun i j z => by rw [hs i (by unfold Scr at z; omega) (by unfold Scr at z; omega)]
/-- nothing is saved: only what is written anew, the row behind all shows -/
theorem act_same (h : InvX V N I n o m l0) (ht : Tie V n T) (hw : 0 ≤ (V 201 38).toInt ∧ (V 201 38).toInt ≤ T) (hs : Su n (9 * n) V V1) (hT : T + 1 ≤ 900) : ActP V L T m (.inl (some (aI 1))) V1 L N I := by
  have e : ∀ i, ¬ (5 ≤ i ∧ i ≤ 19) → ¬ (218 ≤ i ∧ i ≤ 221) → i ≠ 213 → V1 i = V i := fun i a b c => hs.f a b c
  have ez : V1 201 = V 201 := hs.z
  refine ⟨rfl, rfl, fun i hi => e i (by omega) (by omega) (by omega), V1, m, fun _ _ => rfl, ⟨n, o, l0, h.scr fun i a b => e i a (by omega) (by omega), ?_, ?_⟩, fun _ z => absurd z (by omega)⟩
  · obtain ⟨a1, a2, a3, a4, a5, a6, a7, a8, id, b1, b2, b3⟩ := ht
    have eg : ∀ k, k < 9 → ∀ s, s < n → GF V1 k s = GF V k s := fun k hk s hs2 => hs 213 (9 * s + k) (by decide) (by decide) (by omega)
    have er : RF V1 = RF V := RF_z ez
    refine ⟨a1, hT, ?_, ?_, ?_, ?_, ?_, fun s hs2 k hk => ?_, id, fun s hs2 => ?_, b2, fun s hs2 => ?_⟩
    · rw [e 212 (by decide) (by decide) (by decide)]; exact a3
    · rw [e 212 (by decide) (by decide) (by decide), ez]; exact a4
    · rw [e 212 (by decide) (by decide) (by decide), e 0 (by decide) (by decide) (by decide)]; exact a5
    · rw [e 210 (by decide) (by decide) (by decide), ez]; exact a6
    · rw [e 211 (by decide) (by decide) (by decide), ez]; exact a7
    · rw [eg k (by omega) s hs2, er]; exact a8 s hs2 k hk
    · rw [eg 8 (by decide) s hs2]; exact ⟨(b1 s hs2).1, by have := (b1 s hs2).2; omega⟩
    · rw [eg 7 (by decide) s hs2, er]; exact b3 s hs2
  · rw [ez]; omega
/-- something is saved: by the class's contract -/
theorem act_mut (hx : InvX V N I n o m l0) {Z : (Nat → Int32) → Prop} {lr : Int32} (hcp : ∀ i, 214 ≤ i ∧ i ≤ 217 → W i = V i) (hz : W 201 = V 201) (hM : Mt2 W V2 N2 I2 m Z lr) (hT : ∀ V3 : VV, (∀ i, 210 ≤ i → V3 i = W i) → Z (V3 201) → V3 0 6 = lr → ∃ n2, V3 212 1 = nI n2 ∧ V3 201 39 = nI n2 ∧ Tie V3 n2 (T + 1) ∧ (0 ≤ (V3 201 38).toInt ∧ (V3 201 38).toInt ≤ ((T + 1 : Nat) : Int))) : ActP V L T m (.inl (some (aI 1))) V2 L N2 I2 := by
  obtain ⟨q1, V3, q2, q3, q4, q5, q6⟩ := hM
  have e210 : ∀ i, 210 ≤ i → V3 i = W i := fun i hi => (q2 i (by omega)).trans (q1 i hi)
  obtain ⟨n2, d1, d2, d3, d4⟩ := hT V3 e210 q4 q6
  obtain ⟨n3, o3, m3, l3, hI3⟩ := q3
  have hm6 := hx.2.2.1.2.2.2.2
  have hm36 := hI3.2.2.1.2.2.2.2
  have hn3 : n3 = n2 := (nI_eq (by have := hI3.2.1.1; omega) (by have := d3.1; omega)).mp (hI3.2.1.2.1.symm.trans d2)
  subst hn3
  refine ⟨rfl, rfl, fun i hi => (q1 i (by omega)).trans (hcp i hi), V3, m3, q2, ⟨n3, o3, l3, hI3, d3, d4⟩, fun hm _ j hj => ?_⟩
  rw [(q5 hm).2 j hj, hz]
theorem tie_mk (ht : Tie V n T) (hT : T + 1 ≤ 900) (h210 : ∀ k, k < 8 → V3 210 k = V3 201 k) (h211 : ∀ j, j < 30 → V3 211 j = V3 201 (8 + j)) (hd1 : V3 212 1 = nI n) (hd0 : V3 212 0 = V3 201 38) (hd2 : V3 212 2 = V3 0 6) (hF : ∀ s, s < n → ∀ k, k < 7 → GF V3 k s = RF V3 k s)
    (h7 : ∀ s, s < n → RF V3 7 s = RF V 7 s ∧ RF V3 0 s = RF V 0 s ∧ GF V3 7 s = GF V 7 s ∧ GF V3 8 s = GF V 8 s) : Tie V3 n (T + 1) := by
  obtain ⟨a1, a2, a3, a4, a5, a6, a7, a8, id, b1, b2, b3⟩ := ht
  refine ⟨a1, hT, hd1, hd0, hd2, h210, h211, hF, id, fun s hs => ?_, b2, fun s hs => ?_⟩
  · rw [(h7 s hs).2.2.2]; exact ⟨(b1 s hs).1, by have := (b1 s hs).2; omega⟩
  · rw [(h7 s hs).1, (h7 s hs).2.1, (h7 s hs).2.2.1]; exact b3 s hs
/-- one number of the row, one of the law's -/
theorem tie_one (hR : Rw (V 201) n) (ht : Tie V n T) (hT : T + 1 ≤ 900) (hw : 0 ≤ (V 201 38).toInt ∧ (V 201 38).toInt ≤ T) {a p q : Nat} {v : Int32} (hc : (a = 210 ∧ p < 8 ∧ q = p) ∨ (a = 211 ∧ p < 30 ∧ q = 8 + p ∧ p % 5 = 0) ∨ (a = 213 ∧ ∃ s, s < n ∧ p = 9 * s + 6 ∧ q = 40 + 8 * s + 6))
    (e : ∀ i, 210 ≤ i → V3 i = up V a p v i) (hz : ∀ j, V3 201 j = if j = q then v else V 201 j) (h6 : V3 0 6 = V 0 6) : ∃ n2, V3 212 1 = nI n2 ∧ V3 201 39 = nI n2 ∧ Tie V3 n2 (T + 1) ∧ (0 ≤ (V3 201 38).toInt ∧ (V3 201 38).toInt ≤ ((T + 1 : Nat) : Int)) := by
  have hn6 := ht.n6
  have e212 : V3 212 = V 212 := by rw [e 212 (by decide), up_nf (by omega)]
  have hzn : ∀ j, j ≠ q → V3 201 j = V 201 j := fun j hj => by rw [hz, if_neg hj]
  have hzq : V3 201 q = v := by rw [hz, if_pos rfl]
  refine ⟨n, by rw [e212]; exact ht.d1, by rw [hzn 39 (by omega)]; exact hR.2.1, tie_mk ht hT (fun k hk => ?_) (fun j hj => ?_) (by rw [e212]; exact ht.d1) (by rw [e212, hzn 38 (by omega)]; exact ht.2.2.2.1) (by rw [e212, h6]; exact ht.2.2.2.2.1) (fun s hs k hk => ?_) (fun s hs => ?_), by rw [hzn 38 (by omega)]; omega⟩
  · rw [e 210 (by decide)]
    rcases hc with ⟨rfl, c2, rfl⟩ | ⟨rfl, c2, rfl, _⟩ | ⟨rfl, s, c1, c2, rfl⟩
    · by_cases w : k = q
      · rw [w, up_ss, hzq]
      · rw [up_nk w, hzn k w]; exact ht.se k hk
    · rw [up_no (by decide), hzn k (by omega)]; exact ht.se k hk
    · rw [up_no (by decide), hzn k (by omega)]; exact ht.se k hk
  · rw [e 211 (by decide)]
    rcases hc with ⟨rfl, c2, rfl⟩ | ⟨rfl, c2, rfl, _⟩ | ⟨rfl, s, c1, c2, rfl⟩
    · rw [up_no (by decide), hzn _ (by omega)]; exact ht.gr hj
    · by_cases w : j = p
      · rw [w, up_ss, hzq]
      · rw [up_nk w, hzn _ (by omega)]; exact ht.gr hj
    · rw [up_no (by decide), hzn _ (by omega)]; exact ht.gr hj
  · show V3 213 (9 * s + k) = V3 201 (40 + 8 * s + k)
    rw [e 213 (by decide)]
    rcases hc with ⟨rfl, c2, rfl⟩ | ⟨rfl, c2, rfl, _⟩ | ⟨rfl, s2, c1, c2, rfl⟩
    · rw [up_no (by decide), hzn _ (by omega)]; exact ht.f hs hk
    · rw [up_no (by decide), hzn _ (by omega)]; exact ht.f hs hk
    · by_cases w : s = s2 ∧ k = 6
      · obtain ⟨rfl, rfl⟩ := w
        rw [c2, up_ss, hzq]
      · rw [up_nk (by omega), hzn _ (by omega)]; exact ht.f hs hk
  · have g : ∀ c, c = 7 ∨ c = 8 → GF V3 c s = GF V c s := fun c hcc => by
      show V3 213 (9 * s + c) = V 213 (9 * s + c)
      rw [e 213 (by decide)]
      rcases hc with ⟨rfl, c2, rfl⟩ | ⟨rfl, c2, rfl, _⟩ | ⟨rfl, s2, c1, c2, rfl⟩
      · rw [up_no (by decide)]
      · rw [up_no (by decide)]
      · rw [up_nk (by omega)]
    have r : ∀ c, c = 7 ∨ c = 0 → RF V3 c s = RF V c s := fun c hcc => hzn _ (by rcases hc with ⟨rfl, c2, rfl⟩ | ⟨rfl, c2, rfl, _⟩ | ⟨rfl, s2, c1, c2, rfl⟩ <;> omega)
    exact ⟨r 7 (Or.inl rfl), r 0 (Or.inr rfl), g 7 (Or.inl rfl), g 8 (Or.inr rfl)⟩
/-- a new show -/
theorem tie_new (ht : Tie V n T) (hn6 : n + 1 ≤ 6) (hT : T + 1 ≤ 900) (hw : 0 ≤ (V 201 38).toInt ∧ (V 201 38).toInt ≤ T) (hO : OrB (RF V) n) {p : Nat} (hp : p ≤ n) {fr : Nat → Int32} {x : Int32} (hpx : plcR (keyS (RF V)) x n = p)
    {kd g d st ln sp og : Int32} (hfr : fr 0 = kd ∧ fr 1 = g ∧ fr 2 = d ∧ fr 3 = st ∧ fr 4 = ln ∧ fr 5 = sp ∧ fr 6 = 0) (h7 : (kd ≠ 2 ∧ fr 7 = -1 ∧ og = -1) ∨ (kd = 2 ∧ ∃ q, q < n ∧ q < p ∧ fr 7 = nI q ∧ og = GF V 8 q))
    (e : ∀ i, 210 ≤ i → V3 i = snkV (up (layV V n kd g d st ln sp og (nI T)) 212 2 0) n p i) (hz : NewZ V n fr x (V3 201)) (h6 : V3 0 6 = 0) (h39 : V3 201 39 = nI (n + 1)) : Tie V3 (n + 1) (T + 1) := by
  obtain ⟨z1, z2, z3, _⟩ := hz
  rw [hpx] at z2 z3
  obtain ⟨a1, a2, a3, a4, a5, a6, a7, a8, id, b1, b2, b3⟩ := id ht
  obtain ⟨f0, f1, f2, f3, f4, f5, f6⟩ := hfr
  have hU : ∀ c, c < 9 → ∀ s, s < n → GF (up (layV V n kd g d st ln sp og (nI T)) 212 2 0) c s = GF V c s := fun c hc s hs => by
    show up (layV V n kd g d st ln sp og (nI T)) 212 2 0 213 (9 * s + c) = _
    rw [up_no (by decide)]
    exact lay_lo hs hc
  obtain ⟨l0, l1, l2, l3, l4, l5, l6, l7, l8⟩ := lay_at (M := V) (n := n) (k := kd) (g := g) (d := d) (st := st) (ln := ln) (sp := sp) (o := og) (id := nI T)
  have hUn : ∀ c, GF (up (layV V n kd g d st ln sp og (nI T)) 212 2 0) c n = GF (layV V n kd g d st ln sp og (nI T)) c n := fun c => by
    show up (layV V n kd g d st ln sp og (nI T)) 212 2 0 213 (9 * n + c) = _
    rw [up_no (by decide)]; rfl
  have hG : ∀ c, c < 9 → ∀ s, s ≤ n → GF V3 c s = if s < p then GF V c s else if s = p then GF (layV V n kd g d st ln sp og (nI T)) c n else GF V c (s - 1) := fun c hc s hs => by
    have e1 : GF V3 c s = GF (snkV (up (layV V n kd g d st ln sp og (nI T)) 212 2 0) n p) c s := by
      show V3 213 _ = snkV _ n p 213 _
      rw [e 213 (by decide)]
    rw [e1]
    by_cases h1 : s < p
    · rw [if_pos h1, snk_lo h1 hc, hU c hc s (by omega)]
    · rw [if_neg h1]
      by_cases h2 : s = p
      · subst h2
        rw [if_pos rfl, snk_at hs hc, hUn]
      · rw [if_neg h2, snk_hi (by omega) hs hc, hU c hc (s - 1) (by omega)]
  have h210 : V3 210 = V 210 := by rw [e 210 (by decide), sn_nf (by decide) (by decide), up_nf (by decide), lay_no (by decide)]
  have h211 : V3 211 = V 211 := by rw [e 211 (by decide), sn_nf (by decide) (by decide), up_nf (by decide), lay_no (by decide)]
  have h212 : ∀ j, j ≠ 1 → j ≠ 2 → V3 212 j = V 212 j := fun j hj hj2 => by rw [e 212 (by decide), sn_2 hj, up_nk hj2, lay_no (by decide)]
  refine ⟨hn6, hT, by rw [e 212 (by decide), sn_1], ?_, ?_, ?_, ?_, fun s hs k hk => ?_, fun s => if s < p then id s else if s = p then T else id (s - 1), fun s hs => ?_, fun s t hs ht2 hst => ?_, fun s hs => ?_⟩
  · rw [h212 0 (by decide) (by decide), z1 38 (by decide)]; exact a4
  · rw [e 212 (by decide), sn_2 (by decide), up_ss, h6]
  · intro k hk; rw [h210, z1 k (by omega)]; exact a6 k hk
  · intro j hj; rw [h211, z1 _ (by omega)]; exact a7 j hj
  · rw [hG k (by omega) s (by omega)]
    show _ = zF (V3 201) k s
    rw [z2 s (by omega) k hk]
    unfold insB
    by_cases h1 : s < p
    · rw [if_pos h1, if_pos h1]; exact a8 s (by omega) k hk
    · rw [if_neg h1, if_neg h1]
      by_cases h2 : s = p
      · rw [if_pos h2, if_pos h2]
        rcases (show k = 0 ∨ k = 1 ∨ k = 2 ∨ k = 3 ∨ k = 4 ∨ k = 5 ∨ k = 6 by omega) with rfl | rfl | rfl | rfl | rfl | rfl | rfl
        · exact l0.trans f0.symm
        · exact l1.trans f1.symm
        · exact l2.trans f2.symm
        · exact l3.trans f3.symm
        · exact l4.trans f4.symm
        · exact l5.trans f5.symm
        · exact l6.trans f6.symm
      · rw [if_neg h2, if_neg h2]; exact a8 (s - 1) (by omega) k hk
  · rw [hG 8 (by decide) s (by omega)]
    dsimp only
    by_cases h1 : s < p
    · rw [if_pos h1, if_pos h1]; exact ⟨(b1 s (by omega)).1, by have := (b1 s (by omega)).2; omega⟩
    · rw [if_neg h1, if_neg h1]
      by_cases h2 : s = p
      · rw [if_pos h2, if_pos h2]; exact ⟨l8, by omega⟩
      · rw [if_neg h2, if_neg h2]; exact ⟨(b1 (s - 1) (by omega)).1, by have := (b1 (s - 1) (by omega)).2; omega⟩
  · have hlt : ∀ u, u < n → id u < T := fun u hu => (b1 u hu).2
    dsimp only at hst
    by_cases s1 : s < p
    · rw [if_pos s1] at hst
      by_cases t1 : t < p
      · rw [if_pos t1] at hst; exact b2 s t (by omega) (by omega) hst
      · rw [if_neg t1] at hst
        by_cases t2 : t = p
        · rw [if_pos t2] at hst; have := hlt s (by omega); omega
        · rw [if_neg t2] at hst; have := b2 s (t - 1) (by omega) (by omega) hst; omega
    · rw [if_neg s1] at hst
      by_cases s2 : s = p
      · rw [if_pos s2] at hst
        by_cases t1 : t < p
        · rw [if_pos t1] at hst; have := hlt t (by omega); omega
        · rw [if_neg t1] at hst
          by_cases t2 : t = p
          · omega
          · rw [if_neg t2] at hst; have := hlt (t - 1) (by omega); omega
      · rw [if_neg s2] at hst
        by_cases t1 : t < p
        · rw [if_pos t1] at hst; have := b2 (s - 1) t (by omega) (by omega) hst; omega
        · rw [if_neg t1] at hst
          by_cases t2 : t = p
          · rw [if_pos t2] at hst; have := hlt (s - 1) (by omega); omega
          · rw [if_neg t2] at hst; have := b2 (s - 1) (t - 1) (by omega) (by omega) hst; omega
  · have r0 : RF V3 0 s = insB (RF V) fr p 0 s := z2 s (by omega) 0 (by decide)
    have r7 : RF V3 7 s = adj1 p (insB (RF V) fr p 7 s) := z3 s (by omega)
    rw [r0, r7, hG 7 (by decide) s (by omega)]
    have key : ∀ u, u < n → ((RF V 0 u ≠ 2 ∧ adj1 p (RF V 7 u) = -1 ∧ GF V 7 u = -1) ∨ RF V 0 u = 2 ∧ ∃ o, o < n + 1 ∧ adj1 p (RF V 7 u) = nI o ∧ GF V 7 u = nI (if o < p then id o else if o = p then T else id (o - 1))) := fun u hu => by
      rcases b3 u hu with ⟨c1, c2, c3⟩ | ⟨c1, o, c2, c3, c4⟩
      · exact Or.inl ⟨c1, by rw [c2, adj_m1 (by omega)], c3⟩
      · refine Or.inr ⟨c1, if o < p then o else o + 1, ?_, ?_, ?_⟩
        · split <;> omega
        · rw [c3]
          by_cases q : o < p
          · rw [if_pos q, adj_lo (by omega) q]
          · rw [if_neg q, adj_hi (by omega) (by omega)]
        · rw [c4]
          by_cases q : o < p
          · rw [if_pos q, if_pos q]
          · rw [if_neg q, if_neg (by omega), if_neg (by omega), Nat.add_sub_cancel]
    unfold insB
    by_cases h1 : s < p
    · rw [if_pos h1, if_pos h1, if_pos h1]; exact key s (by omega)
    · rw [if_neg h1, if_neg h1, if_neg h1]
      by_cases h2 : s = p
      · rw [if_pos h2, if_pos h2, if_pos h2, f0, l7]
        rcases h7 with ⟨c1, c2, c3⟩ | ⟨c1, q, c2, c3, c4, c5⟩
        · exact Or.inl ⟨c1, by rw [c2, adj_m1 (by omega)], c3⟩
        · exact Or.inr ⟨c1, q, by omega, by rw [c4, adj_lo (by omega) c3], by dsimp only; rw [c5, if_pos c3]; exact (b1 q c2).1⟩
      · rw [if_neg h2, if_neg h2, if_neg h2]; exact key (s - 1) (by omega)
end
