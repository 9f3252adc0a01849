-- the law's turns: what is kept between its calls
section
variable {V V1 M M0 W : VV} {N N0 : NN} {I I0 : List Nat} {n o m l0 T s t i a b c d : Nat}
theorem Tie.cg (h : Tie V n T) (e : ∀ i, i = 0 ∨ i = 201 ∨ (210 ≤ i ∧ i ≤ 213) → V1 i = V i) : Tie V1 n T := by
  obtain ⟨a1, a2, a3, a4, a5, a6, a7, a8, id, b1, b2, b3⟩ := h
  have eg : GF V1 = GF V := by funext k s; unfold GF; rw [e 213 (by omega)]
  have er : RF V1 = RF V := RF_z (e 201 (by omega))
  refine ⟨a1, a2, ?_, ?_, ?_, ?_, ?_, ?_, id, ?_, b2, ?_⟩
  · rw [e 212 (by omega)]; exact a3
  · rw [e 212 (by omega), e 201 (by omega)]; exact a4
  · rw [e 212 (by omega), e 0 (by omega)]; exact a5
  · rw [e 210 (by omega), e 201 (by omega)]; exact a6
  · rw [e 211 (by omega), e 201 (by omega)]; exact a7
  · rw [eg, er]; exact a8
  · rw [eg]; exact b1
  · rw [eg, er]; exact b3
theorem LI.cg (h : LI V N I T m) (e : ∀ i, ¬ (5 ≤ i ∧ i ≤ 19) → i < 214 → V1 i = V i) : LI V1 N I T m := by
  obtain ⟨n, o, l0, hX, ht, hw⟩ := h
  exact ⟨n, o, l0, hX.scr (fun i a b => e i a (by omega)), ht.cg (fun i hi => e i (by omega) (by omega)), by rw [e 201 (by decide) (by decide)]; exact hw⟩
theorem LI.sq (h : LI V N I T m) (hs : Sq V V1) : LI V1 N I T m := h.cg fun i a _ => hs i a
theorem LI.no (h : LI V N I T m) {i : Nat} (hi : i = 18 ∨ (200 ≤ i ∧ i ≤ 209) ∨ 218 ≤ i) : i ∉ I := by
  obtain ⟨n, o, l0, hX, _⟩ := h
  exact hX.2.2.1.1.2.2.2 i hi
theorem tie_su (ht : Tie V n T) (hs : Su n (9 * n) V V1) : Tie V1 n T := by
  have e : ∀ i, ¬ (5 ≤ i ∧ i ≤ 19) → ¬ (218 ≤ i ∧ i ≤ 221) → i ≠ 213 → V1 i = V i := fun i a b c => hs.f a b c
  have ez : V1 201 = V 201 := hs.z
  obtain ⟨a1, a2, a3, a4, a5, a6, a7, a8, id, b1, b2, b3⟩ := ht
  have eg : ∀ k, k < 9 → ∀ s, s < n → GF V1 k s = GF V k s := fun k hk s hs2 => hs 213 (9 * s + k) (by decide) (by decide) (by omega)
  have er : RF V1 = RF V := RF_z ez
  refine ⟨a1, a2, ?_, ?_, ?_, ?_, ?_, fun s hs2 k hk => ?_, id, fun s hs2 => ?_, b2, fun s hs2 => ?_⟩
  · rw [e 212 (by decide) (by decide) (by decide)]; exact a3
  · rw [e 212 (by decide) (by decide) (by decide), ez]; exact a4
  · rw [e 212 (by decide) (by decide) (by decide), e 0 (by decide) (by decide) (by decide)]; exact a5
  · rw [e 210 (by decide) (by decide) (by decide), ez]; exact a6
  · rw [e 211 (by decide) (by decide) (by decide), ez]; exact a7
  · rw [eg k (by omega) s hs2, er]; exact a8 s hs2 k hk
  · rw [eg 8 (by decide) s hs2]; exact b1 s hs2
  · rw [eg 7 (by decide) s hs2, er]; exact b3 s hs2
theorem li_su (hX : InvX V N I n o m l0) (ht : Tie V n T) (hw : 0 ≤ (V 201 38).toInt ∧ (V 201 38).toInt ≤ T) (hs : Su n (9 * n) V V1) : LI V1 N I T m :=
  ⟨n, o, l0, hX.scr (fun i a b => hs.f a (by omega) (by omega)), tie_su ht hs, by rw [hs.z]; exact hw⟩
/-- rows copied: from s on to t on -/
def Cp (s t : Nat) (V M : VV) (a b c d : Nat) : Prop := (∀ i, ¬ (t ≤ i ∧ i ≤ t + 3) → M i = V i) ∧ (∀ q, q < a → q < 63 → M (t + 3) q = V (s + 3) q) ∧ (∀ q, q < b → q < 30 → M (t + 1) q = V (s + 1) q) ∧ (∀ q, q < c → q < 8 → M t q = V s q) ∧ ∀ q, q < d → q < 3 → M (t + 2) q = V (s + 2) q
theorem cp_0 : Cp s t V V 0 0 0 0 := ⟨fun _ _ => rfl, fun q h => absurd h (Nat.not_lt_zero q), fun q h => absurd h (Nat.not_lt_zero q), fun q h => absurd h (Nat.not_lt_zero q), fun q h => absurd h (Nat.not_lt_zero q)⟩
theorem Cp.aw (h : Cp s t V M i b c d) (hst : s + 3 < t ∨ t + 3 < s) : Cp s t V (up M (t + 3) i (M (s + 3) i)) (i + 1) b c d := by
  obtain ⟨h0, h1, h2, h3, h4⟩ := h
  refine ⟨fun j hj => by rw [up_nf (by omega)]; exact h0 j hj, fun q hq hq2 => ?_, fun q a b => by rw [up_nf (by omega)]; exact h2 q a b, fun q a b => by rw [up_nf (by omega)]; exact h3 q a b, fun q a b => by rw [up_nf (by omega)]; exact h4 q a b⟩
  by_cases e : q = i
  · rw [e, up_ss, h0 (s + 3) (by omega)]
  · rw [up_nk e]; exact h1 q (by omega) hq2
theorem Cp.bw (h : Cp s t V M a i c d) (hst : s + 3 < t ∨ t + 3 < s) : Cp s t V (up M (t + 1) i (M (s + 1) i)) a (i + 1) c d := by
  obtain ⟨h0, h1, h2, h3, h4⟩ := h
  refine ⟨fun j hj => by rw [up_nf (by omega)]; exact h0 j hj, fun q a b => by rw [up_nf (by omega)]; exact h1 q a b, fun q hq hq2 => ?_, fun q a b => by rw [up_nf (by omega)]; exact h3 q a b, fun q a b => by rw [up_nf (by omega)]; exact h4 q a b⟩
  by_cases e : q = i
  · rw [e, up_ss, h0 (s + 1) (by omega)]
  · rw [up_nk e]; exact h2 q (by omega) hq2
theorem Cp.cw (h : Cp s t V M a b i d) (hst : s + 3 < t ∨ t + 3 < s) : Cp s t V (up M t i (M s i)) a b (i + 1) d := by
  obtain ⟨h0, h1, h2, h3, h4⟩ := h
  refine ⟨fun j hj => by rw [up_nf (by omega)]; exact h0 j hj, fun q a b => by rw [up_nf (by omega)]; exact h1 q a b, fun q a b => by rw [up_nf (by omega)]; exact h2 q a b, fun q hq hq2 => ?_, fun q a b => by rw [up_nf (by omega)]; exact h4 q a b⟩
  by_cases e : q = i
  · rw [e, up_ss, h0 s (by omega)]
  · rw [up_nk e]; exact h3 q (by omega) hq2
theorem Cp.dw (h : Cp s t V M a b c i) (hst : s + 3 < t ∨ t + 3 < s) : Cp s t V (up M (t + 2) i (M (s + 2) i)) a b c (i + 1) := by
  obtain ⟨h0, h1, h2, h3, h4⟩ := h
  refine ⟨fun j hj => by rw [up_nf (by omega)]; exact h0 j hj, fun q a b => by rw [up_nf (by omega)]; exact h1 q a b, fun q a b => by rw [up_nf (by omega)]; exact h2 q a b, fun q a b => by rw [up_nf (by omega)]; exact h3 q a b, fun q hq hq2 => ?_⟩
  by_cases e : q = i
  · rw [e, up_ss, h0 (s + 2) (by omega)]
  · rw [up_nk e]; exact h4 q (by omega) hq2
theorem Cp.b0 (h : Cp s t V M a i c d) (hi : 30 ≤ i) : Cp s t V M a (i + 1) c d := ⟨h.1, h.2.1, fun q _ b => h.2.2.1 q (by omega) b, h.2.2.2.1, h.2.2.2.2⟩
theorem Cp.c0 (h : Cp s t V M a b i d) (hi : 8 ≤ i) : Cp s t V M a b (i + 1) d := ⟨h.1, h.2.1, h.2.2.1, fun q _ b => h.2.2.2.1 q (by omega) b, h.2.2.2.2⟩
theorem Cp.d0 (h : Cp s t V M a b c i) (hi : 3 ≤ i) : Cp s t V M a b c (i + 1) := ⟨h.1, h.2.1, h.2.2.1, h.2.2.2.1, fun q _ b => h.2.2.2.2 q (by omega) b⟩
/-- the law's rows behind a change taken back -/
theorem li_back {r : Int32} (hM : LI M N0 I0 T m) (hT : T + 1 ≤ 900) (h1 : Cp 210 214 M0 M 63 63 63 63) (hV : Inv V N I) (hz : ∀ j, j < 232 → V 201 j = M 201 j) (hs : ∀ i, 214 ≤ i ∧ i ≤ 217 → V i = M i) (h2 : Cp 214 210 V W 63 63 63 63) (hr : r = V 0 6) : ∃ m2, LI (up W 212 2 r) N I (T + 1) m2 := by
  obtain ⟨n, o, l0, hX, ht, hw⟩ := hM
  obtain ⟨n2, o2, m2, l2, hX2⟩ := hV
  have hn6 := ht.n6
  obtain rfl : n2 = n := (nI_eq (by have := hX2.2.1.1; omega) (by omega)).mp (hX2.2.1.2.1.symm.trans ((hz 39 (by decide)).trans hX.2.1.2.1))
  have eW : ∀ i, ¬ (210 ≤ i ∧ i ≤ 213) → W i = V i := fun i hi => h2.1 i (by omega)
  have e1 : ∀ i, ¬ (214 ≤ i ∧ i ≤ 217) → M i = M0 i := fun i hi => h1.1 i (by omega)
  have r213 : ∀ q, q < 63 → W 213 q = M 213 q := fun q hq => by
    have x1 : W 213 q = V 217 q := h2.2.1 q hq hq
    have x2 : M 217 q = M0 213 q := h1.2.1 q hq hq
    rw [x1, hs 217 (by decide), x2, e1 213 (by decide)]
  have r211 : ∀ q, q < 30 → W 211 q = M 211 q := fun q hq => by
    have x1 : W 211 q = V 215 q := h2.2.2.1 q (by omega) hq
    have x2 : M 215 q = M0 211 q := h1.2.2.1 q (by omega) hq
    rw [x1, hs 215 (by decide), x2, e1 211 (by decide)]
  have r210 : ∀ q, q < 8 → W 210 q = M 210 q := fun q hq => by
    have x1 : W 210 q = V 214 q := h2.2.2.2.1 q (by omega) hq
    have x2 : M 214 q = M0 210 q := h1.2.2.2.1 q (by omega) hq
    rw [x1, hs 214 (by decide), x2, e1 210 (by decide)]
  have r212 : ∀ q, q < 3 → W 212 q = M 212 q := fun q hq => by
    have x1 : W 212 q = V 216 q := h2.2.2.2.2 q (by omega) hq
    have x2 : M 216 q = M0 212 q := h1.2.2.2.2 q (by omega) hq
    rw [x1, hs 216 (by decide), x2, e1 212 (by decide)]
  have z : ∀ j, j < 232 → up W 212 2 r 201 j = M 201 j := fun j hj => by rw [up_nf (by decide), eW 201 (by decide)]; exact hz j hj
  have eR : ∀ k, k < 8 → ∀ s, s < n2 → RF (up W 212 2 r) k s = RF M k s := fun k hk s hs2 => z _ (by omega)
  have eG : ∀ k, k < 9 → ∀ s, s < n2 → GF (up W 212 2 r) k s = GF M k s := fun k hk s hs2 => by
    show up W 212 2 r 213 (9 * s + k) = _
    rw [up_nf (by decide)]; exact r213 _ (by omega)
  refine ⟨m2, n2, o2, l2, hX2.scr (fun i a b => by rw [up_nf (by omega)]; exact eW i (by omega)), ?_, by rw [z 38 (by decide)]; omega⟩
  obtain ⟨a1, a2, a3, a4, a5, a6, a7, a8, id, b1, b2, b3⟩ := ht
  refine ⟨a1, hT, ?_, ?_, ?_, fun k hk => ?_, fun j hj => ?_, fun s hs2 k hk => ?_, id, fun s hs2 => ?_, b2, fun s hs2 => ?_⟩
  · rw [up_nk (by decide), r212 1 (by decide)]; exact a3
  · rw [up_nk (by decide), r212 0 (by decide), z 38 (by decide)]; exact a4
  · rw [up_ss, up_nf (by decide), eW 0 (by decide)]; exact hr
  · rw [up_nf (by decide), r210 k hk, z k (by omega)]; exact a6 k hk
  · rw [up_nf (by decide), r211 j hj, z _ (by omega)]; exact a7 j hj
  · rw [eG k (by omega) s hs2, eR k (by omega) s hs2]; exact a8 s hs2 k hk
  · rw [eG 8 (by decide) s hs2]; exact ⟨(b1 s hs2).1, by have := (b1 s hs2).2; omega⟩
  · rw [eG 7 (by decide) s hs2, eR 0 (by decide) s hs2, eR 7 (by decide) s hs2]; exact b3 s hs2
end
-- the start
def z201 : Nat → Int32 := fun j => if j < 8 then stVal 2 j else if j < 38 ∧ j % 5 = 3 then 300 else 0
def V00 : VV := fun i => if i = 21 then cS 8 else if i = 22 then cQ 6 else if i = 201 then z201 else z0
def L00 : LL := fun _ _ => 0
def N00 : NN := fun _ => true
def I00 : List Nat := [0, 20, 21, 22, 23, 24, 25, 26, 29, 30, 31, 32, 33, 34, 35, 36, 1, 2, 3, 4, 5, 6, 7, 8, 9, 10, 11, 12, 13, 14, 15, 16, 17, 210, 211, 212, 213, 214, 215, 216, 217]
def seM (i : Nat) : VV := fun a q => if a = 210 ∧ q < i then stVal 2 q else V00 a q
def grM (i : Nat) : VV := fun a q => if a = 211 ∧ q % 5 = 0 ∧ q / 5 < i then 300 else seM 8 a q
theorem seM_0 : V00 = seM 0 := by
  funext a q; unfold seM; rw [if_neg (fun z => Nat.not_lt_zero q z.2)]
theorem seM_s {i : Nat} {v : Int32} (h : v = stVal 2 i) : up (seM i) 210 i v = seM (i + 1) := by
  funext a q
  by_cases ha : a = 210
  · subst ha
    by_cases hq : q = i
    · subst hq
      rw [up_ss]; unfold seM; rw [if_pos ⟨rfl, by omega⟩, h]
    · rw [up_nk hq]; unfold seM
      by_cases e : q < i
      · rw [if_pos ⟨rfl, e⟩, if_pos ⟨rfl, by omega⟩]
      · rw [if_neg (fun z => e z.2), if_neg (fun z => e (by omega))]
  · rw [up_no ha]; unfold seM; rw [if_neg (fun z => ha z.1), if_neg (fun z => ha z.1)]
theorem grM_0 : seM 8 = grM 0 := by
  funext a q; unfold grM; rw [if_neg (fun z => Nat.not_lt_zero _ z.2.2)]
theorem grM_s {i : Nat} : up (grM i) 211 (5 * i) 300 = grM (i + 1) := by
  funext a q
  by_cases ha : a = 211
  · subst ha
    by_cases hq : q = 5 * i
    · subst hq
      rw [up_ss]; unfold grM; rw [if_pos ⟨rfl, by omega, by omega⟩]
    · rw [up_nk hq]; unfold grM
      by_cases e : q % 5 = 0 ∧ q / 5 < i
      · rw [if_pos ⟨rfl, e⟩, if_pos ⟨rfl, e.1, by omega⟩]
      · rw [if_neg (fun z => e z.2), if_neg (fun z => e ⟨z.2.1, by omega⟩)]
  · rw [up_no ha]; unfold grM; rw [if_neg (fun z => ha z.1), if_neg (fun z => ha z.1)]
theorem inv00 : InvX V00 N00 I00 0 0 0 0 := by
  have hpm : ∀ i, i < 218 → pm i = true → i ∈ I00 := by decide +kernel
  have hPI : PI I00 := fun i hi => hpm i (by unfold pm at hi; have := of_decide_eq_true hi; omega) hi
  have hno : ∀ i, i ∈ I00 → ¬ (i = 18 ∨ (40 ≤ i ∧ i < 160)) := by decide +kernel
  have hno2 : ∀ i, i ∈ I00 → ¬ (i = 18 ∨ (200 ≤ i ∧ i ≤ 209) ∨ 218 ≤ i) := by decide +kernel
  refine ⟨⟨?_, ?_, by decide +kernel, by decide +kernel, fun k hk s hs => absurd hs (Nat.not_lt_zero s)⟩, ⟨by decide, by decide +kernel, by decide +kernel, fun s hs => absurd hs (Nat.not_lt_zero s), fun s hs => absurd hs (Nat.not_lt_zero s), fun s t _ ht => absurd ht (Nat.not_lt_zero t)⟩, ⟨⟨hPI, fun k _ h => (by cases h), fun k hk _ i h1 h2 hi => hno i hi (Or.inr (by omega)), fun i hi h => hno2 i h hi⟩, by decide +kernel, by decide, by decide +kernel, by decide⟩, fun j hj => absurd hj (Nat.not_lt_zero j), by decide +kernel, by decide +kernel, by decide +kernel, by decide +kernel, by decide, fun i hi => absurd hi (Nat.not_lt_zero i), 0, by decide +kernel⟩
  · show ∀ k, k < 8 → V00 21 k = V00 201 k
    decide +kernel
  · show ∀ g, g < 6 → ∀ k, k < 5 → V00 (22 + k) g = V00 201 (8 + 5 * g + k)
    decide +kernel
theorem grM_f {i : Nat} (h : i ≠ 210) (h2 : i ≠ 211) : grM 6 i = V00 i := by
  funext q; unfold grM seM; rw [if_neg (fun z => h2 z.1), if_neg (fun z => h z.1)]
theorem li00 : LI (grM 6) N00 I00 1 0 := by
  refine ⟨0, 0, 0, inv00.law (fun i hi => grM_f (by omega) (by omega)), ⟨by decide, by decide, by decide +kernel, by decide +kernel, by decide +kernel, by decide +kernel, by decide +kernel, fun s hs => absurd hs (Nat.not_lt_zero s), fun _ => 0, fun s hs => absurd hs (Nat.not_lt_zero s), fun s t hs => absurd hs (Nat.not_lt_zero s), fun s hs => absurd hs (Nat.not_lt_zero s)⟩, by decide +kernel⟩
