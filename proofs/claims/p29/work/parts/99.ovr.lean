theorem air3 {R : Nat → Nat → Int32} {G : Nat → Int32} {s : Nat} : airR R G 3 s = 2 ↔ drR R G (clkR R G (R 2 s) s) s = true := by
  show (if drR R G (clkR R G (R 2 s) s) s = true then (2 : Int32) else sttR R G (clkR R G (R 2 s) s) s) = 2 ↔ _
  split
  · rename_i q; simp [q]
  · rename_i q
    constructor
    · intro z
      exfalso
      unfold sttR at z
      revert z
      generalize decide (0 < atR R (clkR R G (R 2 s) s) s - R 3 s) = B
      cases B <;> cases cutR R G (clkR R G (R 2 s) s) s <;> decide
    · intro z; exact absurd z q
/-- the same but one show's overrun, which is no greater -/
def OvL (R R2 : Nat → Nat → Int32) (G G2 : Nat → Int32) (n s : Nat) : Prop := (∀ k, k < 6 → ∀ t, t < n → R k t = R2 k t) ∧ (∀ t, t < n → t ≠ s → R 6 t = R2 6 t) ∧ (R 6 s).toInt ≤ (R2 6 s).toInt ∧ (∀ t, t < n → ShB R t) ∧ (∀ t, t < n → ShB R2 t) ∧ (∀ k, k < 8 → G k = G2 k) ∧ GB G ∧ GB G2
theorem step_t {R : Nat → Nat → Int32} {G : Nat → Int32} {c : Int32} {t : Nat} (hG : GB G) (hb : ShB R t) (hc1 : 0 ≤ c.toInt) (hc2 : c.toInt ≤ (G 1).toInt) (hnd : drR R G c t = false) : (atR R c t + forR R G c t).toInt = min ((atR R c t).toInt + (wantR R t).toInt) ((G 1).toInt) := by
  have hdr := dr_iff hG hb hc1 hc2
  have hf := (for_t hG hb hc1 hc2).1
  have hw := want_t hb
  have ha := at_t (R := R) (c := c) (s := t)
  have g0 := hG.1
  have g1 := hG.2.1
  have b3 := hb.2.2.2.1
  have : ¬ _ := fun z => by rw [hdr.mpr z] at hnd; cases hnd
  rw [t_add (by omega) (by omega)]
  omega
theorem clk_mono {R R2 : Nat → Nat → Int32} {G G2 : Nat → Int32} {n s : Nat} (h : OvL R R2 G G2 n s) (d : Int32) : ∀ {t : Nat}, t ≤ n → (∀ u, u < t → u ≠ s → R2 2 u = d → drR R2 G2 (clkR R2 G2 d u) u = false) →
    (clkR R G d t).toInt ≤ (clkR R2 G2 d t).toInt ∧ (t ≤ s → clkR R G d t = clkR R2 G2 d t)
  | 0, _, _ => by
    obtain ⟨h1, h2, h3, h4, h5, h6, h7, h8⟩ := h
    unfold clkR
    rw [h6 0 (by decide)]
    exact ⟨Int.le_refl _, fun _ => rfl⟩
  | t + 1, ht, hnd => by
    obtain ⟨i1, i2⟩ := clk_mono h d (t := t) (by omega) (fun u a b c => hnd u (by omega) b c)
    obtain ⟨h1, h2, h3, h4, h5, h6, h7, h8⟩ := h
    have c1 := clk_b (d := d) h7 (s := t) (fun u hu => h4 u (by omega))
    have c2 := clk_b (d := d) h8 (s := t) (fun u hu => h5 u (by omega))
    have b1 := h4 t (by omega)
    have b2 := h5 t (by omega)
    have g0 := h7.1
    have g02 := h8.1
    have d1 := dr_iff h7 b1 (c := clkR R G d t) (by omega) c1.2
    have d2 := dr_iff h8 b2 (c := clkR R2 G2 d t) (by omega) c2.2
    have a1 := at_t (R := R) (c := clkR R G d t) (s := t)
    have a2 := at_t (R := R2) (c := clkR R2 G2 d t) (s := t)
    have w1 := want_t b1
    have w2 := want_t b2
    have e2 := h1 2 (by decide) t (by omega)
    have e3 := h1 3 (by decide) t (by omega)
    have e4 := h1 4 (by decide) t (by omega)
    have e0 := h1 0 (by decide) t (by omega)
    have p1 : patS R G t = patS R2 G2 t := by unfold patS; rw [e0, h6 2 (by decide), h6 3 (by decide)]
    have q1 := h6 1 (by decide)
    rw [p1, q1] at d1
    rw [e3] at a1 d1
    rw [e4] at w1
    rw [show clkR R G d (t + 1) = if R 2 t = d ∧ drR R G (clkR R G d t) t = false then atR R (clkR R G d t) t + forR R G (clkR R G d t) t else clkR R G d t from rfl,
      show clkR R2 G2 d (t + 1) = if R2 2 t = d ∧ drR R2 G2 (clkR R2 G2 d t) t = false then atR R2 (clkR R2 G2 d t) t + forR R2 G2 (clkR R2 G2 d t) t else clkR R2 G2 d t from rfl, e2]
    by_cases hd : R2 2 t = d
    · have s1 := fun z => step_t h7 b1 (c := clkR R G d t) (by omega) c1.2 z
      have s2 := fun z => step_t h8 b2 (c := clkR R2 G2 d t) (by omega) c2.2 z
      rw [q1] at s1
      by_cases hs : t = s
      · have ec := i2 (by omega)
        have h3' : (R 6 t).toInt ≤ (R2 6 t).toInt := by rw [hs]; exact h3
        have ea : atR R (clkR R G d t) t = atR R2 (clkR R2 G2 d t) t := by unfold atR; rw [ec, e3]
        have edr : drR R G (clkR R G d t) t = drR R2 G2 (clkR R2 G2 d t) t := by unfold drR; rw [ea, p1, q1, e3]
        rw [edr]
        cases hx : drR R2 G2 (clkR R2 G2 d t) t with
        | true =>
          rw [if_neg (fun z => by cases z.2), if_neg (fun z => by cases z.2)]
          exact ⟨i1, fun z => absurd z (by omega)⟩
        | false =>
          rw [if_pos ⟨hd, rfl⟩, if_pos ⟨hd, rfl⟩, s1 (edr.trans hx), s2 hx]
          exact ⟨by omega, fun z => absurd z (by omega)⟩
      · have n2 := hnd t (by omega) hs hd
        have n2' : ¬ _ := fun z => by rw [d2.mpr z] at n2; cases n2
        have n1 : drR R G (clkR R G d t) t = false := by
          cases hx : drR R G (clkR R G d t) t with
          | false => rfl
          | true => have := d1.mp hx; omega
        have e6 := h2 t (by omega) hs
        rw [if_pos ⟨hd, n1⟩, if_pos ⟨hd, n2⟩]
        refine ⟨by rw [s1 n1, s2 n2, w1, w2, e6]; omega, fun z => ?_⟩
        have ec := i2 (by omega)
        have ea : atR R (clkR R G d t) t = atR R2 (clkR R2 G2 d t) t := by unfold atR; rw [ec, e3]
        rw [t_eq, s1 n1, s2 n2, w1, w2, e6, ea]
    · rw [if_neg (fun z => hd z.1), if_neg (fun z => hd z.1)]
      exact ⟨i1, fun z => i2 (by omega)⟩
/-- no other show of the day is dropped -/
def harmR (R : Nat → Nat → Int32) (G : Nat → Int32) (n s : Nat) : Prop := ∀ t, t < n → t ≠ s → R 2 t = R 2 s → drR R G (clkR R G (R 2 t) t) t = false
theorem harm_mono {R R2 : Nat → Nat → Int32} {G G2 : Nat → Int32} {n s : Nat} (hs : s < n) (h : OvL R R2 G G2 n s) (hr : harmR R2 G2 n s) : harmR R G n s := by
  intro t ht hts hd
  have e2 := fun u hu => h.1 2 (by decide) u hu
  have hd2 : R2 2 t = R2 2 s := by rw [← e2 t ht, ← e2 s hs]; exact hd
  have hm := clk_mono h (R2 2 t) (t := t) (by omega) (fun u hu hus hud => by have := hr u (by omega) hus (hud.trans hd2); rwa [hud] at this)
  have n2 := hr t ht hts hd2
  obtain ⟨h1, h2, h3, h4, h5, h6, h7, h8⟩ := h
  have c1 := clk_b (d := R2 2 t) h7 (s := t) (fun u hu => h4 u (by omega))
  have c2 := clk_b (d := R2 2 t) h8 (s := t) (fun u hu => h5 u (by omega))
  have g0 := h7.1
  have g02 := h8.1
  have d1 := dr_iff h7 (h4 t ht) (c := clkR R G (R2 2 t) t) (by omega) c1.2
  have d2 := dr_iff h8 (h5 t ht) (c := clkR R2 G2 (R2 2 t) t) (by omega) c2.2
  have a1 := at_t (R := R) (c := clkR R G (R2 2 t) t) (s := t)
  have a2 := at_t (R := R2) (c := clkR R2 G2 (R2 2 t) t) (s := t)
  have p1 : patS R G t = patS R2 G2 t := by unfold patS; rw [h1 0 (by decide) t ht, h6 2 (by decide), h6 3 (by decide)]
  rw [p1, h6 1 (by decide), h1 3 (by decide) t ht] at d1
  rw [h1 3 (by decide) t ht] at a1
  have n2' : ¬ _ := fun z => by rw [d2.mpr z] at n2; cases n2
  rw [e2 t ht]
  cases hx : drR R G (clkR R G (R2 2 t) t) t with
  | false => rfl
  | true => have := d1.mp hx; omega
def TopR (h : Nat → Bool) (K : Nat) (r : Int32) : Prop := (r = -101 ∧ ∀ k, 1 ≤ k → k ≤ K → h k = false) ∨ ∃ k, 1 ≤ k ∧ k ≤ K ∧ h k = true ∧ r = nI k - 61 ∧ ∀ j, k < j → j ≤ K → h j = false
theorem top_u {h : Nat → Bool} {K : Nat} {r r2 : Int32} (a : TopR h K r) (b : TopR h K r2) : r = r2 := by
  rcases a with ⟨a1, a2⟩ | ⟨k, a1, a2, a3, a4, a5⟩ <;> rcases b with ⟨b1, b2⟩ | ⟨j, b1, b2, b3, b4, b5⟩
  · rw [a1, b1]
  · rw [a2 j b1 b2] at b3; cases b3
  · rw [b2 k a1 a2] at a3; cases a3
  · have : k = j := by
      rcases Nat.lt_trichotomy k j with q | q | q
      · rw [a5 j q b2] at b3; cases b3
      · exact q
      · rw [b5 k q a2] at a3; cases a3
    rw [a4, b4, this]
theorem o_t {k : Nat} (hk : k ≤ 1000) : (nI k - 61).toInt = k - 61 := by
  have c : (61 : Int32).toInt = 61 := rfl
  have e : (nI k).toInt = k := t_nat (by omega)
  rw [t_sub (by omega) (by omega), e, c]
theorem bs_top {p : Int32 → Bool} : ∀ {f a c : Nat}, 1 ≤ a → a < c → c ≤ 182 → c - a ≤ 2 ^ f → p (nI a - 61) = true → (c = 182 ∨ p (nI c - 61) = false) →
    ∃ k, a ≤ k ∧ k < c ∧ p (nI k - 61) = true ∧ (k + 1 = 182 ∨ p (nI (k + 1) - 61) = false) ∧ bsS p f (nI a - 61) (nI c - 61) = nI k - 61
  | 0, a, c, h1, h2, h3, h4, h5, h6 => by
    have : c = a + 1 := by simp at h4; omega
    subst this
    exact ⟨a, Nat.le_refl _, by omega, h5, h6, rfl⟩
  | f + 1, a, c, h1, h2, h3, h4, h5, h6 => by
    have ea := o_t (k := a) (by omega)
    have ec := o_t (k := c) (by omega)
    have ed : nI c - 61 - (nI a - 61) = nI (c - a) := by
      rw [t_eq, t_sub (by omega) (by omega), ea, ec, t_nat (by omega)]; omega
    have eh : nI (c - a) / 2 = nI ((c - a) / 2) := pk_div (by omega) (by decide) (by decide)
    have em : nI a - 61 + nI ((c - a) / 2) = nI (a + (c - a) / 2) - 61 := by
      have e1 : (nI ((c - a) / 2)).toInt = ((c - a) / 2 : Nat) := t_nat (by omega)
      rw [t_eq, t_add (by omega) (by omega), ea, e1, o_t (by omega)]; omega
    by_cases q : nI c - 61 - (nI a - 61) ≤ 1
    · rw [bs_1 q]
      rw [ed, t_le, t_nat (by omega), t_1] at q
      have : c = a + 1 := by omega
      subst this
      exact ⟨a, Nat.le_refl _, by omega, h5, h6, rfl⟩
    · have q2 := q
      rw [ed, t_le, t_nat (by omega), t_1] at q2
      have hp2 : 2 ^ (f + 1) = 2 * 2 ^ f := by rw [Nat.pow_succ]; omega
      cases hp : p (nI (a + (c - a) / 2) - 61) with
      | true =>
        rw [bs_2 q (by rw [ed, eh, em]; exact hp), ed, eh, em]
        obtain ⟨k, k1, k2, k3⟩ := bs_top (f := f) (a := a + (c - a) / 2) (c := c) (by omega) (by omega) h3 (by omega) hp h6
        exact ⟨k, by omega, k2, k3⟩
      | false =>
        rw [bs_3 q (by rw [ed, eh, em]; exact hp), ed, eh, em]
        obtain ⟨k, k1, k2, k3⟩ := bs_top (f := f) (a := a) (c := a + (c - a) / 2) h1 (by omega) (by omega) (by omega) h5 (Or.inr hp)
        exact ⟨k, k1, by omega, k3⟩
theorem cnt_0 {p : Nat → Bool} : ∀ {n : Nat}, cntN p n = 0 ↔ ∀ t, t < n → p t = false
  | 0 => ⟨fun _ _ h => absurd h (Nat.not_lt_zero _), fun _ => rfl⟩
  | n + 1 => by
    unfold cntN
    by_cases q : p n = true
    · rw [if_pos q]
      exact ⟨fun h => absurd h (Nat.succ_ne_zero _), fun h => by rw [h n (by omega)] at q; cases q⟩
    · rw [if_neg q, cnt_0]
      exact ⟨fun h t ht => by
        by_cases e : t = n
        · rw [e]; simpa using q
        · exact h t (by omega), fun h t ht => h t (by omega)⟩
theorem sum_cnt {p : Nat → Bool} {f : Nat → Int32} : ∀ {n : Nat}, (∀ t, t < n → f t = b2i (p t)) → sumTo f n = nI (cntN p n)
  | 0, _ => rfl
  | n + 1, h => by
    rw [sumTo, sum_cnt (fun t ht => h t (by omega)), h n (by omega)]
    show nI (cntN p n) + b2i (p n) = nI (if p n = true then cntN p n + 1 else cntN p n)
    cases p n with
    | true => rw [if_pos rfl]; exact nI_add _ 1
    | false => rw [if_neg (by decide)]; exact Int32.add_zero _
theorem cnt_one {p : Nat → Bool} {s : Nat} : ∀ {n : Nat}, s < n → cntN p n = cntN (fun t => decide (t ≠ s) && p t) n + (if p s = true then 1 else 0)
  | 0, h => absurd h (Nat.not_lt_zero s)
  | n + 1, h => by
    unfold cntN
    by_cases e : s = n
    · subst e
      have : cntN (fun t => decide (t ≠ s) && p t) s = cntN p s := cntN_congr fun t ht => by rw [decide_eq_true (by omega), Bool.true_and]
      rw [this, decide_eq_false (fun z => z rfl), Bool.false_and, if_neg (c := false = true) (by decide)]
      split <;> omega
    · rw [cnt_one (p := p) (s := s) (n := n) (by omega), decide_eq_true (p := n ≠ s) (by omega), Bool.true_and]
      split <;> split <;> omega
where cntN_congr {p q : Nat → Bool} : ∀ {n : Nat}, (∀ t, t < n → p t = q t) → cntN p n = cntN q n
  | 0, _ => rfl
  | n + 1, h => by unfold cntN; rw [cntN_congr (fun t ht => h t (by omega)), h n (by omega)]
/-- dropped others of a day -/
theorem dN4 {V : VV} {n s : Nat} (hs : s < n) (hn : n ≤ 24) : dN V n (RF V 2 s) 4 - b2i (decide (airR (RF V) (V 201) 3 s = 2)) = 0 ↔ harmR (RF V) (V 201) n s := by
  have e1 : dN V n (RF V 2 s) 4 = nI (cntN (fun t => decide (RF V 2 t = RF V 2 s) && decide (airR (RF V) (V 201) 3 t = 2)) n) := by
    unfold dN dayR
    rw [if_neg (by decide), if_neg (by decide), sumTo2_0]
    refine sum_cnt fun t ht => ?_
    by_cases q : RF V 2 t = RF V 2 s
    · rw [if_pos q, decide_eq_true q, Bool.true_and]; rfl
    · rw [if_neg q, decide_eq_false q, Bool.false_and]; rfl
  have hle := cntN_le (fun t => decide (t ≠ s) && (decide (RF V 2 t = RF V 2 s) && decide (airR (RF V) (V 201) 3 t = 2))) n
  rw [e1, cnt_one hs, decide_eq_true rfl, Bool.true_and]
  have e2 : nI (cntN (fun t => decide (t ≠ s) && (decide (RF V 2 t = RF V 2 s) && decide (airR (RF V) (V 201) 3 t = 2))) n + (if decide (airR (RF V) (V 201) 3 s = 2) = true then 1 else 0)) - b2i (decide (airR (RF V) (V 201) 3 s = 2)) = nI (cntN (fun t => decide (t ≠ s) && (decide (RF V 2 t = RF V 2 s) && decide (airR (RF V) (V 201) 3 t = 2))) n) := by
    cases decide (airR (RF V) (V 201) 3 s = 2) with
    | true =>
      rw [if_pos rfl]
      exact nI_predn (n := _ + 1) (by omega)
    | false =>
      rw [if_neg (by decide)]
      exact Int32.sub_zero _
  rw [e2, show (0 : Int32) = nI 0 from rfl, nI_eq (by omega) (by decide), cnt_0]
  refine ⟨fun h t ht hts hd => ?_, fun h t ht => ?_⟩
  · have := h t ht
    rw [decide_eq_true hts, Bool.true_and, decide_eq_true hd, Bool.true_and, decide_eq_false_iff_not, air3] at this
    simpa using this
  · by_cases hts : t ≠ s
    · rw [decide_eq_true hts, Bool.true_and]
      by_cases hd : RF V 2 t = RF V 2 s
      · rw [decide_eq_true hd, Bool.true_and, decide_eq_false_iff_not, air3, h t ht hts hd]; decide
      · rw [decide_eq_false hd, Bool.false_and]
    · rw [decide_eq_false hts, Bool.false_and]
theorem RF_ovs {V : VV} {s : Nat} {b : Int32} : RF (ovR V s b) 6 s = b := by
  unfold RF ovR
  exact up_ss
theorem ov_g {V : VV} {s k : Nat} {b : Int32} (hk : k < 40) : (ovR V s b) 201 k = V 201 k := by
  unfold ovR
  rw [up_nk (by omega)]
theorem ov_b {V : VV} {n s : Nat} {b : Int32} (h : ∀ t, t < n → ShB (RF V) t) (hb : -60 ≤ b.toInt ∧ b.toInt ≤ 120) : ∀ t, t < n → ShB (RF (ovR V s b)) t := fun t ht => by
  obtain ⟨b0, b1, b2, b3, b4, b5, b6⟩ := h t ht
  unfold ShB
  rw [RF_ov (k := 0) (by decide) (by omega), RF_ov (k := 1) (by decide) (by omega), RF_ov (k := 2) (by decide) (by omega), RF_ov (k := 3) (by decide) (by omega), RF_ov (k := 4) (by decide) (by omega), RF_ov (k := 5) (by decide) (by omega)]
  refine ⟨b0, b1, b2, b3, b4, b5, ?_⟩
  by_cases q : t = s
  · rw [q, RF_ovs]; exact hb
  · rw [RF_ov (by decide) (fun z => q z.2)]; exact b6
theorem gb_cg {G G2 : Nat → Int32} (h : ∀ k, k < 8 → G k = G2 k) (hG : GB G2) : GB G := by
  unfold GB
  rw [h 0 (by decide), h 1 (by decide), h 2 (by decide), h 3 (by decide), h 4 (by decide), h 5 (by decide), h 6 (by decide), h 7 (by decide)]
  exact hG
/-- both sides of the overrun that's tried -/
theorem hrm_iff {V : VV} {n s : Nat} {b : Int32} (h : Agr (CF V) (RF V) n) (h6 : ∀ t, t < n → V 35 t = RF V 6 t) (hb : ∀ t, t < n → ShB (RF V) t) (hE : GEq (V 21) (V 201)) (hG : GB (V 201)) (hs : s < n) (hn : n ≤ 24) (hbb : -60 ≤ b.toInt ∧ b.toInt ≤ 120) :
    hrmB V n s b = true ↔ harmR (RF (ovR V s b)) ((ovR V s b) 201) n s := by
  have hA : Agr (CF V) (RF (ovR V s b)) n := fun k hk t ht => (h k hk t ht).trans (RF_ov (by omega) (by omega)).symm
  have hE2 : GEq (V 21) ((ovR V s b) 201) := fun k hk => (hE k hk).trans (ov_g (by omega)).symm
  have hG2 : GB ((ovR V s b) 201) := gb_cg (fun k hk => ov_g (by omega)) hG
  have hov : ∀ t, t < n → (if nI t = nI s then b else V 35 t) = RF (ovR V s b) 6 t := fun t ht => by
    by_cases q : t = s
    · rw [q, if_pos rfl, RF_ovs]
    · rw [if_neg (fun z => q ((nI_eq (by omega) (by omega)).mp z)), RF_ov (by decide) (fun z => q z.2), h6 t ht]
  have key : ∀ t, t < n → (badP V n s b t = true ↔ t ≠ s ∧ RF (ovR V s b) 2 t = RF (ovR V s b) 2 s ∧ drR (RF (ovR V s b)) ((ovR V s b) 201) (clkR (RF (ovR V s b)) ((ovR V s b) 201) (RF (ovR V s b) 2 t) t) t = true) := fun t ht => by
    have ha := air_a hA (ov_b hb hbb) hE2 hG2 hov ht
    unfold badP
    rw [Bool.and_eq_true, Bool.and_eq_true, decide_eq_true_eq, decide_eq_true_eq, decide_eq_true_eq, ha.2.1, show V 31 t = CF V 2 t from rfl, show V 31 s = CF V 2 s from rfl, hA 2 (by decide) t ht, hA 2 (by decide) s hs, nI_eq (by omega) (by omega), and_assoc]
  unfold hrmB harmR
  rw [Bool.not_eq_true', ← Bool.not_eq_true, or_ex]
  constructor
  · intro z t ht hts hd
    cases hx : drR (RF (ovR V s b)) ((ovR V s b) 201) (clkR (RF (ovR V s b)) ((ovR V s b) 201) (RF (ovR V s b) 2 t) t) t with
    | false => rfl
    | true => exact absurd ⟨t, ht, (key t ht).mpr ⟨hts, hd, hx⟩⟩ z
  · rintro z ⟨t, ht, hx⟩
    obtain ⟨a, c, d⟩ := (key t ht).mp hx
    rw [z t ht a c] at d
    cases d
theorem grt_eq {V : VV} {n s : Nat} (h : Agr (CF V) (RF V) n) (h6 : ∀ t, t < n → V 35 t = RF V 6 t) (hb : ∀ t, t < n → ShB (RF V) t) (hE : GEq (V 21) (V 201)) (hG : GB (V 201)) (hs : s < n) (hn : n ≤ 24) : grtS V n s = mosS V n s 181 := by
  have hi : ∀ k, 1 ≤ k → k ≤ 181 → (hrmB V n s (nI k - 61) = true ↔ harmR (RF (ovR V s (nI k - 61))) ((ovR V s (nI k - 61)) 201) n s) := fun k h1 h2 => hrm_iff h h6 hb hE hG hs hn (by rw [o_t (by omega)]; omega)
  have hmono : ∀ j k, 1 ≤ j → j ≤ k → k ≤ 181 → hrmB V n s (nI k - 61) = true → hrmB V n s (nI j - 61) = true := fun j k h1 h2 h3 hk => by
    rw [hi j h1 (by omega)]
    refine harm_mono hs ?_ ((hi k (by omega) h3).mp hk)
    refine ⟨fun i hi t ht => (RF_ov (by omega) (by omega)).trans (RF_ov (by omega) (by omega)).symm, fun t ht hts => (RF_ov (by decide) (fun z => hts z.2)).trans (RF_ov (by decide) (fun z => hts z.2)).symm, ?_, ov_b hb (by rw [o_t (by omega)]; omega), ov_b hb (by rw [o_t (by omega)]; omega), fun i hi => (ov_g (by omega)).trans (ov_g (by omega)).symm, gb_cg (fun k hk => ov_g (by omega)) hG, gb_cg (fun k hk => ov_g (by omega)) hG⟩
    rw [RF_ovs, RF_ovs, o_t (by omega), o_t (by omega)]
    omega
  have hm : ∀ K, K ≤ 181 → TopR (fun k => hrmB V n s (nI k - 61)) K (mosS V n s K) := fun K => by
    induction K with
    | zero => exact fun _ => Or.inl ⟨rfl, fun k a b => absurd b (by omega)⟩
    | succ K ih =>
      intro hK
      have hcond := dN4 (V := ovR V s (nI (K + 1) - 61)) hs hn
      rw [RF_ov (k := 2) (by decide) (by omega)] at hcond
      unfold mosS
      by_cases q : harmR (RF (ovR V s (nI (K + 1) - 61))) ((ovR V s (nI (K + 1) - 61)) 201) n s
      · rw [if_pos (hcond.mpr q)]
        exact Or.inr ⟨K + 1, by omega, Nat.le_refl _, (hi _ (by omega) hK).mpr q, rfl, fun j a b => absurd a (by omega)⟩
      · rw [if_neg (fun z => q (hcond.mp z))]
        have hf : hrmB V n s (nI (K + 1) - 61) = false := by
          cases hx : hrmB V n s (nI (K + 1) - 61) with
          | false => rfl
          | true => exact absurd ((hi _ (by omega) hK).mp hx) q
        rcases ih (by omega) with ⟨a1, a2⟩ | ⟨k, a1, a2, a3, a4, a5⟩
        · exact Or.inl ⟨a1, fun k b c => by
            by_cases e : k = K + 1
            · rw [e]; exact hf
            · exact a2 k b (by omega)⟩
        · exact Or.inr ⟨k, a1, by omega, a3, a4, fun j b c => by
            by_cases e : j = K + 1
            · rw [e]; exact hf
            · exact a5 j b (by omega)⟩
  refine top_u (h := fun k => hrmB V n s (nI k - 61)) (K := 181) ?_ (hm 181 (by decide))
  unfold grtS
  have e1 : (-60 : Int32) = nI 1 - 61 := by decide
  have e2 : (121 : Int32) = nI 182 - 61 := by decide
  rw [e1, e2]
  by_cases q : hrmB V n s (nI 1 - 61) = true
  · rw [if_pos q]
    obtain ⟨k, k1, k2, k3, k4, k5⟩ := bs_top (p := hrmB V n s) (f := 8) (a := 1) (c := 182) (by decide) (by decide) (by decide) (by decide) q (Or.inl rfl)
    rw [k5]
    refine Or.inr ⟨k, k1, by omega, k3, rfl, fun j a b => ?_⟩
    show hrmB V n s (nI j - 61) = false
    cases hx : hrmB V n s (nI j - 61) with
    | false => rfl
    | true =>
      rcases k4 with k4 | k4
      · omega
      · rw [hmono (k + 1) j (by omega) (by omega) b hx] at k4; cases k4
  · rw [if_neg q]
    refine Or.inl ⟨rfl, fun k a b => ?_⟩
    show hrmB V n s (nI k - 61) = false
    cases hx : hrmB V n s (nI k - 61) with
    | false => rfl
    | true => exact absurd (hmono 1 k (by decide) a b hx) q
