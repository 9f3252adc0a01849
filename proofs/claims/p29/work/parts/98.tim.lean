/-- the first of the multiples of 5 that p holds of -/
def srch (p : Nat → Bool) : Nat → Nat → Int32
  | 0, _ => -1
  | k + 1, i => if p i = true then nI (5 * i) else srch p k (i + 1)
theorem srch_no {p : Nat → Bool} : ∀ {k i : Nat}, (∀ j, i ≤ j → j < i + k → p j = false) → srch p k i = -1
  | 0, _, _ => rfl
  | k + 1, i, h => by
    rw [srch, if_neg (by rw [h i (Nat.le_refl _) (by omega)]; decide)]
    exact srch_no fun j h1 h2 => h j (by omega) (by omega)
theorem srch_skip {p : Nat → Bool} : ∀ {e k i : Nat}, (∀ j, i ≤ j → j < i + e → p j = false) → srch p (e + k) i = srch p k (i + e)
  | 0, k, i, _ => by rw [Nat.zero_add, Nat.add_zero]
  | e + 1, k, i, h => by
    rw [show e + 1 + k = (e + k) + 1 by omega, srch, if_neg (by rw [h i (Nat.le_refl _) (by omega)]; decide), srch_skip (fun j h1 h2 => h j (by omega) (by omega)), show i + 1 + e = i + (e + 1) by omega]
theorem srch_cg {p q : Nat → Bool} : ∀ {k i : Nat}, (∀ j, i ≤ j → j < i + k → p j = q j) → srch p k i = srch q k i
  | 0, _, _ => rfl
  | k + 1, i, h => by rw [srch, srch, h i (Nat.le_refl _) (by omega), srch_cg (fun j h1 h2 => h j (by omega) (by omega))]
theorem srch_ext {p : Nat → Bool} {e : Nat} : ∀ {k i : Nat}, (∀ j, i + k ≤ j → j < i + k + e → p j = false) → srch p (k + e) i = srch p k i
  | 0, i, h => by
    rw [Nat.zero_add]
    exact srch_no fun j h1 h2 => h j (by omega) (by omega)
  | k + 1, i, h => by
    rw [show k + 1 + e = (k + e) + 1 by omega, srch, srch, srch_ext (fun j h1 h2 => h j (by omega) (by omega))]
theorem cntN_mono {p q : Nat → Bool} : ∀ {n : Nat}, (∀ s, s < n → q s = true → p s = true) → cntN q n ≤ cntN p n
  | 0, _ => Nat.le_refl 0
  | n + 1, h => by
    have ih := cntN_mono (n := n) (fun s hs => h s (by omega))
    simp only [cntN]
    by_cases hq : q n = true
    · rw [if_pos hq, if_pos (h n (by omega) hq)]; omega
    · rw [if_neg hq]; split <;> omega
theorem cntN_lt {p q : Nat → Bool} {o : Nat} : ∀ {n : Nat}, (∀ s, s < n → q s = true → p s = true) → o < n → p o = true → q o = false → cntN q n < cntN p n
  | 0, _, h, _, _ => absurd h (Nat.not_lt_zero o)
  | n + 1, h, ho, hp, hq => by
    simp only [cntN]
    by_cases e : o = n
    · subst e
      have ih := cntN_mono (n := o) (fun s hs => h s (by omega))
      rw [if_pos hp, if_neg (by rw [hq]; decide)]
      omega
    · have ih := cntN_lt (n := n) (fun s hs => h s (by omega)) (by omega) hp hq
      by_cases hq2 : q n = true
      · rw [if_pos hq2, if_pos (h n (by omega) hq2)]; omega
      · rw [if_neg hq2]; split <;> omega
/-- bounds of the shows that the search needs -/
def TB (F : Nat → Nat → Int32) (n : Nat) : Prop := ∀ s, s < n → 0 ≤ (F 3 s).toInt ∧ (F 3 s).toInt ≤ 1439 ∧ 5 ≤ (F 4 s).toInt ∧ (F 4 s).toInt ≤ 240
theorem hit_iff {F : Nat → Nat → Int32} {n : Nat} (hb : TB F n) {d : Int32} {j l s : Nat} (hj : j ≤ 5000) (hl : l ≤ 240) (hs : s < n) : hitS F d (nI (5 * j)) (nI l) s = true ↔ F 2 s = d ∧ (F 3 s).toInt < 5 * j + l ∧ (5 * j : Int) < (F 3 s).toInt + (F 4 s).toInt := by
  obtain ⟨b1, b2, b3, b4⟩ := hb s hs
  have e1 : (nI (5 * j)).toInt = 5 * j := by rw [t_nat (by omega)]; omega
  have e2 : (nI l).toInt = l := t_nat (by omega)
  have e3 : (nI (5 * j) + nI l).toInt = 5 * j + l := by rw [t_add (by omega) (by omega), e1, e2]
  have e4 : (F 3 s + F 4 s).toInt = (F 3 s).toInt + (F 4 s).toInt := t_add (by omega) (by omega)
  unfold hitS
  rw [Bool.and_eq_true, Bool.and_eq_true, decide_eq_true_eq, decide_eq_true_eq, decide_eq_true_eq, t_lt, t_lt, e1, e3, e4, and_assoc]
theorem next_eq {t : Nat} (h : t ≤ 100000) : nextF (nI t) = nI (5 * ((t + 4) / 5)) := by
  unfold nextF
  have e1 : nI t + 5 - 1 = nI (t + 4) := by
    have a0 : (nI t).toInt = t := t_nat (by omega)
    have a1 : (nI t + 5).toInt = t + 5 := by rw [t_add (by rw [a0]; simp; omega) (by rw [a0]; simp; omega), a0]; rfl
    rw [t_eq, t_sub (by rw [a1]; simp; omega) (by rw [a1]; simp; omega), a1, t_nat (by omega)]
    simp; omega
  rw [e1]
  have e2 : nI (t + 4) / 5 = nI ((t + 4) / 5) := pk_div (by omega) (by decide) (by decide)
  rw [e2, show (5 : Int32) = nI 5 from rfl, pk_mul, Nat.mul_comm]
def frB (F : Nat → Nat → Int32) (C : Nat) (n : Nat) (d : Int32) (l j : Nat) : Bool := decide (5 * j + l ≤ C) && !orTo (hitS F d (nI (5 * j)) (nI l)) n
def lateB (F : Nat → Nat → Int32) (d : Int32) (i s : Nat) : Bool := decide (F 2 s = d) && decide ((5 * i : Int) < (F 3 s).toInt + (F 4 s).toInt)
theorem ff_srch {F : Nat → Nat → Int32} {n C : Nat} (hb : TB F n) (hC : C ≤ 1440) {d : Int32} {l : Nat} (hl : l ≤ 240) : ∀ {k i e : Nat}, i + e = 400 → i ≤ 340 → cntN (lateB F d i) n < k → ffF F (nI C) n d (nI l) k (nI (5 * i)) = srch (frB F C n d l) e i
  | 0, _, _, _, _, h => absurd h (Nat.not_lt_zero _)
  | k + 1, i, e, he, hi, h => by
    have e1 : (nI (5 * i)).toInt = 5 * i := by rw [t_nat (by omega)]; omega
    have e2 : (nI l).toInt = l := t_nat (by omega)
    have e3 : (nI (5 * i) + nI l).toInt = 5 * i + l := by rw [t_add (by omega) (by omega), e1, e2]
    have e4 : (nI C).toInt = C := t_nat (by omega)
    unfold ffF
    by_cases hc : nI C < nI (5 * i) + nI l
    · rw [if_pos hc]
      rw [t_lt, e3, e4] at hc
      refine (srch_no fun j h1 _ => ?_).symm
      unfold frB
      rw [decide_eq_false (by omega), Bool.false_and]
    · rw [if_neg hc]
      rw [t_lt, e3, e4] at hc
      cases hf : fstF (hitS F d (nI (5 * i)) (nI l)) n 0 with
      | none =>
        have ho : orTo (hitS F d (nI (5 * i)) (nI l)) n = false := by
          rw [← fst_or (p := hitS F d (nI (5 * i)) (nI l)) (fun _ _ => rfl), hf]; rfl
        obtain ⟨e', rfl⟩ : ∃ e', e = e' + 1 := ⟨e - 1, by omega⟩
        rw [srch, if_pos (by unfold frB; rw [ho, decide_eq_true (by omega)]; rfl)]
      | some o =>
        obtain ⟨_, ho, hh⟩ := fstF_lt hf
        have ho2 : o < n := by omega
        have hh2 := (hit_iff hb (by omega) hl ho2).mp hh
        obtain ⟨b1, b2, b3, b4⟩ := hb o ho2
        have e5 : (F 3 o + F 4 o).toInt = (F 3 o).toInt + (F 4 o).toInt := t_add (by omega) (by omega)
        obtain ⟨t, ht⟩ : ∃ t : Nat, (F 3 o).toInt + (F 4 o).toInt = t := ⟨((F 3 o).toInt + (F 4 o).toInt).toNat, by omega⟩
        have e6 : F 3 o + F 4 o = nI t := by rw [t_eq, e5, ht, t_nat (by omega)]
        rw [ht] at hh2
        show ffF F (nI C) n d (nI l) k (nextF (F 3 o + F 4 o)) = _
        rw [e6, next_eq (by omega)]
        have hi2 : i < (t + 4) / 5 := by omega
        rw [ff_srch hb hC hl (e := 400 - (t + 4) / 5) (by omega) (by omega) ?_]
        · obtain ⟨g, hg⟩ : ∃ g, (t + 4) / 5 = i + g := ⟨(t + 4) / 5 - i, by omega⟩
          have hs := srch_skip (p := frB F C n d l) (e := g) (k := 400 - (t + 4) / 5) (i := i) fun j h1 h2 => by
            unfold frB
            rw [show orTo (hitS F d (nI (5 * j)) (nI l)) n = true from or_ex.mpr ⟨o, ho2, (hit_iff hb (by omega) hl ho2).mpr ⟨hh2.1, by omega, by omega⟩⟩]
            simp
          rw [show e = g + (400 - (t + 4) / 5) by omega, hs, hg]
        · refine Nat.lt_of_lt_of_le (cntN_lt (p := lateB F d i) (o := o) (fun s hs hq => ?_) ho2 ?_ ?_) (by omega)
          · unfold lateB at hq ⊢
            rw [Bool.and_eq_true, decide_eq_true_eq, decide_eq_true_eq] at hq ⊢
            exact ⟨hq.1, by omega⟩
          · unfold lateB
            rw [decide_eq_true hh2.1, decide_eq_true (by omega)]; rfl
          · unfold lateB
            rw [decide_eq_false (p := (5 * ((t + 4) / 5 : Nat) : Int) < _) (by omega), Bool.and_false]
/-- the same from a least time on: the first of a day's multiples of 5 -/
theorem ff_all {F : Nat → Nat → Int32} {n C : Nat} (hb : TB F n) (hC : C ≤ 1440) {d : Int32} {l : Nat} (hl5 : 5 ≤ l) (hl : l ≤ 240) {lo : Nat} (hlo : lo ≤ 100000) : ffF F (nI C) n d (nI l) (n + 1) (nextF (nI lo)) = srch (fun j => decide (lo ≤ 5 * j) && frB F C n d l j) 288 0 := by
  rw [next_eq hlo]
  by_cases h : lo ≤ 1440
  · obtain ⟨i, hi⟩ : ∃ i, (lo + 4) / 5 = i := ⟨_, rfl⟩
    rw [hi, ff_srch hb hC hl (e := 400 - i) (by omega) (by omega) (Nat.lt_succ_of_le (cntN_le _ n))]
    rw [srch_ext (p := fun j => decide (lo ≤ 5 * j) && frB F C n d l j) (k := 288) (e := 112) (i := 0) (fun j h1 h2 => ?_) |>.symm]
    · rw [show 288 + 112 = i + (400 - i) by omega, srch_skip (fun j _ h2 => by rw [decide_eq_false (by omega), Bool.false_and]), Nat.zero_add]
      exact srch_cg fun j h1 h2 => by rw [decide_eq_true (by omega), Bool.true_and]
    · unfold frB
      rw [decide_eq_false (p := 5 * j + l ≤ C) (by omega), Bool.false_and, Bool.and_false]
  · rw [srch_no fun j _ h2 => by rw [decide_eq_false (by omega), Bool.false_and]]
    unfold ffF
    have e1 : (nI (5 * ((lo + 4) / 5))).toInt = 5 * ((lo + 4) / 5) := by rw [t_nat (by omega)]; omega
    have e2 : (nI l).toInt = l := t_nat (by omega)
    rw [if_pos (by rw [t_lt, t_add (by omega) (by omega), e1, e2, t_nat (by omega)]; omega)]
theorem nat_of {x : Int32} (h : 0 ≤ x.toInt) : ∃ N : Nat, x = nI N ∧ x.toInt = N := ⟨x.toInt.toNat, t_nI h, by omega⟩
theorem inHourR_0 {f h : Int32} (h1 : 0 ≤ f.toInt) (h2 : f.toInt ≤ 5000) (h5 : 0 ≤ h.toInt) (h6 : h.toInt ≤ 50) : inHourR f 0 h = 0 := by
  rw [← inHour_eq h1 h2 (by decide) (by decide) h5 h6, inHourF_0 h1 h2 h5 h6]
theorem ex0_a {F R : Nat → Nat → Int32} {n : Nat} (h : Agr F R n) (hb : ∀ s, s < n → ShB R s) {lim d st : Int32} (h1 : 0 ≤ st.toInt) (h2 : st.toInt ≤ 5000) : orTo (exR R lim n d st 0) 24 = exS F lim n d 0 0 := by
  rw [exS_a h hb (by decide) (by decide) (by decide) (by decide)]
  refine or_cg fun x hx => ?_
  have hx2 : (nI x).toInt = x := t_nat (by omega)
  unfold exR
  rw [inHourR_0 h1 h2 (by omega) (by omega), inHourR_0 (by decide) (by decide) (by omega) (by omega)]
theorem tb_of {F R : Nat → Nat → Int32} {n : Nat} (h : Agr F R n) (hb : ∀ s, s < n → ShB R s) : TB F n := fun s hs => by
  obtain ⟨_, _, _, b3, b4, _, b6⟩ := hb s hs
  rw [h 3 (by decide) s hs, h 4 (by decide) s hs]
  exact ⟨b3.1, b3.2, b4.1, b4.2⟩
theorem hits_a {F R : Nat → Nat → Int32} {n : Nat} (h : Agr F R n) {d st ln : Int32} : orTo (hitS F d st ln) n = orTo (hitS R d st ln) n := or_cg fun s hs => hit_a h hs
theorem fot_srch {V : VV} {n g : Nat} {d ln : Int32} : ∀ {k i : Nat}, fotN V n g d ln k i = srch (fun j => decide (¬ 0 < whyN V n g d (nI (5 * j)) ln)) k i
  | 0, _ => rfl
  | k + 1, i => by
    rw [fotN, srch, fot_srch]
    by_cases q : 0 < whyN V n g d (nI (5 * i)) ln
    · rw [if_pos q, if_neg (by rw [decide_eq_false (fun z => z q)]; decide)]
    · rw [if_neg q, if_pos (decide_eq_true q)]
theorem tape_eq {F : Nat → Nat → Int32} {G : Nat → Int32} {V : VV} {n : Nat} (h : Agr F (RF V) n) (hb : ∀ s, s < n → ShB (RF V) s) (hE : GEq G (V 201)) (hG : GB (V 201)) {g l : Nat} {d : Int32} (hl5 : 5 ≤ l) (hl : l ≤ 240) :
    tapeT F G (alN V g) n (nI g) d (nI l) = fotN V n g d (nI l) 288 0 := by
  obtain ⟨g0, g1, _⟩ := hG
  rw [fot_srch]
  unfold tapeT
  rw [hE 0 (by decide), hE 1 (by decide), hE 5 (by decide), hE 6 (by decide), wolS_a h]
  have hw : ∀ st : Int32, 0 ≤ st.toInt → st.toInt ≤ 5000 → whyN V n g d st (nI l) = if n = 24 then 1 else if st < V 201 0 ∨ V 201 1 < st + nI l then 3 else if orTo (hitS (RF V) d st (nI l)) n = true then 4 else if alN V g < wolS (RF V) (V 201 5) n (nI g) + nI l then 6 else if exS F (V 201 6) n d 0 0 = true then 7 else 0 := fun st a b => by
    have e0 : ∀ p : Prop, ((1 : Int32) = 2 ∧ p) = False := fun p => eq_false (fun z => absurd z.1 (by decide))
    have e1 : worthF (V 201 5) 1 (nI l) = nI l := rfl
    unfold whyN refR
    simp only [e0, if_false]
    rw [ex0_a h hb a b, e1]
  by_cases c : n = 24 ∨ alN V g < wolS (RF V) (V 201 5) n (nI g) + nI l ∨ exS F (V 201 6) n d 0 0 = true
  · rw [if_pos c]
    refine (srch_no fun j _ h2 => ?_).symm
    have e1 : (nI (5 * j)).toInt = 5 * j := by rw [t_nat (by omega)]; omega
    refine decide_eq_false (fun z => z ?_)
    rw [hw _ (by omega) (by omega)]
    split
    · decide
    · split
      · decide
      · split
        · decide
        · split
          · decide
          · rename_i c1 _ _ c4
            rw [if_pos (c.resolve_left c1 |>.resolve_left c4)]
            decide
  · rw [if_neg c]
    obtain ⟨C, hC, hC2⟩ := nat_of (x := V 201 1) (by omega)
    obtain ⟨lo, hlo, hlo2⟩ := nat_of (x := V 201 0) (by omega)
    have em : maxF 0 (nI lo) = nI lo := by rw [t_eq, maxF_t, ← hlo, t_0]; omega
    rw [hC, hlo, em, ff_all (tb_of h hb) (by omega) hl5 hl (by omega)]
    refine srch_cg fun j _ h2 => ?_
    have e1 : (nI (5 * j)).toInt = 5 * j := by rw [t_nat (by omega)]; omega
    have e2 : (nI l).toInt = l := t_nat (by omega)
    have e3 : (nI (5 * j) + nI l).toInt = 5 * j + l := by rw [t_add (by omega) (by omega), e1, e2]
    rw [hw _ (by omega) (by omega), if_neg (fun z => c (Or.inl z)), if_neg (c := alN V g < _) (fun z => c (Or.inr (Or.inl z))), if_neg (c := exS F _ n d 0 0 = true) (fun z => c (Or.inr (Or.inr z)))]
    unfold frB
    rw [hits_a h]
    have q3 : (nI (5 * j) < V 201 0 ∨ V 201 1 < nI (5 * j) + nI l) ↔ ¬ (lo ≤ 5 * j ∧ 5 * j + l ≤ C) := by
      rw [t_lt, t_lt, e1, e3, hlo2, hC2]; omega
    by_cases a : lo ≤ 5 * j ∧ 5 * j + l ≤ C
    · rw [if_neg (fun z => q3.mp z a), decide_eq_true a.1, decide_eq_true a.2, Bool.true_and, Bool.true_and]
      cases orTo (hitS (RF V) d (nI (5 * j)) (nI l)) n <;> decide
    · rw [if_pos (q3.mpr a)]
      by_cases b : lo ≤ 5 * j
      · rw [decide_eq_true b, decide_eq_false (fun z => a ⟨b, z⟩)]; rfl
      · rw [decide_eq_false b]; rfl
theorem srch_app {p : Nat → Bool} {c k : Nat} : ∀ {a i : Nat}, 5 * (i + a) < 2 ^ 31 → srch p (a + k) (c + i) = if srch (fun j => p (c + j)) a i = -1 then srch p k (c + i + a) else nI (5 * c) + srch (fun j => p (c + j)) a i
  | 0, i, _ => by rw [Nat.zero_add, srch, if_pos rfl, Nat.add_zero]
  | a + 1, i, hb => by
    rw [show a + 1 + k = (a + k) + 1 by omega, srch, srch]
    by_cases q : p (c + i) = true
    · rw [if_pos q, if_pos q, if_neg (nI_m1 (by omega)), nI_add, Nat.mul_add]
    · rw [if_neg q, if_neg q, show c + i + 1 = c + (i + 1) by omega, srch_app (by omega), show c + i + (a + 1) = c + (i + 1) + a by omega]
theorem rep_srch {V : VV} {n g o : Nat} : ∀ {k i : Nat}, repN V n g o k i = srch (fun j => decide (rfoN V n g o (nI (5 * j / 1440)) (nI (5 * j % 1440)) = 0)) k i
  | 0, _ => rfl
  | k + 1, i => by
    rw [repN, srch, rep_srch]
    by_cases q : rfoN V n g o (nI (5 * i / 1440)) (nI (5 * i % 1440)) = 0
    · rw [if_pos q, if_pos (decide_eq_true q)]
    · rw [if_neg q, if_neg (by rw [decide_eq_false q]; decide)]
theorem earl_t {R : Nat → Nat → Int32} {G : Nat → Int32} {o : Nat} (hb : ShB R o) (hG : GB G) : (earlS R (G 4) o).toInt = 1440 * (R 2 o).toInt + (R 3 o).toInt + (R 4 o).toInt + 60 * (G 4).toInt := by
  obtain ⟨_, _, b2, b3, b4, _, _⟩ := hb
  obtain ⟨_, _, _, _, g4, _⟩ := hG
  have c1 : (1440 : Int32).toInt = 1440 := rfl
  have e1 : (1440 * R 2 o).toInt = 1440 * (R 2 o).toInt := by rw [t_mul (by rw [c1]; omega) (by rw [c1]; omega), c1]
  have e2 : (60 * G 4).toInt = 60 * (G 4).toInt := by rw [t_mul (by rw [t_60]; omega) (by rw [t_60]; omega), t_60]
  have e3 : (1440 * R 2 o + R 3 o).toInt = 1440 * (R 2 o).toInt + (R 3 o).toInt := by rw [t_add (by omega) (by omega), e1]
  have e4 : (1440 * R 2 o + R 3 o + R 4 o).toInt = 1440 * (R 2 o).toInt + (R 3 o).toInt + (R 4 o).toInt := by rw [t_add (by omega) (by omega), e3]
  unfold earlS
  rw [t_add (by omega) (by omega), e4, e2]
/-- the days of a repeat -/
theorem rep_day {F : Nat → Nat → Int32} {G : Nat → Int32} {V : VV} {n : Nat} (h : Agr F (RF V) n) (hb : ∀ s, s < n → ShB (RF V) s) (hE : GEq G (V 201)) (hG : GB (V 201)) {g o : Nat} (ho : o < n) (hc : ¬ (n = 24 ∨ RF V 0 o = 2 ∨ alN V g < wolS (RF V) (V 201 5) n (nI g) + worthF (V 201 5) 2 (RF V 4 o))) {d : Nat} (hd : d < 7) :
    srch (fun j => decide (rfoN V n g o (nI d) (nI (5 * j)) = 0)) 288 0 = if exS F (G 6) n (nI d) 0 0 = false then repP F G n o d else -1 := by
  obtain ⟨g0, g1, g2, g3, g4, gr⟩ := id hG
  have hbo := hb o ho
  obtain ⟨_, _, b2, b3, b4, _, _⟩ := id hbo
  have he := earl_t hbo hG
  have ee : earlS F (G 4) o = earlS (RF V) (V 201 4) o := by rw [hE 4 (by decide), earl_a h ho]
  have e4 : F 4 o = RF V 4 o := h 4 (by decide) o ho
  obtain ⟨l, hl, hl2⟩ := nat_of (x := RF V 4 o) (by omega)
  obtain ⟨C, hC, hC2⟩ := nat_of (x := V 201 1) (by omega)
  have hdt : (nI d).toInt = d := t_nat (by omega)
  have c1 : (1440 : Int32).toInt = 1440 := rfl
  have ed : (1440 * nI d).toInt = 1440 * d := by rw [t_mul (by rw [c1]; omega) (by rw [c1]; omega), c1, hdt]
  have hw : ∀ st : Int32, 0 ≤ st.toInt → st.toInt ≤ 5000 → rfoN V n g o (nI d) st = if st < V 201 0 ∨ V 201 1 < st + nI l then 3 else if orTo (hitS (RF V) (nI d) st (nI l)) n = true then 4 else if 1440 * nI d + st < earlS (RF V) (V 201 4) o then 5 else if exS F (V 201 6) n (nI d) 0 0 = true then 7 else 0 := fun st a b => by
    unfold rfoN refR
    rw [if_neg (fun z => hc (Or.inl z)), if_neg (fun z => hc (Or.inr (Or.inl z.2))), if_neg (c := alN V g < _) (fun z => hc (Or.inr (Or.inr z))), ex0_a h hb a b, hl]
    simp
  have e1 : ∀ j, j < 288 → (nI (5 * j)).toInt = 5 * j := fun j hj => by rw [t_nat (by omega)]; omega
  rw [hE 6 (by decide)]
  by_cases c : exS F (V 201 6) n (nI d) 0 0 = true
  · rw [if_neg (by rw [c]; decide)]
    refine srch_no fun j _ h2 => decide_eq_false (fun z => ?_)
    rw [hw _ (by rw [e1 j (by omega)]; omega) (by rw [e1 j (by omega)]; omega)] at z
    revert z
    split
    · decide
    · split
      · decide
      · split
        · decide
        · first | decide | (rw [if_pos c]; decide)
  · rw [if_pos (by simpa using c)]
    unfold repP
    have es : (earlS (RF V) (V 201 4) o - 1440 * nI d).toInt = (earlS (RF V) (V 201 4) o).toInt - 1440 * d := by rw [t_sub (by omega) (by omega), ed]
    have em := maxF_t (x := earlS (RF V) (V 201 4) o - 1440 * nI d) (y := V 201 0)
    rw [es] at em
    obtain ⟨lo, hlo, hlo2⟩ := nat_of (x := maxF (earlS (RF V) (V 201 4) o - 1440 * nI d) (V 201 0)) (by omega)
    rw [ee, hE 0 (by decide), hE 1 (by decide), e4, hlo, hl, hC, ff_all (tb_of h hb) (by omega) (by omega) (by omega) (by omega)]
    refine srch_cg fun j _ h2 => ?_
    have ej := e1 j (by omega)
    have e2 : (nI l).toInt = l := t_nat (by omega)
    have e3 : (nI (5 * j) + nI l).toInt = 5 * j + l := by rw [t_add (by omega) (by omega), ej, e2]
    have e5 : (1440 * nI d + nI (5 * j)).toInt = 1440 * d + 5 * j := by rw [t_add (by omega) (by omega), ed, ej]
    rw [hw _ (by omega) (by omega), if_neg (c := exS F _ n _ 0 0 = true) c]
    unfold frB
    rw [hits_a h]
    have q3 : (nI (5 * j) < V 201 0 ∨ V 201 1 < nI (5 * j) + nI l) ↔ ¬ ((V 201 0).toInt ≤ 5 * j ∧ 5 * j + l ≤ C) := by
      rw [t_lt, t_lt, ej, e3, hC2]; omega
    have q5 : 1440 * nI d + nI (5 * j) < earlS (RF V) (V 201 4) o ↔ ¬ (earlS (RF V) (V 201 4) o).toInt - 1440 * d ≤ 5 * j := by
      rw [t_lt, e5]; omega
    cases hh : orTo (hitS (RF V) (nI d) (nI (5 * j)) (nI l)) n with
    | true =>
      rw [if_pos rfl]
      rw [show (!true) = false from rfl, Bool.and_false, Bool.and_false]
      refine decide_eq_false ?_
      split <;> decide
    | false =>
      rw [if_neg (c := false = true) (by decide), show (!false) = true from rfl, Bool.and_true]
      by_cases a : (V 201 0).toInt ≤ 5 * j ∧ 5 * j + l ≤ C
      · rw [if_neg (fun z => q3.mp z a)]
        by_cases b : (earlS (RF V) (V 201 4) o).toInt - 1440 * d ≤ 5 * j
        · rw [if_neg (fun z => q5.mp z b), decide_eq_true (p := lo ≤ 5 * j) (by omega), decide_eq_true a.2]; rfl
        · rw [if_pos (q5.mpr b), decide_eq_false (p := lo ≤ 5 * j) (by omega)]; rfl
      · rw [if_pos (q3.mpr a)]
        by_cases b : lo ≤ 5 * j
        · rw [decide_eq_true b, decide_eq_false (p := 5 * j + l ≤ C) (fun z => a ⟨by omega, z⟩)]; rfl
        · rw [decide_eq_false b]; rfl
theorem rep_eqD {F : Nat → Nat → Int32} {G : Nat → Int32} {V : VV} {n : Nat} (h : Agr F (RF V) n) (hb : ∀ s, s < n → ShB (RF V) s) (hE : GEq G (V 201)) (hG : GB (V 201)) {g o : Nat} (ho : o < n) (hc : ¬ (n = 24 ∨ RF V 0 o = 2 ∨ alN V g < wolS (RF V) (V 201 5) n (nI g) + worthF (V 201 5) 2 (RF V 4 o))) : ∀ {k d : Nat}, d + k = 7 → repN V n g o (288 * k) (288 * d) = repD F G n o k d
  | 0, _, _ => rfl
  | k + 1, d, hd => by
    have hday := rep_day h hb hE hG (g := g) ho hc (d := d) (by omega)
    rw [rep_srch, show 288 * (k + 1) = 288 + 288 * k by omega]
    have ha := srch_app (p := fun j => decide (rfoN V n g o (nI (5 * j / 1440)) (nI (5 * j % 1440)) = 0)) (c := 288 * d) (k := 288 * k) (a := 288) (i := 0) (by decide)
    rw [Nat.add_zero] at ha
    rw [ha]
    have hs : srch (fun j => decide (rfoN V n g o (nI (5 * (288 * d + j) / 1440)) (nI (5 * (288 * d + j) % 1440)) = 0)) 288 0 = srch (fun j => decide (rfoN V n g o (nI d) (nI (5 * j)) = 0)) 288 0 := srch_cg fun j _ h2 => by
      rw [show 5 * (288 * d + j) / 1440 = d by omega, show 5 * (288 * d + j) % 1440 = 5 * j by omega]
    rw [hs, hday, show 288 * d + 288 = 288 * (d + 1) by omega, ← rep_srch, rep_eqD h hb hE hG ho hc (by omega)]
    show _ = if repP F G n o d ≠ -1 ∧ exS F (G 6) n (nI d) 0 0 = false then 1440 * nI d + repP F G n o d else repD F G n o k (d + 1)
    by_cases c : exS F (G 6) n (nI d) 0 0 = false
    · rw [if_pos c]
      by_cases q : repP F G n o d = -1
      · rw [if_pos q, if_neg (fun z => z.1 q)]
      · rw [if_neg q, if_pos ⟨q, c⟩, show 5 * (288 * d) = 1440 * d by omega, ← pk_mul]; rfl
    · rw [if_neg c, if_pos rfl, if_neg (fun z => c z.2)]
theorem rep_eq {F : Nat → Nat → Int32} {G : Nat → Int32} {V : VV} {n : Nat} (h : Agr F (RF V) n) (hb : ∀ s, s < n → ShB (RF V) s) (hE : GEq G (V 201)) (hG : GB (V 201)) {g o : Nat} (ho : o < n) (hg : RF V 1 o = nI g) :
    repT F G (alN V g) n o = repN V n g o 2016 0 := by
  have e0 : F 0 o = RF V 0 o := h 0 (by decide) o ho
  have e1 : F 1 o = nI g := (h 1 (by decide) o ho).trans hg
  have e4 : F 4 o = RF V 4 o := h 4 (by decide) o ho
  have e5 : G 5 = V 201 5 := hE 5 (by decide)
  unfold repT
  rw [e0, e1, e4, e5, wolS_a h]
  by_cases hc : n = 24 ∨ RF V 0 o = 2 ∨ alN V g < wolS (RF V) (V 201 5) n (nI g) + worthF (V 201 5) 2 (RF V 4 o)
  · rw [if_pos hc, rep_srch]
    refine (srch_no fun j _ _ => decide_eq_false ?_).symm
    unfold rfoN refR
    by_cases a : n = 24
    · rw [if_pos a]; decide
    · rw [if_neg a]
      by_cases b : RF V 0 o = 2
      · rw [if_pos ⟨rfl, b⟩]; decide
      · rw [if_neg (fun z => b z.2), if_pos (c := alN V g < _) ((hc.resolve_left a).resolve_left b)]
        split
        · decide
        · split
          · decide
          · split
            · decide
            · decide
  · rw [if_neg hc]
    exact (rep_eqD h hb hE hG ho hc (k := 7) (d := 0) rfl).symm
