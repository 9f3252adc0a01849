def Agr (F R : Nat → Nat → Int32) (n : Nat) : Prop := ∀ k, k < 6 → ∀ s, s < n → F k s = R k s
def ShB (F : Nat → Nat → Int32) (s : Nat) : Prop := (0 ≤ (F 0 s).toInt ∧ (F 0 s).toInt ≤ 2) ∧ (0 ≤ (F 1 s).toInt ∧ (F 1 s).toInt ≤ 5) ∧ (0 ≤ (F 2 s).toInt ∧ (F 2 s).toInt ≤ 6) ∧ (0 ≤ (F 3 s).toInt ∧ (F 3 s).toInt ≤ 1439) ∧ (5 ≤ (F 4 s).toInt ∧ (F 4 s).toInt ≤ 240) ∧ (0 ≤ (F 5 s).toInt ∧ (F 5 s).toInt ≤ 30) ∧ (-60 ≤ (F 6 s).toInt ∧ (F 6 s).toInt ≤ 120)
def GB (G : Nat → Int32) : Prop := (0 ≤ (G 0).toInt ∧ (G 0).toInt ≤ 720) ∧ (721 ≤ (G 1).toInt ∧ (G 1).toInt ≤ 1440) ∧ (0 ≤ (G 2).toInt ∧ (G 2).toInt ≤ 120) ∧ (0 ≤ (G 3).toInt ∧ (G 3).toInt ≤ 240) ∧ (1 ≤ (G 4).toInt ∧ (G 4).toInt ≤ 100) ∧ (0 ≤ (G 5).toInt ∧ (G 5).toInt ≤ 100) ∧ (0 ≤ (G 6).toInt ∧ (G 6).toInt ≤ 30) ∧ (0 ≤ (G 7).toInt ∧ (G 7).toInt ≤ 600)
theorem gb_of {z : Nat → Int32} (h : ∀ k, k < 8 → isValB k (z k) = true) : GB z := by
  have key : ∀ k, k < 8 → (stVal 0 k).toInt ≤ (z k).toInt ∧ (z k).toInt ≤ (stVal 1 k).toInt := fun k hk => by
    have := h k hk
    unfold isValB withinB at this
    simp only [Bool.and_eq_true, decide_eq_true_eq] at this
    exact ⟨t_le.mp this.1, t_le.mp this.2⟩
  exact ⟨key 0 (by decide), key 1 (by decide), key 2 (by decide), key 3 (by decide), key 4 (by decide), key 5 (by decide), key 6 (by decide), key 7 (by decide)⟩
section
variable {F R : Nat → Nat → Int32} {n : Nat}
theorem Agr.le (h : Agr F R n) {m : Nat} (hm : m ≤ n) : Agr F R m := fun k hk s hs => h k hk s (by omega)
theorem wolS_a (h : Agr F R n) {sh g : Int32} : wolS F sh n g = wolS R sh n g := sumTo_congr fun s hs => by rw [h 1 (by decide) s hs, h 0 (by decide) s hs, h 4 (by decide) s hs]
theorem cntS_a (h : Agr F R n) {k : Nat} (hk : k < 6) {g : Int32} : cntS F k n g = cntS R k n g := sumTo_congr fun s hs => by rw [h k hk s hs]
theorem planS_a (h : Agr F R n) (hb : ∀ s, s < n → ShB R s) {d : Int32} {x : Nat} (hx : x < 24) : planS F n d (nI x) = planR R n d (nI x) := by
  refine sumTo_congr fun s hs => ?_
  rw [h 2 (by decide) s hs, h 3 (by decide) s hs, h 5 (by decide) s hs]
  obtain ⟨_, _, _, b3, _, b5, _⟩ := hb s hs
  have hx2 : (nI x).toInt = x := t_nat (by omega)
  rw [inHour_eq b3.1 (by omega) b5.1 (by omega) (by omega) (by omega)]
theorem exS_a (h : Agr F R n) (hb : ∀ s, s < n → ShB R s) {lim d st sp : Int32} (h1 : 0 ≤ st.toInt) (h2 : st.toInt ≤ 5000) (h3 : 0 ≤ sp.toInt) (h4 : sp.toInt ≤ 5000) : exS F lim n d st sp = orTo (exR R lim n d st sp) 24 := by
  unfold exS
  refine fst_or fun x hx => ?_
  unfold exP exR
  have hx2 : (nI x).toInt = x := t_nat (by omega)
  rw [planS_a h hb hx, inHour_eq h1 h2 h3 h4 (by omega) (by omega)]
theorem hit_a (h : Agr F R n) {d st ln : Int32} {s : Nat} (hs : s < n) : hitS F d st ln s = hitS R d st ln s := by
  unfold hitS
  rw [h 2 (by decide) s hs, h 3 (by decide) s hs, h 4 (by decide) s hs]
theorem earl_a (h : Agr F R n) {gap : Int32} {o : Nat} (ho : o < n) : earlS F gap o = earlS R gap o := by
  unfold earlS
  rw [h 2 (by decide) o ho, h 3 (by decide) o ho, h 4 (by decide) o ho]
theorem ref_a (h : Agr F R n) (hb : ∀ s, s < n → ShB R s) {G G2 : Nat → Int32} (hG : ∀ k, k < 8 → G k = G2 k) {al kd g d st ln sp : Int32} {o : Nat} (ho : kd = 2 → o < n) (h1 : 0 ≤ st.toInt) (h2 : st.toInt ≤ 5000) (h3 : 0 ≤ sp.toInt) (h4 : sp.toInt ≤ 5000) :
    refS F G al n kd g d st ln sp o = refR R G2 al n kd g d st ln sp o := by
  unfold refS refR
  rw [hG 0 (by decide), hG 1 (by decide), hG 4 (by decide), hG 5 (by decide), hG 6 (by decide), wolS_a h, exS_a h hb h1 h2 h3 h4, fst_or (fun s hs => hit_a h hs)]
  by_cases hk : kd = 2
  · rw [h 0 (by decide) o (ho hk), earl_a h (ho hk)]
  · have e1 : ∀ p : Prop, (kd = 2 ∧ p) = False := fun p => by simp [hk]
    simp only [e1]
end
section
variable {F R : Nat → Nat → Int32} {G G2 : Nat → Int32} {c ov : Int32} {s : Nat}
theorem at_t : (atR R c s).toInt = max (R 3 s).toInt c.toInt := by
  unfold atR
  split <;> rename_i h <;> rw [t_le] at h <;> omega
theorem st_at (h3 : F 3 s = R 3 s) : stS F c s = atR R c s := by
  unfold stS
  rw [h3]
  rw [t_eq, maxF_t, at_t]
theorem want_t (hb : ShB R s) : (wantR R s).toInt = max 1 ((R 4 s).toInt + (R 6 s).toInt) := by
  obtain ⟨_, _, _, b3, b4, _, b6⟩ := hb
  have ew : (R 4 s + R 6 s).toInt = (R 4 s).toInt + (R 6 s).toInt := t_add (by omega) (by omega)
  unfold wantR
  split <;> rename_i h <;> rw [t_lt, t_1] at h
  · rw [t_1]; omega
  · omega
theorem want_eq (h4 : F 4 s = R 4 s) (ho : ov = R 6 s) : wantS F s ov = wantR R s := by
  unfold wantS wantR
  rw [h4, ho]
  unfold maxF
  by_cases h : R 4 s + R 6 s < 1
  · rw [if_pos h, if_neg (fun z => by have := t_lt.mp h; have := t_lt.mp z; omega)]
  · rw [if_neg h]
    by_cases h2 : 1 < R 4 s + R 6 s
    · rw [if_pos h2]
    · rw [if_neg h2, t_eq]
      have h3 : ¬ (R 4 s + R 6 s).toInt < (1 : Int32).toInt := fun z => h (t_lt.mpr z)
      have h4 : ¬ (1 : Int32).toInt < (R 4 s + R 6 s).toInt := fun z => h2 (t_lt.mpr z)
      omega
theorem for_t (hG : GB G) (hb : ShB R s) (hc1 : 0 ≤ c.toInt) (hc2 : c.toInt ≤ (G 1).toInt) : (forR R G c s).toInt = min ((wantR R s).toInt) ((G 1).toInt - (atR R c s).toInt) ∧ (cutR R G c s = true ↔ (G 1).toInt < (atR R c s).toInt + (wantR R s).toInt) := by
  have ha := at_t (R := R) (c := c) (s := s)
  have hw := want_t hb
  obtain ⟨g0, g1, _⟩ := hG
  obtain ⟨_, _, _, b3, b4, _, b6⟩ := hb
  have e1 : (atR R c s + wantR R s).toInt = (atR R c s).toInt + (wantR R s).toInt := t_add (by omega) (by omega)
  have e2 : (G 1 - atR R c s).toInt = (G 1).toInt - (atR R c s).toInt := t_sub (by omega) (by omega)
  have hcut : cutR R G c s = true ↔ (G 1).toInt < (atR R c s).toInt + (wantR R s).toInt := by
    unfold cutR
    rw [decide_eq_true_eq, t_lt, e1]
  refine ⟨?_, hcut⟩
  unfold forR
  by_cases q : cutR R G c s = true
  · rw [if_pos q]
    have := hcut.mp q
    omega
  · rw [if_neg q]
    have : ¬ _ := fun z => q (hcut.mpr z)
    omega
theorem dr_iff (hG : GB G) (hb : ShB R s) (hc1 : 0 ≤ c.toInt) (hc2 : c.toInt ≤ (G 1).toInt) : drR R G c s = true ↔ (patS R G s).toInt < (atR R c s).toInt - (R 3 s).toInt ∨ (G 1).toInt ≤ (atR R c s).toInt := by
  have ha := at_t (R := R) (c := c) (s := s)
  obtain ⟨g0, g1, _⟩ := hG
  obtain ⟨_, _, _, b3, b4, _, b6⟩ := hb
  have e1 : (atR R c s - R 3 s).toInt = (atR R c s).toInt - (R 3 s).toInt := t_sub (by omega) (by omega)
  unfold drR
  rw [Bool.or_eq_true, decide_eq_true_eq, decide_eq_true_eq, t_lt, t_le, e1]
theorem dr_eq (hk : F 0 s = R 0 s) (h3 : F 3 s = R 3 s) (h1 : G 1 = G2 1) (h2 : G 2 = G2 2) (h33 : G 3 = G2 3) (hG : GB G2) (hb : ShB R s) (hc1 : 0 ≤ c.toInt) (hc2 : c.toInt ≤ (G2 1).toInt) : drB F G c s = drR R G2 c s := by
  have ha := at_t (R := R) (c := c) (s := s)
  obtain ⟨g0, g1, _⟩ := hG
  obtain ⟨_, _, _, b3, b4, _, b6⟩ := hb
  have e2 : (G2 1 - atR R c s).toInt = (G2 1).toInt - (atR R c s).toInt := t_sub (by omega) (by omega)
  unfold drB drR
  rw [st_at h3, h3, h1]
  have ep : patS F G s = patS R G2 s := by unfold patS; rw [hk, h2, h33]
  rw [ep]
  have e : decide (¬ 0 < G2 1 - atR R c s) = decide (G2 1 ≤ atR R c s) := by
    refine decide_eq_decide.mpr ?_
    rw [t_lt, t_le, e2, t_0]
    omega
  rw [e]
theorem min_eq (h3 : F 3 s = R 3 s) (h4 : F 4 s = R 4 s) (ho : ov = R 6 s) (h1 : G 1 = G2 1) (hG : GB G2) (hb : ShB R s) (hc1 : 0 ≤ c.toInt) (hc2 : c.toInt ≤ (G2 1).toInt) : minS F G c s ov = forR R G2 c s ∧ decide (G 1 - stS F c s < wantS F s ov) = cutR R G2 c s := by
  have ha := at_t (R := R) (c := c) (s := s)
  have hw := want_t hb
  have hf := for_t hG hb hc1 hc2
  obtain ⟨g0, g1, _⟩ := hG
  obtain ⟨_, _, _, b3, b4, _, b6⟩ := hb
  have e2 : (G2 1 - atR R c s).toInt = (G2 1).toInt - (atR R c s).toInt := t_sub (by omega) (by omega)
  rw [st_at h3, want_eq h4 ho, h1]
  constructor
  · unfold minS
    rw [st_at h3, want_eq h4 ho, h1, t_eq, minF_t, hf.1, e2]
  · have e : (decide (G2 1 - atR R c s < wantR R s) = true) ↔ (cutR R G2 c s = true) := by
      rw [decide_eq_true_eq, t_lt, e2, hf.2]
      omega
    cases h5 : decide (G2 1 - atR R c s < wantR R s) <;> cases h6 : cutR R G2 c s <;> simp_all
end
theorem clk_b {R : Nat → Nat → Int32} {G : Nat → Int32} {d : Int32} (hG : GB G) : ∀ {s : Nat}, (∀ t, t < s → ShB R t) → (G 0).toInt ≤ (clkR R G d s).toInt ∧ (clkR R G d s).toInt ≤ (G 1).toInt
  | 0, _ => by
    obtain ⟨g0, g1, _⟩ := hG
    unfold clkR
    omega
  | s + 1, hb => by
    have ih := clk_b (d := d) hG (s := s) (fun t ht => hb t (by omega))
    have hbs := hb s (by omega)
    have g0 := hG.1
    have g1 := hG.2.1
    unfold clkR
    split
    · rename_i hc
      have hnd := hc.2
      have hdr := dr_iff hG hbs (c := clkR R G d s) (by omega) ih.2
      have hf := (for_t hG hbs (c := clkR R G d s) (by omega) ih.2).1
      have hw := want_t hbs
      have ha := at_t (R := R) (c := clkR R G d s) (s := s)
      have hnd2 : ¬ ((patS R G s).toInt < (atR R (clkR R G d s) s).toInt - (R 3 s).toInt ∨ (G 1).toInt ≤ (atR R (clkR R G d s) s).toInt) := fun z => by
        rw [hdr.mpr z] at hnd; cases hnd
      have b3 := hbs.2.2.2.1
      have e : (atR R (clkR R G d s) s + forR R G (clkR R G d s) s).toInt = (atR R (clkR R G d s) s).toInt + (forR R G (clkR R G d s) s).toInt := t_add (by omega) (by omega)
      rw [e]
      omega
    · exact ih
/-- the settings that both have -/
def GEq (G G2 : Nat → Int32) : Prop := ∀ k, k < 8 → G k = G2 k
theorem clk_a {F R : Nat → Nat → Int32} {G G2 ov : Nat → Int32} {d : Int32} {n : Nat} (h : Agr F R n) (hb : ∀ s, s < n → ShB R s) (hE : GEq G G2) (hG : GB G2) (hov : ∀ s, s < n → ov s = R 6 s) : ∀ {s : Nat}, s ≤ n → clkS F G ov d s = clkR R G2 d s
  | 0, _ => by unfold clkS clkR; exact hE 0 (by decide)
  | s + 1, hs => by
    have ih := clk_a (d := d) h hb hE hG hov (s := s) (by omega)
    have hc := clk_b (d := d) hG (s := s) (fun t ht => hb t (by omega))
    have hc1 : 0 ≤ (clkR R G2 d s).toInt := by have := hG.1; omega
    have hbs := hb s (by omega)
    unfold clkS clkR
    rw [ih, h 2 (by decide) s (by omega), dr_eq (h 0 (by decide) s (by omega)) (h 3 (by decide) s (by omega)) (hE 1 (by decide)) (hE 2 (by decide)) (hE 3 (by decide)) hG hbs hc1 hc.2,
      (min_eq (h 3 (by decide) s (by omega)) (h 4 (by decide) s (by omega)) (hov s (by omega)) (hE 1 (by decide)) hG hbs hc1 hc.2).1, st_at (h 3 (by decide) s (by omega))]
/-- on air: as the class and as the reference have it -/
theorem air_a {F R : Nat → Nat → Int32} {G G2 ov : Nat → Int32} {n : Nat} (h : Agr F R n) (hb : ∀ s, s < n → ShB R s) (hE : GEq G G2) (hG : GB G2) (hov : ∀ s, s < n → ov s = R 6 s) {s : Nat} (hs : s < n) :
    (∀ k, k < 3 → airS F G ov n k s = airR R G2 k s) ∧ (airS F G ov n 0 s = -1 ↔ drR R G2 (clkR R G2 (R 2 s) s) s = true) ∧ (airR R G2 3 s = 2 ↔ drR R G2 (clkR R G2 (R 2 s) s) s = true) ∧ airS F G ov n 3 s = (if drR R G2 (clkR R G2 (R 2 s) s) s = true then 0 else b2i (cutR R G2 (clkR R G2 (R 2 s) s) s)) ∧
    (drR R G2 (clkR R G2 (R 2 s) s) s = false → 0 ≤ (airR R G2 0 s).toInt ∧ (airR R G2 0 s).toInt ≤ 1440) ∧ (0 ≤ (airR R G2 1 s).toInt ∧ (airR R G2 1 s).toInt ≤ 1440) ∧ (0 ≤ (airR R G2 2 s).toInt ∧ (airR R G2 2 s).toInt ≤ 1440) := by
  have e2 : F 2 s = R 2 s := h 2 (by decide) s hs
  have e3 : F 3 s = R 3 s := h 3 (by decide) s hs
  have hbs := hb s hs
  have hc := clk_b (d := R 2 s) hG (s := s) (fun t ht => hb t (by omega))
  have hc1 : 0 ≤ (clkR R G2 (R 2 s) s).toInt := by have := hG.1; omega
  have ec : clkS F G ov (R 2 s) s = clkR R G2 (R 2 s) s := clk_a h hb hE hG hov (by omega)
  have ed := dr_eq (h 0 (by decide) s hs) e3 (hE 1 (by decide)) (hE 2 (by decide)) (hE 3 (by decide)) hG hbs hc1 hc.2
  have em := min_eq e3 (h 4 (by decide) s hs) (hov s hs) (hE 1 (by decide)) hG hbs hc1 hc.2
  have hdr := dr_iff hG hbs hc1 hc.2
  have hf := for_t hG hbs hc1 hc.2
  have hw := want_t hbs
  have ha := at_t (R := R) (c := clkR R G2 (R 2 s) s) (s := s)
  have g0 := hG.1
  have g1 := hG.2.1
  have b3 := hbs.2.2.2.1
  have es : (atR R (clkR R G2 (R 2 s) s) s - R 3 s).toInt = (atR R (clkR R G2 (R 2 s) s) s).toInt - (R 3 s).toInt := t_sub (by omega) (by omega)
  refine ⟨fun k hk => ?_, ?_, ?_, ?_, ?_, ?_, ?_⟩
  · rcases (show k = 0 ∨ k = 1 ∨ k = 2 by omega) with rfl | rfl | rfl
    · show (if drB F G (clkS F G ov (F 2 s) s) s = true then (-1 : Int32) else stS F (clkS F G ov (F 2 s) s) s) = if drR R G2 (clkR R G2 (R 2 s) s) s = true then (-1 : Int32) else atR R (clkR R G2 (R 2 s) s) s
      rw [e2, ec, ed, st_at e3]
    · show (if drB F G (clkS F G ov (F 2 s) s) s = true then (0 : Int32) else minS F G (clkS F G ov (F 2 s) s) s (ov s)) = if drR R G2 (clkR R G2 (R 2 s) s) s = true then (0 : Int32) else forR R G2 (clkR R G2 (R 2 s) s) s
      rw [e2, ec, ed, em.1]
    · show stS F (clkS F G ov (F 2 s) s) s - F 3 s = atR R (clkR R G2 (R 2 s) s) s - R 3 s
      rw [e2, ec, st_at e3, e3]
  · show (if drB F G (clkS F G ov (F 2 s) s) s = true then (-1 : Int32) else stS F (clkS F G ov (F 2 s) s) s) = -1 ↔ _
    rw [e2, ec, ed, st_at e3]
    split
    · rename_i q; simp [q]
    · rename_i q
      constructor
      · intro z
        exfalso
        rw [t_eq, show (-1 : Int32).toInt = -1 from rfl] at z
        omega
      · intro z; exact absurd z q
  · show (if drR R G2 (clkR R G2 (R 2 s) s) s = true then (2 : Int32) else sttR R G2 (clkR R G2 (R 2 s) s) s) = 2 ↔ _
    split
    · rename_i q; simp [q]
    · rename_i q
      constructor
      · intro z
        exfalso
        unfold sttR at z
        revert z
        generalize decide (0 < atR R (clkR R G2 (R 2 s) s) s - R 3 s) = B
        cases B <;> cases cutR R G2 (clkR R G2 (R 2 s) s) s <;> decide
      · intro z; exact absurd z q
  · show (if drB F G (clkS F G ov (F 2 s) s) s = true then (0 : Int32) else b2i (decide (G 1 - stS F (clkS F G ov (F 2 s) s) s < wantS F s (ov s)))) = _
    rw [e2, ec, ed, em.2]
  · intro q
    show 0 ≤ ((if drR R G2 (clkR R G2 (R 2 s) s) s = true then (-1 : Int32) else atR R (clkR R G2 (R 2 s) s) s)).toInt ∧ _
    rw [show airR R G2 0 s = if drR R G2 (clkR R G2 (R 2 s) s) s = true then (-1 : Int32) else atR R (clkR R G2 (R 2 s) s) s from rfl, if_neg (by rw [q]; decide)]
    omega
  · rw [show airR R G2 1 s = if drR R G2 (clkR R G2 (R 2 s) s) s = true then (0 : Int32) else forR R G2 (clkR R G2 (R 2 s) s) s from rfl]
    split
    · exact ⟨by decide, by decide⟩
    · rename_i q
      have : ¬ _ := fun z => q (hdr.mpr z)
      omega
  · rw [show airR R G2 2 s = atR R (clkR R G2 (R 2 s) s) s - R 3 s from rfl, es]
    omega
