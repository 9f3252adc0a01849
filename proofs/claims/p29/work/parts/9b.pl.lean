theorem cnt_pre {q : Nat → Bool} {p : Nat} : ∀ {n : Nat}, p ≤ n → (∀ t, t < p → q t = true) → (∀ t, p ≤ t → t < n → q t = false) → cntN q n = p
  | 0, h, _, _ => by unfold cntN; omega
  | n + 1, h, h1, h2 => by
    unfold cntN
    by_cases e : p = n + 1
    · rw [if_pos (h1 n (by omega))]
      have : cntN q n = n := cnt_pre (Nat.le_refl n) (fun t ht => h1 t (by omega)) (fun t a b => by omega)
      omega
    · rw [if_neg (by rw [h2 n (by omega) (by omega)]; decide)]
      exact cnt_pre (by omega) h1 (fun t a b => h2 t a (by omega))
/-- the place that the class counts is the one that the reference finds -/
theorem place_eq {F R : Nat → Nat → Int32} {n : Nat} (h : Agr F R n) (hb : ∀ s, s < n → ShB R s) (hs : Srt R n) {d st ln x : Int32} (hd : 0 ≤ d.toInt ∧ d.toInt ≤ 6) (hst : 0 ≤ st.toInt ∧ st.toInt ≤ 1439) (hl : 5 ≤ ln.toInt ∧ ln.toInt ≤ 240) (hx : x.toInt = 1440 * d.toInt + st.toInt) (hno : orTo (hitS R d st ln) n = false) : cntN (befS F d st) n = plcR (keyS R) x n := by
  have hat := plc_at (key := keyS R) (x := x) (n := n)
  have hle := plcR_le (key := keyS R) (x := x) n
  generalize plcR (keyS R) x n = p at hat hle
  have hne : ∀ t, t < n → keyT R t ≠ x.toInt := fun t ht hk => by
    obtain ⟨_, _, b2, b3, b4, _⟩ := hb t ht
    unfold keyT at hk
    have e1 : (R 2 t).toInt = d.toInt := by omega
    have e2 : (R 3 t).toInt = st.toInt := by omega
    have : orTo (hitS R d st ln) n = true := or_ex.mpr ⟨t, ht, by
      unfold hitS
      have e3 : (st + ln).toInt = st.toInt + ln.toInt := t_add (by omega) (by omega)
      have e4 : (R 3 t + R 4 t).toInt = (R 3 t).toInt + (R 4 t).toInt := t_add (by omega) (by omega)
      rw [decide_eq_true (t_eq.mpr e1), decide_eq_true (t_lt.mpr (by omega)), decide_eq_true (t_lt.mpr (by omega))]; rfl⟩
    rw [this] at hno; cases hno
  have hbef : ∀ t, t < n → (befS F d st t = true ↔ keyT R t < x.toInt) := fun t ht => by
    obtain ⟨_, _, b2, b3, b4, _⟩ := hb t ht
    unfold befS
    rw [h 2 (by decide) t ht, h 3 (by decide) t ht, Bool.or_eq_true, Bool.and_eq_true, decide_eq_true_eq, decide_eq_true_eq, decide_eq_true_eq, t_lt, t_eq, t_lt]
    unfold keyT
    omega
  refine cnt_pre hle (fun t ht => ?_) (fun t h1 h2 => ?_)
  · rw [hbef t (by omega)]
    have a := hat.2 (by omega)
    rw [t_lt, key_t (hb (p - 1) (by omega))] at a
    have c := hne t (by omega)
    by_cases q : t = p - 1
    · rw [q] at c ⊢; omega
    · have := hs t (p - 1) (by omega) (by omega)
      omega
  · have a := t_lt.mp (hat.1 t h1 h2)
    rw [key_t (hb t h2)] at a
    cases hx2 : befS F d st t with
    | false => rfl
    | true => have := (hbef t h2).mp hx2; omega
/-- the repeats of p go out, from the highest on: both sides -/
theorem rm_lo {p : Nat} : ∀ {k : Nat} {U : VV} {n c : Nat}, k ≤ p + 1 → p < n → n ≤ 24 → OrB (RF U) n → rmR k U n p c = (U, n, p, c)
  | 0, _, _, _, _, _, _, _ => rfl
  | k + 1, U, n, c, h, hp, hn, ho => by
    unfold rmR
    rw [if_neg ?_]
    · exact rm_lo (by omega) hp hn ho
    · intro q
      rcases ho k (by omega) with ⟨c1, c2⟩ | ⟨c1, o, c2, c3, c4⟩
      · rw [c1] at q
        exact nI_m1 (o := p) (by omega) q.symm
      · rw [c3] at q
        have := (nI_eq (by omega) (by omega)).mp q
        omega
theorem rm_rel {p : Nat} : ∀ {k : Nat} {V U : VV} {n c : Nat}, p + k < n → P2 V 20 (U 201) n → Rw (U 201) n →
    (∀ s, p + k < s → s < n → RF U 7 s ≠ nI p) →
    P2 (remL p k V n).1 20 ((rmR (p + k + 1) U n p c).1 201) (remL p k V n).2 ∧ (rmR (p + k + 1) U n p c).2.1 = (remL p k V n).2 ∧ (rmR (p + k + 1) U n p c).2.2.1 = p ∧ (rmR (p + k + 1) U n p c).2.2.2 + (remL p k V n).2 = c + n ∧ p < (remL p k V n).2 ∧ (remL p k V n).2 ≤ n ∧
    Rw ((rmR (p + k + 1) U n p c).1 201) (remL p k V n).2 ∧ (∀ s, s < (remL p k V n).2 → RF (rmR (p + k + 1) U n p c).1 7 s ≠ nI p) ∧ (∀ i, i ≠ 201 → (rmR (p + k + 1) U n p c).1 i = U i) ∧ (∀ i, i < 20 ∨ 36 < i → (remL p k V n).1 i = V i)
  | 0, V, U, n, c, h, hP, hR, hno => by
    have hn : n ≤ 24 := hR.1
    have e := rm_lo (p := p) (k := p + 0 + 1) (U := U) (n := n) (c := c) (by omega) (by omega) hn hR.2.2.2.2.1
    rw [e]
    refine ⟨hP, rfl, rfl, rfl, by simp only [remL]; omega, Nat.le_refl n, hR, fun s hs => ?_, fun _ _ => rfl, fun _ _ => rfl⟩
    by_cases q : p < s
    · exact hno s q hs
    · intro z
      rcases hR.2.2.2.2.1 s hs with ⟨c1, c2⟩ | ⟨c1, o, c2, c3, c4⟩
      · rw [show RF U 7 s = -1 from c1] at z
        exact nI_m1 (o := p) (by omega) z.symm
      · rw [show RF U 7 s = nI o from c3] at z
        have := (nI_eq (by omega) (by omega)).mp z
        omega
  | k + 1, V, U, n, c, h, hP, hR, hno => by
    have hn : n ≤ 24 := hR.1
    have e7 : V 36 (p + (k + 1)) = RF U 7 (p + (k + 1)) := hP.2.2.2.2 7 (by decide) (p + (k + 1)) h
    rw [show p + (k + 1) + 1 = (p + k + 1) + 1 by omega]
    unfold rmR remL
    rw [e7, show p + k + 1 = p + (k + 1) by omega]
    by_cases q : RF U 7 (p + (k + 1)) = nI p
    · rw [if_pos q, if_pos q, if_neg (by omega)]
      obtain ⟨n', rfl⟩ : ∃ n', n = n' + 1 := ⟨n - 1, by omega⟩
      have hk2 : RF U 0 (p + (k + 1)) = 2 := by
        rcases hR.2.2.2.2.1 (p + (k + 1)) h with ⟨c1, c2⟩ | ⟨c1, _⟩
        · rw [show RF U 7 (p + (k + 1)) = -1 from c1] at q
          exact absurd q.symm (nI_m1 (by omega))
        · exact c1
      have hno2 : ∀ s, s ≤ n' → RF U 7 s ≠ nI (p + (k + 1)) := fun s hs z => by
        rcases hR.2.2.2.2.1 s (by omega) with ⟨c1, c2⟩ | ⟨c1, o, c2, c3, c4⟩
        · rw [show RF U 7 s = -1 from c1] at z
          exact nI_m1 (by omega) z.symm
        · rw [show RF U 7 s = nI o from c3] at z
          have := (nI_eq (by omega) (by omega)).mp z
          rw [this] at c4
          exact c4 hk2
      have hP2 := del_rel (p := p + (k + 1)) hP
      have hR2 := del_row (p := p + (k + 1)) hR (by omega) hno2
      rw [Nat.add_sub_cancel]
      have ih := rm_rel (p := p) (k := k) (V := delV V n' (p + (k + 1))) (U := delR U n' (p + (k + 1))) (n := n') (c := c + 1) (by omega) hP2 hR2 (fun s h1 h2 z => by
        rw [show RF (delR U n' (p + (k + 1))) 7 s = zF (delR U n' (p + (k + 1)) 201) 7 s from rfl, delR_7 h2, if_neg (by omega)] at z
        rcases hR.2.2.2.2.1 (s + 1) (by omega) with ⟨c1, c2⟩ | ⟨c1, o, c2, c3, c4⟩
        · rw [show RF U 7 (s + 1) = -1 from c1, dec_m1 (by omega)] at z
          exact nI_m1 (o := p) (by omega) z.symm
        · have hne := hno (s + 1) (by omega) (by omega)
          rw [show RF U 7 (s + 1) = nI o from c3] at hne z
          by_cases w : o ≤ p + (k + 1)
          · rw [dec_lo (by omega) w] at z; exact hne z
          · rw [dec_hi (by omega) (by omega)] at z
            have := (nI_eq (by omega) (by omega)).mp z
            omega)
      rw [show p + k + 1 = p + (k + 1) by omega] at ih
      obtain ⟨i1, i2, i3, i4, i5, i6, i7, i8, i9, i10⟩ := ih
      exact ⟨i1, i2, i3, by omega, i5, by omega, i7, i8, fun i hi => (i9 i hi).trans (delR_no hi), fun i hi => (i10 i hi).trans (del_nf (by omega) (by omega))⟩
    · rw [if_neg q, if_neg q]
      have ih := rm_rel (p := p) (k := k) (V := V) (U := U) (n := n) (c := c) (by omega) hP hR (fun s h1 h2 => by
        by_cases e : s = p + (k + 1)
        · rw [e]; exact q
        · exact hno s (by omega) h2)
      exact ih
theorem wog_b {F R A : Nat → Nat → Int32} {G G2 ov : Nat → Int32} {n : Nat} (B : Bth F R G G2 ov n) (hA : AirOf F G ov n A) {g : Int32} {V : VV} (hR : R = RF V) (hG : G2 = V 201) : wogS F A (G 5) n g = awS V n g := by
  rw [wog_a B hA, B.2.2.1 5 (by decide)]
  subst hR hG
  rfl
theorem car_eq {d lim : Int32} (h : 0 ≤ lim.toInt) (h2 : lim.toInt ≤ 100000) : maxF (-lim) (minF lim d) = carF d lim := by
  have e := t_neg (a := lim) (by omega) (by omega)
  have m1 := minF_t (x := lim) (y := d)
  have m2 := maxF_t (x := -lim) (y := minF lim d)
  rw [t_eq, m2, m1, e]
  unfold carF
  split
  · rename_i q
    rw [t_lt, e] at q
    rw [e]; omega
  · rename_i q
    rw [t_lt, e] at q
    split
    · rename_i q2
      rw [t_lt] at q2
      omega
    · rename_i q2
      rw [t_lt] at q2
      omega
theorem airR_g {R : Nat → Nat → Int32} {G G2 : Nat → Int32} {k s : Nat} (h : ∀ k, k < 8 → G k = G2 k) : airR R G k s = airR R G2 k s := by
  have ed : ∀ c t, drR R G c t = drR R G2 c t := fun c t => by unfold drR patS; rw [h 1 (by decide), h 2 (by decide), h 3 (by decide)]
  have ef : ∀ c t, cutR R G c t = cutR R G2 c t := fun c t => by unfold cutR; rw [h 1 (by decide)]
  have ec : ∀ d t, clkR R G d t = clkR R G2 d t := fun d t => by
    induction t with
    | zero => exact h 0 (by decide)
    | succ t ih =>
      unfold clkR
      rw [ih, ed]
      unfold forR
      rw [ef, h 1 (by decide)]
  unfold airR
  rw [ec, ed]
  unfold forR sttR
  rw [ef, h 1 (by decide)]
/-- closing one group -/
theorem cg_rel {V U : VV} {n g : Nat} (h : P2 V 20 (U 201) n) (hg : g < 6) (hG : GB (U 201)) (w : Int32) : P2 (cgV V g w) 20 (cgR U g w 201) n := by
  obtain ⟨h1, h2, h3, h4, h5⟩ := h
  have g7 := hG.2.2.2.2.2.2.2
  have e7 : V 21 7 = U 201 7 := h1 7 (by decide)
  have q0 : V 22 g = U 201 (8 + 5 * g + 0) := h2 g hg 0 (by decide)
  have q1 : V 23 g = U 201 (8 + 5 * g + 1) := h2 g hg 1 (by decide)
  have q2 : V 24 g = U 201 (8 + 5 * g + 2) := h2 g hg 2 (by decide)
  have q3 : V 25 g = U 201 (8 + 5 * g + 3) := h2 g hg 3 (by decide)
  have q4 : V 26 g = U 201 (8 + 5 * g + 4) := h2 g hg 4 (by decide)
  refine ⟨fun k hk => ?_, fun a ha k hk => ?_, ?_, ?_, fun k hk s hs => ?_⟩
  · show cgV V g w 21 k = _
    rw [cgV_nf (by omega), cgR_hi hg (by omega)]
    exact h1 k hk
  · show cgV V g w (22 + k) a = _
    unfold cgV cgR
    rw [e7, car_eq (by omega) (by omega), q0, q1, q2, q3, q4]
    by_cases hag : a = g
    · subst hag
      rcases (show k = 0 ∨ k = 1 ∨ k = 2 ∨ k = 3 ∨ k = 4 by omega) with rfl | rfl | rfl | rfl | rfl
      · rw [up_no (by decide), up_no (by decide), up_no (by decide), up_no (by decide), up_nk (by omega), up_nk (by omega), up_nk (by omega), up_nk (by omega)]; exact q0
      · rw [up_no (by decide), up_no (by decide), up_no (by decide), up_ss, up_ss]; rfl
      · rw [up_ss, up_nk (by omega), up_nk (by omega), up_nk (by omega), up_ss]
      · rw [up_no (by decide), up_ss, up_nk (by omega), up_nk (by omega), up_ss]
      · rw [up_no (by decide), up_no (by decide), up_ss, up_nk (by omega), up_ss]; rfl
    · rw [up_nk (by omega), up_nk (by omega), up_nk (by omega), up_nk (by omega)]
      rw [up_nk (by omega), up_nk (by omega), up_nk (by omega), up_nk (by omega)]
      exact h2 a ha k hk
  · rw [cgV_nf (by omega), cgR_hi hg (by omega)]; exact h3
  · rw [cgV_nf (by omega)]; exact h4
  · show cgV V g w (29 + k) s = _
    rw [cgV_nf (by omega)]
    unfold zF
    rw [cgR_hi hg (by omega)]
    exact h5 k hk s hs
theorem cl_rel {V U : VV} {n : Nat} (h : P2 V 20 (U 201) n) (hG : GB (U 201)) (hw : ∀ g, g < 6 → wogS (CF V) (AF 6 V) (V 21 5) n (nI g) = awS U n (nI g)) : ∀ {g : Nat}, g ≤ 6 → P2 (clN n V g) 20 (cgN U n g 201) n
  | 0, _ => h
  | g + 1, hg => by
    have ih := cl_rel h hG hw (g := g) (by omega)
    have e1 : CF (clN n V g) = CF V := funext fun k => clN_nf (i := 29 + k) (by omega)
    have e3 : wogS (CF (clN n V g)) (AF 6 (clN n V g)) ((clN n V g) 21 5) n (nI g) = awS (cgN U n g) n (nI g) := by
      have a1 : awS (cgN U n g) n (nI g) = awS U n (nI g) := by
        unfold awS
        rw [cgN_rf (by omega), cgN_hi (Or.inr (by decide)) (by omega)]
        refine sumTo_congr fun s _ => ?_
        have ea : airR (RF U) (cgN U n g 201) 1 s = airR (RF U) (U 201) 1 s := by
          have hc : ∀ k, k < 8 → cgN U n g 201 k = U 201 k := fun k hk => cgN_hi (Or.inr hk) (by omega)
          exact airR_g hc
        rw [ea]
      rw [e1, clN_nf (i := 21) (by omega), a1, ← hw g (by omega)]
      refine sumTo_congr fun s _ => ?_
      rw [show AF 6 (clN n V g) 1 s = AF 6 V 1 s from by show clN n V g 8 s = V 8 s; rw [clN_nf (by omega)]]
    rw [clN, cgN, e3]
    exact cg_rel ih (by omega) (gb_cg (fun k hk => cgN_hi (Or.inr hk) (by omega)) hG) _
theorem zr_k {U : VV} {n k s : Nat} (hk : k < 8) : zF (zrR U n 201) k s = if k = 6 ∧ s < n then 0 else RF U k s := by
  unfold zF zrR
  by_cases q : k = 6 ∧ s < n
  · rw [if_pos ⟨rfl, by omega, by omega, by omega⟩, if_pos q]
  · rw [if_neg (by omega), if_neg q]; rfl
theorem zr_lo {U : VV} {n j : Nat} (h : j < 40) : zrR U n 201 j = U 201 j := zrR_lo h
/-- closing the week -/
theorem bw_rel {V U : VV} {n : Nat} (h : P2 V 20 (cgN U n 6 201) n) : P2 (bwV V n) 20 (cwR U n 201) n := by
  obtain ⟨h1, h2, h3, h4, h5⟩ := h
  unfold bwV cwR
  refine ⟨fun k hk => ?_, fun a ha k hk => ?_, ?_, ?_, fun k hk s hs => ?_⟩
  · rw [up_no (by omega), up_nk (by omega), zr_lo (by omega)]
    show (zeroV V n) 21 k = _
    unfold zeroV
    rw [if_neg (by omega)]
    exact h1 k hk
  · rw [up_no (by omega), up_nk (by omega), zr_lo (by omega)]
    unfold zeroV
    rw [if_neg (by omega)]
    exact h2 a ha k hk
  · rw [up_ss, up_ss, h3, cgN_hi (Or.inl (by decide)) (by decide)]
  · rw [up_nk (by decide)]
    unfold zeroV
    rw [if_neg (by omega)]
    exact h4
  · rw [up_no (by omega)]
    have e : zF ((up (zrR (cgN U n 6) n) 201 38 (U 201 38 + 1)) 201) k s = zF (zrR (cgN U n 6) n 201) k s := by
      unfold zF; rw [up_nk (by omega)]
    rw [e, zr_k hk]
    unfold zeroV
    by_cases q : k = 6
    · subst q; rw [if_pos ⟨rfl, hs⟩, if_pos ⟨rfl, hs⟩]
    · rw [if_neg (by omega), if_neg (fun z => q z.1)]
      exact h5 k hk s hs
theorem cw_row {U : VV} {n : Nat} (h : Rw (U 201) n) : Rw (cwR U n 201) n := by
  obtain ⟨h1, h2, h3, h4, h5, h6⟩ := h
  have elo : ∀ j, (j < 8 ∨ j = 39) → cwR U n 201 j = U 201 j := fun j hj => by
    unfold cwR
    rw [up_nk (by omega), zr_lo (by omega), cgN_hi (by omega) (by decide)]
  have e : ∀ k, k < 8 → ∀ s, s < n → zF (cwR U n 201) k s = if k = 6 then 0 else RF U k s := fun k hk s hs => by
    have e1 : zF (cwR U n 201) k s = zF (zrR (cgN U n 6) n 201) k s := by
      unfold zF cwR; rw [up_nk (by omega)]
    rw [e1, zr_k hk, cgN_rf (by decide)]
    by_cases q : k = 6
    · rw [if_pos ⟨q, hs⟩, if_pos q]
    · rw [if_neg (fun z => q z.1), if_neg q]
  have en : ∀ k, k < 8 → k ≠ 6 → ∀ s, s < n → zF (cwR U n 201) k s = RF U k s := fun k hk h6 s hs => by rw [e k hk s hs, if_neg h6]
  refine ⟨h1, by rw [elo 39 (Or.inr rfl)]; exact h2, fun k hk => by rw [elo k (Or.inl hk)]; exact h3 k hk, fun s hs => ?_, fun s hs => ?_, fun s t hst ht => ?_⟩
  · obtain ⟨b0, b1, b2, b3, b4, b5, b6⟩ := h4 s hs
    unfold ShB
    rw [en 0 (by decide) (by decide) s hs, en 1 (by decide) (by decide) s hs, en 2 (by decide) (by decide) s hs, en 3 (by decide) (by decide) s hs, en 4 (by decide) (by decide) s hs, en 5 (by decide) (by decide) s hs, e 6 (by decide) s hs, if_pos rfl]
    exact ⟨b0, b1, b2, b3, b4, b5, by decide⟩
  · rw [en 7 (by decide) (by decide) s hs, en 0 (by decide) (by decide) s hs]
    rcases h5 s hs with c | ⟨c1, o, c2, c3, c4⟩
    · exact Or.inl c
    · exact Or.inr ⟨c1, o, c2, c3, by rw [en 0 (by decide) (by decide) o (by omega)]; exact c4⟩
  · unfold keyT
    rw [en 2 (by decide) (by decide) s (by omega), en 3 (by decide) (by decide) s (by omega), en 2 (by decide) (by decide) t ht, en 3 (by decide) (by decide) t ht]
    exact h6 s t hst ht
