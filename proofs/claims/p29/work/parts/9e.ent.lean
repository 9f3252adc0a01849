theorem refR_o {F : Nat → Nat → Int32} {G : Nat → Int32} {al kd g d st ln sp : Int32} {n o o2 : Nat} (h : kd ≠ 2) : refR F G al n kd g d st ln sp o = refR F G al n kd g d st ln sp o2 := by
  unfold refR
  have e1 : ∀ p : Prop, (kd = 2 ∧ p) = False := fun p => by simp [h]
  simp only [e1]
theorem agr_of {V : VV} {z : Nat → Int32} {n : Nat} (h : P2 V 20 z n) : Agr (CF V) (zF z) n := fun k hk s hs => h.2.2.2.2 k (by omega) s hs
theorem geq_of {V : VV} {z : Nat → Int32} {n : Nat} (h : P2 V 20 z n) : GEq (V 21) z := h.1
theorem al_of {V : VV} {z : Nat → Int32} {n g : Nat} (h : P2 V 20 z n) (hg : g < 6) : V 22 g + V 23 g = z (8 + 5 * g + 0) + z (8 + 5 * g + 1) := by
  have a := h.2.1 g hg 0 (by decide)
  have b := h.2.1 g hg 1 (by decide)
  show V (20 + 2 + 0) g + V (20 + 2 + 1) g = _
  rw [a, b]
theorem rw_gb {z : Nat → Int32} {n : Nat} (h : Rw z n) : GB z := gb_of h.2.2.1
/-- why it would be refused: both sides -/
theorem rf_eq {V U : VV} {n g o o2 : Nat} (hP : P2 V 20 (U 201) n) (hR : Rw (U 201) n) (hf : Prp V U) (hg : g < 6) (h1 : 0 ≤ (U 204 3).toInt) (h2 : (U 204 3).toInt ≤ 5000) (h3 : 0 ≤ (U 204 5).toInt) (h4 : (U 204 5).toInt ≤ 5000) (ho : U 204 0 = 2 → o = o2 ∧ o < n) : rfS V n g o = rfN U n g o2 := by
  unfold rfS rfN
  rw [hf.1 0 (by decide), hf.1 2 (by decide), hf.1 3 (by decide), hf.1 4 (by decide), hf.1 5 (by decide), al_of hP hg]
  rw [ref_a (R := RF U) (G2 := U 201) (agr_of hP) hR.2.2.2.1 (geq_of hP) (fun z => (ho z).2) h1 h2 h3 h4]
  by_cases q : U 204 0 = 2
  · rw [(ho q).1]
  · exact refR_o q
/-- entered: both sides -/
theorem ent_rel {V U : VV} {n g o : Nat} (hP : P2 V 20 (U 201) n) (hR : Rw (U 201) n) (hf : Prp V U) (hb : ShB (fun k _ => U 204 k) 0) (hk : (U 204 0 = 2 ∧ U 204 7 = nI o ∧ o < n) ∨ (U 204 0 ≠ 2 ∧ U 204 7 = -1)) (h0 : rfN U n g o = 0) :
    plS V n = plN U n ∧ plN U n ≤ n ∧ P2 (insV V n (plN U n)) 20 (insR U n (plN U n) 201) (n + 1) ∧ Rw (insR U n (plN U n) 201) (n + 1) := by
  have hb' := hb
  unfold ShB at hb'
  dsimp only at hb'
  obtain ⟨b0, b1, b2, b3, b4, b5, b6⟩ := hb'
  have hlt := refR_lt hR.1 h0
  have c1 : (1440 : Int32).toInt = 1440 := rfl
  have e1 : (1440 * U 204 2).toInt = 1440 * (U 204 2).toInt := by rw [t_mul (by rw [c1]; omega) (by rw [c1]; omega), c1]
  have hx : (1440 * U 204 2 + U 204 3).toInt = 1440 * (U 204 2).toInt + (U 204 3).toInt := by rw [t_add (by omega) (by omega), e1]
  have hle : plN U n ≤ n := plcR_le n
  have hno : orTo (hitS (RF U) (U 204 2) (U 204 3) (U 204 4)) n = false := by
    cases q : orTo (hitS (RF U) (U 204 2) (U 204 3) (U 204 4)) n with
    | false => rfl
    | true =>
      exfalso
      unfold rfN refR at h0
      rw [q] at h0
      revert h0
      split
      · decide
      · split
        · decide
        · split
          · decide
          · rw [if_pos rfl]; decide
  have hpl : plS V n = plN U n := by
    unfold plS plN
    rw [hf.1 2 (by decide), hf.1 3 (by decide)]
    exact place_eq (R := RF U) (agr_of hP) hR.2.2.2.1 hR.2.2.2.2.2 b2 b3 b4 hx hno
  refine ⟨hpl, hle, ins_rel hP hf hle, ins_row hR hlt hb hx (fun p hp => ?_)⟩
  rcases hk with ⟨k1, k2, k3⟩ | ⟨k1, k2⟩
  · have hh : RF U 0 o ≠ 2 ∧ ¬ 1440 * U 204 2 + U 204 3 < earlS (RF U) (U 201 4) o := by
      unfold rfN refR at h0
      rw [k1, if_neg (by omega)] at h0
      by_cases a : RF U 0 o = 2
      · rw [if_pos ⟨rfl, a⟩] at h0; exact absurd h0 (by decide)
      · rw [if_neg (fun z => a z.2)] at h0
        refine ⟨a, fun z => ?_⟩
        revert h0
        split
        · decide
        · rw [if_neg (by rw [hno]; decide), if_pos ⟨rfl, z⟩]; decide
    refine Or.inr ⟨k1, o, k3, ?_, k2, hh.1⟩
    have hat := plc_at (key := keyS (RF U)) (x := 1440 * U 204 2 + U 204 3) (n := n)
    rw [← hp] at hat
    have he := earl_t (R := RF U) (G := U 201) (o := o) (hR.2.2.2.1 o k3) (rw_gb hR)
    have hko := key_t (F := RF U) (hR.2.2.2.1 o k3)
    have hbo := hR.2.2.2.1 o k3
    have g4 := (rw_gb hR).2.2.2.2.1
    have h2 := hh.2
    rw [t_lt, hx, he] at h2
    unfold keyT at hko
    obtain ⟨_, _, _, _, q4, _, _⟩ := hbo
    have q4' : 5 ≤ (RF U 4 o).toInt := q4.1
    rcases Nat.lt_or_ge o p with w | w
    · exact w
    · have := t_lt.mp (hat.1 o w k3)
      rw [hx, hko] at this
      omega
  · exact Or.inl ⟨k2, k1⟩
theorem win_t {x lo hi : Int32} : withinB x lo hi = true ↔ lo.toInt ≤ x.toInt ∧ x.toInt ≤ hi.toInt := by
  unfold withinB
  rw [Bool.and_eq_true, decide_eq_true_eq, decide_eq_true_eq, t_le, t_le]
/-- the ranges of a show's numbers: both sides -/
theorem range_eq {g d st ln sp : Int32} : rangeB g d st ln sp = rightB g d st ln sp := by
  have key : rangeB g d st ln sp = true ↔ rightB g d st ln sp = true := by
    unfold rangeB rightB
    simp only [Bool.and_eq_true, win_t, decide_eq_true_eq, t_le, minF_t, and_assoc]
    have c30 : (30 : Int32).toInt = 30 := rfl
    rw [c30]
    constructor
    · rintro ⟨a1, a2, a3, a4, a5, a6, a7, a8, a9, a10⟩
      exact ⟨a1, a2, a3, a4, a5, a6, a7, a8, a9, by omega, by omega⟩
    · rintro ⟨a1, a2, a3, a4, a5, a6, a7, a8, a9, a10, a11⟩
      exact ⟨a1, a2, a3, a4, a5, a6, a7, a8, a9, by omega⟩
  exact Bool.eq_iff_iff.mpr key
theorem right_t {g d st ln sp : Int32} (h : rightB g d st ln sp = true) : (0 ≤ g.toInt ∧ g.toInt ≤ 5) ∧ (0 ≤ d.toInt ∧ d.toInt ≤ 6) ∧ (0 ≤ st.toInt ∧ st.toInt ≤ 1439) ∧ (5 ≤ ln.toInt ∧ ln.toInt ≤ 240) ∧ (0 ≤ sp.toInt ∧ sp.toInt ≤ 30) := by
  unfold rightB at h
  simp only [Bool.and_eq_true, win_t, and_assoc] at h
  obtain ⟨a1, a2, a3, a4, a5, a6, a7, a8, a9, a10, _⟩ := h
  exact ⟨⟨a1, a2⟩, ⟨a3, a4⟩, ⟨a5, a6⟩, ⟨a7, a8⟩, ⟨a9, a10⟩⟩
/-- a show's number: both sides -/
theorem num_eq {x : Int32} {n : Nat} (hn : n ≤ 24) : decide (¬ x < 0 ∧ x < nI n) = withinB x 0 (nI n - 1) := by
  have e : (nI n - 1).toInt = n - 1 := by rw [t_sub (by rw [t_nat (by omega), t_1]; omega) (by rw [t_nat (by omega), t_1]; omega), t_nat (by omega), t_1]
  have key : decide (¬ x < 0 ∧ x < nI n) = true ↔ withinB x 0 (nI n - 1) = true := by
    rw [decide_eq_true_eq, win_t, t_lt, t_lt, t_0, e, t_nat (by omega)]
    omega
  exact Bool.eq_iff_iff.mpr key
