theorem sumTo_add {f g : Nat → Int32} : ∀ {n : Nat}, sumTo (fun i => f i + g i) n = sumTo f n + sumTo g n
  | 0 => (Int32.add_zero 0).symm
  | n + 1 => by
    rw [sumTo, sumTo, sumTo, sumTo_add]
    rw [Int32.add_assoc, Int32.add_assoc, ← Int32.add_assoc (sumTo g n), Int32.add_comm (sumTo g n), Int32.add_assoc]
theorem sumTo_0 {f : Nat → Int32} : ∀ {n : Nat}, (∀ i, i < n → f i = 0) → sumTo f n = 0
  | 0, _ => rfl
  | n + 1, h => by rw [sumTo, sumTo_0 (fun i hi => h i (by omega)), h n (by omega), Int32.add_zero]
theorem sumTo_one {y : Int32} {d : Nat} : ∀ {n : Nat}, d < n → n < 1000 → sumTo (fun i => if nI d = nI i then y else 0) n = y
  | 0, h, _ => absurd h (Nat.not_lt_zero d)
  | n + 1, h, hn => by
    rw [sumTo]
    by_cases q : d = n
    · subst q
      rw [if_pos rfl, sumTo_0 (fun i hi => if_neg (fun z => by have := (nI_eq (a := d) (b := i) (by omega) (by omega)).mp z; omega)), Int32.zero_add]
    · rw [if_neg (fun z => q ((nI_eq (by omega) (by omega)).mp z)), Int32.add_zero]
      exact sumTo_one (by omega) (by omega)
theorem sumTo2_0 {f : Nat → Int32} : ∀ {n : Nat}, dayR.sumTo2 0 f n = sumTo f n
  | 0 => rfl
  | n + 1 => by rw [dayR.sumTo2, sumTo, sumTo2_0]
theorem sumTo2_a {a : Int32} {f : Nat → Int32} : ∀ {n : Nat}, (∀ i, i < n → f i = 0) → dayR.sumTo2 a f n = a
  | 0, _ => rfl
  | n + 1, h => by rw [dayR.sumTo2, sumTo2_a (fun i hi => h i (by omega)), h n (by omega), Int32.add_zero]
/-- the class's airing: what playing has left in it -/
def AirOf (F : Nat → Nat → Int32) (G ov : Nat → Int32) (n : Nat) (A : Nat → Nat → Int32) : Prop := (∀ s, s < n → ∀ k, k < 4 → A k s = airS F G ov n k s) ∧ ∀ d, d < 7 → A 4 d = clkS F G ov (nI d) n
/-- both sides of a plan, and the overruns that are played -/
def Bth (F R : Nat → Nat → Int32) (G G2 ov : Nat → Int32) (n : Nat) : Prop := Agr F R n ∧ (∀ s, s < n → ShB R s) ∧ GEq G G2 ∧ GB G2 ∧ ∀ s, s < n → ov s = R 6 s
section
variable {F R A : Nat → Nat → Int32} {G G2 ov : Nat → Int32} {n : Nat}
theorem drp_a (B : Bth F R G G2 ov n) (hA : AirOf F G ov n A) {s : Nat} (hs : s < n) : drpB A s = decide (airR R G2 3 s = 2) := by
  obtain ⟨h1, h2, h3, h4, h5⟩ := B
  have h := air_a h1 h2 h3 h4 h5 hs
  unfold drpB
  rw [hA.1 s hs 0 (by decide)]
  exact decide_eq_decide.mpr (h.2.1.trans h.2.2.1.symm)
theorem fate_a (B : Bth F R G G2 ov n) (hA : AirOf F G ov n A) {s : Nat} (hs : s < n) : fateS A s = airR R G2 3 s := by
  have hd := drp_a B hA hs
  obtain ⟨h1, h2, h3, h4, h5⟩ := B
  have h := air_a h1 h2 h3 h4 h5 hs
  have ea : airR R G2 3 s = if drR R G2 (clkR R G2 (R 2 s) s) s = true then 2 else sttR R G2 (clkR R G2 (R 2 s) s) s := rfl
  unfold fateS dlyB
  rw [hd, hA.1 s hs 2 (by decide), hA.1 s hs 3 (by decide), h.1 2 (by decide), h.2.2.2.1]
  by_cases q : drR R G2 (clkR R G2 (R 2 s) s) s = true
  · have e2 := h.2.2.1.mpr q
    rw [if_pos (decide_eq_true e2), if_pos q, if_pos rfl, e2]
    rfl
  · have e2 : ¬ airR R G2 3 s = 2 := fun z => q (h.2.2.1.mp z)
    rw [decide_eq_false e2, if_neg q, ea, if_neg q]
    unfold sttR
    rw [show airR R G2 2 s = atR R (clkR R G2 (R 2 s) s) s - R 3 s from rfl]
    cases decide (0 < atR R (clkR R G2 (R 2 s) s) s - R 3 s) <;> cases cutR R G2 (clkR R G2 (R 2 s) s) s <;> decide
theorem part_a (B : Bth F R G G2 ov n) (hA : AirOf F G ov n A) {s w : Nat} (hs : s < n) (hw : w < 6) : partS F A w s = partR R (airR R G2) w s := by
  have hd := drp_a B hA hs
  obtain ⟨h1, h2, h3, h4, h5⟩ := B
  have h := air_a h1 h2 h3 h4 h5 hs
  have e1 : A 1 s = airR R G2 1 s := (hA.1 s hs 1 (by decide)).trans (h.1 1 (by decide))
  have e2 : A 2 s = airR R G2 2 s := (hA.1 s hs 2 (by decide)).trans (h.1 2 (by decide))
  unfold partS partR dlyB
  rw [hd, e1, e2, h1 4 (by decide) s hs]
  rcases (show w = 0 ∨ w = 1 ∨ w = 2 ∨ w = 3 ∨ w = 4 ∨ w = 5 by omega) with rfl | rfl | rfl | rfl | rfl | rfl
  · rfl
  · rfl
  · rfl
  · show b2i (!decide (airR R G2 3 s = 2) && decide (0 < airR R G2 2 s)) = b2i (decide (¬ airR R G2 3 s = 2 ∧ 0 < airR R G2 2 s))
    by_cases q : airR R G2 3 s = 2 <;> simp [q]
  · rfl
  · show (if decide (airR R G2 3 s = 2) = true then (0 : Int32) else airR R G2 2 s) = if airR R G2 3 s = 2 then 0 else airR R G2 2 s
    by_cases q : airR R G2 3 s = 2 <;> simp [q]
theorem sp_a (B : Bth F R G G2 ov n) (hA : AirOf F G ov n A) {d : Int32} {x : Nat} (hx : x < 24) : spS F A n d (nI x) = airedR R (airR R G2) n d (nI x) := by
  refine sumTo_congr fun s hs => ?_
  have hd := drp_a B hA hs
  obtain ⟨h1, h2, h3, h4, h5⟩ := B
  have h := air_a h1 h2 h3 h4 h5 hs
  have hx2 : (nI x).toInt = x := t_nat (by omega)
  rw [hd, h1 2 (by decide) s hs]
  by_cases q : R 2 s = d ∧ ¬ airR R G2 3 s = 2
  · rw [if_pos ⟨q.1, decide_eq_false q.2⟩, if_pos q]
    have hnd : drR R G2 (clkR R G2 (R 2 s) s) s = false := by
      cases z : drR R G2 (clkR R G2 (R 2 s) s) s with
      | false => rfl
      | true => exact absurd (h.2.2.1.mpr z) q.2
    have e0 : A 0 s = airR R G2 0 s := (hA.1 s hs 0 (by decide)).trans (h.1 0 (by decide))
    have e1 : A 1 s = airR R G2 1 s := (hA.1 s hs 1 (by decide)).trans (h.1 1 (by decide))
    have b0 := h.2.2.2.2.1 hnd
    have b1 := h.2.2.2.2.2.1
    have b5 := (h2 s hs).2.2.2.2.2.1
    have em := minF_t (x := R 5 s) (y := airR R G2 1 s)
    rw [e0, e1, h1 5 (by decide) s hs, ← minF_c, inHour_eq b0.1 (by omega) (by omega) (by omega) (by omega) (by omega)]
  · rw [if_neg q, if_neg (fun z => q ⟨z.1, of_decide_eq_false z.2⟩)]
theorem hrs_a (B : Bth F R G G2 ov n) (hA : AirOf F G ov n A) {lim d : Int32} : hrsS F A lim n d = hrsR R (airR R G2) lim n d := by
  refine sumTo_congr fun x hx => ?_
  rw [sp_a B hA hx]
theorem day_a (B : Bth F R G G2 ov n) (hA : AirOf F G ov n A) {lim : Int32} {d w : Nat} (hd : d < 7) (hw : w < 8) : dayS F A lim n d w = dayR R (airR R G2) (clkR R G2 (nI d) n) lim n (nI d) w := by
  unfold dayS dayR
  by_cases h6 : w = 6
  · rw [if_pos h6, if_pos h6, hA.2 d hd]
    obtain ⟨h1, h2, h3, h4, h5⟩ := B
    exact clk_a h1 h2 h3 h4 h5 (Nat.le_refl n)
  · rw [if_neg h6, if_neg h6]
    by_cases h7 : w = 7
    · rw [if_pos h7, if_pos h7, hrs_a B hA, sumTo2_a (fun s _ => ?_)]
      split
      · exact (pR_d (by omega)).symm
      · rfl
    · rw [if_neg h7, if_neg h7, sumTo2_0]
      refine sumTo_congr fun s hs => ?_
      rw [B.1 2 (by decide) s hs, part_a B hA hs (by omega)]
theorem wog_a (B : Bth F R G G2 ov n) (hA : AirOf F G ov n A) {sh g : Int32} : wogS F A sh n g = sumTo (fun s => if R 1 s = g then worthF sh (R 0 s) (airR R G2 1 s) else 0) n := by
  refine sumTo_congr fun s hs => ?_
  have e1 : A 1 s = airR R G2 1 s := by
    have h := air_a B.1 B.2.1 B.2.2.1 B.2.2.2.1 B.2.2.2.2 hs
    exact (hA.1 s hs 1 (by decide)).trans (h.1 1 (by decide))
  rw [B.1 1 (by decide) s hs, B.1 0 (by decide) s hs, e1]
theorem wk_x {p : Nat → Int32} {w : Nat} {cl : Int32 → Nat → Int32} {lim : Int32} (hw : w < 6) : ∀ {n : Nat}, (∀ s, s < n → ∃ d, d < 7 ∧ R 2 s = nI d) → (∀ s, s < n → partR R (airR R G2) w s = p s) → sumTo (fun d => dayR R (airR R G2) (cl (nI d) n) lim n (nI d) w) 7 = sumTo p n
  | 0, _, _ => by
    refine sumTo_0 fun d hd => ?_
    unfold dayR
    rw [if_neg (by omega), if_neg (by omega)]
    rfl
  | n + 1, hdy, hp => by
    have ih := wk_x (cl := fun d m => cl d (m + 1)) (lim := lim) (p := p) hw (n := n) (fun s hs => hdy s (by omega)) (fun s hs => hp s (by omega))
    have e : ∀ d, d < 7 → dayR R (airR R G2) (cl (nI d) (n + 1)) lim (n + 1) (nI d) w = dayR R (airR R G2) (cl (nI d) (n + 1)) lim n (nI d) w + (if R 2 n = nI d then p n else 0) := fun d _ => by
      unfold dayR
      rw [if_neg (by omega), if_neg (by omega), if_neg (by omega), if_neg (by omega), dayR.sumTo2, hp n (by omega)]
    obtain ⟨d0, hd0, hdd⟩ := hdy n (by omega)
    rw [sumTo_congr e, sumTo_add, ih, show sumTo p (n + 1) = sumTo p n + p n from rfl, hdd, sumTo_one hd0 (by decide)]
theorem wk_a (B : Bth F R G G2 ov n) (hA : AirOf F G ov n A) {w : Nat} (hw : w < 6) {lim : Int32} (hdy : ∀ s, s < n → ∃ d, d < 7 ∧ R 2 s = nI d) : wkS F A n w = sumTo (fun d => dayR R (airR R G2) (clkR R G2 (nI d) n) lim n (nI d) w) 7 :=
  (wk_x (p := partS F A w) (cl := clkR R G2) hw hdy (fun s hs => (part_a B hA hs hw).symm)).symm
end
