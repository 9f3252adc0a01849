theorem bth_of {W : VV} {n : Nat} (hP : P2 W 20 (W 201) n) (hR : Rw (W 201) n) : Bth (CF W) (RF W) (W 21) (W 201) (W 35) n := ⟨agr_of hP, hR.2.2.2.1, geq_of hP, rw_gb hR, fun s hs => hP.2.2.2.2 6 (by decide) s hs⟩
theorem air_in {V V1 : VV} {n : Nat} (h : AirI 6 V V1 (V 35) n) : AirOf (CF V1) (V1 21) (V1 35) n (AF 6 V1) := by
  obtain ⟨h1, h2, h3⟩ := h
  have ec : CF V1 = CF V := funext fun k => h1 (29 + k) (by omega)
  rw [ec, h1 21 (by decide), h1 35 (by decide)]
  exact ⟨fun s hs k hk => h2 s hs k hk, h3⟩
def Pq (W : VV) (n : Nat) : Prop := P2 W 20 (W 201) n ∧ Rw (W 201) n ∧ AirOf (CF W) (W 21) (W 35) n (AF 6 W)
theorem pq_of {V V1 : VV} {n : Nat} (hP : P2 V 20 (V 201) n) (hR : Rw (V 201) n) (h : AirI 6 V V1 (V 35) n) : Pq V1 n := by
  have ez : V1 201 = V 201 := h.1 201 (by decide)
  exact ⟨P2.cg hR.1 (fun i a b => h.1 i (by omega)) (fun j _ => congrFun ez j) hP, Rw.cg (fun j _ => congrFun ez j) hR, air_in h⟩
theorem i4 {s : Int32} {h : 0 ≤ s.toInt ∧ s.toInt ≤ 5} : ∃ g, g < 6 ∧ s = nI g := by
  obtain ⟨g, h1, h2⟩ := nat_of (x := s) (by omega)
  exact ⟨g, by omega, h1⟩
theorem rw_g {z : Nat → Int32} {n s : Nat} (hR : Rw z n) (hs : s < n) : ∃ g, g < 6 ∧ zF z 1 s = nI g := i4 (h := (hR.2.2.2.1 s hs).2.1)
theorem rw_d {z : Nat → Int32} {n s : Nat} (hR : Rw z n) (hs : s < n) : ∃ g, g < 7 ∧ zF z 2 s = nI g := by
  obtain ⟨g, h1, h2⟩ := nat_of (x := zF z 2 s) (by have := (hR.2.2.2.1 s hs).2.2.1; omega)
  exact ⟨g, by have := (hR.2.2.2.1 s hs).2.2.1; omega, h1⟩
section
variable {W : VV} {n : Nat}
theorem q_show (q : Pq W n) {s w : Nat} (hs : s < n) (hw : w < 12) : spV W s w = showN W s w := by
  obtain ⟨hP, hR, hA⟩ := q
  have B := bth_of hP hR
  have h := air_a B.1 B.2.1 B.2.2.1 B.2.2.2.1 B.2.2.2.2 hs
  unfold spV
  by_cases h8 : w < 8
  · rw [if_pos h8]
    unfold showN
    rw [if_pos h8]
    exact hP.2.2.2.2 w h8 s hs
  · rw [if_neg h8]
    by_cases h11 : w < 11
    · rw [if_pos h11, showN_hi (w - 8) (by omega), ← h.1 (w - 8) (by omega), ← hA.1 s hs (w - 8) (by omega)]
      show W (w - 1) s = W (6 + 1 + (w - 8)) s
      rw [show 6 + 1 + (w - 8) = w - 1 by omega]
    · rw [if_neg h11, fate_a B hA hs, showN_hi 3 (by omega)]
theorem q_group (q : Pq W n) {g w : Nat} (hg : g < 6) (hw : w < 9) : gpV W n g w = grpN W n g w := by
  obtain ⟨hP, hR, hA⟩ := q
  have B := bth_of hP hR
  have hk : ∀ k, k < 5 → W (22 + k) g = W 201 (8 + 5 * g + k) := fun k hk => hP.2.1 g hg k hk
  have k0 : W 22 g = W 201 (8 + 5 * g + 0) := hk 0 (by decide)
  have k1 : W 23 g = W 201 (8 + 5 * g + 1) := hk 1 (by decide)
  have k2 : W 24 g = W 201 (8 + 5 * g + 2) := hk 2 (by decide)
  have k3 : W 25 g = W 201 (8 + 5 * g + 3) := hk 3 (by decide)
  have k4 : W 26 g = W 201 (8 + 5 * g + 4) := hk 4 (by decide)
  rcases (show w = 0 ∨ w = 1 ∨ w = 2 ∨ w = 3 ∨ w = 4 ∨ w = 5 ∨ w = 6 ∨ w = 7 ∨ w = 8 by omega) with rfl | rfl | rfl | rfl | rfl | rfl | rfl | rfl | rfl
  · exact k0
  · exact k1
  · show W 22 g + W 23 g = alN W g
    rw [k0, k1]; rfl
  · show wolS (CF W) (W 21 5) n (nI g) = wolS (RF W) (W 201 5) n (nI g)
    rw [wolS_a B.1, B.2.2.1 5 (by decide)]
  · exact wog_b B hA rfl rfl
  · exact cntS_a B.1 (by decide)
  · exact k2
  · exact k3
  · exact k4
theorem q_wk (q : Pq W n) {w : Nat} (hw : w < 6) : wkS (CF W) (AF 6 W) n w = wkN W n w 7 :=
  wk_a (bth_of q.1 q.2.1) q.2.2 hw (fun s hs => rw_d q.2.1 hs)
theorem q_count (q : Pq W n) (h6 : W 1 2 = W 200 2) {w : Nat} (hw : w < 8) : wnV W n w = cntV W n w := by
  have B := bth_of q.1 q.2.1
  rcases (show w = 0 ∨ w = 1 ∨ w = 2 ∨ w = 3 ∨ w = 4 ∨ w = 5 ∨ w = 6 ∨ w = 7 by omega) with rfl | rfl | rfl | rfl | rfl | rfl | rfl | rfl
  · exact q.1.2.2.1
  · exact q.1.2.2.2.1.trans q.2.1.2.1.symm
  · exact cntS_a B.1 (by decide)
  · exact cntS_a B.1 (by decide)
  · exact q_wk q (by decide)
  · exact q_wk q (by decide)
  · exact h6
  · exact q_wk q (by decide)
theorem q_day (q : Pq W n) {d w : Nat} (hd : d < 7) (hw : w < 8) : dayS (CF W) (AF 6 W) (W 21 6) n d w = dN W n (nI d) w := by
  have B := bth_of q.1 q.2.1
  rw [day_a B q.2.2 hd hw, B.2.2.1 6 (by decide)]
  rfl
theorem q_sp (q : Pq W n) {d : Int32} {x : Nat} (hx : x < 24) : spS (CF W) (AF 6 W) n d (nI x) = spN W n d (nI x) := sp_a (bth_of q.1 q.2.1) q.2.2 hx
theorem q_plan (hP : P2 W 20 (W 201) n) (hR : Rw (W 201) n) {d : Int32} {x : Nat} (hx : x < 24) : planS (CF W) n d (nI x) = planR (RF W) n d (nI x) := planS_a (agr_of hP) hR.2.2.2.1 hx
theorem q_rep (hP : P2 W 20 (W 201) n) (hR : Rw (W 201) n) {s : Nat} (hs : s < n) : rpT W n s = repN W n (RF W 1 s).toNatClampNeg s 2016 0 := by
  obtain ⟨g, hg, he⟩ := rw_g hR hs
  have he' : RF W 1 s = nI g := he
  have e30 : W 30 s = nI g := (hP.2.2.2.2 1 (by decide) s hs).trans he
  unfold rpT
  rw [e30, he', nI_clamp (by omega), al_of hP hg]
  exact rep_eq (agr_of hP) hR.2.2.2.1 (geq_of hP) (rw_gb hR) hs he'
theorem q_tape (hP : P2 W 20 (W 201) n) (hR : Rw (W 201) n) {g l : Nat} (hg : g < 6) {d : Int32} (hl5 : 5 ≤ l) (hl : l ≤ 240) : tapeT (CF W) (W 21) (W 22 g + W 23 g) n (nI g) d (nI l) = fotN W n g d (nI l) 288 0 := by
  rw [al_of hP hg]
  exact tape_eq (agr_of hP) hR.2.2.2.1 (geq_of hP) (rw_gb hR) hl5 hl
theorem q_grt (hP : P2 W 20 (W 201) n) (hR : Rw (W 201) n) {s : Nat} (hs : s < n) : grtS W n s = mosS W n s 181 :=
  grt_eq (agr_of hP) (fun t ht => hP.2.2.2.2 6 (by decide) t ht) hR.2.2.2.1 (geq_of hP) (rw_gb hR) hs hR.1
/-- minutes on air of a day: no more than the day has -/
theorem min_day {R : Nat → Nat → Int32} {G : Nat → Int32} {d : Int32} (hG : GB G) : ∀ {t : Nat}, t ≤ 24 → (∀ s, s < t → ShB R s) → 0 ≤ (sumTo (fun s => if R 2 s = d then airR R G 1 s else 0) t).toInt ∧ (sumTo (fun s => if R 2 s = d then airR R G 1 s else 0) t).toInt ≤ (clkR R G d t).toInt - (G 0).toInt
  | 0, _, _ => by
    show 0 ≤ (0 : Int32).toInt ∧ (0 : Int32).toInt ≤ (G 0).toInt - (G 0).toInt
    rw [t_0]; omega
  | t + 1, ht, hb => by
    have ih := min_day hG (d := d) (t := t) (by omega) (fun s hs => hb s (by omega))
    have hc := clk_b (d := d) hG (s := t) (fun s hs => hb s (by omega))
    have hbt := hb t (by omega)
    have g0 := hG.1
    have g1 := hG.2.1
    rw [sumTo]
    rw [show clkR R G d (t + 1) = if R 2 t = d ∧ drR R G (clkR R G d t) t = false then atR R (clkR R G d t) t + forR R G (clkR R G d t) t else clkR R G d t from rfl]
    by_cases q : R 2 t = d
    · rw [if_pos q]
      have ea : airR R G 1 t = if drR R G (clkR R G d t) t = true then 0 else forR R G (clkR R G d t) t := by
        show (if drR R G (clkR R G (R 2 t) t) t = true then 0 else forR R G (clkR R G (R 2 t) t) t) = _
        rw [q]
      rw [ea]
      cases hx : drR R G (clkR R G d t) t with
      | true =>
        rw [if_pos rfl, if_neg (fun z => by cases z.2), Int32.add_zero]
        exact ih
      | false =>
        rw [if_neg (by decide), if_pos ⟨q, rfl⟩]
        have hf := (for_t hG hbt (c := clkR R G d t) (by omega) hc.2).1
        have hw := want_t hbt
        have ha := at_t (R := R) (c := clkR R G d t) (s := t)
        have hdr := dr_iff hG hbt (c := clkR R G d t) (by omega) hc.2
        have hn : ¬ _ := fun z => by rw [hdr.mpr z] at hx; cases hx
        have b3 := hbt.2.2.2.1
        rw [t_add (by omega) (by omega), t_add (by omega) (by omega)]
        omega
    · rw [if_neg q, if_neg (fun z => q z.1), Int32.add_zero]
      exact ih
theorem min_wk (hR : Rw (W 201) n) : ∀ {k : Nat}, k ≤ 7 → 0 ≤ (wkN W n 2 k).toInt ∧ (wkN W n 2 k).toInt ≤ k * ((W 201 1).toInt - (W 201 0).toInt)
  | 0, _ => by
    show 0 ≤ (0 : Int32).toInt ∧ (0 : Int32).toInt ≤ _
    rw [t_0]; simp
  | k + 1, hk => by
    have ih := min_wk hR (k := k) (by omega)
    have hG := rw_gb hR
    have g0 := hG.1
    have g1 := hG.2.1
    have e : dN W n (nI k) 2 = sumTo (fun s => if RF W 2 s = nI k then airR (RF W) (W 201) 1 s else 0) n := by
      unfold dN dayR
      rw [if_neg (by decide), if_neg (by decide), sumTo2_0]
      rfl
    have hd := min_day (R := RF W) (G := W 201) (d := nI k) hG hR.1 hR.2.2.2.1
    have hc := clk_b (R := RF W) (d := nI k) hG (s := n) hR.2.2.2.1
    rw [← e] at hd
    have hs : wkN W n 2 (k + 1) = wkN W n 2 k + dN W n (nI k) 2 := rfl
    have h7 : (k : Int) * ((W 201 1).toInt - (W 201 0).toInt) ≤ 7 * 1440 := by
      rcases (show k = 0 ∨ k = 1 ∨ k = 2 ∨ k = 3 ∨ k = 4 ∨ k = 5 ∨ k = 6 by omega) with rfl | rfl | rfl | rfl | rfl | rfl | rfl <;> omega
    rw [hs, t_add (by omega) (by omega)]
    refine ⟨by omega, ?_⟩
    rw [show ((k + 1 : Nat) : Int) = (k : Int) + 1 from by omega, Int.add_mul, Int.one_mul]
    omega
/-- the share of the week -/
theorem sh_all (hP : P2 W 20 (W 201) n) (hR : Rw (W 201) n) : 0 < 7 * (W 21 1 - W 21 0) ∧ (∀ m, m = wkN W n 2 7 → FP.dmul FP.dconst1 (FP.i2d m) = FP.i2d m ∧ vf_n64 (FP.i2d m) ∧ (FP.ddiv (FP.i2d m) (FP.i2d (7 * (W 21 1 - W 21 0))) = 0 ∨ ∃ c q, le1 c q ∧ FP.ddiv (FP.i2d m) (FP.i2d (7 * (W 21 1 - W 21 0))) = dN64 c q)) := by
  have hG := rw_gb hR
  have g0 := hG.1
  have g1 := hG.2.1
  have e0 : W 21 0 = W 201 0 := hP.1 0 (by decide)
  have e1 : W 21 1 = W 201 1 := hP.1 1 (by decide)
  have c7 : (7 : Int32).toInt = 7 := rfl
  have es : (W 201 1 - W 201 0).toInt = (W 201 1).toInt - (W 201 0).toInt := t_sub (by omega) (by omega)
  have ek : (7 * (W 201 1 - W 201 0)).toInt = 7 * ((W 201 1).toInt - (W 201 0).toInt) := by rw [t_mul (by rw [c7, es]; omega) (by rw [c7, es]; omega), c7, es]
  rw [e0, e1]
  refine ⟨t_lt.mpr (by rw [t_0, ek]; omega), fun m hm => ?_⟩
  have hb := min_wk hR (k := 7) (by decide)
  rw [← hm] at hb
  obtain ⟨mm, hm1, hm2⟩ := nat_of (x := m) hb.1
  obtain ⟨kk, hk1, hk2⟩ := nat_of (x := 7 * (W 201 1 - W 201 0)) (by omega)
  rw [hk1, hm1]
  have hle : mm ≤ kk := by
    have := hb.2
    have e7 : ((7 : Nat) : Int) = 7 := rfl
    rw [e7] at this
    omega
  obtain ⟨f1, f2, f3⟩ := fp_share (m := mm) (k := kk) (by omega) hle (by omega)
  exact ⟨f1, f3, f2⟩
theorem q_share (q : Pq W n) : shS W n = shN W n := by
  obtain ⟨h1, h2⟩ := sh_all q.1 q.2.1
  unfold shS shN
  rw [q_wk q (by decide), (h2 _ rfl).1, q.1.1 1 (by decide), q.1.1 0 (by decide)]
theorem sh_ok (hP : P2 W 20 (W 201) n) (hR : Rw (W 201) n) : vf_n64 (FP.dmul FP.dconst1 (FP.i2d (wkN W n 2 7))) ∧ vf_n64 (shN W n) ∧ Op.cmpValue (FP.dcmp (shN W n) (shN W n)) .l = 0 ∧ (shN W n = 0 ∨ ∃ c q, le1 c q ∧ shN W n = dN64 c q) := by
  obtain ⟨h1, h2⟩ := sh_all hP hR
  obtain ⟨f1, f2, f3⟩ := h2 _ rfl
  have e : shN W n = FP.ddiv (FP.i2d (wkN W n 2 7)) (FP.i2d (7 * (W 21 1 - W 21 0))) := by
    unfold shN
    rw [f1, hP.1 1 (by decide), hP.1 0 (by decide)]
  rw [f1, e]
  refine ⟨f2, ?_, ?_, f3⟩
  · rcases f3 with z | ⟨c, q, z1, z2⟩
    · rw [z]; exact n64_0
    · rw [z2]; exact n64_d z1.1
  · rcases f3 with z | ⟨c, q, z1, z2⟩
    · rw [z]; decide +kernel
    · rw [z2, cmp_self z1.1]; rfl
end
