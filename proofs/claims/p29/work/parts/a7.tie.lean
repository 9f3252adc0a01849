-- the law's rows and the row of numbers
def St (V V1 : VV) : Prop := ∀ i, ¬ (5 ≤ i ∧ i ≤ 19) → ¬ (218 ≤ i ∧ i ≤ 221) → V1 i = V i
theorem st_r {V : VV} : St V V := fun _ _ _ => rfl
theorem St.sq {V V1 V2 : VV} (h : St V V1) (h2 : Sq V1 V2) : St V V2 := fun i a b => (h2 i a).trans (h i a b)
theorem St.z {V V1 : VV} (h : St V V1) : V1 201 = V 201 := h 201 (by decide) (by decide)
theorem PR.st {V V1 : VV} {n : Nat} (h : PR V n) (hs : St V V1) : PR V1 n :=
  ⟨P2.cg h.2.1 (fun i a b => hs i (by omega) (by omega)) (fun j _ => congrFun hs.z j) h.1, Rw.cg (fun j _ => congrFun hs.z j) h.2⟩
def Ids (V : VV) (n T : Nat) : Prop := ∃ id : Nat → Nat, (∀ s, s < n → GF V 8 s = nI (id s) ∧ id s < T) ∧ (∀ s t, s < n → t < n → id s = id t → s = t) ∧
  ∀ s, s < n → (RF V 0 s ≠ 2 ∧ RF V 7 s = -1 ∧ GF V 7 s = -1) ∨ (RF V 0 s = 2 ∧ ∃ o, o < n ∧ RF V 7 s = nI o ∧ GF V 7 s = nI (id o))
def Tie (V : VV) (n T : Nat) : Prop := n ≤ 6 ∧ T ≤ 900 ∧ V 212 1 = nI n ∧ V 212 0 = V 201 38 ∧ V 212 2 = V 0 6 ∧ (∀ k, k < 8 → V 210 k = V 201 k) ∧ (∀ j, j < 30 → V 211 j = V 201 (8 + j)) ∧ (∀ s, s < n → ∀ k, k < 7 → GF V k s = RF V k s) ∧ Ids V n T
section
variable {V : VV} {n T : Nat}
theorem Tie.n6 (h : Tie V n T) : n ≤ 6 := h.1
theorem Tie.d1 (h : Tie V n T) : V 212 1 = nI n := h.2.2.1
theorem Tie.se (h : Tie V n T) : GEq (V 210) (V 201) := h.2.2.2.2.2.1
theorem Tie.gr (h : Tie V n T) {j : Nat} (hj : j < 30) : V 211 j = V 201 (8 + j) := h.2.2.2.2.2.2.1 j hj
theorem Tie.f (h : Tie V n T) {k s : Nat} (hs : s < n) (hk : k < 7) : GF V k s = RF V k s := h.2.2.2.2.2.2.2.1 s hs k hk
theorem Tie.id (h : Tie V n T) : Ids V n T := h.2.2.2.2.2.2.2.2
theorem fst_is {p : Nat → Bool} : ∀ {k i o : Nat}, i ≤ o → o < i + k → p o = true → (∀ j, i ≤ j → j < o → p j = false) → fstF p k i = some o
  | 0, i, o, h1, h2, _, _ => by omega
  | k + 1, i, o, h1, h2, h3, h4 => by
    unfold fstF
    by_cases e : i = o
    · rw [if_pos (by rw [e]; exact h3), e]
    · rw [if_neg (by rw [h4 i (Nat.le_refl _) (by omega)]; decide)]
      exact fst_is (by omega) (by omega) h3 (fun j a b => h4 j (by omega) b)
/-- the law's number of an original is the class's -/
theorem Tie.by (h : Tie V n T) {s o : Nat} (hs : s < n) (ho : o < n) (h7 : RF V 7 s = nI o) : fstF (fun t => decide (GF V 8 t = GF V 7 s)) n 0 = some o := by
  obtain ⟨id, a, b, c⟩ := h.id
  have hn := h.1
  have hT := h.2.1
  rcases c s hs with ⟨_, c2, _⟩ | ⟨_, o2, c2, c3, c4⟩
  · rw [c2] at h7; exact absurd h7.symm (nI_m1 (by omega))
  · rw [c3] at h7
    obtain rfl : o2 = o := (nI_eq (by omega) (by omega)).mp h7
    have e : ∀ t, t < n → (decide (GF V 8 t = GF V 7 s) = true ↔ t = o2) := fun t ht => by
      rw [decide_eq_true_eq, (a t ht).1, c4, nI_eq (by have := (a t ht).2; omega) (by have := (a o2 c2).2; omega)]
      exact ⟨fun z => b t o2 ht c2 z, fun z => by rw [z]⟩
    refine fst_is (Nat.zero_le _) (by omega) ((e o2 c2).mpr rfl) (fun j _ hj => ?_)
    cases q : decide (GF V 8 j = GF V 7 s) with
    | false => rfl
    | true => have := (e j (by omega)).mp q; omega
theorem Tie.st {V1 : VV} (h : Tie V n T) (hs : St V V1) : Tie V1 n T := by
  have e : ∀ i, i = 0 ∨ i = 201 ∨ (210 ≤ i ∧ i ≤ 213) → V1 i = V i := fun i hi => hs i (by omega) (by omega)
  obtain ⟨a1, a2, a3, a4, a5, a6, a7, a8, id, b1, b2, b3⟩ := h
  have eg : GF V1 = GF V := by funext k s; unfold GF; rw [e 213 (by omega)]
  have er : RF V1 = RF V := RF_z (e 201 (by omega))
  refine ⟨a1, a2, ?_, ?_, ?_, ?_, ?_, ?_, id, ?_, b2, ?_⟩
  · rw [e 212 (by omega)]; exact a3
  · rw [e 212 (by omega), e 201 (by omega)]; exact a4
  · rw [e 212 (by omega), e 0 (by omega)]; exact a5
  · rw [e 210 (by omega), e 201 (by omega)]; exact a6
  · rw [e 211 (by omega), e 201 (by omega)]; exact a7
  · rw [eg, er]; exact a8
  · rw [eg]; exact b1
  · rw [eg, er]; exact b3
end
-- words that agree
def FA (F R : Nat → Nat → Int32) (n : Nat) : Prop := ∀ k, k < 7 → ∀ s, s < n → F k s = R k s
section
variable {F R : Nat → Nat → Int32} {G G2 : Nat → Int32} {n : Nat}
theorem dr_cg (h : FA F R n) (hG : GEq G G2) {c : Int32} {s : Nat} (hs : s < n) : drR F G c s = drR R G2 c s ∧ forR F G c s = forR R G2 c s ∧ atR F c s = atR R c s ∧ sttR F G c s = sttR R G2 c s := by
  have e0 := h 0 (by decide) s hs
  have e3 := h 3 (by decide) s hs
  have e4 := h 4 (by decide) s hs
  have e6 := h 6 (by decide) s hs
  have g1 := hG 1 (by decide)
  have g2 := hG 2 (by decide)
  have g3 := hG 3 (by decide)
  have ea : atR F c s = atR R c s := by unfold atR; rw [e3]
  have ew : wantR F s = wantR R s := by unfold wantR; rw [e4, e6]
  have ec : cutR F G c s = cutR R G2 c s := by unfold cutR; rw [g1, ea, ew]
  refine ⟨?_, ?_, ea, ?_⟩
  · unfold drR patS; rw [ea, e0, e3, g1, g2, g3]
  · unfold forR; rw [ec, ea, ew, g1]
  · unfold sttR; rw [ea, e3, ec]
theorem clk_cg (h : FA F R n) (hG : GEq G G2) {d : Int32} : ∀ {s : Nat}, s ≤ n → clkR F G d s = clkR R G2 d s
  | 0, _ => hG 0 (by decide)
  | s + 1, hs => by
    have e := dr_cg h hG (c := clkR R G2 d s) (s := s) (by omega)
    unfold clkR
    rw [clk_cg h hG (by omega), h 2 (by decide) s (by omega), e.1, e.2.1, e.2.2.1]
theorem air_cg (h : FA F R n) (hG : GEq G G2) {k s : Nat} (hs : s < n) : airR F G k s = airR R G2 k s := by
  have e := dr_cg h hG (c := clkR R G2 (R 2 s) s) (s := s) hs
  unfold airR
  rw [h 2 (by decide) s hs, clk_cg h hG (by omega), e.1, e.2.1, e.2.2.1, e.2.2.2, h 3 (by decide) s hs]
theorem airedR_fg (h : FA F R n) {A B : Nat → Nat → Int32} (hA : ∀ s, s < n → ∀ k, k < 4 → A k s = B k s) {d x : Int32} : airedR F A n d x = airedR R B n d x :=
  sumTo_congr fun s hs => by rw [h 2 (by decide) s hs, h 5 (by decide) s hs, hA s hs 3 (by decide), hA s hs 0 (by decide), hA s hs 1 (by decide)]
theorem dayR_fg (h : FA F R n) {A B : Nat → Nat → Int32} (hA : ∀ s, s < n → ∀ k, k < 4 → A k s = B k s) {c c2 lim lim2 : Int32} (hc : c = c2) (hl : lim = lim2) {d : Int32} {w : Nat} : dayR F A c lim n d w = dayR R B c2 lim2 n d w := by
  unfold dayR
  have e1 : hrsR F A lim n d = hrsR R B lim2 n d := sumTo_congr fun x _ => by rw [airedR_fg h hA, hl]
  rw [e1, hc]
  split
  · rfl
  · refine sumTo2_congr fun s hs => ?_
    unfold partR
    rw [h 2 (by decide) s hs, h 4 (by decide) s hs, hA s hs 1 (by decide), hA s hs 2 (by decide), hA s hs 3 (by decide)]
theorem planR_fg (h : FA F R n) {d x : Int32} : planR F n d x = planR R n d x := sumTo_congr fun s hs => by rw [h 2 (by decide) s hs, h 3 (by decide) s hs, h 5 (by decide) s hs]
theorem wolS_fg (h : FA F R n) {sh g : Int32} : wolS F sh n g = wolS R sh n g := sumTo_congr fun s hs => by rw [h 1 (by decide) s hs, h 0 (by decide) s hs, h 4 (by decide) s hs]
theorem shB_fg (h : FA F R n) (hb : ∀ s, s < n → ShB R s) : ∀ s, s < n → ShB F s := fun s hs => by
  have hb := hb s hs
  unfold ShB at hb ⊢
  rw [h 0 (by decide) s hs, h 1 (by decide) s hs, h 2 (by decide) s hs, h 3 (by decide) s hs, h 4 (by decide) s hs, h 5 (by decide) s hs, h 6 (by decide) s hs]
  exact hb
end
section
variable {l : Launch} {V V2 : VV} {L : LL} {N : NN} {I : List Nat} {n T : Nat}
theorem Tie.fa (h : Tie V n T) : FA (GF V) (RF V) n := fun _ hk _ hs => h.f hs hk
theorem Tie.gb (h : Tie V n T) (hP : PR V n) : GB (V 210) := gb_cg h.se (rw_gb hP.2)
theorem Tie.sb (h : Tie V n T) (hP : PR V n) : ∀ s, s < n → ShB (GF V) s := shB_fg h.fa hP.2.2.2.2.1
/-- what the law answers of itself, said of the row of numbers -/
theorem tl_dayPart (hI : PI I) (h218 : 218 ∉ I) (hP : PR V n) (ht : Tie V n T) (hs : St V V2) {d w : Nat} (hw : w < 8) : Runs l 3 1 28 yL_dayPart (Cond.code yL_dayPart cL_dayPart 10 (some .int)) [aI (nI d), aI (nI w), aR 210, aR 212, aR 213] V2 L N I (Is (some (aI (dN V n (nI d) w))) V2 L N I) := by
  have hP2 := hP.st hs
  have ht2 := ht.st hs
  have := c_L_dayPart (l := l) (L := L) (N := N) hI h218 ht2.d1 ht2.n6 (ht2.sb hP2) (ht2.gb hP2) (nI d) w hw
  rwa [dayR_fg ht2.fa (fun s a k b => air_cg ht2.fa ht2.se a) (clk_cg ht2.fa ht2.se (Nat.le_refl n)) (ht2.se 6 (by decide)), show dayR (RF V2) (airR (RF V2) (V2 201)) (clkR (RF V2) (V2 201) (nI d) n) (V2 201 6) n (nI d) w = dN V n (nI d) w from dN_sm hs.z] at this
theorem tl_planned (hI : PI I) (hP : PR V n) (ht : Tie V n T) (hs : St V V2) {d x : Nat} (hx : x < 24) : Runs l 1 0 0 yL_planned (Cond.code yL_planned cL_planned 7 (some .int)) [aI (nI d), aI (nI x), aR 212, aR 213] V2 L N I (Is (some (aI (planR (RF V) n (nI d) (nI x)))) V2 L N I) := by
  have hP2 := hP.st hs
  have ht2 := ht.st hs
  have := c_L_planned (l := l) (L := L) (N := N) hI ht2.d1 ht2.n6 (ht2.sb hP2) (nI d) x hx
  rwa [planR_fg ht2.fa, RF_z hs.z] at this
theorem tl_aired (hI : PI I) (h219 : 219 ∈ I) (hP : PR V n) (ht : Tie V n T) (hs : St V V2) {d x : Nat} (hx : x < 24) (hA : ∀ s, s < n → RF V 2 s = nI d → ∀ k, k < 4 → V2 219 (4 * s + k) = airR (RF V) (V 201) k s) : Runs l 1 0 0 yL_aired (Cond.code yL_aired cL_aired 8 (some .int)) [aI (nI d), aI (nI x), aR 212, aR 213, aR 219] V2 L N I (Is (some (aI (spN V n (nI d) (nI x)))) V2 L N I) := by
  have hP2 := hP.st hs
  have ht2 := ht.st hs
  have hA2 : ∀ s, s < n → GF V2 2 s = nI d → ∀ k, k < 4 → AW 219 V2 k s = airR (GF V2) (V2 210) k s := fun s a b k c => by
    rw [air_cg ht2.fa ht2.se a, RF_z hs.z, hs.z]
    exact hA s a (by rw [← RF_z hs.z, ← ht2.f a (by decide)]; exact b) k c
  have := d_L_aired (l := l) (L := L) (N := N) hI h219 ht2.d1 ht2.n6 (ht2.gb hP2) (ht2.sb hP2) (nI d) hA2 x hx
  rwa [airedR_congr hA2, airedR_fg ht2.fa (fun s a k b => air_cg ht2.fa ht2.se a), show airedR (RF V2) (airR (RF V2) (V2 201)) n (nI d) (nI x) = spN V n (nI d) (nI x) from spN_cg hs.z] at this
theorem t_show (hI : PI I) (h : PR V n) (hs : St V V2) {s w : Nat} (h1 : s < n) (hw : w < 12) : AskR l 6 1 6 yX6_show (Cond.code yX6_show cX6_show 3 (some .int)) [aR 0, aI (nI s), aI (nI w)] V2 L N I (aI (showN V s w)) := by
  have := k_show (l := l) (L := L) (N := N) hI (h.st hs) h1 hw
  rwa [showN_cg hs.z] at this
theorem t_group (hI : PI I) (h : PR V n) (hs : St V V2) {g w : Nat} (hg : g < 6) (hw : w < 9) : AskR l 6 1 6 yX6_group (Cond.code yX6_group cX6_group 3 (some .int)) [aR 0, aI (nI g), aI (nI w)] V2 L N I (aI (grpN V n g w)) := by
  have := k_group (l := l) (L := L) (N := N) hI (h.st hs) hg hw
  rwa [grpN_cg hs.z] at this
theorem t_day (hI : PI I) (h : PR V n) (hs : St V V2) {d w : Nat} (hd : d < 7) (hw : w < 8) : AskR l 6 1 6 yX6_day (Cond.code yX6_day cX6_day 3 (some .int)) [aR 0, aI (nI d), aI (nI w)] V2 L N I (aI (dN V n (nI d) w)) := by
  have := k_day (l := l) (L := L) (N := N) hI (h.st hs) hd hw
  rwa [dN_sm hs.z] at this
theorem t_spF (hI : PI I) (h : PR V n) (hs : St V V2) {d x : Nat} (hd : d < 7) (hx : x < 24) : AskR l 6 1 6 yX6_sponsors (Cond.code yX6_sponsors cX6_sponsors 4 (some .int)) [aR 0, aI (nI d), aI (nI x), aI 0] V2 L N I (aI (planR (RF V) n (nI d) (nI x))) := by
  have := k_spF (l := l) (L := L) (N := N) hI (h.st hs) hd hx
  rwa [RF_z hs.z] at this
theorem t_spT (hI : PI I) (h : PR V n) (hs : St V V2) {d x : Nat} (hd : d < 7) (hx : x < 24) : AskR l 6 1 6 yX6_sponsors (Cond.code yX6_sponsors cX6_sponsors 4 (some .int)) [aR 0, aI (nI d), aI (nI x), aI 1] V2 L N I (aI (spN V n (nI d) (nI x))) := by
  have := k_spT (l := l) (L := L) (N := N) hI (h.st hs) hd hx
  rwa [spN_cg hs.z] at this
theorem t_count (hI : PI I) (h : PR V n) (h6 : V 1 2 = V 200 2) (hs : St V V2) {w : Nat} (hw : w < 8) : AskR l 7 1 6 yX6_count (Cond.code yX6_count cX6_count 2 (some .int)) [aR 0, aI (nI w)] V2 L N I (aI (cntV V n w)) := by
  have := k_count (l := l) (L := L) (N := N) hI (h.st hs) (by rw [hs 1 (by decide) (by decide), hs 200 (by decide) (by decide)]; exact h6) hw
  rwa [cntV_cg hs.z (hs 200 (by decide) (by decide))] at this
theorem t_setting (hI : PI I) (h : PR V n) (hs : St V V2) {w : Nat} (hw : w < 8) : AskR l 6 1 6 yX6_setting (Cond.code yX6_setting cX6_setting 2 (some .int)) [aR 0, aI (nI w)] V2 L N I (aI (V 201 w)) := by
  have := k_setting (l := l) (L := L) (N := N) hI (h.st hs) hw
  rwa [hs.z] at this
theorem t_reason (hI : PI I) (hs : St V V2) : AskR l 1 0 0 yX6_reason (Cond.code yX6_reason cX6_reason 1 (some .int)) [aR 0] V2 L N I (aI (V 0 6)) := by
  have := k_reason (l := l) (V := V2) (L := L) (N := N) hI
  rwa [hs 0 (by decide) (by decide)] at this
theorem t_share (hI : PI I) (h : PR V n) (hs : St V V2) : AskR l 7 0 0 yX6_share (Cond.code yX6_share cX6_share 1 (some .double)) [aR 0] V2 L N I (aD (shN V n)) := by
  have := k_share (l := l) (L := L) (N := N) hI (h.st hs)
  rwa [shN_sm hs.z] at this
end
