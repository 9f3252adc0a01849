-- what the class is asked: answers as words of the row of numbers
def Sq (V V1 : VV) : Prop := ∀ i, ¬ (5 ≤ i ∧ i ≤ 19) → V1 i = V i
theorem sq_r {V : VV} : Sq V V := fun _ _ => rfl
theorem Sq.t {V V1 V2 : VV} (h : Sq V V1) (h2 : Sq V1 V2) : Sq V V2 := fun i hi => (h2 i hi).trans (h i hi)
theorem sq_air {b n : Nat} {V V1 : VV} {ov : Nat → Int32} (hb : b = 6 ∨ b = 12) (h : AirI b V V1 ov n) : Sq V V1 := fun i hi => h.1 i (by rcases hb with rfl | rfl <;> omega)
theorem sq_bec {V : VV} {k g d s l sp o : Int32} : Sq V (becomeV V k g d s l sp o) := fun i hi => by
  unfold becomeV
  rw [up_nf (by omega), up_nf (by omega), up_nf (by omega), up_nf (by omega), up_nf (by omega), up_nf (by omega), up_nf (by omega)]
def AskR (l : Launch) (D mc ms : Nat) (y : MethodName) (w0 : Cond) (args : List AV) (V : VV) (L : LL) (N : NN) (I : List Nat) (r : AV) : Prop :=
  ∃ P : PP, Runs l D mc ms y w0 args V L N I P ∧ ∀ r1 V1 L1 N1 I1, P r1 V1 L1 N1 I1 → r1 = .inl (some r) ∧ Sq V V1 ∧ L1 = L ∧ N1 = N ∧ I1 = I
def PR (V : VV) (n : Nat) : Prop := P2 V 20 (V 201) n ∧ Rw (V 201) n
theorem PR.sq {V V1 : VV} {n : Nat} (h : PR V n) (hs : Sq V V1) : PR V1 n :=
  ⟨P2.cg h.2.1 (fun i a b => hs i (by omega)) (fun j _ => congrFun (hs 201 (by decide)) j) h.1, Rw.cg (fun j _ => congrFun (hs 201 (by decide)) j) h.2⟩
theorem PR.d {V : VV} {n : Nat} (h : PR V n) : ∀ s, s < n → ∃ d, d < 7 ∧ V 31 s = nI d := fun s hs => by
  obtain ⟨d, a, b⟩ := rw_d h.2 hs
  exact ⟨d, a, (h.1.2.2.2.2 2 (by decide) s hs).trans b⟩
theorem PR.g {V : VV} {n : Nat} (h : PR V n) : ∀ s, s < n → ∃ d, d < 6 ∧ V 30 s = nI d := fun s hs => by
  obtain ⟨d, a, b⟩ := rw_g h.2 hs
  exact ⟨d, a, (h.1.2.2.2.2 1 (by decide) s hs).trans b⟩
theorem win_n {w k : Nat} (h : w ≤ k) (hk : k < 2 ^ 31) : withinB (nI w) 0 (nI k) = true := win_t.mpr (by
  rw [t_nat (by omega), t_nat hk, t_0]; omega)
theorem num_n {s n : Nat} (h : s < n) (hn : n ≤ 24) : decide (¬ nI s < 0 ∧ nI s < nI n) = true := decide_eq_true ⟨nI_pos (by omega), nI_lt h (by omega)⟩
theorem tf {b : Bool} {C : Prop} (h : b = true) (h2 : b = false) : C := by rw [h] at h2; cases h2
theorem showN_cg {V V1 : VV} (h : V1 201 = V 201) {s w : Nat} : showN V1 s w = showN V s w := by unfold showN; rw [RF_z h, h]
theorem grpN_cg {V V1 : VV} (h : V1 201 = V 201) {n g w : Nat} : grpN V1 n g w = grpN V n g w := by unfold grpN alN; rw [awS_sm h, RF_z h, h]
theorem cntV_cg {V V1 : VV} (h : V1 201 = V 201) (h2 : V1 200 = V 200) {n w : Nat} : cntV V1 n w = cntV V n w := by unfold cntV; rw [wkN_sm h, wkN_sm h, wkN_sm h, RF_z h, h, h2]
theorem spN_cg {V V1 : VV} (h : V1 201 = V 201) {n : Nat} {d x : Int32} : spN V1 n d x = spN V n d x := by unfold spN; rw [RF_z h, h]
section
variable {l : Launch} {V : VV} {L : LL} {N : NN} {I : List Nat} {n : Nat}
theorem k_show (hI : PI I) (h : PR V n) {s w : Nat} (hs : s < n) (hw : w < 12) : AskR l 6 1 6 yX6_show (Cond.code yX6_show cX6_show 3 (some .int)) [aR 0, aI (nI s), aI (nI w)] V L N I (aI (showN V s w)) := by
  have hn24 := h.2.1
  refine ⟨_, c_X6_show hI h.1.2.2.2.1 hn24 h.d (nI s) (nI w), fun r1 V1 L1 N1 I1 hp => ?_⟩
  rcases ei_c hp with ⟨_, hp⟩ | ⟨b, _⟩
  · rcases ei_c hp with ⟨_, hp⟩ | ⟨b, _⟩
    · obtain ⟨rfl, hA, rfl, rfl, rfl⟩ := hp
      have hq := sq_air (Or.inl rfl) hA
      refine ⟨?_, hq, rfl, rfl, rfl⟩
      dsimp only
      rw [nI_clamp (by omega), nI_clamp (by omega), q_show (pq_of h.1 h.2 hA) hs hw, showN_cg (hq 201 (by decide))]
    · exact tf (win_n (w := w) (k := 11) (by omega) (by decide)) b
  · exact tf (num_n hs hn24) b
theorem k_group (hI : PI I) (h : PR V n) {g w : Nat} (hg : g < 6) (hw : w < 9) : AskR l 6 1 6 yX6_group (Cond.code yX6_group cX6_group 3 (some .int)) [aR 0, aI (nI g), aI (nI w)] V L N I (aI (grpN V n g w)) := by
  have hn24 := h.2.1
  refine ⟨_, c_X6_group hI h.1.2.2.2.1 hn24 h.d (nI g) (nI w), fun r1 V1 L1 N1 I1 hp => ?_⟩
  rcases ei_c hp with ⟨_, hp⟩ | ⟨b, _⟩
  · rcases ei_c hp with ⟨_, hp⟩ | ⟨b, _⟩
    · obtain ⟨rfl, hA, rfl, rfl, rfl⟩ := hp
      have hq := sq_air (Or.inl rfl) hA
      refine ⟨?_, hq, rfl, rfl, rfl⟩
      dsimp only
      rw [nI_clamp (by omega), nI_clamp (by omega), q_group (pq_of h.1 h.2 hA) hg hw, grpN_cg (hq 201 (by decide))]
    · exact tf (win_n (w := w) (k := 8) (by omega) (by decide)) b
  · exact tf (win_n (w := g) (k := 5) (by omega) (by decide)) b
theorem k_day (hI : PI I) (h : PR V n) {d w : Nat} (hd : d < 7) (hw : w < 8) : AskR l 6 1 6 yX6_day (Cond.code yX6_day cX6_day 3 (some .int)) [aR 0, aI (nI d), aI (nI w)] V L N I (aI (dN V n (nI d) w)) := by
  have hn24 := h.2.1
  refine ⟨_, c_X6_day hI h.1.2.2.2.1 hn24 h.d (nI d) (nI w), fun r1 V1 L1 N1 I1 hp => ?_⟩
  rcases ei_c hp with ⟨_, hp⟩ | ⟨b, _⟩
  · rcases ei_c hp with ⟨_, hp⟩ | ⟨b, _⟩
    · obtain ⟨rfl, hA, rfl, rfl, rfl⟩ := hp
      have hq := sq_air (Or.inl rfl) hA
      refine ⟨?_, hq, rfl, rfl, rfl⟩
      dsimp only
      rw [nI_clamp (by omega), nI_clamp (by omega), q_day (pq_of h.1 h.2 hA) hd hw, dN_sm (hq 201 (by decide))]
    · exact tf (win_n (w := w) (k := 7) (by omega) (by decide)) b
  · exact tf (win_n (w := d) (k := 6) (by omega) (by decide)) b
theorem k_spF (hI : PI I) (h : PR V n) {d x : Nat} (hd : d < 7) (hx : x < 24) : AskR l 6 1 6 yX6_sponsors (Cond.code yX6_sponsors cX6_sponsors 4 (some .int)) [aR 0, aI (nI d), aI (nI x), aI 0] V L N I (aI (planR (RF V) n (nI d) (nI x))) := by
  have hn24 := h.2.1
  refine ⟨_, c_X6_sponsors hI h.1.2.2.2.1 hn24 h.d (nI d) (nI x) 0, fun r1 V1 L1 N1 I1 hp => ?_⟩
  rcases ei_c hp with ⟨_, hp⟩ | ⟨b, _⟩
  · rw [if_pos rfl] at hp
    obtain ⟨rfl, rfl, rfl, rfl, rfl⟩ := hp
    exact ⟨by rw [q_plan h.1 h.2 hx], sq_r, rfl, rfl, rfl⟩
  · exact tf (Bool.and_eq_true_iff.mpr ⟨win_n (w := d) (k := 6) (by omega) (by decide), win_n (w := x) (k := 23) (by omega) (by decide)⟩) b
theorem k_spT (hI : PI I) (h : PR V n) {d x : Nat} (hd : d < 7) (hx : x < 24) : AskR l 6 1 6 yX6_sponsors (Cond.code yX6_sponsors cX6_sponsors 4 (some .int)) [aR 0, aI (nI d), aI (nI x), aI 1] V L N I (aI (spN V n (nI d) (nI x))) := by
  have hn24 := h.2.1
  refine ⟨_, c_X6_sponsors hI h.1.2.2.2.1 hn24 h.d (nI d) (nI x) 1, fun r1 V1 L1 N1 I1 hp => ?_⟩
  rcases ei_c hp with ⟨_, hp⟩ | ⟨b, _⟩
  · rw [if_neg (by decide)] at hp
    obtain ⟨rfl, hA, rfl, rfl, rfl⟩ := hp
    have hq := sq_air (Or.inl rfl) hA
    exact ⟨by dsimp only; rw [q_sp (pq_of h.1 h.2 hA) hx, spN_cg (hq 201 (by decide))], hq, rfl, rfl, rfl⟩
  · exact tf (Bool.and_eq_true_iff.mpr ⟨win_n (w := d) (k := 6) (by omega) (by decide), win_n (w := x) (k := 23) (by omega) (by decide)⟩) b
theorem k_count (hI : PI I) (h : PR V n) (h6 : V 1 2 = V 200 2) {w : Nat} (hw : w < 8) : AskR l 7 1 6 yX6_count (Cond.code yX6_count cX6_count 2 (some .int)) [aR 0, aI (nI w)] V L N I (aI (cntV V n w)) := by
  have hn24 := h.2.1
  refine ⟨_, c_X6_count hI h.1.2.2.2.1 hn24 h.d (nI w), fun r1 V1 L1 N1 I1 hp => ?_⟩
  rcases ei_c hp with ⟨_, hp⟩ | ⟨b, _⟩
  · obtain ⟨rfl, hA, rfl, rfl, rfl⟩ := hp
    have hq := sq_air (Or.inl rfl) hA
    refine ⟨?_, hq, rfl, rfl, rfl⟩
    dsimp only
    rw [nI_clamp (by omega), q_count (pq_of h.1 h.2 hA) (by rw [hq 1 (by decide), hq 200 (by decide)]; exact h6) hw, cntV_cg (hq 201 (by decide)) (hq 200 (by decide))]
  · exact tf (win_n (w := w) (k := 7) (by omega) (by decide)) b
theorem k_setting (hI : PI I) (h : PR V n) {w : Nat} (hw : w < 8) : AskR l 6 1 6 yX6_setting (Cond.code yX6_setting cX6_setting 2 (some .int)) [aR 0, aI (nI w)] V L N I (aI (V 201 w)) := by
  refine ⟨_, c_X6_setting hI (nI w), fun r1 V1 L1 N1 I1 hp => ?_⟩
  rcases ei_c hp with ⟨_, hp⟩ | ⟨b, _⟩
  · obtain ⟨rfl, rfl, rfl, rfl, rfl⟩ := hp
    exact ⟨by rw [nI_clamp (by omega)]; exact congrArg (fun z => Sum.inl (some (aI z))) (h.1.1 w hw), sq_r, rfl, rfl, rfl⟩
  · exact tf (win_n (w := w) (k := 7) (by omega) (by decide)) b
theorem k_reason (hI : PI I) : AskR l 1 0 0 yX6_reason (Cond.code yX6_reason cX6_reason 1 (some .int)) [aR 0] V L N I (aI (V 0 6)) := by
  refine ⟨_, c_X6_reason hI, fun r1 V1 L1 N1 I1 hp => ?_⟩
  obtain ⟨rfl, rfl, rfl, rfl, rfl⟩ := hp
  exact ⟨rfl, sq_r, rfl, rfl, rfl⟩
theorem k_share (hI : PI I) (h : PR V n) : AskR l 7 0 0 yX6_share (Cond.code yX6_share cX6_share 1 (some .double)) [aR 0] V L N I (aD (shN V n)) := by
  have hn24 := h.2.1
  have hk := sh_all h.1 h.2
  have key : ∀ V1, AirI 6 V V1 (V 35) n → FP.ddiv (FP.i2d (wkS (CF V1) (AF 6 V1) n 2)) (FP.i2d (7 * (V 21 1 - V 21 0))) = shN V1 n ∧ Pq V1 n := fun V1 hA => by
    have hq := pq_of h.1 h.2 hA
    refine ⟨?_, hq⟩
    rw [← q_share hq]
    unfold shS
    rw [hA.1 21 (by decide)]
  refine ⟨_, c_X6_share hI h.1.2.2.2.1 hn24 h.d hk.1 (fun V1 hA => by rw [(key V1 hA).1]; exact (sh_ok (key V1 hA).2.1 (key V1 hA).2.2.1).2.1), fun r V2 L2 N2 I2 hp => ?_⟩
  obtain ⟨rfl, hA, rfl, rfl, rfl⟩ := hp
  have hq := sq_air (Or.inl rfl) hA
  exact ⟨by rw [(key V2 hA).1, shN_sm (hq 201 (by decide))], hq, rfl, rfl, rfl⟩
theorem whyN_cg {V V1 : VV} (h : V1 201 = V 201) {n g : Nat} {d st ln : Int32} : whyN V1 n g d st ln = whyN V n g d st ln := by unfold whyN alN; rw [RF_z h, h]
theorem k_why (hI : PI I) (h : PR V n) {g : Nat} (hg : g < 6) {d st ln : Int32} (hr : rightB (nI g) d st ln 0 = true) : AskR l 6 1 6 yX6_why (Cond.code yX6_why cX6_why 5 (some .int)) [aR 0, aI (nI g), aI d, aI st, aI ln] V L N I (aI (whyN V n g d st ln)) := by
  have hn24 := h.2.1
  have hs : Sq V (becomeV V 1 (nI g) d st ln 0 (-1)) := sq_bec
  have h2 := h.sq hs
  refine ⟨_, c_X6_why hI h.1.2.2.2.1 hn24 (nI g) d st ln, fun r1 V1 L1 N1 I1 hp => ?_⟩
  rcases ei_c hp with ⟨_, hp⟩ | ⟨b, _⟩
  · obtain ⟨rfl, rfl, rfl, rfl, rfl⟩ := hp
    obtain ⟨r1, r2, r3, r4, r5⟩ := right_t hr
    obtain ⟨c0, c1, c2, c3, c4, c5, c6⟩ := bec_at (V := V) (k := 1) (g := nI g) (d := d) (s := st) (l := ln) (sp := 0) (o := -1)
    refine ⟨?_, hs, rfl, rfl, rfl⟩
    rw [nI_clamp (by omega), ← whyN_cg (hs 201 (by decide))]
    unfold whyN rfS
    rw [c0, c2, c3, c4, c5, al_of h2.1 hg]
    refine congrArg (fun z => Sum.inl (some (aI z))) ?_
    exact ref_a (R := RF _) (G2 := _) (agr_of h2.1) h2.2.2.2.2.1 (geq_of h2.1) (fun z => absurd z (by decide)) (by omega) (by omega) (by decide) (by decide)
  · rw [range_eq] at b
    exact tf hr b
theorem k_firstTime (hI : PI I) (h : PR V n) {g l2 : Nat} (hg : g < 6) {d : Int32} (hl5 : 5 ≤ l2) (hl : l2 ≤ 240) (hr : rightB (nI g) d 0 (nI l2) 0 = true) : AskR l 6 1 6 yX6_firstTime (Cond.code yX6_firstTime cX6_firstTime 4 (some .int)) [aR 0, aI (nI g), aI d, aI (nI l2)] V L N I (aI (fotN V n g d (nI l2) 288 0)) := by
  have hn24 := h.2.1
  refine ⟨_, c_X6_firstTime hI h.1.2.2.2.1 hn24 (nI g) d (nI l2), fun r1 V1 L1 N1 I1 hp => ?_⟩
  rcases ei_c hp with ⟨_, hp⟩ | ⟨b, _⟩
  · obtain ⟨rfl, rfl, rfl, rfl, rfl⟩ := hp
    exact ⟨by rw [nI_clamp (by omega), q_tape h.1 h.2 hg hl5 hl], sq_bec, rfl, rfl, rfl⟩
  · rw [range_eq] at b
    exact tf hr b
theorem k_firstRepeat (hI : PI I) (h : PR V n) {s : Nat} (hs : s < n) : AskR l 6 1 6 yX6_firstRepeat (Cond.code yX6_firstRepeat cX6_firstRepeat 2 (some .int)) [aR 0, aI (nI s)] V L N I (aI (repN V n (RF V 1 s).toNatClampNeg s 2016 0)) := by
  have hn24 := h.2.1
  refine ⟨_, c_X6_firstRepeat hI h.1.2.2.2.1 hn24 h.g (nI s), fun r1 V1 L1 N1 I1 hp => ?_⟩
  rcases ei_c hp with ⟨_, hp⟩ | ⟨b, _⟩
  · obtain ⟨rfl, rfl, rfl, rfl, rfl⟩ := hp
    refine ⟨?_, sq_r, rfl, rfl, rfl⟩
    rw [nI_clamp (by omega)]
    exact congrArg (fun z => Sum.inl (some (aI z))) (q_rep h.1 h.2 hs)
  · exact tf (num_n hs hn24) b
theorem k_ifOverrun (hI : PI I) (h : PR V n) {s d w : Nat} {b0 : Int32} (hs : s < n) (h0 : RF V 0 s = 0) (hd : d < 7) (h2 : RF V 2 s = nI d) (hb : -60 ≤ b0.toInt ∧ b0.toInt ≤ 120) (hw : w < 8) : AskR l 6 1 6 yX6_ifOverrun (Cond.code yX6_ifOverrun cX6_ifOverrun 4 (some .int)) [aR 0, aI (nI s), aI b0, aI (nI w)] V L N I (aI (dN (ovR V s b0) n (nI d) w)) := by
  have hn24 := h.2.1
  have e29 : V 29 s = RF V 0 s := h.1.2.2.2.2 0 (by decide) s hs
  have e31 : V 31 s = nI d := (h.1.2.2.2.2 2 (by decide) s hs).trans h2
  refine ⟨_, c_X6_ifOverrun hI h.1.2.2.2.1 hn24 h.d (nI s) b0 (nI w), fun r1 V1 L1 N1 I1 hp => ?_⟩
  rcases ei_c hp with ⟨_, hp⟩ | ⟨b, _⟩
  · rcases ei_c hp with ⟨_, hp⟩ | ⟨b, _⟩
    · rcases ei_c hp with ⟨_, hp⟩ | ⟨b, _⟩
      · obtain ⟨rfl, hA, rfl, rfl, rfl⟩ := hp
        have hq := sq_air (Or.inr rfl) hA
        refine ⟨?_, hq, rfl, rfl, rfl⟩
        dsimp only
        rw [nI_clamp (by omega), nI_clamp (by omega), e31, nI_clamp (by omega)]
        exact congrArg (fun z => Sum.inl (some (aI z))) (q_if h.1 h.2 hs hb hA hd hw)
      · exact tf (decide_eq_true (by rw [nI_clamp (by omega), e29]; exact h0)) b
    · exact tf (Bool.and_eq_true_iff.mpr ⟨win_t.mpr (show ((-60 : Int32)).toInt ≤ b0.toInt ∧ b0.toInt ≤ ((120 : Int32)).toInt from hb), win_n (w := w) (k := 7) (by omega) (by decide)⟩) b
  · exact tf (num_n hs hn24) b
theorem k_greatest (hI : PI I) (h : PR V n) {s : Nat} (hs : s < n) (h0 : RF V 0 s = 0) : AskR l 6 1 6 yX6_greatestOverrun (Cond.code yX6_greatestOverrun cX6_greatestOverrun 2 (some .int)) [aR 0, aI (nI s)] V L N I (aI (mosS V n s 181)) := by
  have hn24 := h.2.1
  have e29 : V 29 s = RF V 0 s := h.1.2.2.2.2 0 (by decide) s hs
  refine ⟨_, c_X6_greatestOverrun hI h.1.2.2.2.1 hn24 h.d (nI s), fun r1 V1 L1 N1 I1 hp => ?_⟩
  rcases ei_c hp with ⟨_, hp⟩ | ⟨b, _⟩
  · rcases ei_c hp with ⟨_, hp⟩ | ⟨b, _⟩
    · obtain ⟨rfl, hA, rfl, rfl, rfl⟩ := hp
      refine ⟨?_, fun i hi => hA i (by omega), rfl, rfl, rfl⟩
      rw [nI_clamp (by omega), q_grt h.1 h.2 hs]
    · exact tf (decide_eq_true (by rw [nI_clamp (by omega), e29]; exact h0)) b
  · exact tf (num_n hs hn24) b
end
section
variable {E : EE} {own : String} {cc : ByteArray} {ret : Option FieldType} {nL D MC MS pc : Nat} {ls : zLS} {st : List AV} {V : VV} {L : LL} {N : NN} {I : List Nat} {a b mc ms : Nat}
theorem x_aV0 (C : OK E own cc nL ret D MC MS) (J : List Nat) (hJ : ∀ j, j ∈ J → j ∈ I) {idx ci o D1 mL : Nat} {y : MethodName} {c1 : ByteArray} {r1 : Option FieldType} {r : AV} (w : CVk own idx ci 0 y c1 mL r1) (d : decode cc pc = .ok (.invokevirtual idx, 3)) (hR : AskR (eL E) D1 mc ms y (Cond.code y c1 mL r1) (aR o :: []) V L N I r)
    (hi : o ∈ I) (ho : ocl o = some ci) (hDD : D1 + 1 ≤ D) (hok : okG J ls st = true) (hroom : a + mc ≤ MC ∧ b + ms ≤ MS) (K : ∀ V', Sq V V' → Wx E (pc + 3) ls (r :: st) V' L N I (a + mc) (b + ms)) : Wx E pc ls (aR o :: st) V L N I a b := by
  obtain ⟨P, hR, hP⟩ := hR
  exact x_callV (As := []) C w d hR hi ho rfl hDD (okG_s hJ hok) (okG_c hok) hroom (fun X V1 L1 N1 I1 h => by cases (hP _ _ _ _ _ h).1) (fun r1 V1 L1 N1 I1 h => by obtain ⟨h1, h2, rfl, rfl, rfl⟩ := hP _ _ _ _ _ h; cases h1; exact K V1 h2)
theorem x_aV1 (C : OK E own cc nL ret D MC MS) (J : List Nat) (hJ : ∀ j, j ∈ J → j ∈ I) {idx ci o D1 mL : Nat} {y : MethodName} {c1 : ByteArray} {r1 : Option FieldType} {a1 : AV} {r : AV} (w : CVk own idx ci 1 y c1 mL r1) (d : decode cc pc = .ok (.invokevirtual idx, 3)) (hR : AskR (eL E) D1 mc ms y (Cond.code y c1 mL r1) (aR o :: [a1]) V L N I r)
    (hi : o ∈ I) (ho : ocl o = some ci) (hDD : D1 + 1 ≤ D) (hok : okG J ls st = true) (hroom : a + mc ≤ MC ∧ b + ms ≤ MS) (K : ∀ V', Sq V V' → Wx E (pc + 3) ls (r :: st) V' L N I (a + mc) (b + ms)) : Wx E pc ls (a1 :: aR o :: st) V L N I a b := by
  obtain ⟨P, hR, hP⟩ := hR
  exact x_callV (As := [a1]) C w d hR hi ho rfl hDD (okG_s hJ hok) (okG_c hok) hroom (fun X V1 L1 N1 I1 h => by cases (hP _ _ _ _ _ h).1) (fun r1 V1 L1 N1 I1 h => by obtain ⟨h1, h2, rfl, rfl, rfl⟩ := hP _ _ _ _ _ h; cases h1; exact K V1 h2)
theorem x_aV2 (C : OK E own cc nL ret D MC MS) (J : List Nat) (hJ : ∀ j, j ∈ J → j ∈ I) {idx ci o D1 mL : Nat} {y : MethodName} {c1 : ByteArray} {r1 : Option FieldType} {a1 a2 : AV} {r : AV} (w : CVk own idx ci 2 y c1 mL r1) (d : decode cc pc = .ok (.invokevirtual idx, 3)) (hR : AskR (eL E) D1 mc ms y (Cond.code y c1 mL r1) (aR o :: [a1, a2]) V L N I r)
    (hi : o ∈ I) (ho : ocl o = some ci) (hDD : D1 + 1 ≤ D) (hok : okG J ls st = true) (hroom : a + mc ≤ MC ∧ b + ms ≤ MS) (K : ∀ V', Sq V V' → Wx E (pc + 3) ls (r :: st) V' L N I (a + mc) (b + ms)) : Wx E pc ls (a2 :: a1 :: aR o :: st) V L N I a b := by
  obtain ⟨P, hR, hP⟩ := hR
  exact x_callV (As := [a1, a2]) C w d hR hi ho rfl hDD (okG_s hJ hok) (okG_c hok) hroom (fun X V1 L1 N1 I1 h => by cases (hP _ _ _ _ _ h).1) (fun r1 V1 L1 N1 I1 h => by obtain ⟨h1, h2, rfl, rfl, rfl⟩ := hP _ _ _ _ _ h; cases h1; exact K V1 h2)
theorem x_aV3 (C : OK E own cc nL ret D MC MS) (J : List Nat) (hJ : ∀ j, j ∈ J → j ∈ I) {idx ci o D1 mL : Nat} {y : MethodName} {c1 : ByteArray} {r1 : Option FieldType} {a1 a2 a3 : AV} {r : AV} (w : CVk own idx ci 3 y c1 mL r1) (d : decode cc pc = .ok (.invokevirtual idx, 3)) (hR : AskR (eL E) D1 mc ms y (Cond.code y c1 mL r1) (aR o :: [a1, a2, a3]) V L N I r)
    (hi : o ∈ I) (ho : ocl o = some ci) (hDD : D1 + 1 ≤ D) (hok : okG J ls st = true) (hroom : a + mc ≤ MC ∧ b + ms ≤ MS) (K : ∀ V', Sq V V' → Wx E (pc + 3) ls (r :: st) V' L N I (a + mc) (b + ms)) : Wx E pc ls (a3 :: a2 :: a1 :: aR o :: st) V L N I a b := by
  obtain ⟨P, hR, hP⟩ := hR
  exact x_callV (As := [a1, a2, a3]) C w d hR hi ho rfl hDD (okG_s hJ hok) (okG_c hok) hroom (fun X V1 L1 N1 I1 h => by cases (hP _ _ _ _ _ h).1) (fun r1 V1 L1 N1 I1 h => by obtain ⟨h1, h2, rfl, rfl, rfl⟩ := hP _ _ _ _ _ h; cases h1; exact K V1 h2)
theorem x_aV4 (C : OK E own cc nL ret D MC MS) (J : List Nat) (hJ : ∀ j, j ∈ J → j ∈ I) {idx ci o D1 mL : Nat} {y : MethodName} {c1 : ByteArray} {r1 : Option FieldType} {a1 a2 a3 a4 : AV} {r : AV} (w : CVk own idx ci 4 y c1 mL r1) (d : decode cc pc = .ok (.invokevirtual idx, 3)) (hR : AskR (eL E) D1 mc ms y (Cond.code y c1 mL r1) (aR o :: [a1, a2, a3, a4]) V L N I r)
    (hi : o ∈ I) (ho : ocl o = some ci) (hDD : D1 + 1 ≤ D) (hok : okG J ls st = true) (hroom : a + mc ≤ MC ∧ b + ms ≤ MS) (K : ∀ V', Sq V V' → Wx E (pc + 3) ls (r :: st) V' L N I (a + mc) (b + ms)) : Wx E pc ls (a4 :: a3 :: a2 :: a1 :: aR o :: st) V L N I a b := by
  obtain ⟨P, hR, hP⟩ := hR
  exact x_callV (As := [a1, a2, a3, a4]) C w d hR hi ho rfl hDD (okG_s hJ hok) (okG_c hok) hroom (fun X V1 L1 N1 I1 h => by cases (hP _ _ _ _ _ h).1) (fun r1 V1 L1 N1 I1 h => by obtain ⟨h1, h2, rfl, rfl, rfl⟩ := hP _ _ _ _ _ h; cases h1; exact K V1 h2)
end
