-- loading, and the calls that never throw
/-- a call that never throws, and the reference's behind it -/
def SD (P : PP) (RM : RMT) (C : AV → Prop) : Prop := ∀ r V2 L2 N2 I2, P r V2 L2 N2 I2 → ∃ x : AV, r = .inl (some x) ∧ C x ∧ IN N2 I2 ∧ ∀ L', ∃ (Q : VV → Prop) (L3 : LL), RM V2 L' N2 I2 (Pm (some x) Q L3 N2 I2) ∧ ∀ V3, Q V3 → Inv V3 N2 I2
section
variable {l : Launch} {V : VV} {L : LL} {N : NN} {I : List Nat} {n o m l0 : Nat}
theorem InvX.stt {V : VV} (h : InvX V N I n o m l0) (a : Nat) (x : Int32) : InvX (stT V a x) N I n o m l0 := by
  obtain ⟨h1, h2, h3, h4, h5, h6, h7, h8, h9, h10, b, h11⟩ := h
  have e : ∀ i, i ≠ 3 → stT V a x i = V i := fun i hi => stT_nf hi
  have ez := e 201 (by decide)
  have e1 := e 1 (by decide)
  refine ⟨P2.cg h2.1 (fun i a b => e i (by omega)) (fun j _ => congrFun ez j) h1, Rw.cg (fun j _ => congrFun ez j) h2, ⟨h3.1, by rw [e1]; exact h3.2.1, h3.2.2.1, by rw [e1]; exact h3.2.2.2.1, h3.2.2.2.2⟩, SvI.cg (fun i a b => e i (by omega)) (e 202 (by decide)) h4, ?_, ?_, ?_, ?_, h9, fun i hi => ?_, a, stT_2⟩
  · rw [e 200 (by decide)]; exact h5
  · rw [e 0 (by decide), e 200 (by decide)]; exact h6
  · rw [stT_1]; exact h7
  · rw [e 200 (by decide)]; exact h8
  · rw [e 4 (by decide), e 203 (by decide)]; exact h10 i hi
theorem sx_sm5 {V V1 : VV} (h : Sm5 V V1) : Sx V V1 := fun i j z => h i j (fun q => z (by unfold Scr; omega))
theorem sau_tt {W : VV} {k : Nat} : Sau W (rtT W k).2 := sau_t sau_0 sau_rt
theorem InvX.al (h : InvX V N I n o m l0) : InvX (alM V l0) N I n o m l0 := (h.sx (sx_sm5 (all_le (Nat.zero_le _)).2)).stt _ _
theorem al_go {W : VV} (h : InvX V N I n o m l0) (hW : W 203 = V 203) : ((allT l0 60 V 0 (V 3 3)).1 = false → Fl l0 (rt0 W) 0 (allT l0 60 V 0 (V 3 3)).2.2.1) ∧ ((allT l0 60 V 0 (V 3 3)).1 = true → (allT l0 60 V 0 (V 3 3)).2.2.1 = l0 ∧ (rtP (l0 - 0) (rt0 W) 0).1 = l0 ∧ FinB (rtP (l0 - 0) (rt0 W) 0).2 = true) := by
  obtain ⟨h1, h2, h3, h4, h5, h6, h7, h8, h9, h10, a, h11⟩ := h
  refine all_go (k := 60) (t := 0) (by omega) (by decide) (fun i hi => ?_) ⟨up_ss, (up_nk (by decide)).trans up_ss⟩ (Nat.zero_le _)
  rw [h10 i hi, ← hW, sau_0.2 203 (by decide) (by decide)]
theorem s_firstError (h : InvX V N I n o m l0) : ∃ P, Runs l 7 0 0 yX6_firstError (Cond.code yX6_firstError cX6_firstError 1 (some .int)) [aR 0] V L N I P ∧ SD P (fun V2 L' N2 I2 PM => Runs l 5 0 0 yX7_firstError (Cond.code yX7_firstError cX7_firstError 1 (some .int)) [aR 200] V2 L' N2 I2 PM) (fun x => ∃ v, x = aI v) := by
  obtain ⟨h1, h2, h3, h4, h5, h6, h7, h8, h9, h10, a, h11⟩ := id h
  refine ⟨_, c_X6_firstError h3.1.1 h7 h9 h11, fun r V2 L2 N2 I2 hp => ?_⟩
  obtain ⟨rfl, hV2, rfl, rfl, rfl⟩ := hp
  have hV2' : V2 = alM V l0 := hV2
  have hA := h.al
  rw [← hV2'] at hA
  obtain ⟨k1, k2, k3, k4, k5, k6, k7, k8, k9, k10, b, k11⟩ := id hA
  have e203 : V2 203 = V 203 := by rw [hV2']; exact alM_nf (by decide) (by decide)
  have hgo := al_go (W := up V2 200 0 0) h ((up_nf (by decide)).trans e203)
  have heq : (rtT (up V2 200 0 0) l0).1 = (allT l0 60 V 0 (V 3 3)).2.2.1 := by
    cases q : (allT l0 60 V 0 (V 3 3)).1 with
    | false => exact (hgo.1 q).1
    | true => exact (hgo.2 q).2.1.trans (hgo.2 q).1.symm
  have mm := fun L' => is_pm (c_X7_firstError (l := l) (V := V2) (L := L') (N := N2) (I := I2) k3.1.1 k8 h9)
  rw [heq] at mm
  refine ⟨_, rfl, ⟨_, rfl⟩, k3.1, fun L' => ⟨_, L', mm L', fun V3 z => ⟨n, o, m, l0, ?_⟩⟩⟩
  · rw [z]
    exact hA.sx (sx_t sx_th (sx_sau (sau_t sau_0 sau_rt)))
theorem s_reason (h : InvX V N I n o m l0) : ∃ P, Runs l 1 0 0 yX6_reason (Cond.code yX6_reason cX6_reason 1 (some .int)) [aR 0] V L N I P ∧ SD P (fun V2 L' N2 I2 PM => Runs l 1 0 0 yX7_reason (Cond.code yX7_reason cX7_reason 1 (some .int)) [aR 200] V2 L' N2 I2 PM) (fun x => ∃ v, x = aI v) := by
  have hI := h.2.2.1.1.1
  refine ⟨_, c_X6_reason hI, fun r V2 L2 N2 I2 hp => ?_⟩
  obtain ⟨rfl, rfl, rfl, rfl, rfl⟩ := hp
  have mm := fun L' => is_pm (c_X7_reason (l := l) (V := V2) (L := L') (N := N2) (I := I2) hI)
  rw [← h.2.2.2.2.2.1] at mm
  refine ⟨_, rfl, ⟨_, rfl⟩, h.2.2.1.1, fun L' => ⟨_, L', mm L', fun V3 z => ⟨n, o, m, l0, ?_⟩⟩⟩
  · rw [z]; exact h.sx sx_th
theorem s_clearBuffer (h : InvX V N I n o m l0) : ∃ P, Runs l 1 0 0 yX6_clearBuffer (Cond.code yX6_clearBuffer cX6_clearBuffer 2 (some .int)) [aR 0] V L N I P ∧ SD P (fun V2 L' N2 I2 PM => Runs l 1 0 0 yX7_clearBuffer (Cond.code yX7_clearBuffer cX7_clearBuffer 2 (some .int)) [aR 200] V2 L' N2 I2 PM) (fun x => ∃ v, x = aI v) := by
  obtain ⟨h1, h2, h3, h4, h5, h6, h7, h8, h9, h10, a, h11⟩ := id h
  refine ⟨_, c_X6_clearBuffer h3.1.1, fun r V2 L2 N2 I2 hp => ?_⟩
  obtain ⟨rfl, hV2, rfl, rfl, rfl⟩ := hp
  have e20 : ∀ j, V2 200 j = V 200 j := fun j => by rw [hV2, up_no (by decide)]
  have mm := fun L' => is_pm (c_X7_clearBuffer (l := l) (V := V2) (L := L') (N := N2) (I := I2) h3.1.1)
  rw [e20 5, h8.trans h7.symm] at mm
  refine ⟨_, rfl, ⟨_, rfl⟩, h3.1, fun L' => ⟨_, L', mm L', fun V3 z => ⟨n, o, m, 0, ?_⟩⟩⟩
  · have e : ∀ i, i ≠ 3 → i ≠ 200 → V3 i = V i := fun i a b => by rw [z, up_nf b, up_nf b, hV2, up_nf a]
    have ez := e 201 (by decide) (by decide)
    have e1 := e 1 (by decide) (by decide)
    refine ⟨P2.cg h2.1 (fun i a b => e i (by omega) (by omega)) (fun j _ => congrFun ez j) h1, Rw.cg (fun j _ => congrFun ez j) h2, ⟨h3.1, by rw [e1]; exact h3.2.1, h3.2.2.1, by rw [e1]; exact h3.2.2.2.1, h3.2.2.2.2⟩, SvI.cg (fun i a b => e i (by omega) (by omega)) (e 202 (by decide) (by decide)) h4, ?_, ?_, ?_, ?_, by decide, fun i hi => absurd hi (Nat.not_lt_zero i), a, ?_⟩
    · rw [z, up_nk (by decide), up_nk (by decide), e20]; exact h5
    · rw [e 0 (by decide) (by decide), z, up_nk (by decide), up_nk (by decide), e20]; exact h6
    · rw [z, up_no (by decide), up_no (by decide), hV2, up_ss]; rfl
    · rw [z, up_ss]; rfl
    · rw [z, up_no (by decide), up_no (by decide), hV2, up_nk (by decide)]; exact h11
theorem s_share (h : InvX V N I n o m l0) : ∃ P, Runs l 7 0 0 yX6_share (Cond.code yX6_share cX6_share 1 (some .double)) [aR 0] V L N I P ∧ SD P (fun V2 L' N2 I2 PM => Runs l 7 0 0 yX7_share (Cond.code yX7_share cX7_share 1 (some .double)) [aR 200] V2 L' N2 I2 PM) (fun x => ∃ v, x = aD v ∧ Op.cmpValue (FP.dcmp v v) .l = 0) := by
  have hI := h.2.2.1.1.1
  have hn24 := h.2.1.1
  have hk := sh_all h.1 h.2.1
  have key : ∀ V1, AirI 6 V V1 (V 35) n → FP.ddiv (FP.i2d (wkS (CF V1) (AF 6 V1) n 2)) (FP.i2d (7 * (V 21 1 - V 21 0))) = shN V1 n ∧ Pq V1 n := fun V1 hA => by
    have hq := pq_of h.1 h.2.1 hA
    refine ⟨?_, hq⟩
    rw [← q_share hq]
    unfold shS
    rw [hA.1 21 (by decide)]
  refine ⟨_, c_X6_share hI h.1.2.2.2.1 hn24 h.d hk.1 (fun V1 hA => by rw [(key V1 hA).1]; exact (sh_ok (key V1 hA).2.1 (key V1 hA).2.2.1).2.1), fun r V2 L2 N2 I2 hp => ?_⟩
  obtain ⟨rfl, hA, rfl, rfl, rfl⟩ := hp
  obtain ⟨e, hq⟩ := key V2 hA
  rw [e]
  obtain ⟨k1, k2, k3, k4⟩ := sh_ok hq.1 hq.2.1
  have zu : (up V2 200 0 0) 201 = V2 201 := up_nf (by decide)
  have mm := fun L' => c_X7_share (l := l) (V := V2) (L := L') (N := N2) (I := I2) hI hq.2.1.2.1 hn24 (by rw [wkN_sm zu]; exact k1) (by rw [shN_sm zu]; exact k2)
  rw [shN_sm zu] at mm
  exact ⟨_, rfl, ⟨_, rfl, k3⟩, h.2.2.1.1, fun L' => ⟨_, L', mm L', fun V3 z => ⟨n, o, m, l0, (h.sx (sx_air hA)).sx (sx_t sx_th (sx_sml z))⟩⟩⟩
theorem s_digest (h : InvX V N I n o m l0) : ∃ P, Runs l 7 1 1 yX6_digest (Cond.code yX6_digest cX6_digest 4 (some .long)) [aR 0] V L N I P ∧ SD P (fun V2 L' N2 I2 PM => Runs l 8 0 0 yX7_digest (Cond.code yX7_digest cX7_digest 3 (some .long)) [aR 200] V2 L' N2 I2 PM) (fun x => ∃ v, x = aL v) := by
  obtain ⟨h1, h2, h3, h4, h5, h6, h7, h8, h9, h10, a, h11⟩ := id h
  have hI := h3.1.1
  have hn24 := h2.1
  have hk := sh_all h1 h2
  refine ⟨_, c_X6_digest hI h3.1.2.2.2 h1.2.2.2.1 hn24 h.d h.g h7 h9 hk.1 (fun V1 hA => by
    have hq := pq_of h1 h2 hA
    rw [q_share hq]
    obtain ⟨k1, k2, k3, k4⟩ := sh_ok hq.1 hq.2.1
    exact ⟨k2, k4⟩), fun r V2 L2 N2 I2 hp => ?_⟩
  obtain ⟨V1, hA, hS, rfl, _, rfl, rfl⟩ := hp
  have hq := pq_of h1 h2 hA
  have hsx1 := sx_air hA
  have hsx := sx_t hsx1 (sx_sma hS)
  have hq1 := h.sx hsx1
  have hq2 := h.sx hsx
  have z2 : V2 201 = V1 201 := hS 201 (by decide)
  have zu : (up V2 200 0 0) 201 = V1 201 := (up_nf (by decide)).trans z2
  have e20 : ∀ j, j ≠ 0 → (up V2 200 0 0) 200 j = V1 200 j := fun j hj => by rw [up_nk hj, hS 200 (by decide)]
  have e2z : V2 201 = V1 201 := z2
  obtain ⟨k1, k2, k3, k4⟩ := sh_ok hq.1 hq.2.1
  have mm : ∀ L', Runs l 8 0 0 yX7_digest (Cond.code yX7_digest cX7_digest 3 (some .long)) [aR 200] V2 L' N2 I2 (Pm (some (aL (hwL V1 n l0 L 18 0))) (fun V1 => SmF (up V2 200 0 0) V1) (dgT (up V2 200 0 0) (dg5 (up V2 200 0 0) n L') l0) N2 I2) := fun L' => by
    have := c_X7_digest (l := l) (V := V2) (L := L') (N := N2) (I := I2) hI hq2.2.1.2.1 hn24 hq2.2.2.2.2.2.2.2.1 h9 (fun s hs => rw_g hq2.2.1 hs) (fun s hs => rw_d hq2.2.1 hs) (by rw [wkN_sm e2z]; exact k1) (by rw [shN_sm e2z]; exact k2) (by rw [shN_sm e2z]; exact k3)
    have he := dig_eq2 (W := V1) (U := up V2 200 0 0) (n := n) (l0 := l0) hq (hq1.2.2.1.2.2.2.1.trans hq1.2.2.2.2.1.symm) zu (e20 2 (by decide)) (by rw [e20 4 (by decide)]; exact hq1.2.2.2.2.2.1) (by rw [e20 5 (by decide)]; exact hq1.2.2.2.2.2.2.1.trans hq1.2.2.2.2.2.2.2.1.symm) (fun i hi => by rw [up_nf (by decide), hS 203 (by decide)]; exact hq1.2.2.2.2.2.2.2.2.2.1 i hi) (La := L) (Lb := L')
    rw [← he] at this
    exact this
  exact ⟨_, rfl, ⟨_, rfl⟩, h3.1, fun L' => ⟨_, _, mm L', fun V3 z => ⟨n, o, m, l0, hq2.sx (sx_t sx_th (sx_smf z))⟩⟩⟩
theorem s_load (h : InvX V N I n o m l0) : ∃ P, Runs l 7 15 246 yX6_load (Cond.code yX6_load cX6_load 3 (some .int)) [aR 0] V L N I P ∧ SP P (fun V2 L' N2 I2 PM => Runs l 7 0 0 yX7_load (Cond.code yX7_load cX7_load 3 (some .int)) [aR 200] V2 L' N2 I2 PM) [xA] := by
  obtain ⟨h1, h2, h3, h4, h5, h6, h7, h8, h9, h10, a, h11⟩ := id h
  have hI := h3.1.1
  have hn24 := h2.1
  have hm6 := h3.2.2.2.2
  refine ⟨_, c_X6_load h3 h1.2.2.2.1 hn24 h.g h7 h9 h11, fun r V2 L2 N2 I2 hp => ?_⟩
  have hAl := h.al
  have hsg : ∀ V2 : VV, V2 201 = V 201 → ∀ s, s < n → ∃ g, g < 6 ∧ RF V2 1 s = nI g := fun V2 z s hs => by
    obtain ⟨g, a, b⟩ := rw_g h2 hs
    exact ⟨g, a, by rw [RF_z z]; exact b⟩
  have eA : ∀ i, i ≠ 3 → i ≠ 5 → alM V l0 i = V i := fun i a b => alM_nf a b
  rcases ei_c hp with ⟨b1, hp⟩ | ⟨b1, rfl, hV2, rfl, rfl, rfl⟩
  · obtain ⟨V1, hsv, hV2, rfl, rfl, hIN⟩ := hp
    have e1 : ∀ i, i ≠ 1 → (i < 40 ∨ 157 ≤ i) → V1 i = alM V l0 i := fun i a b => hsv.no b a
    -- the memory at the head of the loop
    have eM : ∀ i, i ≠ 0 → i ≠ 3 → (up (up V1 0 6 0) 3 2 0) i = V1 i := fun i a b => by rw [up_nf b, up_nf a]
    have zA : alM V l0 201 = V 201 := eA 201 (by decide) (by decide)
    have hAp := hAl.1
    have hAr := hAl.2.1
    have hgo0 : ∀ W : VV, W 203 = V 203 → (rtT W l0).1 = l0 ∧ FinB (rtT W l0).2 = true := fun W hW => ⟨((al_go h hW).2 b1).2.1, ((al_go h hW).2 b1).2.2⟩
    have hl0 : 0 < l0 := by
      rcases Nat.eq_zero_or_pos l0 with q | q
      · exfalso
        have := (hgo0 V rfl).2
        rw [q] at this
        have hf := fin_s (M := rt0 V) (t := 0) (s := 0) ⟨up_ss, (up_nk (by decide)).trans up_ss⟩ (by decide) (by decide)
        have hr : (rtT V 0).2 = rt0 V := rfl
        rw [hr, hf, cm_f2 (by decide) (by decide) (by decide)] at this
        cases this
      · exact q
    -- the loop, over any memory of the reference
    have loop : ∀ W : VV, W 201 = V 201 → W 203 = V 203 → ∃ n2, P2 (lcM l0 60 (up (up V1 0 6 0) 3 2 0) n 0 0).1 20 ((ldP (ldK W l0) (ld0 W l0 m) n 0).1 201) n2 ∧ Rw ((ldP (ldK W l0) (ld0 W l0 m) n 0).1 201) n2 ∧ (lcM l0 60 (up (up V1 0 6 0) 3 2 0) n 0 0).2 + 0 = 0 + (ldP (ldK W l0) (ld0 W l0 m) n 0).2 ∧ (lcM l0 60 (up (up V1 0 6 0) 3 2 0) n 0 0).2 ≤ 0 + 60 ∧ (lcM l0 60 (up (up V1 0 6 0) 3 2 0) n 0 0).1 0 6 = (ldP (ldK W l0) (ld0 W l0 m) n 0).1 200 4 ∧
        (∀ i, i ≠ 0 → i ≠ 3 → i ≠ 5 → i ≠ 20 → ¬ (29 ≤ i ∧ i ≤ 36) → (lcM l0 60 (up (up V1 0 6 0) 3 2 0) n 0 0).1 i = (up (up V1 0 6 0) 3 2 0) i) ∧ (∀ i, i ≠ 6 → (lcM l0 60 (up (up V1 0 6 0) 3 2 0) n 0 0).1 0 i = (up (up V1 0 6 0) 3 2 0) 0 i) ∧ (∀ i, i ≠ 7 → (lcM l0 60 (up (up V1 0 6 0) 3 2 0) n 0 0).1 20 i = (up (up V1 0 6 0) 3 2 0) 20 i) ∧ (∃ b, (lcM l0 60 (up (up V1 0 6 0) 3 2 0) n 0 0).1 3 2 = nI b) ∧
        (∀ i, i ≠ 200 → i ≠ 201 → i ≠ 204 → (ldP (ldK W l0) (ld0 W l0 m) n 0).1 i = (ld0 W l0 m) i) ∧ ∀ i, i ≠ 4 → (ldP (ldK W l0) (ld0 W l0 m) n 0).1 200 i = (ld0 W l0 m) 200 i := fun W z1 z3 => by
      have hg := hgo0 W z3
      have zl : (ld0 W l0 m) 201 = V 201 := by
        unfold ld0
        rw [up_nf (by decide), up_nf (by decide), svR_i (by decide) (by decide), up_nf (by decide), sau_tt.2 201 (by decide) (by decide), z1]
      refine lod_rel (A := rt0 W) (W := (rtT W l0).2) (k := 60) (by omega) (by decide) h9 hl0 (P2.cg hn24 (fun i a b => by rw [eM i (by omega) (by omega), e1 i (by omega) (by omega), eA i (by omega) (by omega)]) (fun j _ => congrFun zl j) h1) (Rw.cg (fun j _ => congrFun zl j) h2) (fun i hi => ?_) ⟨up_ss, (up_nk (by decide)).trans up_ss⟩ ?_ hg.2 (fun i => ?_) ?_ ?_ ?_
      · rw [eM 4 (by decide) (by decide), e1 4 (by decide) (by decide), eA 4 (by decide) (by decide), sau_0.2 203 (by decide) (by decide), z3]; exact h10 i hi
      · exact Prod.ext hg.1 rfl
      · unfold ld0
        rw [up_no (by decide), up_no (by decide), svR_i (by decide) (by decide), up_no (by decide)]
      · rw [up_no (by decide), up_ss]
      · unfold ld0; rw [up_ss]
      · rw [Nat.zero_add]; rfl
    obtain ⟨_, _, _, _, _, _, g6, g7, g8, ⟨bb, g9⟩, _, _⟩ := loop V rfl rfl
    have f2 : ∀ i, i ≠ 0 → i ≠ 3 → i ≠ 5 → i ≠ 20 → ¬ (29 ≤ i ∧ i ≤ 36) → V2 i = V1 i := fun i a b c d e => by rw [hV2, up_nf b, g6 i a b c d e, eM i a b]
    have f2a : ∀ i, i ≠ 1 → i ≠ 0 → i ≠ 3 → i ≠ 5 → i ≠ 20 → ¬ (29 ≤ i ∧ i ≤ 36) → (i < 40 ∨ 157 ≤ i) → V2 i = V i := fun i x a b c d e f => by rw [f2 i a b c d e, e1 i x f, eA i b c]
    have z201 : V2 201 = V 201 := f2a 201 (by decide) (by decide) (by decide) (by decide) (by decide) (by omega) (by omega)
    have z203 : V2 203 = V 203 := f2a 203 (by decide) (by decide) (by decide) (by decide) (by decide) (by omega) (by omega)
    have z200 : V2 200 = V 200 := f2a 200 (by decide) (by decide) (by decide) (by decide) (by decide) (by omega) (by omega)
    have z202 : V2 202 = V 202 := f2a 202 (by decide) (by decide) (by decide) (by decide) (by decide) (by omega) (by omega)
    have hg := hgo0 V2 z203
    have hldB : ldB V2 l0 = true := by
      unfold ldB
      rw [decide_eq_true hg.1, Bool.true_and]
      exact hg.2
    obtain ⟨n2, i1, i2, i3, i4, i5, i6, i7, i8, i9, i10, i11⟩ := loop V2 z201 z203
    have hmod := fun L' => c_X7_load (l := l) (V := V2) (L := L') (N := N2) (I := I2) hIN.1 (by rw [z201]; exact h2.2.1) hn24 (by rw [z200]; exact h5) hm6 (by rw [z200]; exact h8) h9 (hsg V2 z201)
    refine ⟨hIN, 0, _, by decide, Or.inl ⟨_, rfl, rfl, ?_⟩, fun L' => ⟨_, is_pm (hmod L'), fun V3 z => ?_⟩⟩
    · rw [if_pos hldB]
      exact congrArg nI (by omega)
    · rw [if_pos hldB] at z
      have f3 : ∀ i, i ≠ 200 → i ≠ 201 → i ≠ 204 → V3 i = ld0 V2 l0 m i := fun i a b c => by rw [z, up_nf a, i10 i a b c]
      have f30 : ∀ j, j ≠ 4 → j ≠ 5 → V3 200 j = ld0 V2 l0 m 200 j := fun j a b => by rw [z, up_nk b, i11 j a]
      have d0 : ∀ i, i ≠ 200 → ld0 V2 l0 m i = svR (up (rtT V2 l0).2 200 0 0) m i := fun i a => by unfold ld0; rw [up_nf a, up_nf a]
      have d1 : ∀ i, i ≠ 200 → i ≠ 202 → i ≠ 209 → ld0 V2 l0 m i = V2 i := fun i a b c => by rw [d0 i a, svR_i b a, up_nf a, sau_tt.2 i a c]
      have d2 : ∀ j, j ≠ 4 → j ≠ 15 → ld0 V2 l0 m 200 j = svR (up (rtT V2 l0).2 200 0 0) m 200 j := fun j a b => by unfold ld0; rw [up_nk a, up_nk b]
      have f3' : ∀ i, i ≠ 200 → i ≠ 201 → i ≠ 202 → i ≠ 204 → i ≠ 209 → V3 i = V2 i := fun i a b c d e => (f3 i a b d).trans (d1 i a c e)
      have e3z : V3 201 = (ldP (ldK V2 l0) (ld0 V2 l0 m) n 0).1 201 := by rw [z, up_nf (by decide)]
      have r201 : (rtT V2 l0).2 201 = V2 201 := (sau_t sau_0 sau_rt).2 201 (by decide) (by decide)
      have r202 : (rtT V2 l0).2 202 = V2 202 := (sau_t sau_0 sau_rt).2 202 (by decide) (by decide)
      refine ⟨by rw [f30 0 (by decide) (by decide), d2 0 (by decide) (by decide), svR_j (by decide), up_ss]; rfl, ?_⟩
      refine mut_inv (Vp := alM V l0) (U := up (rtT V2 l0).2 200 0 0) (l2 := 0) (a := bb) (n2 := n2) h3.2.2.1 hm6 hAl.2.2.2.1 hAp hAr hsv (fun i a b => ?_) ?_ ?_ ?_ ?_ ?_ hIN ?_ (by rw [e3z]; exact i2) ?_ ?_ ?_ (by decide) (fun i hi => absurd hi (Nat.not_lt_zero i)) ?_
      · rw [f3' i (by omega) (by omega) (by omega) (by omega) (by omega), f2 i (by omega) (by omega) (by omega) (by omega) (by omega)]
      · rw [f3' 1 (by decide) (by decide) (by decide) (by decide) (by decide), f2 1 (by decide) (by decide) (by decide) (by decide) (by omega)]
      · rw [up_nf (by decide), r201, z201, zA]
      · rw [up_nf (by decide), r202, z202, eA 202 (by decide) (by decide)]
      · rw [f3 202 (by decide) (by decide) (by decide), d0 202 (by decide)]
      · rw [f30 2 (by decide) (by decide), d2 2 (by decide) (by decide)]
      · rw [e3z]
        exact P2.cg i2.1 (fun i a b => by rw [f3' i (by omega) (by omega) (by omega) (by omega) (by omega), hV2, up_nf (by omega)]) (fun _ _ => rfl) i1
      · rw [f3' 0 (by decide) (by decide) (by decide) (by decide) (by decide), hV2, up_no (by decide), i5, z, up_nk (by decide)]
      · rw [f3' 3 (by decide) (by decide) (by decide) (by decide) (by decide), hV2, up_ss]; rfl
      · rw [z, up_ss]; rfl
      · rw [f3' 3 (by decide) (by decide) (by decide) (by decide) (by decide), hV2, up_nk (by decide)]; exact g9
  · have hA2 : InvX V2 N2 I2 n o m l0 := by rw [hV2]; exact hAl
    have e203 : V2 203 = V 203 := by rw [hV2]; exact eA 203 (by decide) (by decide)
    have z201 : V2 201 = V 201 := by rw [hV2]; exact eA 201 (by decide) (by decide)
    have hfl := (al_go (W := V2) h e203).1 b1
    have hldB : ldB V2 l0 = false := by
      unfold Fl at hfl
      by_cases q : (rtT V2 l0).1 = l0
      · refine ldB_2 ?_
        exact hfl.2 (hfl.1.symm.trans q)
      · exact ldB_1 q
    refine ⟨hA2.2.2.1.1, 1, _, by decide, mt_x (k := 0) rfl nd_1, fun L' => ⟨_, is_pm (c_X7_load hI hA2.2.1.2.1 hn24 hA2.2.2.2.2.1 hm6 hA2.2.2.2.2.2.2.2.1 h9 (hsg V2 z201)), fun V3 z => ?_⟩⟩
    rw [if_neg (by rw [hldB]; decide)] at z
    rw [z]
    exact ⟨up_ss, n, o, m, l0, hA2.sx (sx_t (sx_sau (sau_t sau_0 sau_rt)) sx_th)⟩
end
