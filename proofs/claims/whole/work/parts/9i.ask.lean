-- calls that only ask
section
variable {l : Launch} {V : VV} {L : LL} {N : NN} {I : List Nat} {n o m l0 : Nat}
theorem s_group (h : InvX V N I n o m l0) (x y : Int32) : ∃ P, Runs l 6 1 6 yX6_group (Cond.code yX6_group cX6_group 3 (some .int)) [aR 0, aI x, aI y] V L N I P ∧ SP P (fun V2 L' N2 I2 PM => Runs l 7 0 0 yX7_group (Cond.code yX7_group cX7_group 3 (some .int)) [aR 200, aI x, aI y] V2 L' N2 I2 PM) [xO, xA] := by
  have hI := h.2.2.1.1.1
  have hn24 := h.2.1.1
  refine ⟨_, c_X6_group hI h.1.2.2.2.1 hn24 h.d x y, sp_q h fun r V2 L2 N2 I2 hp => ?_⟩
  rcases ei_c hp with ⟨b1, hp⟩ | ⟨b1, rfl, rfl, rfl, rfl, rfl⟩
  · rcases ei_c hp with ⟨b2, hp⟩ | ⟨b2, rfl, rfl, rfl, rfl, rfl⟩
    · obtain ⟨rfl, hA, rfl, rfl, rfl⟩ := hp
      have hq := pq_of h.1 h.2.1 hA
      obtain ⟨s, hs, rfl⟩ := win_of (k := 5) (by decide) b1
      obtain ⟨w, hw, rfl⟩ := win_of (k := 8) (by decide) b2
      refine ⟨rfl, rfl, sx_air hA, 0, _, by decide, Or.inl ⟨_, rfl, rfl, ?_⟩, fun L' => ⟨_, c_X7_group hI hq.2.1.2.1 hn24 (fun s hs => rw_d hq.2.1 hs) _ _, fun V3 z => ⟨z.2.trans (th2_0 b1 b2), sx_smr z⟩⟩⟩
      rw [if_pos (th2_0 b1 b2), nI_clamp (by omega), nI_clamp (by omega)]
      exact (q_group hq (by omega) (by omega)).symm
    · exact ⟨rfl, rfl, sx_r, 2, _, by decide, mt_x (k := 1) rfl nd_2a, fun L' => ⟨_, c_X7_group hI h.2.1.2.1 hn24 (fun s hs => rw_d h.2.1 hs) _ _, fun V3 z => ⟨z.2.trans (th2_2 b1 b2), sx_smr z⟩⟩⟩
  · exact ⟨rfl, rfl, sx_r, 1, _, by decide, mt_x (k := 0) rfl nd_2a, fun L' => ⟨_, c_X7_group hI h.2.1.2.1 hn24 (fun s hs => rw_d h.2.1 hs) _ _, fun V3 z => ⟨z.2.trans (th2_1 b1), sx_smr z⟩⟩⟩
theorem s_day (h : InvX V N I n o m l0) (x y : Int32) : ∃ P, Runs l 6 1 6 yX6_day (Cond.code yX6_day cX6_day 3 (some .int)) [aR 0, aI x, aI y] V L N I P ∧ SP P (fun V2 L' N2 I2 PM => Runs l 5 0 0 yX7_day (Cond.code yX7_day cX7_day 3 (some .int)) [aR 200, aI x, aI y] V2 L' N2 I2 PM) [xO, xA] := by
  have hI := h.2.2.1.1.1
  have hn24 := h.2.1.1
  refine ⟨_, c_X6_day hI h.1.2.2.2.1 hn24 h.d x y, sp_q h fun r V2 L2 N2 I2 hp => ?_⟩
  rcases ei_c hp with ⟨b1, hp⟩ | ⟨b1, rfl, rfl, rfl, rfl, rfl⟩
  · rcases ei_c hp with ⟨b2, hp⟩ | ⟨b2, rfl, rfl, rfl, rfl, rfl⟩
    · obtain ⟨rfl, hA, rfl, rfl, rfl⟩ := hp
      have hq := pq_of h.1 h.2.1 hA
      obtain ⟨s, hs, rfl⟩ := win_of (k := 6) (by decide) b1
      obtain ⟨w, hw, rfl⟩ := win_of (k := 7) (by decide) b2
      refine ⟨rfl, rfl, sx_air hA, 0, _, by decide, Or.inl ⟨_, rfl, rfl, ?_⟩, fun L' => ⟨_, c_X7_day hI hq.2.1.2.1 hn24 _ _, fun V3 z => ⟨z.2.trans (th2_0 b1 b2), sx_smr z⟩⟩⟩
      rw [if_pos (th2_0 b1 b2), nI_clamp (by omega), nI_clamp (by omega)]
      exact (q_day hq (by omega) (by omega)).symm
    · exact ⟨rfl, rfl, sx_r, 2, _, by decide, mt_x (k := 1) rfl nd_2a, fun L' => ⟨_, c_X7_day hI h.2.1.2.1 hn24 _ _, fun V3 z => ⟨z.2.trans (th2_2 b1 b2), sx_smr z⟩⟩⟩
  · exact ⟨rfl, rfl, sx_r, 1, _, by decide, mt_x (k := 0) rfl nd_2a, fun L' => ⟨_, c_X7_day hI h.2.1.2.1 hn24 _ _, fun V3 z => ⟨z.2.trans (th2_1 b1), sx_smr z⟩⟩⟩
theorem s_sponsors (h : InvX V N I n o m l0) (x y z : Int32) : ∃ P, Runs l 6 1 6 yX6_sponsors (Cond.code yX6_sponsors cX6_sponsors 4 (some .int)) [aR 0, aI x, aI y, aI z] V L N I P ∧ SP P (fun V2 L' N2 I2 PM => Runs l 5 0 0 yX7_sponsors (Cond.code yX7_sponsors cX7_sponsors 4 (some .int)) [aR 200, aI x, aI y, aI z] V2 L' N2 I2 PM) [xO] := by
  have hI := h.2.2.1.1.1
  have hn24 := h.2.1.1
  refine ⟨_, c_X6_sponsors hI h.1.2.2.2.1 hn24 h.d x y z, sp_q h fun r V2 L2 N2 I2 hp => ?_⟩
  rcases ei_c hp with ⟨b1, hp⟩ | ⟨b1, rfl, rfl, rfl, rfl, rfl⟩
  · obtain ⟨c1, c2⟩ := Bool.and_eq_true_iff.mp b1
    obtain ⟨s, hs, hsx⟩ := win_of (k := 6) (by decide) c1
    obtain ⟨w, hw, hwx⟩ := win_of (k := 23) (by decide) c2
    by_cases hz : z = 0
    · rw [if_pos hz] at hp
      obtain ⟨rfl, rfl, rfl, rfl, rfl⟩ := hp
      refine ⟨rfl, rfl, sx_r, 0, _, by decide, Or.inl ⟨_, rfl, rfl, ?_⟩, fun L' => ⟨_, c_X7_sponsors hI h.2.1.2.1 hn24 _ _ _, fun V3 z => ⟨z.2.trans (th1_0 b1), sx_smr z⟩⟩⟩
      rw [if_pos (th1_0 b1), if_pos hz, hwx]
      exact (q_plan h.1 h.2.1 (by omega)).symm
    · rw [if_neg hz] at hp
      obtain ⟨rfl, hA, rfl, rfl, rfl⟩ := hp
      have hq := pq_of h.1 h.2.1 hA
      refine ⟨rfl, rfl, sx_air hA, 0, _, by decide, Or.inl ⟨_, rfl, rfl, ?_⟩, fun L' => ⟨_, c_X7_sponsors hI hq.2.1.2.1 hn24 _ _ _, fun V3 z => ⟨z.2.trans (th1_0 b1), sx_smr z⟩⟩⟩
      rw [if_pos (th1_0 b1), if_neg hz, hwx]
      exact (q_sp hq (by omega)).symm
  · exact ⟨rfl, rfl, sx_r, 1, _, by decide, mt_x (k := 0) rfl nd_1, fun L' => ⟨_, c_X7_sponsors hI h.2.1.2.1 hn24 _ _ _, fun V3 z => ⟨z.2.trans (th1_1 b1), sx_smr z⟩⟩⟩
theorem s_count (h : InvX V N I n o m l0) (x : Int32) : ∃ P, Runs l 7 1 6 yX6_count (Cond.code yX6_count cX6_count 2 (some .int)) [aR 0, aI x] V L N I P ∧ SP P (fun V2 L' N2 I2 PM => Runs l 7 0 0 yX7_count (Cond.code yX7_count cX7_count 2 (some .int)) [aR 200, aI x] V2 L' N2 I2 PM) [xA] := by
  have hI := h.2.2.1.1.1
  have hn24 := h.2.1.1
  refine ⟨_, c_X6_count hI h.1.2.2.2.1 hn24 h.d x, sp_q h fun r V2 L2 N2 I2 hp => ?_⟩
  rcases ei_c hp with ⟨b1, hp⟩ | ⟨b1, rfl, rfl, rfl, rfl, rfl⟩
  · obtain ⟨rfl, hA, rfl, rfl, rfl⟩ := hp
    have hq := pq_of h.1 h.2.1 hA
    have h2 := h.sx (sx_air hA)
    obtain ⟨w, hw, rfl⟩ := win_of (k := 7) (by decide) b1
    refine ⟨rfl, rfl, sx_air hA, 0, _, by decide, Or.inl ⟨_, rfl, rfl, ?_⟩, fun L' => ⟨_, c_X7_count hI hq.2.1.2.1 hn24 _, fun V3 z => ⟨z.2.trans (th1_0 b1), sx_smr z⟩⟩⟩
    rw [if_pos (th1_0 b1), nI_clamp (by omega)]
    exact (q_count hq (h2.2.2.1.2.2.2.1.trans h2.2.2.2.2.1.symm) (by omega)).symm
  · exact ⟨rfl, rfl, sx_r, 1, _, by decide, mt_x (k := 0) rfl nd_1, fun L' => ⟨_, c_X7_count hI h.2.1.2.1 hn24 _, fun V3 z => ⟨z.2.trans (th1_1 b1), sx_smr z⟩⟩⟩
theorem s_setting (h : InvX V N I n o m l0) (x : Int32) : ∃ P, Runs l 6 1 6 yX6_setting (Cond.code yX6_setting cX6_setting 2 (some .int)) [aR 0, aI x] V L N I P ∧ SP P (fun V2 L' N2 I2 PM => Runs l 3 0 0 yX7_setting (Cond.code yX7_setting cX7_setting 2 (some .int)) [aR 200, aI x] V2 L' N2 I2 PM) [xO] := by
  have hI := h.2.2.1.1.1
  refine ⟨_, c_X6_setting hI x, sp_q h fun r V2 L2 N2 I2 hp => ?_⟩
  rcases ei_c hp with ⟨b1, hp⟩ | ⟨b1, rfl, rfl, rfl, rfl, rfl⟩
  · obtain ⟨rfl, rfl, rfl, rfl, rfl⟩ := hp
    obtain ⟨w, hw, rfl⟩ := win_of (k := 7) (by decide) b1
    refine ⟨rfl, rfl, sx_r, 0, _, by decide, Or.inl ⟨_, rfl, rfl, ?_⟩, fun L' => ⟨_, c_X7_setting hI _, fun V3 z => ⟨z.2.trans (th1_0 b1), sx_smr z⟩⟩⟩
    rw [if_pos (th1_0 b1), nI_clamp (by omega)]
    exact (h.1.1 w (by omega)).symm
  · exact ⟨rfl, rfl, sx_r, 1, _, by decide, mt_x (k := 0) rfl nd_1, fun L' => ⟨_, c_X7_setting hI _, fun V3 z => ⟨z.2.trans (th1_1 b1), sx_smr z⟩⟩⟩
theorem InvX.p {V : VV} (h : InvX V N I n o m l0) : P2 V 20 (V 201) n := h.1
theorem s_why (h : InvX V N I n o m l0) (x d st ln : Int32) : ∃ P, Runs l 6 1 6 yX6_why (Cond.code yX6_why cX6_why 5 (some .int)) [aR 0, aI x, aI d, aI st, aI ln] V L N I P ∧ SP P (fun V2 L' N2 I2 PM => Runs l 7 0 0 yX7_why (Cond.code yX7_why cX7_why 5 (some .int)) [aR 200, aI x, aI d, aI st, aI ln] V2 L' N2 I2 PM) [xA] := by
  have hI := h.2.2.1.1.1
  have hn24 := h.2.1.1
  have hs : Sx V (becomeV V 1 x d st ln 0 (-1)) := sx_bec
  have h2 := h.sx hs
  refine ⟨_, c_X6_why hI h.1.2.2.2.1 hn24 x d st ln, sp_q h fun r V2 L2 N2 I2 hp => ?_⟩
  rcases ei_c hp with ⟨b1, hp⟩ | ⟨b1, rfl, rfl, rfl, rfl, rfl⟩
  · obtain ⟨rfl, rfl, rfl, rfl, rfl⟩ := hp
    rw [range_eq] at b1
    obtain ⟨g, hg, hgx⟩ := right_g b1
    obtain ⟨r1, r2, r3, r4, r5⟩ := right_t b1
    obtain ⟨c0, c1, c2, c3, c4, c5, c6⟩ := bec_at (V := V) (k := 1) (g := x) (d := d) (s := st) (l := ln) (sp := 0) (o := -1)
    refine ⟨rfl, rfl, hs, 0, _, by decide, Or.inl ⟨_, rfl, rfl, ?_⟩, fun L' => ⟨_, c_X7_why hI h2.2.1.2.1 hn24 _ _ _ _, fun V3 z => ⟨z.2.trans (th1_0 b1), sx_smr z⟩⟩⟩
    rw [if_pos (th1_0 b1)]
    have hcl : x.toNatClampNeg = g := by rw [hgx]; exact nI_clamp (by omega)
    rw [hcl]
    unfold whyN rfS
    rw [c0, c2, c3, c4, c5, al_of h2.1 hg]
    exact (ref_a (R := RF _) (G2 := _) (agr_of h2.1) h2.2.1.2.2.2.1 (geq_of h2.1) (fun z => absurd z (by decide)) (by omega) (by omega) (by decide) (by decide)).symm
  · rw [range_eq] at b1
    exact ⟨rfl, rfl, hs, 1, _, by decide, mt_x (k := 0) rfl nd_1, fun L' => ⟨_, c_X7_why hI h2.2.1.2.1 hn24 _ _ _ _, fun V3 z => ⟨z.2.trans (th1_1 b1), sx_smr z⟩⟩⟩
theorem s_firstTime (h : InvX V N I n o m l0) (x d ln : Int32) : ∃ P, Runs l 6 1 6 yX6_firstTime (Cond.code yX6_firstTime cX6_firstTime 4 (some .int)) [aR 0, aI x, aI d, aI ln] V L N I P ∧ SP P (fun V2 L' N2 I2 PM => Runs l 8 0 0 yX7_firstTime (Cond.code yX7_firstTime cX7_firstTime 4 (some .int)) [aR 200, aI x, aI d, aI ln] V2 L' N2 I2 PM) [xA] := by
  have hI := h.2.2.1.1.1
  have hn24 := h.2.1.1
  have hs : Sx V (becomeV V 1 x d 0 ln 0 (-1)) := sx_bec
  have h2 := h.sx hs
  refine ⟨_, c_X6_firstTime hI h.1.2.2.2.1 hn24 x d ln, sp_q h fun r V2 L2 N2 I2 hp => ?_⟩
  rcases ei_c hp with ⟨b1, hp⟩ | ⟨b1, rfl, rfl, rfl, rfl, rfl⟩
  · obtain ⟨rfl, rfl, rfl, rfl, rfl⟩ := hp
    rw [range_eq] at b1
    obtain ⟨g, hg, hgx⟩ := right_g b1
    obtain ⟨r1, r2, r3, r4, r5⟩ := right_t b1
    obtain ⟨ll, hl1, hl2⟩ := nat_of (x := ln) (by omega)
    refine ⟨rfl, rfl, hs, 0, _, by decide, Or.inl ⟨_, rfl, rfl, ?_⟩, fun L' => ⟨_, c_X7_firstTime hI h2.2.1.2.1 hn24 _ _ _, fun V3 z => ⟨z.2.trans (th1_0 b1), sx_smr z⟩⟩⟩
    rw [if_pos (th1_0 b1)]
    have hcl : x.toNatClampNeg = g := by rw [hgx]; exact nI_clamp (by omega)
    rw [hcl, fotN_sm (sx_z hs), hl1, hgx]
    exact (q_tape h.1 h.2.1 hg (by omega) (by omega)).symm
  · rw [range_eq] at b1
    exact ⟨rfl, rfl, hs, 1, _, by decide, mt_x (k := 0) rfl nd_1, fun L' => ⟨_, c_X7_firstTime hI h2.2.1.2.1 hn24 _ _ _, fun V3 z => ⟨z.2.trans (th1_1 b1), sx_smr z⟩⟩⟩
theorem s_firstRepeat (h : InvX V N I n o m l0) (x : Int32) : ∃ P, Runs l 6 1 6 yX6_firstRepeat (Cond.code yX6_firstRepeat cX6_firstRepeat 2 (some .int)) [aR 0, aI x] V L N I P ∧ SP P (fun V2 L' N2 I2 PM => Runs l 7 0 0 yX7_firstRepeat (Cond.code yX7_firstRepeat cX7_firstRepeat 2 (some .int)) [aR 200, aI x] V2 L' N2 I2 PM) [xO] := by
  have hI := h.2.2.1.1.1
  have hn24 := h.2.1.1
  refine ⟨_, c_X6_firstRepeat hI h.1.2.2.2.1 hn24 h.g x, sp_q h fun r V2 L2 N2 I2 hp => ?_⟩
  rcases ei_c hp with ⟨b1, hp⟩ | ⟨b1, rfl, rfl, rfl, rfl, rfl⟩
  · obtain ⟨rfl, rfl, rfl, rfl, rfl⟩ := hp
    rw [num_eq hn24] at b1
    obtain ⟨s, hs, rfl⟩ := shNat hn24 b1
    refine ⟨rfl, rfl, sx_r, 0, _, by decide, Or.inl ⟨_, rfl, rfl, ?_⟩, fun L' => ⟨_, c_X7_firstRepeat hI h.2.1.2.1 hn24 (fun s hs => rw_g h.2.1 hs) _, fun V3 z => ⟨z.2.trans (th1_0 b1), sx_smr z⟩⟩⟩
    rw [if_pos (th1_0 b1), nI_clamp (by omega)]
    exact (q_rep h.1 h.2.1 hs).symm
  · rw [num_eq hn24] at b1
    exact ⟨rfl, rfl, sx_r, 1, _, by decide, mt_x (k := 0) rfl nd_1, fun L' => ⟨_, c_X7_firstRepeat hI h.2.1.2.1 hn24 (fun s hs => rw_g h.2.1 hs) _, fun V3 z => ⟨z.2.trans (th1_1 b1), sx_smr z⟩⟩⟩
theorem q_if {W V1 : VV} {s w : Nat} {b : Int32} (hP : P2 W 20 (W 201) n) (hR : Rw (W 201) n) (hs : s < n) (hb : -60 ≤ b.toInt ∧ b.toInt ≤ 120) (hA : AirI 12 W V1 (fun t => if nI t = nI s then b else W 35 t) n) {d : Nat} (hd : d < 7) (hw : w < 8) : dayS (CF V1) (AF 12 V1) (V1 21 6) n d w = dN (ovR W s b) n (nI d) w := by
  have hn := hR.1
  have ec : CF V1 = CF W := funext fun k => hA.1 (29 + k) (by omega)
  have e21 : V1 21 = W 21 := hA.1 21 (by omega)
  have B : Bth (CF W) (RF (ovR W s b)) (W 21) ((ovR W s b) 201) (fun t => if nI t = nI s then b else W 35 t) n := by
    refine ⟨fun k hk t ht => (agr_of hP k hk t ht).trans (RF_ov (by omega) (by omega)).symm, ov_b hR.2.2.2.1 hb, fun k hk => (geq_of hP k hk).trans (ov_g (by omega)).symm, gb_cg (fun k hk => ov_g (by omega)) (rw_gb hR), fun t ht => ?_⟩
    dsimp only
    by_cases q : t = s
    · rw [q, if_pos rfl, RF_ovs]
    · rw [if_neg (fun z => q ((nI_eq (by omega) (by omega)).mp z)), RF_ov (by decide) (fun z => q z.2)]
      exact hP.2.2.2.2 6 (by decide) t ht
  have hAO : AirOf (CF W) (W 21) (fun t => if nI t = nI s then b else W 35 t) n (AF 12 V1) := ⟨fun s hs k hk => hA.2.1 s hs k hk, hA.2.2⟩
  rw [ec, e21, day_a B hAO hd hw, B.2.2.1 6 (by decide)]
  rfl
theorem s_ifOverrun (h : InvX V N I n o m l0) (x y w : Int32) : ∃ P, Runs l 6 1 6 yX6_ifOverrun (Cond.code yX6_ifOverrun cX6_ifOverrun 4 (some .int)) [aR 0, aI x, aI y, aI w] V L N I P ∧ SP P (fun V2 L' N2 I2 PM => Runs l 6 0 0 yX7_ifOverrun (Cond.code yX7_ifOverrun cX7_ifOverrun 4 (some .int)) [aR 200, aI x, aI y, aI w] V2 L' N2 I2 PM) [xO, xA, xS] := by
  have hI := h.2.2.1.1.1
  have hn24 := h.2.1.1
  refine ⟨_, c_X6_ifOverrun hI h.1.2.2.2.1 hn24 h.d x y w, sp_q h fun r V2 L2 N2 I2 hp => ?_⟩
  rcases ei_c hp with ⟨b1, hp⟩ | ⟨b1, rfl, rfl, rfl, rfl, rfl⟩
  · rw [num_eq hn24] at b1
    obtain ⟨s, hs, rfl⟩ := shNat hn24 b1
    have e29 : V 29 s = RF V 0 s := h.1.2.2.2.2 0 (by decide) s hs
    rcases ei_c hp with ⟨b2, hp⟩ | ⟨b2, rfl, rfl, rfl, rfl, rfl⟩
    · obtain ⟨c1, c2⟩ := Bool.and_eq_true_iff.mp b2
      rcases ei_c hp with ⟨b3, hp⟩ | ⟨b3, rfl, rfl, rfl, rfl, rfl⟩
      · rw [nI_clamp (by omega), e29] at b3
        obtain ⟨rfl, hA, rfl, rfl, rfl⟩ := hp
        have hsx := sx_air2 hA
        have ez := sx_z hsx
        have h2 := h.sx hsx
        obtain ⟨ww, hw, rfl⟩ := win_of (k := 7) (by decide) c2
        obtain ⟨d, hd, hdx⟩ := h.d s hs
        have b3' : decide (RF V2 0 (nI s).toNatClampNeg = 0) = true := by rw [nI_clamp (by omega), RF_z ez]; exact b3
        have b1' := b1
        refine ⟨rfl, rfl, hsx, 0, _, by decide, Or.inl ⟨_, rfl, rfl, ?_⟩, fun L' => ⟨_, c_X7_ifOverrun hI h2.2.1.2.1 hn24 _ _ _, fun V3 z => ⟨z.2.trans (th3_0 b1 b2 b3'), sx_smr z⟩⟩⟩
        rw [if_pos (th3_0 b1 b2 b3'), nI_clamp (by omega), nI_clamp (by omega), hdx, nI_clamp (by omega), RF_z ez, dN_sm (ov_z ez), show RF V 2 s = nI d from ((h.1.2.2.2.2 2 (by decide) s hs).symm.trans hdx)]
        exact (q_if h.1 h.2.1 hs (win_t.mp c1) hA hd (by omega)).symm
      · rw [nI_clamp (by omega), e29] at b3
        have b3' : decide (RF V2 0 (nI s).toNatClampNeg = 0) = false := by rw [nI_clamp (by omega)]; exact b3
        exact ⟨rfl, rfl, sx_r, 3, _, by decide, mt_x (k := 2) rfl nd_3, fun L' => ⟨_, c_X7_ifOverrun hI h.2.1.2.1 hn24 _ _ _, fun V3 z => ⟨z.2.trans (th3_3 b1 b2 b3'), sx_smr z⟩⟩⟩
    · exact ⟨rfl, rfl, sx_r, 2, _, by decide, mt_x (k := 1) rfl nd_3, fun L' => ⟨_, c_X7_ifOverrun hI h.2.1.2.1 hn24 _ _ _, fun V3 z => ⟨z.2.trans (th3_2 b1 b2), sx_smr z⟩⟩⟩
  · rw [num_eq hn24] at b1
    exact ⟨rfl, rfl, sx_r, 1, _, by decide, mt_x (k := 0) rfl nd_3, fun L' => ⟨_, c_X7_ifOverrun hI h.2.1.2.1 hn24 _ _ _, fun V3 z => ⟨z.2.trans (th3_1 b1), sx_smr z⟩⟩⟩
theorem s_greatestOverrun (h : InvX V N I n o m l0) (x : Int32) : ∃ P, Runs l 6 1 6 yX6_greatestOverrun (Cond.code yX6_greatestOverrun cX6_greatestOverrun 2 (some .int)) [aR 0, aI x] V L N I P ∧ SP P (fun V2 L' N2 I2 PM => Runs l 7 0 0 yX7_greatestOverrun (Cond.code yX7_greatestOverrun cX7_greatestOverrun 2 (some .int)) [aR 200, aI x] V2 L' N2 I2 PM) [xO, xS] := by
  have hI := h.2.2.1.1.1
  have hn24 := h.2.1.1
  refine ⟨_, c_X6_greatestOverrun hI h.1.2.2.2.1 hn24 h.d x, sp_q h fun r V2 L2 N2 I2 hp => ?_⟩
  rcases ei_c hp with ⟨b1, hp⟩ | ⟨b1, rfl, rfl, rfl, rfl, rfl⟩
  · rw [num_eq hn24] at b1
    obtain ⟨s, hs, rfl⟩ := shNat hn24 b1
    have e29 : V 29 s = RF V 0 s := h.1.2.2.2.2 0 (by decide) s hs
    rcases ei_c hp with ⟨b3, hp⟩ | ⟨b3, rfl, rfl, rfl, rfl, rfl⟩
    · rw [nI_clamp (by omega), e29] at b3
      obtain ⟨rfl, hA, rfl, rfl, rfl⟩ := hp
      have hsx := sx_sma hA
      have ez := sx_z hsx
      have h2 := h.sx hsx
      have b3' : decide (RF V2 0 (nI s).toNatClampNeg = 0) = true := by rw [nI_clamp (by omega), RF_z ez]; exact b3
      refine ⟨rfl, rfl, hsx, 0, _, by decide, Or.inl ⟨_, rfl, rfl, ?_⟩, fun L' => ⟨_, c_X7_greatestOverrun hI h2.2.1.2.1 hn24 _, fun V3 z => ⟨z.2.trans (th2_0 b1 b3'), sx_smr z⟩⟩⟩
      rw [if_pos (th2_0 b1 b3'), nI_clamp (by omega), mosS_sm ez]
      exact (q_grt h.1 h.2.1 hs).symm
    · rw [nI_clamp (by omega), e29] at b3
      have b3' : decide (RF V2 0 (nI s).toNatClampNeg = 0) = false := by rw [nI_clamp (by omega)]; exact b3
      exact ⟨rfl, rfl, sx_r, 2, _, by decide, mt_x (k := 1) rfl nd_2c, fun L' => ⟨_, c_X7_greatestOverrun hI h.2.1.2.1 hn24 _, fun V3 z => ⟨z.2.trans (th2_2 b1 b3'), sx_smr z⟩⟩⟩
  · rw [num_eq hn24] at b1
    exact ⟨rfl, rfl, sx_r, 1, _, by decide, mt_x (k := 0) rfl nd_2c, fun L' => ⟨_, c_X7_greatestOverrun hI h.2.1.2.1 hn24 _, fun V3 z => ⟨z.2.trans (th2_1 b1), sx_smr z⟩⟩⟩
end
