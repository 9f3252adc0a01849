set_option maxRecDepth 100000 in
set_option maxHeartbeats 4000000 in
theorem c_X6_takeShow {l : Launch} {V : VV} {L : LL} {N : NN} {I : List Nat} (hI : PI I) (h18 : 18 ∈ I) {n : Nat} (hn : V 20 7 = nI n) (hn24 : n ≤ 24) (hdy : ∀ s, s < n → ∃ d, d < 7 ∧ V 31 s = nI d) (hsg : ∀ s, s < n → ∃ g, g < 6 ∧ V 30 s = nI g) (s : Nat) (hs : s < n) : Runs l 6 0 0 yX6_takeShow (Cond.code yX6_takeShow cX6_takeShow 4 none) [aR 0, aR 18, aI (nI s)] V L N I (Pm none (fun V1 => SmA 12 V V1) (htS V n s L) N I) := by
  refine run_of RX6 (by decide +kernel) rfl (Nat.le_of_ble_eq_true rfl) (fun E hE C hQ hN => ?_)
  subst hE
  obtain ⟨g, hg6, hgs⟩ := hsg s hs
  refine x_iconst (pc := 0) C (0) dX6_takeShow_0 (by decide) ?_
  refine y_istore_n (pc := 1) C dX6_takeShow_1 (by decide) rfl ?_
  suffices key : ∀ (k i : Nat) , k + i = 12 → (True) → Wx E 2 [some (aR 0), some (aR 18), some (aI (nI s)), some (aI (nI i))] [] V (htA V s L i) N I 0 0 by
    exact key (12) 0  (by omega) (trivial)
  intro k
  induction k with
  | zero =>
    intro i  hk hinv
    refine x_iload_n (pc := 2) C dX6_takeShow_2 rfl ?_
    refine x_bipush (pc := 3) C (11) dX6_takeShow_3 (by decide) ?_
    refine x_icmp_gt (pc := 5) (tgt := 25) C dX6_takeShow_5 (by decide) (fun h5 => ?_) (fun h5 => absurd (by exact nI_lt (a := 11) (b := i) (by omega) (by omega)) h5)
    obtain rfl : i = 12 := by omega
    refine x_aload_n (pc := 25) C dX6_takeShow_25 rfl ?_
    refine x_aload_n (pc := 26) C dX6_takeShow_26 rfl ?_
    refine x_getR (pc := 27) (o := 0) (j := 20) C f_X6_10 dX6_takeShow_27 (hI 0 rfl) ⟨rfl, rfl⟩ ?_
    refine x_iload_n (pc := 30) C dX6_takeShow_30 rfl ?_
    refine x_hV1 (pc := 31) (o := 20) C v_X6_231 dX6_takeShow_31 (c_X3_firstRepeatTime hI hn hn24 s hs hgs hg6) (hI 20 rfl) rfl (by decide) h18 rfl ⟨Nat.le_refl _, Nat.le_refl _⟩ ?_
    refine x_topi (rpT V n s) (by unfold rpT; rw [hgs, nI_clamp (show g < 2 ^ 31 by omega)]) ?_
    refine x_i2l (pc := 34) C dX6_takeShow_34 ?_
    refine x_hV1 (pc := 35) (o := 18) C v_X6_253 dX6_takeShow_35 (c_X1_take h18 _) h18 rfl (by decide) h18 rfl ⟨Nat.le_refl _, Nat.le_refl _⟩ ?_
    refine x_aload_n (pc := 38) C dX6_takeShow_38 rfl ?_
    refine x_getR (pc := 39) (o := 0) (j := 20) C f_X6_10 dX6_takeShow_39 (hI 0 rfl) ⟨rfl, rfl⟩ ?_
    refine x_getR (pc := 42) (o := 20) (j := 29) C f_X6_124 dX6_takeShow_42 (hI 20 rfl) ⟨rfl, rfl⟩ ?_
    refine x_iload_n (pc := 45) C dX6_takeShow_45 rfl ?_
    refine x_iald (pc := 46) (o := 29) C dX6_takeShow_46 (hI 29 rfl) ⟨rfl, rfl⟩ (show _ < 24 by omega) (by decide) ?_
    refine x_topi (V 29 s) rfl ?_
    refine x_if_ne (pc := 47) (tgt := 60) C dX6_takeShow_47 (by decide) (fun h47 => ?_) (fun h47 => ?_)
    · exact x_vret (pc := 60) C hQ dX6_takeShow_60 (pm_vL sma_r (by unfold htS; rw [if_neg h47]; rfl)) (Nat.le_of_ble_eq_true rfl) (Nat.le_of_ble_eq_true rfl)
    · refine x_aload_n (pc := 50) C dX6_takeShow_50 rfl ?_
      refine x_aload_n (pc := 51) C dX6_takeShow_51 rfl ?_
      refine x_iload_n (pc := 52) C dX6_takeShow_52 rfl ?_
      refine x_hpV1 (pc := 53) (o := 0) C v_X6_243 dX6_takeShow_53 (c_X6_greatestHarmlessOverrun hI hn hn24 hdy s hs) (hI 0 rfl) rfl (by decide) h18 rfl ⟨Nat.le_refl _, Nat.le_refl _⟩ (fun V1 hV1 => ?_)
      refine x_i2l (pc := 56) C dX6_takeShow_56 ?_
      refine x_hV1 (pc := 57) (o := 18) C v_X6_253 dX6_takeShow_57 (c_X1_take h18 _) h18 rfl (by decide) h18 rfl ⟨Nat.le_refl _, Nat.le_refl _⟩ ?_
      exact x_vret (pc := 60) C hQ dX6_takeShow_60 (pm_vL hV1 (by unfold htS; rw [if_pos (by first | exact h47 | exact Decidable.not_not.mp h47)]; rfl)) (Nat.le_of_ble_eq_true rfl) (Nat.le_of_ble_eq_true rfl)
  | succ k ih =>
    intro i  hk hinv
    refine x_iload_n (pc := 2) C dX6_takeShow_2 rfl ?_
    refine x_bipush (pc := 3) C (11) dX6_takeShow_3 (by decide) ?_
    refine x_icmp_gt (pc := 5) (tgt := 25) C dX6_takeShow_5 (by decide) (fun h5 => absurd h5 (by exact Int32.not_lt.mpr (nI_le (a := i) (b := 11) (by omega) (by omega)))) (fun h5 => ?_)
    refine x_aload_n (pc := 8) C dX6_takeShow_8 rfl ?_
    refine x_aload_n (pc := 9) C dX6_takeShow_9 rfl ?_
    refine x_iload_n (pc := 10) C dX6_takeShow_10 rfl ?_
    refine x_iload_n (pc := 11) C dX6_takeShow_11 rfl ?_
    refine x_hV2 (pc := 12) (o := 0) C v_X6_196 dX6_takeShow_12 (c_X6_showProperty hI s i (by omega) (by omega)) (hI 0 rfl) rfl (by decide) h18 rfl ⟨Nat.le_refl _, Nat.le_refl _⟩ ?_
    refine x_i2l (pc := 15) C dX6_takeShow_15 ?_
    refine x_hV1 (pc := 16) (o := 18) C v_X6_253 dX6_takeShow_16 (c_X1_take h18 _) h18 rfl (by decide) h18 rfl ⟨Nat.le_refl _, Nat.le_refl _⟩ ?_
    refine y_iinc (pc := 19) C (nI (i + 1)) dX6_takeShow_19 rfl (by exact nI_1 i) (by decide) rfl ?_
    refine x_goto (pc := 22) (tgt := 2) C dX6_takeShow_22 (by decide) ?_
    exact ih (i + 1)  (by omega) (trivial)
set_option maxRecDepth 100000 in
set_option maxHeartbeats 4000000 in
theorem c_X6_takeDay {l : Launch} {V : VV} {L : LL} {N : NN} {I : List Nat} (hI : PI I) (h18 : 18 ∈ I) {n : Nat} (hn : V 20 7 = nI n) (hn24 : n ≤ 24) (d : Nat) (hd7 : d < 7) : Runs l 6 0 0 yX6_takeDay (Cond.code yX6_takeDay cX6_takeDay 4 none) [aR 0, aR 18, aI (nI d)] V L N I (Is none V (hdB V n d (hdA V n d L 8) 24) N I) := by
  refine run_of RX6 (by decide +kernel) rfl (Nat.le_of_ble_eq_true rfl) (fun E hE C hQ hN => ?_)
  subst hE
  refine x_iconst (pc := 0) C (0) dX6_takeDay_0 (by decide) ?_
  refine y_istore_n (pc := 1) C dX6_takeDay_1 (by decide) rfl ?_
  suffices key : ∀ (k i : Nat) , k + i = 8 → (True) → Wx E 2 [some (aR 0), some (aR 18), some (aI (nI d)), some (aI (nI i))] [] V (hdA V n d L i) N I 0 0 by
    exact key (8) 0  (by omega) (trivial)
  intro k
  induction k with
  | zero =>
    intro i  hk hinv
    refine x_iload_n (pc := 2) C dX6_takeDay_2 rfl ?_
    refine x_bipush (pc := 3) C (7) dX6_takeDay_3 (by decide) ?_
    refine x_icmp_gt (pc := 5) (tgt := 32) C dX6_takeDay_5 (by decide) (fun h5 => ?_) (fun h5 => absurd (by exact nI_lt (a := 7) (b := i) (by omega) (by omega)) h5)
    obtain rfl : i = 8 := by omega
    skip
    refine x_iconst (pc := 32) C (0) dX6_takeDay_32 (by decide) ?_
    refine y_istore_n (pc := 33) C dX6_takeDay_33 (by decide) rfl ?_
    suffices key : ∀ (k i : Nat) , k + i = 24 → (True) → Wx E 34 [some (aR 0), some (aR 18), some (aI (nI d)), some (aI (nI i))] [] V (hdB V n d (hdA V n d L 8) i) N I 0 0 by
      exact key (24) 0  (by omega) (trivial)
    intro k
    induction k with
    | zero =>
      intro i  hk hinv
      refine x_iload_n (pc := 34) C dX6_takeDay_34 rfl ?_
      refine x_bipush (pc := 35) C (24) dX6_takeDay_35 (by decide) ?_
      refine x_icmp_ge (pc := 37) (tgt := 78) C dX6_takeDay_37 (by decide) (fun h37 => ?_) (fun h37 => absurd (by exact nI_le (a := 24) (b := i) (by omega) (by omega)) h37)
      exact x_vret (pc := 78) C hQ dX6_takeDay_78 (⟨rfl, rfl, by rw [show i = 24 by omega], rfl, rfl⟩) (Nat.le_of_ble_eq_true rfl) (Nat.le_of_ble_eq_true rfl)
    | succ k ih =>
      intro i  hk hinv
      refine x_iload_n (pc := 34) C dX6_takeDay_34 rfl ?_
      refine x_bipush (pc := 35) C (24) dX6_takeDay_35 (by decide) ?_
      refine x_icmp_ge (pc := 37) (tgt := 78) C dX6_takeDay_37 (by decide) (fun h37 => absurd h37 (by exact nI_ge (a := i) (b := 24) (by omega) (by omega))) (fun h37 => ?_)
      refine x_aload_n (pc := 40) C dX6_takeDay_40 rfl ?_
      refine x_aload_n (pc := 41) C dX6_takeDay_41 rfl ?_
      refine x_getR (pc := 42) (o := 0) (j := 20) C f_X6_10 dX6_takeDay_42 (hI 0 rfl) ⟨rfl, rfl⟩ ?_
      refine x_iload_n (pc := 45) C dX6_takeDay_45 rfl ?_
      refine x_iload_n (pc := 46) C dX6_takeDay_46 rfl ?_
      refine x_hV2 (pc := 47) (o := 20) C v_X6_207 dX6_takeDay_47 (c_X3_plannedSponsors hI hn hn24 _ _) (hI 20 rfl) rfl (by decide) h18 rfl ⟨Nat.le_refl _, Nat.le_refl _⟩ ?_
      refine x_i2l (pc := 50) C dX6_takeDay_50 ?_
      refine x_hV1 (pc := 51) (o := 18) C v_X6_253 dX6_takeDay_51 (c_X1_take h18 _) h18 rfl (by decide) h18 rfl ⟨Nat.le_refl _, Nat.le_refl _⟩ ?_
      refine x_aload_n (pc := 54) C dX6_takeDay_54 rfl ?_
      refine x_aload_n (pc := 55) C dX6_takeDay_55 rfl ?_
      refine x_getR (pc := 56) (o := 0) (j := 6) C f_X6_40 dX6_takeDay_56 (hI 0 rfl) ⟨rfl, rfl⟩ ?_
      refine x_aload_n (pc := 59) C dX6_takeDay_59 rfl ?_
      refine x_getR (pc := 60) (o := 0) (j := 20) C f_X6_10 dX6_takeDay_60 (hI 0 rfl) ⟨rfl, rfl⟩ ?_
      refine x_iload_n (pc := 63) C dX6_takeDay_63 rfl ?_
      refine x_iload_n (pc := 64) C dX6_takeDay_64 rfl ?_
      refine x_hV3 (pc := 65) (o := 6) C v_X6_210 dX6_takeDay_65 (c_X0_sponsorsInHour hI hn hn24 _ _) (hI 6 rfl) rfl (by decide) h18 rfl ⟨Nat.le_refl _, Nat.le_refl _⟩ ?_
      refine x_i2l (pc := 68) C dX6_takeDay_68 ?_
      refine x_hV1 (pc := 69) (o := 18) C v_X6_253 dX6_takeDay_69 (c_X1_take h18 _) h18 rfl (by decide) h18 rfl ⟨Nat.le_refl _, Nat.le_refl _⟩ ?_
      refine y_iinc (pc := 72) C (nI (i + 1)) dX6_takeDay_72 rfl (by exact nI_1 i) (by decide) rfl ?_
      refine x_goto (pc := 75) (tgt := 34) C dX6_takeDay_75 (by decide) ?_
      exact ih (i + 1)  (by omega) (trivial)
  | succ k ih =>
    intro i  hk hinv
    refine x_iload_n (pc := 2) C dX6_takeDay_2 rfl ?_
    refine x_bipush (pc := 3) C (7) dX6_takeDay_3 (by decide) ?_
    refine x_icmp_gt (pc := 5) (tgt := 32) C dX6_takeDay_5 (by decide) (fun h5 => absurd h5 (by exact Int32.not_lt.mpr (nI_le (a := i) (b := 7) (by omega) (by omega)))) (fun h5 => ?_)
    refine x_aload_n (pc := 8) C dX6_takeDay_8 rfl ?_
    refine x_aload_n (pc := 9) C dX6_takeDay_9 rfl ?_
    refine x_getR (pc := 10) (o := 0) (j := 6) C f_X6_40 dX6_takeDay_10 (hI 0 rfl) ⟨rfl, rfl⟩ ?_
    refine x_aload_n (pc := 13) C dX6_takeDay_13 rfl ?_
    refine x_getR (pc := 14) (o := 0) (j := 20) C f_X6_10 dX6_takeDay_14 (hI 0 rfl) ⟨rfl, rfl⟩ ?_
    refine x_iload_n (pc := 17) C dX6_takeDay_17 rfl ?_
    refine x_iload_n (pc := 18) C dX6_takeDay_18 rfl ?_
    refine x_hV3 (pc := 19) (o := 6) C v_X6_218 dX6_takeDay_19 (c_X0_dayProperty hI hn hn24 d i hd7 (by omega)) (hI 6 rfl) rfl (by decide) h18 rfl ⟨Nat.le_refl _, Nat.le_refl _⟩ ?_
    refine x_i2l (pc := 22) C dX6_takeDay_22 ?_
    refine x_hV1 (pc := 23) (o := 18) C v_X6_253 dX6_takeDay_23 (c_X1_take h18 _) h18 rfl (by decide) h18 rfl ⟨Nat.le_refl _, Nat.le_refl _⟩ ?_
    refine y_iinc (pc := 26) C (nI (i + 1)) dX6_takeDay_26 rfl (by exact nI_1 i) (by decide) rfl ?_
    refine x_goto (pc := 29) (tgt := 2) C dX6_takeDay_29 (by decide) ?_
    exact ih (i + 1)  (by omega) (trivial)
