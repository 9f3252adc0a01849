set_option maxRecDepth 100000 in
set_option maxHeartbeats 4000000 in
theorem c_X6_shareOnAir {l : Launch} {V : VV} {L : LL} {N : NN} {I : List Nat} (hI : PI I) {n : Nat} (hn : V 20 7 = nI n) (hn24 : n ≤ 24) (hk : 0 < 7 * (V 21 1 - V 21 0)) (h2 : vf_n64 (FP.ddiv (FP.i2d (wkS (CF V) (AF 6 V) n 2)) (FP.i2d (7 * (V 21 1 - V 21 0))))) : Runs l 6 0 0 yX6_shareOnAir (Cond.code yX6_shareOnAir cX6_shareOnAir 2 (some .double)) [aR 0] V L N I (Is (some (aD (FP.ddiv (FP.i2d (wkS (CF V) (AF 6 V) n 2)) (FP.i2d (7 * (V 21 1 - V 21 0)))))) (V) (L) N I) := by
  refine run_of RX6 (by decide +kernel) rfl (Nat.le_of_ble_eq_true rfl) (fun E hE C hQ hN => ?_)
  subst hE
  refine x_bipush (pc := 0) C (7) dX6_shareOnAir_0 (by decide) ?_
  refine x_aload_n (pc := 2) C dX6_shareOnAir_2 rfl ?_
  refine x_getR (pc := 3) (o := 0) (j := 20) C f_X6_10 dX6_shareOnAir_3 (hI 0 rfl) ⟨rfl, rfl⟩ ?_
  refine x_getR (pc := 6) (o := 20) (j := 21) C f_X6_78 dX6_shareOnAir_6 (hI 20 rfl) ⟨rfl, rfl⟩ ?_
  refine x_iconst (pc := 9) C (1) dX6_shareOnAir_9 (by decide) ?_
  refine x_topi (nI 1) (by decide) ?_
  refine x_iald (pc := 10) (o := 21) C dX6_shareOnAir_10 (hI 21 rfl) ⟨rfl, rfl⟩ (show _ < 8 by decide) (by decide) ?_
  refine x_aload_n (pc := 11) C dX6_shareOnAir_11 rfl ?_
  refine x_getR (pc := 12) (o := 0) (j := 20) C f_X6_10 dX6_shareOnAir_12 (hI 0 rfl) ⟨rfl, rfl⟩ ?_
  refine x_getR (pc := 15) (o := 20) (j := 21) C f_X6_78 dX6_shareOnAir_15 (hI 20 rfl) ⟨rfl, rfl⟩ ?_
  refine x_iconst (pc := 18) C (0) dX6_shareOnAir_18 (by decide) ?_
  refine x_topi (nI 0) (by decide) ?_
  refine x_iald (pc := 19) (o := 21) C dX6_shareOnAir_19 (hI 21 rfl) ⟨rfl, rfl⟩ (show _ < 8 by decide) (by decide) ?_
  refine x_isub (pc := 20) C dX6_shareOnAir_20 ?_
  refine x_imul (pc := 21) C dX6_shareOnAir_21 ?_
  refine y_istore_n (pc := 22) C dX6_shareOnAir_22 (by decide) rfl ?_
  refine x_iload_n (pc := 23) C dX6_shareOnAir_23 rfl ?_
  refine x_if_le (pc := 24) (tgt := 45) C dX6_shareOnAir_24 (by decide) (fun h24 => absurd h24 (by exact Int32.not_le.mpr hk)) (fun h24 => ?_)
  refine x_aload_n (pc := 27) C dX6_shareOnAir_27 rfl ?_
  refine x_getR (pc := 28) (o := 0) (j := 6) C f_X6_40 dX6_shareOnAir_28 (hI 0 rfl) ⟨rfl, rfl⟩ ?_
  refine x_aload_n (pc := 31) C dX6_shareOnAir_31 rfl ?_
  refine x_getR (pc := 32) (o := 0) (j := 20) C f_X6_10 dX6_shareOnAir_32 (hI 0 rfl) ⟨rfl, rfl⟩ ?_
  refine x_cV1 (pc := 35) (o := 6) C v_X6_342 dX6_shareOnAir_35 (c_X0_minutesOfWeek hI hn hn24) (hI 6 rfl) rfl (by decide) rfl ⟨Nat.le_refl _, Nat.le_refl _⟩ ?_
  refine x_i2d (pc := 38) C dX6_shareOnAir_38 ?_
  refine x_iload_n (pc := 39) C dX6_shareOnAir_39 rfl ?_
  refine x_i2d (pc := 40) C dX6_shareOnAir_40 ?_
  refine x_ddiv (pc := 41) C dX6_shareOnAir_41 (h2) ?_
  refine x_goto (pc := 42) (tgt := 46) C dX6_shareOnAir_42 (by decide) ?_
  exact x_dret (pc := 46) C hQ dX6_shareOnAir_46 (is_r rfl rfl) (Nat.le_of_ble_eq_true rfl) (Nat.le_of_ble_eq_true rfl)
set_option maxRecDepth 100000 in
set_option maxHeartbeats 4000000 in
theorem c_X6_share {l : Launch} {V : VV} {L : LL} {N : NN} {I : List Nat} (hI : PI I) {n : Nat} (hn : V 20 7 = nI n) (hn24 : n ≤ 24) (hdy : ∀ s, s < n → ∃ d, d < 7 ∧ V 31 s = nI d) (hk : 0 < 7 * (V 21 1 - V 21 0)) (h2 : ∀ V1, AirI 6 V V1 (V 35) n → vf_n64 (FP.ddiv (FP.i2d (wkS (CF V1) (AF 6 V1) n 2)) (FP.i2d (7 * (V 21 1 - V 21 0))))) : Runs l 7 0 0 yX6_share (Cond.code yX6_share cX6_share 1 (some .double)) [aR 0] V L N I (fun r1 V1 L1 N1 I1 => r1 = .inl (some (aD (FP.ddiv (FP.i2d (wkS (CF V1) (AF 6 V1) n 2)) (FP.i2d (7 * (V 21 1 - V 21 0)))))) ∧ AirI 6 V V1 (V 35) n ∧ L1 = L ∧ N1 = N ∧ I1 = I) := by
  refine run_of RX6 (by decide +kernel) rfl (Nat.le_of_ble_eq_true rfl) (fun E hE C hQ hN => ?_)
  subst hE
  refine x_aload_n (pc := 0) C dX6_share_0 rfl ?_
  refine x_getR (pc := 1) (o := 0) (j := 6) C f_X6_40 dX6_share_1 (hI 0 rfl) ⟨rfl, rfl⟩ ?_
  refine x_aload_n (pc := 4) C dX6_share_4 rfl ?_
  refine x_getR (pc := 5) (o := 0) (j := 20) C f_X6_10 dX6_share_5 (hI 0 rfl) ⟨rfl, rfl⟩ ?_
  refine x_pV1 (pc := 8) (o := 6) C v_X6_140 dX6_share_8 (c_X0_play hI hn hn24 hdy) (hI 6 rfl) rfl (by decide) rfl ⟨by decide, by decide⟩ (fun V1 hV1 => ?_)
  have hn1 : V1 20 7 = nI n := (congrFun (airI_20 hV1) 7).trans hn
  have e21 : V1 21 = V 21 := hV1.1 21 (by decide)
  refine x_aload_n (pc := 11) C dX6_share_11 rfl ?_
  refine x_cV0 (pc := 12) (o := 0) C v_X6_246 dX6_share_12 (c_X6_shareOnAir (V := V1) hI hn1 hn24 (by rw [e21]; exact hk) (by rw [e21]; exact h2 V1 hV1)) (hI 0 rfl) rfl (by decide) rfl ⟨by decide, by decide⟩ ?_
  exact x_dret (pc := 15) C hQ dX6_share_15 (⟨by rw [e21], hV1, rfl, rfl, rfl⟩) (Nat.le_of_ble_eq_true rfl) (Nat.le_of_ble_eq_true rfl)
