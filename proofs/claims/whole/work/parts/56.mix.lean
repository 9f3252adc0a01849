set_option maxRecDepth 100000 in
set_option maxHeartbeats 4000000 in
theorem c_X7_shareNow {l : Launch} {V : VV} {L : LL} {N : NN} {I : List Nat} (hI : PI I) {n : Nat} (hn : V 201 39 = nI n) (hn24 : n ≤ 24) (h1 : vf_n64 (FP.dmul FP.dconst1 (FP.i2d (wkN V n 2 7)))) (h2 : vf_n64 (shN V n)) : Runs l 6 0 0 yX7_shareNow (Cond.code yX7_shareNow cX7_shareNow 1 (some .double)) [aR 200] V L N I (Pm (some (aD (shN V n))) (fun V1 => SmL V V1) (L) N I) := by
  refine run_of RX7 (by decide +kernel) rfl (Nat.le_of_ble_eq_true rfl) (fun E hE C hQ hN => ?_)
  subst hE
  refine x_dconst1 (pc := 0) C dX7_shareNow_0 ?_
  refine x_aload_n (pc := 1) C dX7_shareNow_1 rfl ?_
  refine x_iconst (pc := 2) C (2) dX7_shareNow_2 (by decide) ?_
  refine x_pV1 (pc := 3) (o := 200) C v_X7_240 dX7_shareNow_3 (c_X7_inWeek hI hn hn24 2 (by decide)) (hI 200 rfl) rfl (by decide) rfl ⟨Nat.le_refl _, Nat.le_refl _⟩ (fun V1 hV1 => ?_)
  refine x_i2d (pc := 6) C dX7_shareNow_6 ?_
  refine x_dmul (pc := 7) C dX7_shareNow_7 (h1) ?_
  refine x_bipush (pc := 8) C (7) dX7_shareNow_8 (by decide) ?_
  refine x_aload_n (pc := 10) C dX7_shareNow_10 rfl ?_
  refine x_getR (pc := 11) (o := 200) (j := 201) C f_X7_7 dX7_shareNow_11 (hI 200 rfl) ⟨rfl, rfl⟩ ?_
  refine x_iconst (pc := 14) C (1) dX7_shareNow_14 (by decide) ?_
  refine x_topi (nI 1) (by decide) ?_
  refine x_iald (pc := 15) (o := 201) C dX7_shareNow_15 (hI 201 rfl) ⟨rfl, rfl⟩ (show _ < 232 by decide) (by decide) ?_
  refine x_topi (V 201 1) (by rw [hV1.z]) ?_
  refine x_aload_n (pc := 16) C dX7_shareNow_16 rfl ?_
  refine x_getR (pc := 17) (o := 200) (j := 201) C f_X7_7 dX7_shareNow_17 (hI 200 rfl) ⟨rfl, rfl⟩ ?_
  refine x_iconst (pc := 20) C (0) dX7_shareNow_20 (by decide) ?_
  refine x_topi (nI 0) (by decide) ?_
  refine x_iald (pc := 21) (o := 201) C dX7_shareNow_21 (hI 201 rfl) ⟨rfl, rfl⟩ (show _ < 232 by decide) (by decide) ?_
  refine x_topi (V 201 0) (by rw [hV1.z]) ?_
  refine x_isub (pc := 22) C dX7_shareNow_22 ?_
  refine x_imul (pc := 23) C dX7_shareNow_23 ?_
  refine x_i2d (pc := 24) C dX7_shareNow_24 ?_
  refine x_ddiv (pc := 25) C dX7_shareNow_25 (h2) ?_
  exact x_dret (pc := 26) C hQ dX7_shareNow_26 (pm_dd rfl hV1) (Nat.le_of_ble_eq_true rfl) (Nat.le_of_ble_eq_true rfl)
set_option maxRecDepth 100000 in
set_option maxHeartbeats 4000000 in
theorem c_X7_share {l : Launch} {V : VV} {L : LL} {N : NN} {I : List Nat} (hI : PI I) {n : Nat} (hn : V 201 39 = nI n) (hn24 : n ≤ 24) (h1 : vf_n64 (FP.dmul FP.dconst1 (FP.i2d (wkN (up V 200 0 0) n 2 7)))) (h2 : vf_n64 (shN (up V 200 0 0) n)) : Runs l 7 0 0 yX7_share (Cond.code yX7_share cX7_share 1 (some .double)) [aR 200] V L N I (Pm (some (aD (shN (up V 200 0 0) n))) (fun V1 => SmL (up V 200 0 0) V1) (L) N I) := by
  refine run_of RX7 (by decide +kernel) rfl (Nat.le_of_ble_eq_true rfl) (fun E hE C hQ hN => ?_)
  subst hE
  refine x_aload_n (pc := 0) C dX7_share_0 rfl ?_
  refine x_iconst (pc := 1) C (0) dX7_share_1 (by decide) ?_
  refine x_putI (pc := 2) (o := 200) C p_X7_37 dX7_share_2 (hI 200 rfl) ⟨rfl, rfl, rfl⟩ ?_
  refine x_aload_n (pc := 5) C dX7_share_5 rfl ?_
  refine x_pV0 (pc := 6) (o := 200) C v_X7_262 dX7_share_6 (c_X7_shareNow (V := up V 200 0 0) hI hn hn24 h1 h2) (hI 200 rfl) rfl (by decide) rfl ⟨Nat.le_refl _, Nat.le_refl _⟩ (fun V1 hV1 => ?_)
  exact x_dret (pc := 9) C hQ dX7_share_9 (pm_dd rfl hV1) (Nat.le_of_ble_eq_true rfl) (Nat.le_of_ble_eq_true rfl)
set_option maxRecDepth 100000 in
set_option maxHeartbeats 4000000 in
theorem c_X7_mix {l : Launch} {V : VV} {L : LL} {N : NN} {I : List Nat} (hI : PI I) (v : Int64) : Runs l 1 0 0 yX7_mix (Cond.code yX7_mix cX7_mix 3 none) [aR 200, aL v] V L N I (Is none (V) (mxL L v) N I) := by
  refine run_of RX7 (by decide +kernel) rfl (Nat.le_of_ble_eq_true rfl) (fun E hE C hQ hN => ?_)
  subst hE
  refine x_aload_n (pc := 0) C dX7_mix_0 rfl ?_
  refine x_ldc2 (pc := 1) C dX7_mix_1 (show Cond.constantLong RX7 266 31 ∈ U0 from u0_in 1328 (by decide +kernel) rfl) ?_
  refine x_aload_n (pc := 4) C dX7_mix_4 rfl ?_
  refine x_getL (pc := 5) (o := 200) C f_X7_268 dX7_mix_5 (hI 200 rfl) ⟨rfl, rfl, rfl⟩ ?_
  refine x_lmul (pc := 8) C dX7_mix_8 ?_
  refine x_lload_n (pc := 9) C dX7_mix_9 rfl ?_
  refine x_ladd (pc := 10) C dX7_mix_10 ?_
  refine x_putL (pc := 11) (o := 200) C p_X7_268 dX7_mix_11 (hI 200 rfl) ⟨rfl, rfl, rfl⟩ ?_
  exact x_vret (pc := 14) C hQ dX7_mix_14 (⟨rfl, rfl, rfl, rfl, rfl⟩) (Nat.le_of_ble_eq_true rfl) (Nat.le_of_ble_eq_true rfl)
set_option maxRecDepth 100000 in
set_option maxHeartbeats 4000000 in
theorem c_X7_mixDays {l : Launch} {V : VV} {L : LL} {N : NN} {I : List Nat} (hI : PI I) {n : Nat} (hn : V 201 39 = nI n) (hn24 : n ≤ 24) : Runs l 5 0 0 yX7_mixDays (Cond.code yX7_mixDays cX7_mixDays 3 none) [aR 200] V L N I (Pm none (fun V1 => SmL V V1) (mdD V n L 7) N I) := by
  refine run_of RX7 (by decide +kernel) rfl (Nat.le_of_ble_eq_true rfl) (fun E hE C hQ hN => ?_)
  subst hE
  refine x_iconst (pc := 0) C (0) dX7_mixDays_0 (by decide) ?_
  refine y_istore_n (pc := 1) C dX7_mixDays_1 (by decide) rfl ?_
  suffices key : ∀ (k d : Nat) (V1 : VV) (x : Option AV), k + d = 7 → SmL V V1 → Wx E 2 [some (aR 200), some (aI (nI d)), x] [] V1 (mdD V n L d) N I 0 0 by
    exact key 7 0 V none rfl sml_r
  intro k
  induction k with
  | zero =>
    intro d V1 x hk hV1
    refine x_iload_n (pc := 2) C dX7_mixDays_2 rfl ?_
    refine x_bipush (pc := 3) C (7) dX7_mixDays_3 (by decide) ?_
    refine x_icmp_ge (pc := 5) (tgt := 77) C dX7_mixDays_5 (by decide) (fun h5 => ?_) (fun h5 => absurd (by exact nI_le (a := 7) (b := d) (by omega) (by omega)) h5)
    exact x_vret (pc := 77) C hQ dX7_mixDays_77 (pm_vL hV1 (by rw [show d = 7 by omega])) (Nat.le_of_ble_eq_true rfl) (Nat.le_of_ble_eq_true rfl)
  | succ k ih =>
    intro d V1 x hk hV1
    have J33 : ∀ (V2 : VV) (y : Option AV), SmL V V2 → Wx E 33 [some (aR 200), some (aI (nI d)), y] [] V2 (mdA V n (nI d) (mdD V n L d) 8) N I 0 0 := by
      intro V2 y h2
      refine x_iconst (pc := 33) C (0) dX7_mixDays_33 (by decide) ?_
      refine y_istore_n (pc := 34) C dX7_mixDays_34 (by decide) rfl ?_
      suffices key2 : ∀ (q h : Nat) (V2 : VV), q + h = 24 → SmL V V2 → Wx E 35 [some (aR 200), some (aI (nI d)), some (aI (nI h))] [] V2 (mdB V n (nI d) (mdA V n (nI d) (mdD V n L d) 8) h) N I 0 0 by
        exact key2 24 0 V2 rfl h2
      clear h2 V2
      intro q
      induction q with
      | zero =>
        intro h V2 hq h2
        refine x_iload_n (pc := 35) C dX7_mixDays_35 rfl ?_
        refine x_bipush (pc := 36) C (24) dX7_mixDays_36 (by decide) ?_
        refine x_icmp_ge (pc := 38) (tgt := 71) C dX7_mixDays_38 (by decide) (fun h38 => ?_) (fun h38 => absurd (by exact nI_le (a := 24) (b := h) (by omega) (by omega)) h38)
        refine y_iinc (pc := 71) C (nI (d + 1)) dX7_mixDays_71 rfl (by exact nI_1 d) (by decide) rfl ?_
        refine x_goto (pc := 74) (tgt := 2) C dX7_mixDays_74 (by decide) ?_
        have e24 : h = 24 := by omega
        subst e24
        exact ih (d + 1) V2 _ (by omega) h2
      | succ q ihq =>
        intro h V2 hq h2
        refine x_iload_n (pc := 35) C dX7_mixDays_35 rfl ?_
        refine x_bipush (pc := 36) C (24) dX7_mixDays_36 (by decide) ?_
        refine x_icmp_ge (pc := 38) (tgt := 71) C dX7_mixDays_38 (by decide) (fun h38 => absurd h38 (by exact nI_ge (a := h) (b := 24) (by omega) (by omega))) (fun h38 => ?_)
        refine x_aload_n (pc := 41) C dX7_mixDays_41 rfl ?_
        refine x_aload_n (pc := 42) C dX7_mixDays_42 rfl ?_
        refine x_iload_n (pc := 43) C dX7_mixDays_43 rfl ?_
        refine x_iload_n (pc := 44) C dX7_mixDays_44 rfl ?_
        refine x_iconst (pc := 45) C (0) dX7_mixDays_45 (by decide) ?_
        refine x_pV3 (pc := 46) (o := 200) C v_X7_233 dX7_mixDays_46 (c_X7_sponsorsNow (V := V2) hI (by rw [h2.z]; exact hn) hn24 (nI d) (nI h) 0) (hI 200 rfl) rfl (by decide) rfl ⟨Nat.le_refl _, Nat.le_refl _⟩ (fun V3 hV3 => ?_)
        refine x_topi (planR (RF V) n (nI d) (nI h)) (by rw [if_pos rfl, RF_z h2.z]) ?_
        refine x_i2l (pc := 49) C dX7_mixDays_49 ?_
        refine x_cV1 (pc := 50) (o := 200) C v_X7_272 dX7_mixDays_50 (c_X7_mix hI _) (hI 200 rfl) rfl (by decide) rfl ⟨Nat.le_refl _, Nat.le_refl _⟩ ?_
        refine x_aload_n (pc := 53) C dX7_mixDays_53 rfl ?_
        refine x_aload_n (pc := 54) C dX7_mixDays_54 rfl ?_
        refine x_iload_n (pc := 55) C dX7_mixDays_55 rfl ?_
        refine x_iload_n (pc := 56) C dX7_mixDays_56 rfl ?_
        refine x_iconst (pc := 57) C (1) dX7_mixDays_57 (by decide) ?_
        refine x_pV3 (pc := 58) (o := 200) C v_X7_233 dX7_mixDays_58 (c_X7_sponsorsNow (V := V3) hI (by rw [hV3.z, h2.z]; exact hn) hn24 (nI d) (nI h) 1) (hI 200 rfl) rfl (by decide) rfl ⟨Nat.le_refl _, Nat.le_refl _⟩ (fun V4 hV4 => ?_)
        refine x_topi (spN V n (nI d) (nI h)) (by rw [if_neg (by decide), spN_sm (hV3.z.trans h2.z)]) ?_
        refine x_i2l (pc := 61) C dX7_mixDays_61 ?_
        refine x_cV1 (pc := 62) (o := 200) C v_X7_272 dX7_mixDays_62 (c_X7_mix hI _) (hI 200 rfl) rfl (by decide) rfl ⟨Nat.le_refl _, Nat.le_refl _⟩ ?_
        refine y_iinc (pc := 65) C (nI (h + 1)) dX7_mixDays_65 rfl (by exact nI_1 h) (by decide) rfl ?_
        refine x_goto (pc := 68) (tgt := 35) C dX7_mixDays_68 (by decide) ?_
        exact ihq (h + 1) _ (by omega) (h2.t (hV3.t hV4))
    refine x_iload_n (pc := 2) C dX7_mixDays_2 rfl ?_
    refine x_bipush (pc := 3) C (7) dX7_mixDays_3 (by decide) ?_
    refine x_icmp_ge (pc := 5) (tgt := 77) C dX7_mixDays_5 (by decide) (fun h5 => absurd h5 (by exact nI_ge (a := d) (b := 7) (by omega) (by omega))) (fun h5 => ?_)
    refine x_iconst (pc := 8) C (0) dX7_mixDays_8 (by decide) ?_
    refine y_istore_n (pc := 9) C dX7_mixDays_9 (by decide) rfl ?_
    suffices key3 : ∀ (q w : Nat) (V2 : VV), q + w = 8 → SmL V V2 → Wx E 10 [some (aR 200), some (aI (nI d)), some (aI (nI w))] [] V2 (mdA V n (nI d) (mdD V n L d) w) N I 0 0 by
      exact key3 8 0 V1 rfl hV1
    intro q
    induction q with
    | zero =>
      intro w V2 hq h2
      refine x_iload_n (pc := 10) C dX7_mixDays_10 rfl ?_
      refine x_bipush (pc := 11) C (8) dX7_mixDays_11 (by decide) ?_
      refine x_icmp_ge (pc := 13) (tgt := 33) C dX7_mixDays_13 (by decide) (fun h13 => ?_) (fun h13 => absurd (by exact nI_le (a := 8) (b := w) (by omega) (by omega)) h13)
      have e8 : w = 8 := by omega
      subst e8
      exact J33 V2 _ h2
    | succ q ihq =>
      intro w V2 hq h2
      refine x_iload_n (pc := 10) C dX7_mixDays_10 rfl ?_
      refine x_bipush (pc := 11) C (8) dX7_mixDays_11 (by decide) ?_
      refine x_icmp_ge (pc := 13) (tgt := 33) C dX7_mixDays_13 (by decide) (fun h13 => absurd h13 (by exact nI_ge (a := w) (b := 8) (by omega) (by omega))) (fun h13 => ?_)
      refine x_aload_n (pc := 16) C dX7_mixDays_16 rfl ?_
      refine x_aload_n (pc := 17) C dX7_mixDays_17 rfl ?_
      refine x_iload_n (pc := 18) C dX7_mixDays_18 rfl ?_
      refine x_iload_n (pc := 19) C dX7_mixDays_19 rfl ?_
      refine x_pV2 (pc := 20) (o := 200) C v_X7_100 dX7_mixDays_20 (c_X7_dayNow (V := V2) hI (by rw [h2.z]; exact hn) hn24 (nI d) w (by omega)) (hI 200 rfl) rfl (by decide) rfl ⟨Nat.le_refl _, Nat.le_refl _⟩ (fun V3 hV3 => ?_)
      refine x_topi (dN V n (nI d) w) (dN_sm h2.z) ?_
      refine x_i2l (pc := 23) C dX7_mixDays_23 ?_
      refine x_cV1 (pc := 24) (o := 200) C v_X7_272 dX7_mixDays_24 (c_X7_mix hI _) (hI 200 rfl) rfl (by decide) rfl ⟨Nat.le_refl _, Nat.le_refl _⟩ ?_
      refine y_iinc (pc := 27) C (nI (w + 1)) dX7_mixDays_27 rfl (by exact nI_1 w) (by decide) rfl ?_
      refine x_goto (pc := 30) (tgt := 10) C dX7_mixDays_30 (by decide) ?_
      exact ihq (w + 1) _ (by omega) (h2.t hV3.1)
