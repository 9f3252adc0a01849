set_option maxRecDepth 100000 in
set_option maxHeartbeats 4000000 in
theorem c_X7_sponsorsNow {l : Launch} {V : VV} {L : LL} {N : NN} {I : List Nat} (hI : PI I) {n : Nat} (hn : V 201 39 = nI n) (hn24 : n ≤ 24) (d h oa : Int32) : Runs l 4 0 0 yX7_sponsorsNow (Cond.code yX7_sponsorsNow cX7_sponsorsNow 4 (some .int)) [aR 200, aI d, aI h, aI oa] V L N I (Pm (some (aI (if oa = 0 then planR (RF V) n d h else spN V n d h))) (fun V1 => SmL V V1) L N I) := by
  refine run_of RX7 (by decide +kernel) rfl (Nat.le_of_ble_eq_true rfl) (fun E hE C hQ hN => ?_)
  subst hE
  refine x_aload_n (pc := 0) C dX7_sponsorsNow_0 rfl ?_
  refine x_iload_n (pc := 1) C dX7_sponsorsNow_1 rfl ?_
  refine x_pV1 (pc := 2) (o := 200) C v_X7_91 dX7_sponsorsNow_2 (c_X7_layDay hI hn hn24 _) (hI 200 rfl) rfl (by decide) rfl ⟨Nat.le_refl _, Nat.le_refl _⟩ (fun V1 hV1 => ?_)
  refine x_iload_n (pc := 5) C dX7_sponsorsNow_5 rfl ?_
  refine x_if_eq (pc := 6) (tgt := 18) C dX7_sponsorsNow_6 (by decide) (fun h6 => ?_) (fun h6 => ?_)
  · refine x_aload_n (pc := 18) C dX7_sponsorsNow_18 rfl ?_
    refine x_iload_n (pc := 19) C dX7_sponsorsNow_19 rfl ?_
    refine x_iload_n (pc := 20) C dX7_sponsorsNow_20 rfl ?_
    refine x_cV2 (pc := 21) (o := 200) C v_X7_60 dX7_sponsorsNow_21 (c_X7_planned (V := V1) hI (by rw [hV1.1.z]; exact hn) hn24 _ _) (hI 200 rfl) rfl (by decide) rfl ⟨Nat.le_refl _, Nat.le_refl _⟩ ?_
    exact x_iret (pc := 24) C hQ dX7_sponsorsNow_24 (pm_i (by rw [if_pos h6, RF_z hV1.1.z]) hV1.1) (Nat.le_of_ble_eq_true rfl) (Nat.le_of_ble_eq_true rfl)
  · refine x_aload_n (pc := 9) C dX7_sponsorsNow_9 rfl ?_
    refine x_iload_n (pc := 10) C dX7_sponsorsNow_10 rfl ?_
    refine x_iload_n (pc := 11) C dX7_sponsorsNow_11 rfl ?_
    refine x_cV2 (pc := 12) (o := 200) C v_X7_94 dX7_sponsorsNow_12 (c_X7_aired (V := V1) hI (by rw [hV1.1.z]; exact hn) hn24 _ _) (hI 200 rfl) rfl (by decide) rfl ⟨Nat.le_refl _, Nat.le_refl _⟩ ?_
    refine x_goto (pc := 15) (tgt := 24) C dX7_sponsorsNow_15 (by decide) ?_
    exact x_iret (pc := 24) C hQ dX7_sponsorsNow_24 (pm_i (by rw [if_neg h6]; exact spN_of hV1) hV1.1) (Nat.le_of_ble_eq_true rfl) (Nat.le_of_ble_eq_true rfl)
set_option maxRecDepth 100000 in
set_option maxHeartbeats 4000000 in
theorem c_X7_sponsors {l : Launch} {V : VV} {L : LL} {N : NN} {I : List Nat} (hI : PI I) {n : Nat} (hn : V 201 39 = nI n) (hn24 : n ≤ 24) (x v oa : Int32) : Runs l 5 0 0 yX7_sponsors (Cond.code yX7_sponsors cX7_sponsors 4 (some .int)) [aR 200, aI x, aI v, aI oa] V L N I (Pm (some (aI (if th1 (withinB x 0 6 && withinB v 0 23) = 0 then (if oa = 0 then planR (RF V) n x v else spN V n x v) else 0))) (fun V1 => SmR V V1 (th1 (withinB x 0 6 && withinB v 0 23))) L N I) := by
  refine run_of RX7 (by decide +kernel) rfl (Nat.le_of_ble_eq_true rfl) (fun E hE C hQ hN => ?_)
  subst hE
  refine x_aload_n (pc := 0) C dX7_sponsors_0 rfl ?_
  refine x_iload_n (pc := 1) C dX7_sponsors_1 rfl ?_
  refine x_cS1 (pc := 2) C s_X7_126 dX7_sponsors_2 (c_X7_isDay _) (by decide) rfl ⟨Nat.le_refl _, Nat.le_refl _⟩ ?_
  refine x_if_eq (pc := 5) (tgt := 22) C dX7_sponsors_5 (by decide) (fun h5 => ?_) (fun h5 => ?_)
  · refine x_iconst (pc := 22) C (1) dX7_sponsors_22 (by decide) ?_
    refine x_putI (pc := 23) (o := 200) C p_X7_37 dX7_sponsors_23 (hI 200 rfl) ⟨rfl, rfl, rfl⟩ ?_
    refine x_aload_n (pc := 26) C dX7_sponsors_26 rfl ?_
    refine x_getI (pc := 27) (o := 200) C f_X7_37 dX7_sponsors_27 (hI 200 rfl) ⟨rfl, rfl, rfl⟩ ?_
    refine x_topi 1 up_ss ?_
    refine x_if_le (pc := 30) (tgt := 37) C dX7_sponsors_30 (by decide) (fun h30 => absurd h30 (by decide)) (fun h30 => ?_)
    refine x_iconst (pc := 33) C (0) dX7_sponsors_33 (by decide) ?_
    refine x_goto (pc := 34) (tgt := 44) C dX7_sponsors_34 (by decide) ?_
    exact x_iret (pc := 44) C hQ dX7_sponsors_44 (pm_i (if0_1 (th1_1 (by rw [b2i_f h5]; rfl))).symm (by rw [th1_1 (by rw [b2i_f h5]; rfl)]; exact smR_0)) (Nat.le_of_ble_eq_true rfl) (Nat.le_of_ble_eq_true rfl)
  · refine x_iload_n (pc := 8) C dX7_sponsors_8 rfl ?_
    refine x_iconst (pc := 9) C (0) dX7_sponsors_9 (by decide) ?_
    refine x_bipush (pc := 10) C (23) dX7_sponsors_10 (by decide) ?_
    refine x_cS3 (pc := 12) C s_X7_41 dX7_sponsors_12 (c_X7_within _ _ _) (by decide) rfl ⟨Nat.le_refl _, Nat.le_refl _⟩ ?_
    refine x_if_eq (pc := 15) (tgt := 22) C dX7_sponsors_15 (by decide) (fun h15 => ?_) (fun h15 => ?_)
    · refine x_iconst (pc := 22) C (1) dX7_sponsors_22 (by decide) ?_
      refine x_putI (pc := 23) (o := 200) C p_X7_37 dX7_sponsors_23 (hI 200 rfl) ⟨rfl, rfl, rfl⟩ ?_
      refine x_aload_n (pc := 26) C dX7_sponsors_26 rfl ?_
      refine x_getI (pc := 27) (o := 200) C f_X7_37 dX7_sponsors_27 (hI 200 rfl) ⟨rfl, rfl, rfl⟩ ?_
      refine x_topi 1 up_ss ?_
      refine x_if_le (pc := 30) (tgt := 37) C dX7_sponsors_30 (by decide) (fun h30 => absurd h30 (by decide)) (fun h30 => ?_)
      refine x_iconst (pc := 33) C (0) dX7_sponsors_33 (by decide) ?_
      refine x_goto (pc := 34) (tgt := 44) C dX7_sponsors_34 (by decide) ?_
      exact x_iret (pc := 44) C hQ dX7_sponsors_44 (pm_i (if0_1 (th1_1 (by rw [b2i_f h15, Bool.and_false]))).symm (by rw [th1_1 (by rw [b2i_f h15, Bool.and_false])]; exact smR_0)) (Nat.le_of_ble_eq_true rfl) (Nat.le_of_ble_eq_true rfl)
    · refine x_iconst (pc := 18) C (0) dX7_sponsors_18 (by decide) ?_
      refine x_goto (pc := 19) (tgt := 23) C dX7_sponsors_19 (by decide) ?_
      refine x_putI (pc := 23) (o := 200) C p_X7_37 dX7_sponsors_23 (hI 200 rfl) ⟨rfl, rfl, rfl⟩ ?_
      refine x_aload_n (pc := 26) C dX7_sponsors_26 rfl ?_
      refine x_getI (pc := 27) (o := 200) C f_X7_37 dX7_sponsors_27 (hI 200 rfl) ⟨rfl, rfl, rfl⟩ ?_
      refine x_topi 0 up_ss ?_
      refine x_if_le (pc := 30) (tgt := 37) C dX7_sponsors_30 (by decide) (fun h30 => ?_) (fun h30 => absurd (by decide) h30)
      refine x_aload_n (pc := 37) C dX7_sponsors_37 rfl ?_
      refine x_iload_n (pc := 38) C dX7_sponsors_38 rfl ?_
      refine x_iload_n (pc := 39) C dX7_sponsors_39 rfl ?_
      refine x_iload_n (pc := 40) C dX7_sponsors_40 rfl ?_
      refine x_pV3 (pc := 41) (o := 200) C v_X7_233 dX7_sponsors_41 (c_X7_sponsorsNow (V := up V 200 0 0) hI hn hn24 x v oa) (hI 200 rfl) rfl (by decide) rfl ⟨Nat.le_refl _, Nat.le_refl _⟩ (fun V1 hV1 => ?_)
      exact x_iret (pc := 44) C hQ dX7_sponsors_44 (pm_i (by rw [if0_t (th1_0 (by rw [b2i_t h5, b2i_t h15]; rfl))]; exact rfl) (by rw [th1_0 (by rw [b2i_t h5, b2i_t h15]; rfl)]; exact smR_0.l hV1)) (Nat.le_of_ble_eq_true rfl) (Nat.le_of_ble_eq_true rfl)
set_option maxRecDepth 100000 in
set_option maxHeartbeats 4000000 in
theorem c_X7_day {l : Launch} {V : VV} {L : LL} {N : NN} {I : List Nat} (hI : PI I) {n : Nat} (hn : V 201 39 = nI n) (hn24 : n ≤ 24) (x v : Int32) : Runs l 5 0 0 yX7_day (Cond.code yX7_day cX7_day 3 (some .int)) [aR 200, aI x, aI v] V L N I (Pm (some (aI (if th2 (withinB x 0 6) (withinB v 0 7) = 0 then dN V n x v.toNatClampNeg else 0))) (fun V1 => SmR V V1 (th2 (withinB x 0 6) (withinB v 0 7))) L N I) := by
  refine run_of RX7 (by decide +kernel) rfl (Nat.le_of_ble_eq_true rfl) (fun E hE C hQ hN => ?_)
  subst hE
  refine x_aload_n (pc := 0) C dX7_day_0 rfl ?_
  refine x_iload_n (pc := 1) C dX7_day_1 rfl ?_
  refine x_cS1 (pc := 2) C s_X7_126 dX7_day_2 (c_X7_isDay _) (by decide) rfl ⟨Nat.le_refl _, Nat.le_refl _⟩ ?_
  refine x_if_ne (pc := 5) (tgt := 12) C dX7_day_5 (by decide) (fun h5 => ?_) (fun h5 => ?_)
  · refine x_iload_n (pc := 12) C dX7_day_12 rfl ?_
    refine x_iconst (pc := 13) C (0) dX7_day_13 (by decide) ?_
    refine x_bipush (pc := 14) C (7) dX7_day_14 (by decide) ?_
    refine x_cS3 (pc := 16) C s_X7_41 dX7_day_16 (c_X7_within _ _ _) (by decide) rfl ⟨Nat.le_refl _, Nat.le_refl _⟩ ?_
    refine x_if_eq (pc := 19) (tgt := 26) C dX7_day_19 (by decide) (fun h19 => ?_) (fun h19 => ?_)
    · refine x_iconst (pc := 26) C (2) dX7_day_26 (by decide) ?_
      refine x_putI (pc := 27) (o := 200) C p_X7_37 dX7_day_27 (hI 200 rfl) ⟨rfl, rfl, rfl⟩ ?_
      refine x_aload_n (pc := 30) C dX7_day_30 rfl ?_
      refine x_getI (pc := 31) (o := 200) C f_X7_37 dX7_day_31 (hI 200 rfl) ⟨rfl, rfl, rfl⟩ ?_
      refine x_topi 2 up_ss ?_
      refine x_if_le (pc := 34) (tgt := 41) C dX7_day_34 (by decide) (fun h34 => absurd h34 (by decide)) (fun h34 => ?_)
      refine x_iconst (pc := 37) C (0) dX7_day_37 (by decide) ?_
      refine x_goto (pc := 38) (tgt := 47) C dX7_day_38 (by decide) ?_
      exact x_iret (pc := 47) C hQ dX7_day_47 (pm_i (if0_2 (th2_2 (b2i_t h5) (b2i_f h19))).symm (by rw [th2_2 (b2i_t h5) (b2i_f h19)]; exact smR_0)) (Nat.le_of_ble_eq_true rfl) (Nat.le_of_ble_eq_true rfl)
    · obtain ⟨w, hw, rfl⟩ := win_of (k := 7) (by decide) (b2i_t h19)
      have hcw : (nI w).toNatClampNeg = w := nI_clamp (by omega)
      refine x_iconst (pc := 22) C (0) dX7_day_22 (by decide) ?_
      refine x_goto (pc := 23) (tgt := 27) C dX7_day_23 (by decide) ?_
      refine x_putI (pc := 27) (o := 200) C p_X7_37 dX7_day_27 (hI 200 rfl) ⟨rfl, rfl, rfl⟩ ?_
      refine x_aload_n (pc := 30) C dX7_day_30 rfl ?_
      refine x_getI (pc := 31) (o := 200) C f_X7_37 dX7_day_31 (hI 200 rfl) ⟨rfl, rfl, rfl⟩ ?_
      refine x_topi 0 up_ss ?_
      refine x_if_le (pc := 34) (tgt := 41) C dX7_day_34 (by decide) (fun h34 => ?_) (fun h34 => absurd (by decide) h34)
      refine x_aload_n (pc := 41) C dX7_day_41 rfl ?_
      refine x_iload_n (pc := 42) C dX7_day_42 rfl ?_
      refine x_iload_n (pc := 43) C dX7_day_43 rfl ?_
      refine x_pV2 (pc := 44) (o := 200) C v_X7_100 dX7_day_44 (c_X7_dayNow (V := up V 200 0 0) hI hn hn24 x w hw) (hI 200 rfl) rfl (by decide) rfl ⟨Nat.le_refl _, Nat.le_refl _⟩ (fun V1 hV1 => ?_)
      exact x_iret (pc := 47) C hQ dX7_day_47 (pm_i (by rw [if0_t (th2_0 (b2i_t h5) (b2i_t h19))]; exact by rw [hcw]; rfl) (by rw [th2_0 (b2i_t h5) (b2i_t h19)]; exact smR_0.l hV1.1)) (Nat.le_of_ble_eq_true rfl) (Nat.le_of_ble_eq_true rfl)
  · refine x_iconst (pc := 8) C (1) dX7_day_8 (by decide) ?_
    refine x_goto (pc := 9) (tgt := 27) C dX7_day_9 (by decide) ?_
    refine x_putI (pc := 27) (o := 200) C p_X7_37 dX7_day_27 (hI 200 rfl) ⟨rfl, rfl, rfl⟩ ?_
    refine x_aload_n (pc := 30) C dX7_day_30 rfl ?_
    refine x_getI (pc := 31) (o := 200) C f_X7_37 dX7_day_31 (hI 200 rfl) ⟨rfl, rfl, rfl⟩ ?_
    refine x_topi 1 up_ss ?_
    refine x_if_le (pc := 34) (tgt := 41) C dX7_day_34 (by decide) (fun h34 => absurd h34 (by decide)) (fun h34 => ?_)
    refine x_iconst (pc := 37) C (0) dX7_day_37 (by decide) ?_
    refine x_goto (pc := 38) (tgt := 47) C dX7_day_38 (by decide) ?_
    exact x_iret (pc := 47) C hQ dX7_day_47 (pm_i (if0_1 (th2_1 (b2i_f h5))).symm (by rw [th2_1 (b2i_f h5)]; exact smR_0)) (Nat.le_of_ble_eq_true rfl) (Nat.le_of_ble_eq_true rfl)
set_option maxRecDepth 100000 in
set_option maxHeartbeats 4000000 in
theorem c_X7_counted {l : Launch} {V : VV} {L : LL} {N : NN} {I : List Nat} (hI : PI I) {n : Nat} (hn : V 201 39 = nI n) (hn24 : n ≤ 24) (w : Nat) (hw : w < 8) : Runs l 6 0 0 yX7_counted (Cond.code yX7_counted cX7_counted 2 (some .int)) [aR 200, aI (nI w)] V L N I (Pm (some (aI (cntV V n w))) (fun V1 => SmL V V1) L N I) := by
  refine run_of RX7 (by decide +kernel) rfl (Nat.le_of_ble_eq_true rfl) (fun E hE C hQ hN => ?_)
  subst hE
  refine x_iload_n (pc := 0) C dX7_counted_0 rfl ?_
  rcases (show w = 0 ∨ w = 1 ∨ w = 2 ∨ w = 3 ∨ w = 4 ∨ w = 5 ∨ w = 6 ∨ 6 < w by omega) with rfl | rfl | rfl | rfl | rfl | rfl | rfl | hsw1
  · refine x_tableInN (pc := 1) (c := 0) (tgt := 44) C dX7_counted_1 (by decide) (by decide) (by decide) rfl (by decide) ?_
    refine x_aload_n (pc := 44) C dX7_counted_44 rfl ?_
    refine x_getR (pc := 45) (o := 200) (j := 201) C f_X7_7 dX7_counted_45 (hI 200 rfl) ⟨rfl, rfl⟩ ?_
    refine x_bipush (pc := 48) C (38) dX7_counted_48 (by decide) ?_
    refine x_topi (nI 38) (by decide) ?_
    refine x_iald (pc := 50) (o := 201) C dX7_counted_50 (hI 201 rfl) ⟨rfl, rfl⟩ (show _ < 232 by decide) (by decide) ?_
    exact x_iret (pc := 51) C hQ dX7_counted_51 (pm_i rfl (fun _ _ _ _ => rfl)) (Nat.le_of_ble_eq_true rfl) (Nat.le_of_ble_eq_true rfl)
  · refine x_tableInN (pc := 1) (c := 1) (tgt := 52) C dX7_counted_1 (by decide) (by decide) (by decide) rfl (by decide) ?_
    refine x_aload_n (pc := 52) C dX7_counted_52 rfl ?_
    refine x_getR (pc := 53) (o := 200) (j := 201) C f_X7_7 dX7_counted_53 (hI 200 rfl) ⟨rfl, rfl⟩ ?_
    refine x_bipush (pc := 56) C (39) dX7_counted_56 (by decide) ?_
    refine x_topi (nI 39) (by decide) ?_
    refine x_iald (pc := 58) (o := 201) C dX7_counted_58 (hI 201 rfl) ⟨rfl, rfl⟩ (show _ < 232 by decide) (by decide) ?_
    exact x_iret (pc := 59) C hQ dX7_counted_59 (pm_i rfl (fun _ _ _ _ => rfl)) (Nat.le_of_ble_eq_true rfl) (Nat.le_of_ble_eq_true rfl)
  · refine x_tableInN (pc := 1) (c := 2) (tgt := 60) C dX7_counted_1 (by decide) (by decide) (by decide) rfl (by decide) ?_
    refine x_aload_n (pc := 60) C dX7_counted_60 rfl ?_
    refine x_iconst (pc := 61) C (0) dX7_counted_61 (by decide) ?_
    refine x_cV1 (pc := 62) (o := 200) C v_X7_237 dX7_counted_62 (c_X7_ofKind hI hn hn24 _) (hI 200 rfl) rfl (by decide) rfl ⟨Nat.le_refl _, Nat.le_refl _⟩ ?_
    exact x_iret (pc := 65) C hQ dX7_counted_65 (pm_i rfl (fun _ _ _ _ => rfl)) (Nat.le_of_ble_eq_true rfl) (Nat.le_of_ble_eq_true rfl)
  · refine x_tableInN (pc := 1) (c := 3) (tgt := 66) C dX7_counted_1 (by decide) (by decide) (by decide) rfl (by decide) ?_
    refine x_aload_n (pc := 66) C dX7_counted_66 rfl ?_
    refine x_iconst (pc := 67) C (2) dX7_counted_67 (by decide) ?_
    refine x_cV1 (pc := 68) (o := 200) C v_X7_237 dX7_counted_68 (c_X7_ofKind hI hn hn24 _) (hI 200 rfl) rfl (by decide) rfl ⟨Nat.le_refl _, Nat.le_refl _⟩ ?_
    exact x_iret (pc := 71) C hQ dX7_counted_71 (pm_i rfl (fun _ _ _ _ => rfl)) (Nat.le_of_ble_eq_true rfl) (Nat.le_of_ble_eq_true rfl)
  · refine x_tableInN (pc := 1) (c := 4) (tgt := 72) C dX7_counted_1 (by decide) (by decide) (by decide) rfl (by decide) ?_
    refine x_aload_n (pc := 72) C dX7_counted_72 rfl ?_
    refine x_iconst (pc := 73) C (3) dX7_counted_73 (by decide) ?_
    refine x_pV1 (pc := 74) (o := 200) C v_X7_240 dX7_counted_74 (c_X7_inWeek hI hn hn24 3 (by decide)) (hI 200 rfl) rfl (by decide) rfl ⟨Nat.le_refl _, Nat.le_refl _⟩ (fun V1 hV1 => ?_)
    exact x_iret (pc := 77) C hQ dX7_counted_77 (pm_i rfl hV1) (Nat.le_of_ble_eq_true rfl) (Nat.le_of_ble_eq_true rfl)
  · refine x_tableInN (pc := 1) (c := 5) (tgt := 78) C dX7_counted_1 (by decide) (by decide) (by decide) rfl (by decide) ?_
    refine x_aload_n (pc := 78) C dX7_counted_78 rfl ?_
    refine x_iconst (pc := 79) C (4) dX7_counted_79 (by decide) ?_
    refine x_pV1 (pc := 80) (o := 200) C v_X7_240 dX7_counted_80 (c_X7_inWeek hI hn hn24 4 (by decide)) (hI 200 rfl) rfl (by decide) rfl ⟨Nat.le_refl _, Nat.le_refl _⟩ (fun V1 hV1 => ?_)
    exact x_iret (pc := 83) C hQ dX7_counted_83 (pm_i rfl hV1) (Nat.le_of_ble_eq_true rfl) (Nat.le_of_ble_eq_true rfl)
  · refine x_tableInN (pc := 1) (c := 6) (tgt := 84) C dX7_counted_1 (by decide) (by decide) (by decide) rfl (by decide) ?_
    refine x_aload_n (pc := 84) C dX7_counted_84 rfl ?_
    refine x_getI (pc := 85) (o := 200) C f_X7_106 dX7_counted_85 (hI 200 rfl) ⟨rfl, rfl, rfl⟩ ?_
    exact x_iret (pc := 88) C hQ dX7_counted_88 (pm_i rfl (fun _ _ _ _ => rfl)) (Nat.le_of_ble_eq_true rfl) (Nat.le_of_ble_eq_true rfl)
  · refine x_tableOut (pc := 1) (tgt := 89) C dX7_counted_1 (Or.inr (by rw [nI_toInt (by omega)]; omega)) (by decide) ?_
    refine x_aload_n (pc := 89) C dX7_counted_89 rfl ?_
    refine x_iconst (pc := 90) C (2) dX7_counted_90 (by decide) ?_
    refine x_pV1 (pc := 91) (o := 200) C v_X7_240 dX7_counted_91 (c_X7_inWeek hI hn hn24 2 (by decide)) (hI 200 rfl) rfl (by decide) rfl ⟨Nat.le_refl _, Nat.le_refl _⟩ (fun V1 hV1 => ?_)
    exact x_iret (pc := 94) C hQ dX7_counted_94 (pm_i (by rw [show w = 7 by omega]; rfl) hV1) (Nat.le_of_ble_eq_true rfl) (Nat.le_of_ble_eq_true rfl)
set_option maxRecDepth 100000 in
set_option maxHeartbeats 4000000 in
theorem c_X7_count {l : Launch} {V : VV} {L : LL} {N : NN} {I : List Nat} (hI : PI I) {n : Nat} (hn : V 201 39 = nI n) (hn24 : n ≤ 24) (x : Int32) : Runs l 7 0 0 yX7_count (Cond.code yX7_count cX7_count 2 (some .int)) [aR 200, aI x] V L N I (Pm (some (aI (if th1 (withinB x 0 7) = 0 then cntV V n x.toNatClampNeg else 0))) (fun V1 => SmR V V1 (th1 (withinB x 0 7))) L N I) := by
  refine run_of RX7 (by decide +kernel) rfl (Nat.le_of_ble_eq_true rfl) (fun E hE C hQ hN => ?_)
  subst hE
  refine x_aload_n (pc := 0) C dX7_count_0 rfl ?_
  refine x_iload_n (pc := 1) C dX7_count_1 rfl ?_
  refine x_iconst (pc := 2) C (0) dX7_count_2 (by decide) ?_
  refine x_bipush (pc := 3) C (7) dX7_count_3 (by decide) ?_
  refine x_cS3 (pc := 5) C s_X7_41 dX7_count_5 (c_X7_within _ _ _) (by decide) rfl ⟨Nat.le_refl _, Nat.le_refl _⟩ ?_
  refine x_if_eq (pc := 8) (tgt := 15) C dX7_count_8 (by decide) (fun h8 => ?_) (fun h8 => ?_)
  · refine x_iconst (pc := 15) C (1) dX7_count_15 (by decide) ?_
    refine x_putI (pc := 16) (o := 200) C p_X7_37 dX7_count_16 (hI 200 rfl) ⟨rfl, rfl, rfl⟩ ?_
    refine x_aload_n (pc := 19) C dX7_count_19 rfl ?_
    refine x_getI (pc := 20) (o := 200) C f_X7_37 dX7_count_20 (hI 200 rfl) ⟨rfl, rfl, rfl⟩ ?_
    refine x_topi 1 up_ss ?_
    refine x_if_le (pc := 23) (tgt := 30) C dX7_count_23 (by decide) (fun h23 => absurd h23 (by decide)) (fun h23 => ?_)
    refine x_iconst (pc := 26) C (0) dX7_count_26 (by decide) ?_
    refine x_goto (pc := 27) (tgt := 35) C dX7_count_27 (by decide) ?_
    exact x_iret (pc := 35) C hQ dX7_count_35 (pm_i (if0_1 (th1_1 (b2i_f h8))).symm (by rw [th1_1 (b2i_f h8)]; exact smR_0)) (Nat.le_of_ble_eq_true rfl) (Nat.le_of_ble_eq_true rfl)
  · obtain ⟨w, hw, rfl⟩ := win_of (k := 7) (by decide) (b2i_t h8)
    have hcw : (nI w).toNatClampNeg = w := nI_clamp (by omega)
    refine x_iconst (pc := 11) C (0) dX7_count_11 (by decide) ?_
    refine x_goto (pc := 12) (tgt := 16) C dX7_count_12 (by decide) ?_
    refine x_putI (pc := 16) (o := 200) C p_X7_37 dX7_count_16 (hI 200 rfl) ⟨rfl, rfl, rfl⟩ ?_
    refine x_aload_n (pc := 19) C dX7_count_19 rfl ?_
    refine x_getI (pc := 20) (o := 200) C f_X7_37 dX7_count_20 (hI 200 rfl) ⟨rfl, rfl, rfl⟩ ?_
    refine x_topi 0 up_ss ?_
    refine x_if_le (pc := 23) (tgt := 30) C dX7_count_23 (by decide) (fun h23 => ?_) (fun h23 => absurd (by decide) h23)
    refine x_aload_n (pc := 30) C dX7_count_30 rfl ?_
    refine x_iload_n (pc := 31) C dX7_count_31 rfl ?_
    refine x_pV1 (pc := 32) (o := 200) C v_X7_243 dX7_count_32 (c_X7_counted (V := up V 200 0 0) hI hn hn24 w hw) (hI 200 rfl) rfl (by decide) rfl ⟨Nat.le_refl _, Nat.le_refl _⟩ (fun V1 hV1 => ?_)
    exact x_iret (pc := 35) C hQ dX7_count_35 (pm_i (by rw [if0_t (th1_0 (b2i_t h8))]; exact by rw [hcw]; rfl) (by rw [th1_0 (b2i_t h8)]; exact smR_0.l hV1)) (Nat.le_of_ble_eq_true rfl) (Nat.le_of_ble_eq_true rfl)
set_option maxRecDepth 100000 in
set_option maxHeartbeats 4000000 in
theorem c_X7_setting {l : Launch} {V : VV} {L : LL} {N : NN} {I : List Nat} (hI : PI I) (x : Int32) : Runs l 3 0 0 yX7_setting (Cond.code yX7_setting cX7_setting 2 (some .int)) [aR 200, aI x] V L N I (Pm (some (aI (if th1 (withinB x 0 7) = 0 then V 201 x.toNatClampNeg else 0))) (fun V1 => SmR V V1 (th1 (withinB x 0 7))) L N I) := by
  refine run_of RX7 (by decide +kernel) rfl (Nat.le_of_ble_eq_true rfl) (fun E hE C hQ hN => ?_)
  subst hE
  refine x_aload_n (pc := 0) C dX7_setting_0 rfl ?_
  refine x_iload_n (pc := 1) C dX7_setting_1 rfl ?_
  refine x_cS1 (pc := 2) C s_X7_112 dX7_setting_2 (c_X7_isSetting _) (by decide) rfl ⟨Nat.le_refl _, Nat.le_refl _⟩ ?_
  refine x_if_eq (pc := 5) (tgt := 12) C dX7_setting_5 (by decide) (fun h5 => ?_) (fun h5 => ?_)
  · refine x_iconst (pc := 12) C (1) dX7_setting_12 (by decide) ?_
    refine x_putI (pc := 13) (o := 200) C p_X7_37 dX7_setting_13 (hI 200 rfl) ⟨rfl, rfl, rfl⟩ ?_
    refine x_aload_n (pc := 16) C dX7_setting_16 rfl ?_
    refine x_getI (pc := 17) (o := 200) C f_X7_37 dX7_setting_17 (hI 200 rfl) ⟨rfl, rfl, rfl⟩ ?_
    refine x_topi 1 up_ss ?_
    refine x_if_le (pc := 20) (tgt := 27) C dX7_setting_20 (by decide) (fun h20 => absurd h20 (by decide)) (fun h20 => ?_)
    refine x_iconst (pc := 23) C (0) dX7_setting_23 (by decide) ?_
    refine x_goto (pc := 24) (tgt := 33) C dX7_setting_24 (by decide) ?_
    exact x_iret (pc := 33) C hQ dX7_setting_33 (pm_i (if0_1 (th1_1 (b2i_f h5))).symm (by rw [th1_1 (b2i_f h5)]; exact smR_0)) (Nat.le_of_ble_eq_true rfl) (Nat.le_of_ble_eq_true rfl)
  · obtain ⟨w, hw, rfl⟩ := win_of (k := 7) (by decide) (b2i_t h5)
    have hcw : (nI w).toNatClampNeg = w := nI_clamp (by omega)
    refine x_iconst (pc := 8) C (0) dX7_setting_8 (by decide) ?_
    refine x_goto (pc := 9) (tgt := 13) C dX7_setting_9 (by decide) ?_
    refine x_putI (pc := 13) (o := 200) C p_X7_37 dX7_setting_13 (hI 200 rfl) ⟨rfl, rfl, rfl⟩ ?_
    refine x_aload_n (pc := 16) C dX7_setting_16 rfl ?_
    refine x_getI (pc := 17) (o := 200) C f_X7_37 dX7_setting_17 (hI 200 rfl) ⟨rfl, rfl, rfl⟩ ?_
    refine x_topi 0 up_ss ?_
    refine x_if_le (pc := 20) (tgt := 27) C dX7_setting_20 (by decide) (fun h20 => ?_) (fun h20 => absurd (by decide) h20)
    refine x_aload_n (pc := 27) C dX7_setting_27 rfl ?_
    refine x_getR (pc := 28) (o := 200) (j := 201) C f_X7_7 dX7_setting_28 (hI 200 rfl) ⟨rfl, rfl⟩ ?_
    refine x_iload_n (pc := 31) C dX7_setting_31 rfl ?_
    refine x_iald (pc := 32) (o := 201) C dX7_setting_32 (hI 201 rfl) ⟨rfl, rfl⟩ (show _ < 232 by omega) (by decide) ?_
    exact x_iret (pc := 33) C hQ dX7_setting_33 (pm_i (by rw [if0_t (th1_0 (b2i_t h5))]; exact by rw [hcw]; rfl) (by rw [th1_0 (b2i_t h5)]; exact smR_0)) (Nat.le_of_ble_eq_true rfl) (Nat.le_of_ble_eq_true rfl)
set_option maxRecDepth 100000 in
set_option maxHeartbeats 4000000 in
theorem c_X7_whyTape {l : Launch} {V : VV} {L : LL} {N : NN} {I : List Nat} (hI : PI I) {n : Nat} (hn : V 201 39 = nI n) (hn24 : n ≤ 24) (g : Nat) (hg : g < 6) (d st ln : Int32) : Runs l 6 0 0 yX7_whyTape (Cond.code yX7_whyTape cX7_whyTape 5 (some .int)) [aR 200, aI (nI g), aI d, aI st, aI ln] V L N I (Pm (some (aI (whyN V n g d st ln))) (fun V1 => SmF V V1) L N I) := by
  refine run_of RX7 (by decide +kernel) rfl (Nat.le_of_ble_eq_true rfl) (fun E hE C hQ hN => ?_)
  subst hE
  refine x_aload_n (pc := 0) C dX7_whyTape_0 rfl ?_
  refine x_iconst (pc := 1) C (1) dX7_whyTape_1 (by decide) ?_
  refine x_iload_n (pc := 2) C dX7_whyTape_2 rfl ?_
  refine x_iload_n (pc := 3) C dX7_whyTape_3 rfl ?_
  refine x_iload_n (pc := 4) C dX7_whyTape_4 rfl ?_
  refine x_iload (pc := 5) C dX7_whyTape_5 rfl ?_
  refine x_iconst (pc := 7) C (0) dX7_whyTape_7 (by decide) ?_
  refine x_cV6 (pc := 8) (o := 200) C v_X7_49 dX7_whyTape_8 (c_X7_tape hI _ _ _ _ _ _) (hI 200 rfl) rfl (by decide) rfl ⟨Nat.le_refl _, Nat.le_refl _⟩ ?_
  refine x_aload_n (pc := 11) C dX7_whyTape_11 rfl ?_
  refine x_cV0 (pc := 12) (o := 200) C v_X7_135 dX7_whyTape_12 (c_X7_refusal (V := tapeV V 1 (nI g) d st ln 0 (-1)) hI hn hn24 (o := 0) (fun q => absurd (show (1 : Int32) = 2 from q) (by decide)) rfl hg) (hI 200 rfl) rfl (by decide) rfl ⟨Nat.le_refl _, Nat.le_refl _⟩ ?_
  exact x_iret (pc := 15) C hQ dX7_whyTape_15 (pm_i rfl smF_tp) (Nat.le_of_ble_eq_true rfl) (Nat.le_of_ble_eq_true rfl)
set_option maxRecDepth 100000 in
set_option maxHeartbeats 4000000 in
theorem c_X7_why {l : Launch} {V : VV} {L : LL} {N : NN} {I : List Nat} (hI : PI I) {n : Nat} (hn : V 201 39 = nI n) (hn24 : n ≤ 24) (x d st ln : Int32) : Runs l 7 0 0 yX7_why (Cond.code yX7_why cX7_why 5 (some .int)) [aR 200, aI x, aI d, aI st, aI ln] V L N I (Pm (some (aI (if th1 (rightB x d st ln 0) = 0 then whyN V n x.toNatClampNeg d st ln else 0))) (fun V1 => SmR V V1 (th1 (rightB x d st ln 0))) L N I) := by
  refine run_of RX7 (by decide +kernel) rfl (Nat.le_of_ble_eq_true rfl) (fun E hE C hQ hN => ?_)
  subst hE
  refine x_aload_n (pc := 0) C dX7_why_0 rfl ?_
  refine x_iload_n (pc := 1) C dX7_why_1 rfl ?_
  refine x_iload_n (pc := 2) C dX7_why_2 rfl ?_
  refine x_iload_n (pc := 3) C dX7_why_3 rfl ?_
  refine x_iload (pc := 4) C dX7_why_4 rfl ?_
  refine x_iconst (pc := 6) C (0) dX7_why_6 (by decide) ?_
  refine x_cS5 (pc := 7) C s_X7_145 dX7_why_7 (c_X7_areRight _ _ _ _ _) (by decide) rfl ⟨Nat.le_refl _, Nat.le_refl _⟩ ?_
  refine x_if_eq (pc := 10) (tgt := 17) C dX7_why_10 (by decide) (fun h10 => ?_) (fun h10 => ?_)
  · refine x_iconst (pc := 17) C (1) dX7_why_17 (by decide) ?_
    refine x_putI (pc := 18) (o := 200) C p_X7_37 dX7_why_18 (hI 200 rfl) ⟨rfl, rfl, rfl⟩ ?_
    refine x_aload_n (pc := 21) C dX7_why_21 rfl ?_
    refine x_getI (pc := 22) (o := 200) C f_X7_37 dX7_why_22 (hI 200 rfl) ⟨rfl, rfl, rfl⟩ ?_
    refine x_topi 1 up_ss ?_
    refine x_if_le (pc := 25) (tgt := 32) C dX7_why_25 (by decide) (fun h25 => absurd h25 (by decide)) (fun h25 => ?_)
    refine x_iconst (pc := 28) C (0) dX7_why_28 (by decide) ?_
    refine x_goto (pc := 29) (tgt := 41) C dX7_why_29 (by decide) ?_
    exact x_iret (pc := 41) C hQ dX7_why_41 (pm_i (if0_1 (th1_1 (b2i_f h10))).symm (by rw [th1_1 (b2i_f h10)]; exact smR_0)) (Nat.le_of_ble_eq_true rfl) (Nat.le_of_ble_eq_true rfl)
  · obtain ⟨g, hg, rfl⟩ := right_g (b2i_t h10)
    have hcl : (nI g).toNatClampNeg = g := nI_clamp (by omega)
    refine x_iconst (pc := 13) C (0) dX7_why_13 (by decide) ?_
    refine x_goto (pc := 14) (tgt := 18) C dX7_why_14 (by decide) ?_
    refine x_putI (pc := 18) (o := 200) C p_X7_37 dX7_why_18 (hI 200 rfl) ⟨rfl, rfl, rfl⟩ ?_
    refine x_aload_n (pc := 21) C dX7_why_21 rfl ?_
    refine x_getI (pc := 22) (o := 200) C f_X7_37 dX7_why_22 (hI 200 rfl) ⟨rfl, rfl, rfl⟩ ?_
    refine x_topi 0 up_ss ?_
    refine x_if_le (pc := 25) (tgt := 32) C dX7_why_25 (by decide) (fun h25 => ?_) (fun h25 => absurd (by decide) h25)
    refine x_aload_n (pc := 32) C dX7_why_32 rfl ?_
    refine x_iload_n (pc := 33) C dX7_why_33 rfl ?_
    refine x_iload_n (pc := 34) C dX7_why_34 rfl ?_
    refine x_iload_n (pc := 35) C dX7_why_35 rfl ?_
    refine x_iload (pc := 36) C dX7_why_36 rfl ?_
    refine x_pV4 (pc := 38) (o := 200) C v_X7_246 dX7_why_38 (c_X7_whyTape (V := up V 200 0 0) hI hn hn24 g hg _ _ _) (hI 200 rfl) rfl (by decide) rfl ⟨Nat.le_refl _, Nat.le_refl _⟩ (fun V1 hV1 => ?_)
    exact x_iret (pc := 41) C hQ dX7_why_41 (pm_i (by rw [if0_t (th1_0 (b2i_t h10))]; exact by rw [hcl]; rfl) (by rw [th1_0 (b2i_t h10)]; exact smR_0.f hV1)) (Nat.le_of_ble_eq_true rfl) (Nat.le_of_ble_eq_true rfl)
set_option maxRecDepth 100000 in
set_option maxHeartbeats 4000000 in
theorem c_X7_firstOf {l : Launch} {V : VV} {L : LL} {N : NN} {I : List Nat} (hI : PI I) {n : Nat} (hn : V 201 39 = nI n) (hn24 : n ≤ 24) (g : Nat) (hg : g < 6) (d ln : Int32) : Runs l 7 0 0 yX7_firstOf (Cond.code yX7_firstOf cX7_firstOf 5 (some .int)) [aR 200, aI (nI g), aI d, aI ln] V L N I (Pm (some (aI (fotN V n g d ln 288 0))) (fun V1 => SmF V V1) L N I) := by
  refine run_of RX7 (by decide +kernel) rfl (Nat.le_of_ble_eq_true rfl) (fun E hE C hQ hN => ?_)
  subst hE
  refine x_iconst (pc := 0) C (0) dX7_firstOf_0 (by decide) ?_
  refine y_istore (pc := 1) C dX7_firstOf_1 (by decide) rfl ?_
  suffices key : ∀ (k i : Nat) (V1 : VV), k + i = 288 → (SmF V V1 ∧ fotN V n g d ln 288 0 = fotN V n g d ln k i) → Wx E 3 [some (aR 200), some (aI (nI g)), some (aI d), some (aI ln), some (aI (nI (5 * i)))] [] V1 L N I 0 0 by
    exact key 288 0 _ (by omega) ⟨fun _ _ _ _ => rfl, rfl⟩
  intro k
  induction k with
  | zero =>
    intro i V1 hk hinv
    refine x_iload (pc := 3) C dX7_firstOf_3 rfl ?_
    refine x_sipush (pc := 5) C (1440) dX7_firstOf_5 (by decide) ?_
    refine x_icmp_ge (pc := 8) (tgt := 29) C dX7_firstOf_8 (by decide) (fun h8 => ?_) (fun h8 => absurd (by exact nI_le (a := 1440) (b := 5 * i) (by omega) (by omega)) h8)
    refine x_iload (pc := 29) C dX7_firstOf_29 rfl ?_
    refine x_sipush (pc := 31) C (1440) dX7_firstOf_31 (by decide) ?_
    refine x_icmp_ge (pc := 34) (tgt := 42) C dX7_firstOf_34 (by decide) (fun h34 => ?_) (fun h34 => absurd (by exact nI_le (a := 1440) (b := 5 * i) (by omega) (by omega)) h34)
    refine x_iconst (pc := 42) C (-1) dX7_firstOf_42 (by decide) ?_
    exact x_iret (pc := 43) C hQ dX7_firstOf_43 (pm_i (by rw [hinv.2]; rfl) hinv.1) (Nat.le_of_ble_eq_true rfl) (Nat.le_of_ble_eq_true rfl)
  | succ k ih =>
    intro i V1 hk hinv
    refine x_iload (pc := 3) C dX7_firstOf_3 rfl ?_
    refine x_sipush (pc := 5) C (1440) dX7_firstOf_5 (by decide) ?_
    refine x_icmp_ge (pc := 8) (tgt := 29) C dX7_firstOf_8 (by decide) (fun h8 => absurd h8 (by exact nI_ge (a := 5 * i) (b := 1440) (by omega) (by omega))) (fun h8 => ?_)
    refine x_aload_n (pc := 11) C dX7_firstOf_11 rfl ?_
    refine x_iload_n (pc := 12) C dX7_firstOf_12 rfl ?_
    refine x_iload_n (pc := 13) C dX7_firstOf_13 rfl ?_
    refine x_iload (pc := 14) C dX7_firstOf_14 rfl ?_
    refine x_iload_n (pc := 16) C dX7_firstOf_16 rfl ?_
    refine x_pV4 (pc := 17) (o := 200) C v_X7_246 dX7_firstOf_17 (c_X7_whyTape (V := V1) hI (by rw [hinv.1.z]; exact hn) hn24 g hg _ _ _) (hI 200 rfl) rfl (by decide) rfl ⟨Nat.le_refl _, Nat.le_refl _⟩ (fun V2 hV2 => ?_)
    refine x_topi (whyN V n g d (nI (5 * i)) ln) (whyN_sm hinv.1.z) ?_
    refine x_if_le (pc := 20) (tgt := 29) C dX7_firstOf_20 (by decide) (fun h20 => ?_) (fun h20 => ?_)
    · refine x_iload (pc := 29) C dX7_firstOf_29 rfl ?_
      refine x_sipush (pc := 31) C (1440) dX7_firstOf_31 (by decide) ?_
      refine x_icmp_ge (pc := 34) (tgt := 42) C dX7_firstOf_34 (by decide) (fun h34 => absurd h34 (by exact nI_ge (a := 5 * i) (b := 1440) (by omega) (by omega))) (fun h34 => ?_)
      refine x_iload (pc := 37) C dX7_firstOf_37 rfl ?_
      refine x_goto (pc := 39) (tgt := 43) C dX7_firstOf_39 (by decide) ?_
      exact x_iret (pc := 43) C hQ dX7_firstOf_43 (pm_i (by rw [hinv.2, fotN, if_neg (Int32.not_lt.mpr h20)]) (hinv.1.t hV2)) (Nat.le_of_ble_eq_true rfl) (Nat.le_of_ble_eq_true rfl)
    · refine y_iinc (pc := 23) C (nI (5 * (i + 1))) dX7_firstOf_23 rfl (by rw [show (Int32.ofInt 5) = nI 5 from rfl, nI_add, Nat.mul_add]) (by decide) rfl ?_
      refine x_goto (pc := 26) (tgt := 3) C dX7_firstOf_26 (by decide) ?_
      exact ih (i + 1) _ (by omega) ⟨hinv.1.t hV2, by rw [hinv.2, fotN, if_pos (Int32.not_le.mp h20)]⟩
set_option maxRecDepth 100000 in
set_option maxHeartbeats 4000000 in
theorem c_X7_firstTime {l : Launch} {V : VV} {L : LL} {N : NN} {I : List Nat} (hI : PI I) {n : Nat} (hn : V 201 39 = nI n) (hn24 : n ≤ 24) (x d ln : Int32) : Runs l 8 0 0 yX7_firstTime (Cond.code yX7_firstTime cX7_firstTime 4 (some .int)) [aR 200, aI x, aI d, aI ln] V L N I (Pm (some (aI (if th1 (rightB x d 0 ln 0) = 0 then fotN V n x.toNatClampNeg d ln 288 0 else 0))) (fun V1 => SmR V V1 (th1 (rightB x d 0 ln 0))) L N I) := by
  refine run_of RX7 (by decide +kernel) rfl (Nat.le_of_ble_eq_true rfl) (fun E hE C hQ hN => ?_)
  subst hE
  refine x_aload_n (pc := 0) C dX7_firstTime_0 rfl ?_
  refine x_iload_n (pc := 1) C dX7_firstTime_1 rfl ?_
  refine x_iload_n (pc := 2) C dX7_firstTime_2 rfl ?_
  refine x_iconst (pc := 3) C (0) dX7_firstTime_3 (by decide) ?_
  refine x_iload_n (pc := 4) C dX7_firstTime_4 rfl ?_
  refine x_iconst (pc := 5) C (0) dX7_firstTime_5 (by decide) ?_
  refine x_cS5 (pc := 6) C s_X7_145 dX7_firstTime_6 (c_X7_areRight _ _ _ _ _) (by decide) rfl ⟨Nat.le_refl _, Nat.le_refl _⟩ ?_
  refine x_if_eq (pc := 9) (tgt := 16) C dX7_firstTime_9 (by decide) (fun h9 => ?_) (fun h9 => ?_)
  · refine x_iconst (pc := 16) C (1) dX7_firstTime_16 (by decide) ?_
    refine x_putI (pc := 17) (o := 200) C p_X7_37 dX7_firstTime_17 (hI 200 rfl) ⟨rfl, rfl, rfl⟩ ?_
    refine x_aload_n (pc := 20) C dX7_firstTime_20 rfl ?_
    refine x_getI (pc := 21) (o := 200) C f_X7_37 dX7_firstTime_21 (hI 200 rfl) ⟨rfl, rfl, rfl⟩ ?_
    refine x_topi 1 up_ss ?_
    refine x_if_le (pc := 24) (tgt := 31) C dX7_firstTime_24 (by decide) (fun h24 => absurd h24 (by decide)) (fun h24 => ?_)
    refine x_iconst (pc := 27) C (0) dX7_firstTime_27 (by decide) ?_
    refine x_goto (pc := 28) (tgt := 38) C dX7_firstTime_28 (by decide) ?_
    exact x_iret (pc := 38) C hQ dX7_firstTime_38 (pm_i (if0_1 (th1_1 (b2i_f h9))).symm (by rw [th1_1 (b2i_f h9)]; exact smR_0)) (Nat.le_of_ble_eq_true rfl) (Nat.le_of_ble_eq_true rfl)
  · obtain ⟨g, hg, rfl⟩ := right_g (b2i_t h9)
    have hcl : (nI g).toNatClampNeg = g := nI_clamp (by omega)
    refine x_iconst (pc := 12) C (0) dX7_firstTime_12 (by decide) ?_
    refine x_goto (pc := 13) (tgt := 17) C dX7_firstTime_13 (by decide) ?_
    refine x_putI (pc := 17) (o := 200) C p_X7_37 dX7_firstTime_17 (hI 200 rfl) ⟨rfl, rfl, rfl⟩ ?_
    refine x_aload_n (pc := 20) C dX7_firstTime_20 rfl ?_
    refine x_getI (pc := 21) (o := 200) C f_X7_37 dX7_firstTime_21 (hI 200 rfl) ⟨rfl, rfl, rfl⟩ ?_
    refine x_topi 0 up_ss ?_
    refine x_if_le (pc := 24) (tgt := 31) C dX7_firstTime_24 (by decide) (fun h24 => ?_) (fun h24 => absurd (by decide) h24)
    refine x_aload_n (pc := 31) C dX7_firstTime_31 rfl ?_
    refine x_iload_n (pc := 32) C dX7_firstTime_32 rfl ?_
    refine x_iload_n (pc := 33) C dX7_firstTime_33 rfl ?_
    refine x_iload_n (pc := 34) C dX7_firstTime_34 rfl ?_
    refine x_pV3 (pc := 35) (o := 200) C v_X7_250 dX7_firstTime_35 (c_X7_firstOf (V := up V 200 0 0) hI hn hn24 g hg _ _) (hI 200 rfl) rfl (by decide) rfl ⟨Nat.le_refl _, Nat.le_refl _⟩ (fun V1 hV1 => ?_)
    exact x_iret (pc := 38) C hQ dX7_firstTime_38 (pm_i (by rw [if0_t (th1_0 (b2i_t h9))]; exact by rw [hcl]; exact fotN_sm rfl) (by rw [th1_0 (b2i_t h9)]; exact smR_0.f hV1)) (Nat.le_of_ble_eq_true rfl) (Nat.le_of_ble_eq_true rfl)
set_option maxRecDepth 100000 in
set_option maxHeartbeats 4000000 in
theorem c_X7_repeatOf {l : Launch} {V : VV} {L : LL} {N : NN} {I : List Nat} (hI : PI I) {n : Nat} (hn : V 201 39 = nI n) (hn24 : n ≤ 24) (o : Nat) (ho : o < n) {g : Nat} (hg : g < 6) (hog : RF V 1 o = nI g) : Runs l 6 0 0 yX7_repeatOf (Cond.code yX7_repeatOf cX7_repeatOf 3 (some .int)) [aR 200, aI (nI o)] V L N I (Pm (some (aI (repN V n g o 2016 0))) (fun V1 => SmF V V1) L N I) := by
  refine run_of RX7 (by decide +kernel) rfl (Nat.le_of_ble_eq_true rfl) (fun E hE C hQ hN => ?_)
  subst hE
  refine x_iconst (pc := 0) C (0) dX7_repeatOf_0 (by decide) ?_
  refine y_istore_n (pc := 1) C dX7_repeatOf_1 (by decide) rfl ?_
  suffices key : ∀ (k i : Nat) (V1 : VV), k + i = 2016 → (SmF V V1 ∧ repN V n g o 2016 0 = repN V n g o k i) → Wx E 2 [some (aR 200), some (aI (nI o)), some (aI (nI (5 * i)))] [] V1 L N I 0 0 by
    exact key 2016 0 _ (by omega) ⟨fun _ _ _ _ => rfl, rfl⟩
  intro k
  induction k with
  | zero =>
    intro i V1 hk hinv
    refine x_iload_n (pc := 2) C dX7_repeatOf_2 rfl ?_
    refine x_sipush (pc := 3) C (10080) dX7_repeatOf_3 (by decide) ?_
    refine x_icmp_ge (pc := 6) (tgt := 39) C dX7_repeatOf_6 (by decide) (fun h6 => ?_) (fun h6 => absurd (by exact nI_le (a := 10080) (b := 5 * i) (by omega) (by omega)) h6)
    refine x_iconst (pc := 39) C (-1) dX7_repeatOf_39 (by decide) ?_
    exact x_iret (pc := 40) C hQ dX7_repeatOf_40 (pm_i (by rw [hinv.2]; rfl) hinv.1) (Nat.le_of_ble_eq_true rfl) (Nat.le_of_ble_eq_true rfl)
  | succ k ih =>
    intro i V1 hk hinv
    refine x_iload_n (pc := 2) C dX7_repeatOf_2 rfl ?_
    refine x_sipush (pc := 3) C (10080) dX7_repeatOf_3 (by decide) ?_
    refine x_icmp_ge (pc := 6) (tgt := 39) C dX7_repeatOf_6 (by decide) (fun h6 => absurd h6 (by exact nI_ge (a := 5 * i) (b := 10080) (by omega) (by omega))) (fun h6 => ?_)
    refine x_aload_n (pc := 9) C dX7_repeatOf_9 rfl ?_
    refine x_iload_n (pc := 10) C dX7_repeatOf_10 rfl ?_
    refine x_iload_n (pc := 11) C dX7_repeatOf_11 rfl ?_
    refine x_sipush (pc := 12) C (1440) dX7_repeatOf_12 (by decide) ?_
    refine x_idiv (pc := 15) C dX7_repeatOf_15 (by decide) ?_
    refine x_topi (nI (5 * i / 1440)) (pk_div (a := 5 * i) (d := 1440) (by omega) (by decide) (by decide)) ?_
    refine x_iload_n (pc := 16) C dX7_repeatOf_16 rfl ?_
    refine x_sipush (pc := 17) C (1440) dX7_repeatOf_17 (by decide) ?_
    refine x_irem (pc := 20) C dX7_repeatOf_20 (by decide) ?_
    refine x_topi (nI (5 * i % 1440)) (pk_rem (a := 5 * i) (d := 1440) (by omega) (by decide) (by decide)) ?_
    refine x_cV3 (pc := 21) (o := 200) C v_X7_155 dX7_repeatOf_21 (c_X7_again (V := V1) hI o (by omega) _ _) (hI 200 rfl) rfl (by decide) rfl ⟨Nat.le_refl _, Nat.le_refl _⟩ ?_
    refine x_aload_n (pc := 24) C dX7_repeatOf_24 rfl ?_
    refine x_cV0 (pc := 25) (o := 200) C v_X7_135 dX7_repeatOf_25 (c_X7_refusal (V := tapeV V1 2 (RF V1 1 o) (nI (5 * i / 1440)) (nI (5 * i % 1440)) (RF V1 4 o) 0 (nI o)) hI (by show V1 201 39 = _; rw [hinv.1.z]; exact hn) hn24 (o := o) (g := g) (fun _ => ⟨rfl, by omega⟩) (by show RF V1 1 o = _; rw [RF_z hinv.1.z]; exact hog) hg) (hI 200 rfl) rfl (by decide) rfl ⟨Nat.le_refl _, Nat.le_refl _⟩ ?_
    refine x_topi (rfoN V n g o (nI (5 * i / 1440)) (nI (5 * i % 1440))) (rfo_of hinv.1.z) ?_
    refine x_if_ne (pc := 28) (tgt := 33) C dX7_repeatOf_28 (by decide) (fun h28 => ?_) (fun h28 => ?_)
    · refine y_iinc (pc := 33) C (nI (5 * (i + 1))) dX7_repeatOf_33 rfl (by rw [show (Int32.ofInt 5) = nI 5 from rfl, nI_add, Nat.mul_add]) (by decide) rfl ?_
      refine x_goto (pc := 36) (tgt := 2) C dX7_repeatOf_36 (by decide) ?_
      exact ih (i + 1) _ (by omega) ⟨hinv.1.t smF_tp, by rw [hinv.2, repN, if_neg h28]⟩
    · refine x_iload_n (pc := 31) C dX7_repeatOf_31 rfl ?_
      exact x_iret (pc := 32) C hQ dX7_repeatOf_32 (pm_i (by rw [hinv.2, repN, if_pos h28]) (hinv.1.t smF_tp)) (Nat.le_of_ble_eq_true rfl) (Nat.le_of_ble_eq_true rfl)
set_option maxRecDepth 100000 in
set_option maxHeartbeats 4000000 in
theorem c_X7_firstRepeat {l : Launch} {V : VV} {L : LL} {N : NN} {I : List Nat} (hI : PI I) {n : Nat} (hn : V 201 39 = nI n) (hn24 : n ≤ 24) (hsg : ∀ s, s < n → ∃ g, g < 6 ∧ RF V 1 s = nI g) (x : Int32) : Runs l 7 0 0 yX7_firstRepeat (Cond.code yX7_firstRepeat cX7_firstRepeat 2 (some .int)) [aR 200, aI x] V L N I (Pm (some (aI (if th1 (withinB x 0 (nI n - 1)) = 0 then repN V n (RF V 1 x.toNatClampNeg).toNatClampNeg x.toNatClampNeg 2016 0 else 0))) (fun V1 => SmR V V1 (th1 (withinB x 0 (nI n - 1)))) L N I) := by
  refine run_of RX7 (by decide +kernel) rfl (Nat.le_of_ble_eq_true rfl) (fun E hE C hQ hN => ?_)
  subst hE
  refine x_aload_n (pc := 0) C dX7_firstRepeat_0 rfl ?_
  refine x_aload_n (pc := 1) C dX7_firstRepeat_1 rfl ?_
  refine x_iload_n (pc := 2) C dX7_firstRepeat_2 rfl ?_
  refine x_cV1 (pc := 3) (o := 200) C v_X7_152 dX7_firstRepeat_3 (c_X7_isShow hI hn hn24 _) (hI 200 rfl) rfl (by decide) rfl ⟨Nat.le_refl _, Nat.le_refl _⟩ ?_
  refine x_if_eq (pc := 6) (tgt := 13) C dX7_firstRepeat_6 (by decide) (fun h6 => ?_) (fun h6 => ?_)
  · refine x_iconst (pc := 13) C (1) dX7_firstRepeat_13 (by decide) ?_
    refine x_putI (pc := 14) (o := 200) C p_X7_37 dX7_firstRepeat_14 (hI 200 rfl) ⟨rfl, rfl, rfl⟩ ?_
    refine x_aload_n (pc := 17) C dX7_firstRepeat_17 rfl ?_
    refine x_getI (pc := 18) (o := 200) C f_X7_37 dX7_firstRepeat_18 (hI 200 rfl) ⟨rfl, rfl, rfl⟩ ?_
    refine x_topi 1 up_ss ?_
    refine x_if_le (pc := 21) (tgt := 28) C dX7_firstRepeat_21 (by decide) (fun h21 => absurd h21 (by decide)) (fun h21 => ?_)
    refine x_iconst (pc := 24) C (0) dX7_firstRepeat_24 (by decide) ?_
    refine x_goto (pc := 25) (tgt := 33) C dX7_firstRepeat_25 (by decide) ?_
    exact x_iret (pc := 33) C hQ dX7_firstRepeat_33 (pm_i (if0_1 (th1_1 (b2i_f h6))).symm (by rw [th1_1 (b2i_f h6)]; exact smR_0)) (Nat.le_of_ble_eq_true rfl) (Nat.le_of_ble_eq_true rfl)
  · obtain ⟨o, ho, rfl⟩ := shNat hn24 (b2i_t h6)
    have hcl : (nI o).toNatClampNeg = o := nI_clamp (by omega)
    obtain ⟨g, hg, hog⟩ := hsg o ho
    refine x_iconst (pc := 9) C (0) dX7_firstRepeat_9 (by decide) ?_
    refine x_goto (pc := 10) (tgt := 14) C dX7_firstRepeat_10 (by decide) ?_
    refine x_putI (pc := 14) (o := 200) C p_X7_37 dX7_firstRepeat_14 (hI 200 rfl) ⟨rfl, rfl, rfl⟩ ?_
    refine x_aload_n (pc := 17) C dX7_firstRepeat_17 rfl ?_
    refine x_getI (pc := 18) (o := 200) C f_X7_37 dX7_firstRepeat_18 (hI 200 rfl) ⟨rfl, rfl, rfl⟩ ?_
    refine x_topi 0 up_ss ?_
    refine x_if_le (pc := 21) (tgt := 28) C dX7_firstRepeat_21 (by decide) (fun h21 => ?_) (fun h21 => absurd (by decide) h21)
    refine x_aload_n (pc := 28) C dX7_firstRepeat_28 rfl ?_
    refine x_iload_n (pc := 29) C dX7_firstRepeat_29 rfl ?_
    refine x_pV1 (pc := 30) (o := 200) C v_X7_253 dX7_firstRepeat_30 (c_X7_repeatOf (V := up V 200 0 0) hI hn hn24 o ho hg hog) (hI 200 rfl) rfl (by decide) rfl ⟨Nat.le_refl _, Nat.le_refl _⟩ (fun V1 hV1 => ?_)
    exact x_iret (pc := 33) C hQ dX7_firstRepeat_33 (pm_i (by rw [if0_t (th1_0 (b2i_t h6))]; exact by rw [hcl, hog, nI_clamp (by omega)]; exact repN_sm rfl) (by rw [th1_0 (b2i_t h6)]; exact smR_0.f hV1)) (Nat.le_of_ble_eq_true rfl) (Nat.le_of_ble_eq_true rfl)
