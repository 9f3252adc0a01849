set_option maxRecDepth 100000 in
set_option maxHeartbeats 4000000 in
theorem c_X7_goes {l : Launch} {V : VV} {L : LL} {N : NN} {I : List Nat} (hI : PI I) (b : Bool) (nx : Int32) : Runs l 1 0 0 yX7_goes (Cond.code yX7_goes cX7_goes 3 (some .boolean)) [aR 200, aI (b2i b), aI nx] V L N I (Is (some (aI (b2i b))) (goV V b nx) (L) N I) := by
  refine run_of RX7 (by decide +kernel) rfl (Nat.le_of_ble_eq_true rfl) (fun E hE C hQ hN => ?_)
  subst hE
  refine x_aload_n (pc := 0) C dX7_goes_0 rfl ?_
  refine x_iload_n (pc := 1) C dX7_goes_1 rfl ?_
  refine x_if_eq (pc := 2) (tgt := 9) C dX7_goes_2 (by decide) (fun h2 => ?_) (fun h2 => ?_)
  · refine x_aload_n (pc := 9) C dX7_goes_9 rfl ?_
    refine x_getI (pc := 10) (o := 200) C f_X7_176 dX7_goes_10 (hI 200 rfl) ⟨rfl, rfl, rfl⟩ ?_
    refine x_putI (pc := 13) (o := 200) C p_X7_176 dX7_goes_13 (hI 200 rfl) ⟨rfl, rfl, rfl⟩ ?_
    refine x_iload_n (pc := 16) C dX7_goes_16 rfl ?_
    exact x_zret (pc := 17) C hQ dX7_goes_17 (b2i_01 _) (is_iv rfl (by unfold goV; rw [if_neg (b2i_n h2)])) (Nat.le_of_ble_eq_true rfl) (Nat.le_of_ble_eq_true rfl)
  · refine x_iload_n (pc := 5) C dX7_goes_5 rfl ?_
    refine x_goto (pc := 6) (tgt := 13) C dX7_goes_6 (by decide) ?_
    refine x_putI (pc := 13) (o := 200) C p_X7_176 dX7_goes_13 (hI 200 rfl) ⟨rfl, rfl, rfl⟩ ?_
    refine x_iload_n (pc := 16) C dX7_goes_16 rfl ?_
    exact x_zret (pc := 17) C hQ dX7_goes_17 (b2i_01 _) (is_iv rfl (by unfold goV; rw [if_pos (b2i_t h2)])) (Nat.le_of_ble_eq_true rfl) (Nat.le_of_ble_eq_true rfl)
set_option maxRecDepth 100000 in
set_option maxHeartbeats 4000000 in
theorem c_X7_putRead {l : Launch} {V : VV} {L : LL} {N : NN} {I : List Nat} (hI : PI I) {t : Nat} (ht : V 200 15 = nI t) (ht15 : t ≤ 15) (w : Nat) (hw : w < 6) (x : Int32) : Runs l 1 0 0 yX7_putRead (Cond.code yX7_putRead cX7_putRead 3 none) [aR 200, aI (nI w), aI x] V L N I (Is none (up V 209 (6 * t + w) x) (L) N I) := by
  refine run_of RX7 (by decide +kernel) rfl (Nat.le_of_ble_eq_true rfl) (fun E hE C hQ hN => ?_)
  subst hE
  refine x_aload_n (pc := 0) C dX7_putRead_0 rfl ?_
  refine x_getR (pc := 1) (o := 200) (j := 209) C f_X7_34 dX7_putRead_1 (hI 200 rfl) ⟨rfl, rfl⟩ ?_
  refine x_bipush (pc := 4) C (6) dX7_putRead_4 (by decide) ?_
  refine x_aload_n (pc := 6) C dX7_putRead_6 rfl ?_
  refine x_getI (pc := 7) (o := 200) C f_X7_179 dX7_putRead_7 (hI 200 rfl) ⟨rfl, rfl, rfl⟩ ?_
  refine x_topi (nI t) ht ?_
  refine x_imul (pc := 10) C dX7_putRead_10 ?_
  refine x_iload_n (pc := 11) C dX7_putRead_11 rfl ?_
  refine x_iadd (pc := 12) C dX7_putRead_12 ?_
  refine x_topi (nI (6 * t + w)) (z_ix0 (b := 6)) ?_
  refine x_iload_n (pc := 13) C dX7_putRead_13 rfl ?_
  refine x_iast (pc := 14) (o := 209) C dX7_putRead_14 (hI 209 rfl) ⟨rfl, rfl⟩ (show _ < 96 by omega) (by decide) ?_
  exact x_vret (pc := 15) C hQ dX7_putRead_15 (is_v rfl) (Nat.le_of_ble_eq_true rfl) (Nat.le_of_ble_eq_true rfl)
set_option maxRecDepth 100000 in
set_option maxHeartbeats 4000000 in
theorem c_X7_placeOf {l : Launch} {V : VV} {L : LL} {N : NN} {I : List Nat} (q : Nat) (hq : q ≤ 3) : Runs l 1 0 0 yX7_placeOf (Cond.code yX7_placeOf cX7_placeOf 1 (some .int)) [aI (nI q)] V L N I (Is (some (aI (nI (pcN q)))) (V) (L) N I) := by
  refine run_of RX7 (by decide +kernel) rfl (Nat.le_of_ble_eq_true rfl) (fun E hE C hQ hN => ?_)
  subst hE
  refine x_iload_n (pc := 0) C dX7_placeOf_0 rfl ?_
  refine x_if_ne (pc := 1) (tgt := 8) C dX7_placeOf_1 (by decide) (fun h1 => ?_) (fun h1 => ?_)
  · refine x_iload_n (pc := 8) C dX7_placeOf_8 rfl ?_
    refine x_iconst (pc := 9) C (2) dX7_placeOf_9 (by decide) ?_
    refine x_iadd (pc := 10) C dX7_placeOf_10 ?_
    exact x_iret (pc := 11) C hQ dX7_placeOf_11 (is_i (by unfold pcN; rw [if_neg (fun e => h1 (by rw [e]; rfl))]; exact nI_add q 2)) (Nat.le_of_ble_eq_true rfl) (Nat.le_of_ble_eq_true rfl)
  · refine x_iconst (pc := 4) C (1) dX7_placeOf_4 (by decide) ?_
    refine x_goto (pc := 5) (tgt := 11) C dX7_placeOf_5 (by decide) ?_
    exact x_iret (pc := 11) C hQ dX7_placeOf_11 (is_i (by unfold pcN; rw [if_pos ((nI_eq (b := 0) (by omega) (by decide)).mp h1)]; rfl)) (Nat.le_of_ble_eq_true rfl) (Nat.le_of_ble_eq_true rfl)
set_option maxRecDepth 100000 in
set_option maxHeartbeats 4000000 in
theorem c_X7_begins {l : Launch} {V : VV} {L : LL} {N : NN} {I : List Nat} (hI : PI I) {t : Nat} (ht : V 200 15 = nI t) (ht15 : t ≤ 15) (c : Int32) : Runs l 2 0 0 yX7_begins (Cond.code yX7_begins cX7_begins 2 (some .boolean)) [aR 200, aI c] V L N I (Is (some (aI (b2i (begP V t c).1))) ((begP V t c).2) (L) N I) := by
  refine run_of RX7 (by decide +kernel) rfl (Nat.le_of_ble_eq_true rfl) (fun E hE C hQ hN => ?_)
  subst hE
  have J23 : Wx E 23 [some (aR 200), some (aI c)] [aI (kdC c), aI (nI 0), aR 200] V L N I 0 0 := by
    refine x_cV2 (pc := 23) (o := 200) C v_X7_182 dX7_begins_23 (c_X7_putRead (V := V) hI ht ht15 0 (by decide) _) (hI 200 rfl) rfl (by decide) rfl ⟨Nat.le_refl _, Nat.le_refl _⟩ ?_
    refine x_aload_n (pc := 26) C dX7_begins_26 rfl ?_
    refine x_iconst (pc := 27) C (5) dX7_begins_27 (by decide) ?_
    refine x_iconst (pc := 28) C (0) dX7_begins_28 (by decide) ?_
    refine x_cV2 (pc := 29) (o := 200) C v_X7_182 dX7_begins_29 (c_X7_putRead (V := up V 209 (6 * t + 0) (kdC c)) hI (by rw [up_no (by decide)]; exact ht) ht15 5 (by decide) _) (hI 200 rfl) rfl (by decide) rfl ⟨Nat.le_refl _, Nat.le_refl _⟩ ?_
    refine x_mem (show _ = bg0 V t c from rfl) ?_
    refine x_iload_n (pc := 32) C dX7_begins_32 rfl ?_
    refine x_bipush (pc := 33) C (82) dX7_begins_33 (by decide) ?_
    refine x_icmp_ne (pc := 35) (tgt := 48) C dX7_begins_35 (by decide) (fun h35 => ?_) (fun h35 => ?_)
    · refine x_aload_n (pc := 48) C dX7_begins_48 rfl ?_
      refine x_iload_n (pc := 49) C dX7_begins_49 rfl ?_
      refine x_bipush (pc := 50) C (76) dX7_begins_50 (by decide) ?_
      refine x_icmp_eq (pc := 52) (tgt := 61) C dX7_begins_52 (by decide) (fun h52 => ?_) (fun h52 => ?_)
      · refine x_iconst (pc := 61) C (1) dX7_begins_61 (by decide) ?_
        refine x_goto (pc := 62) (tgt := 66) C dX7_begins_62 (by decide) ?_
        refine x_iconst (pc := 66) C (1) dX7_begins_66 (by decide) ?_
        refine x_cV2 (pc := 67) (o := 200) C v_X7_186 dX7_begins_67 (c_X7_goes (V := bg0 V t c) hI true _) (hI 200 rfl) rfl (by decide) rfl ⟨Nat.le_refl _, Nat.le_refl _⟩ ?_
        exact x_zret (pc := 70) C hQ dX7_begins_70 (b2i_01 _) (is_iv (by rw [begP, if_neg h35]; show _ = b2i (lt2 c); rw [lt2_1 h52]) (by rw [begP, if_neg h35]; show _ = goV (bg0 V t c) (lt2 c) 1; rw [lt2_1 h52])) (Nat.le_of_ble_eq_true rfl) (Nat.le_of_ble_eq_true rfl)
      · refine x_iload_n (pc := 55) C dX7_begins_55 rfl ?_
        refine x_bipush (pc := 56) C (84) dX7_begins_56 (by decide) ?_
        refine x_icmp_ne (pc := 58) (tgt := 65) C dX7_begins_58 (by decide) (fun h58 => ?_) (fun h58 => ?_)
        · refine x_iconst (pc := 65) C (0) dX7_begins_65 (by decide) ?_
          refine x_iconst (pc := 66) C (1) dX7_begins_66 (by decide) ?_
          refine x_cV2 (pc := 67) (o := 200) C v_X7_186 dX7_begins_67 (c_X7_goes (V := bg0 V t c) hI false _) (hI 200 rfl) rfl (by decide) rfl ⟨Nat.le_refl _, Nat.le_refl _⟩ ?_
          exact x_zret (pc := 70) C hQ dX7_begins_70 (b2i_01 _) (is_iv (by rw [begP, if_neg h35]; show _ = b2i (lt2 c); rw [lt2_3 h52 h58]) (by rw [begP, if_neg h35]; show _ = goV (bg0 V t c) (lt2 c) 1; rw [lt2_3 h52 h58])) (Nat.le_of_ble_eq_true rfl) (Nat.le_of_ble_eq_true rfl)
        · refine x_iconst (pc := 61) C (1) dX7_begins_61 (by decide) ?_
          refine x_goto (pc := 62) (tgt := 66) C dX7_begins_62 (by decide) ?_
          refine x_iconst (pc := 66) C (1) dX7_begins_66 (by decide) ?_
          refine x_cV2 (pc := 67) (o := 200) C v_X7_186 dX7_begins_67 (c_X7_goes (V := bg0 V t c) hI true _) (hI 200 rfl) rfl (by decide) rfl ⟨Nat.le_refl _, Nat.le_refl _⟩ ?_
          exact x_zret (pc := 70) C hQ dX7_begins_70 (b2i_01 _) (is_iv (by rw [begP, if_neg h35]; show _ = b2i (lt2 c); rw [lt2_2 h58]) (by rw [begP, if_neg h35]; show _ = goV (bg0 V t c) (lt2 c) 1; rw [lt2_2 h58])) (Nat.le_of_ble_eq_true rfl) (Nat.le_of_ble_eq_true rfl)
    · refine x_aload_n (pc := 38) C dX7_begins_38 rfl ?_
      refine x_iconst (pc := 39) C (1) dX7_begins_39 (by decide) ?_
      refine x_bipush (pc := 40) C (10) dX7_begins_40 (by decide) ?_
      refine x_cV2 (pc := 42) (o := 200) C v_X7_186 dX7_begins_42 (c_X7_goes (V := bg0 V t c) hI true _) (hI 200 rfl) rfl (by decide) rfl ⟨Nat.le_refl _, Nat.le_refl _⟩ ?_
      refine x_goto (pc := 45) (tgt := 70) C dX7_begins_45 (by decide) ?_
      exact x_zret (pc := 70) C hQ dX7_begins_70 (b2i_01 _) (is_iv (by rw [begP, if_pos h35]) (by rw [begP, if_pos h35])) (Nat.le_of_ble_eq_true rfl) (Nat.le_of_ble_eq_true rfl)
  refine x_aload_n (pc := 0) C dX7_begins_0 rfl ?_
  refine x_iconst (pc := 1) C (0) dX7_begins_1 (by decide) ?_
  refine x_iload_n (pc := 2) C dX7_begins_2 rfl ?_
  refine x_bipush (pc := 3) C (76) dX7_begins_3 (by decide) ?_
  refine x_icmp_ne (pc := 5) (tgt := 12) C dX7_begins_5 (by decide) (fun h5 => ?_) (fun h5 => ?_)
  · refine x_iload_n (pc := 12) C dX7_begins_12 rfl ?_
    refine x_bipush (pc := 13) C (84) dX7_begins_13 (by decide) ?_
    refine x_icmp_ne (pc := 15) (tgt := 22) C dX7_begins_15 (by decide) (fun h15 => ?_) (fun h15 => ?_)
    · refine x_iconst (pc := 22) C (2) dX7_begins_22 (by decide) ?_
      refine x_topi (kdC c) (kd_3 h5 h15) ?_
      exact J23
    · refine x_iconst (pc := 18) C (1) dX7_begins_18 (by decide) ?_
      refine x_goto (pc := 19) (tgt := 23) C dX7_begins_19 (by decide) ?_
      refine x_topi (kdC c) (kd_2 h5 h15) ?_
      exact J23
  · refine x_iconst (pc := 8) C (0) dX7_begins_8 (by decide) ?_
    refine x_goto (pc := 9) (tgt := 23) C dX7_begins_9 (by decide) ?_
    refine x_topi (kdC c) (kd_1 h5) ?_
    exact J23
set_option maxRecDepth 100000 in
set_option maxHeartbeats 4000000 in
theorem c_X7_takesDigit {l : Launch} {V : VV} {L : LL} {N : NN} {I : List Nat} (hI : PI I) {t : Nat} (ht : V 200 15 = nI t) (ht15 : t ≤ 15) (c : Int32) (w : Nat) (hw : w < 6) (m nx : Int32) : Runs l 2 0 0 yX7_takesDigit (Cond.code yX7_takesDigit cX7_takesDigit 5 (some .boolean)) [aR 200, aI c, aI (nI w), aI m, aI nx] V L N I (Is (some (aI (b2i (withinB c 48 (48 + m))))) (tdV V t c w m nx) (L) N I) := by
  refine run_of RX7 (by decide +kernel) rfl (Nat.le_of_ble_eq_true rfl) (fun E hE C hQ hN => ?_)
  subst hE
  refine x_aload_n (pc := 0) C dX7_takesDigit_0 rfl ?_
  refine x_iload_n (pc := 1) C dX7_takesDigit_1 rfl ?_
  refine x_iload_n (pc := 2) C dX7_takesDigit_2 rfl ?_
  refine x_bipush (pc := 3) C (48) dX7_takesDigit_3 (by decide) ?_
  refine x_isub (pc := 5) C dX7_takesDigit_5 ?_
  refine x_cV2 (pc := 6) (o := 200) C v_X7_182 dX7_takesDigit_6 (c_X7_putRead hI ht ht15 w hw _) (hI 200 rfl) rfl (by decide) rfl ⟨Nat.le_refl _, Nat.le_refl _⟩ ?_
  refine x_aload_n (pc := 9) C dX7_takesDigit_9 rfl ?_
  refine x_iload_n (pc := 10) C dX7_takesDigit_10 rfl ?_
  refine x_bipush (pc := 11) C (48) dX7_takesDigit_11 (by decide) ?_
  refine x_bipush (pc := 13) C (48) dX7_takesDigit_13 (by decide) ?_
  refine x_iload_n (pc := 15) C dX7_takesDigit_15 rfl ?_
  refine x_iadd (pc := 16) C dX7_takesDigit_16 ?_
  refine x_cS3 (pc := 17) C s_X7_41 dX7_takesDigit_17 (c_X7_within _ _ _) (by decide) rfl ⟨Nat.le_refl _, Nat.le_refl _⟩ ?_
  refine x_iload (pc := 20) C dX7_takesDigit_20 rfl ?_
  refine x_cV2 (pc := 22) (o := 200) C v_X7_186 dX7_takesDigit_22 (c_X7_goes hI _ _) (hI 200 rfl) rfl (by decide) rfl ⟨Nat.le_refl _, Nat.le_refl _⟩ ?_
  exact x_zret (pc := 25) C hQ dX7_takesDigit_25 (b2i_01 _) (is_iv rfl rfl) (Nat.le_of_ble_eq_true rfl) (Nat.le_of_ble_eq_true rfl)
set_option maxRecDepth 100000 in
set_option maxHeartbeats 4000000 in
theorem c_X7_beginsNumber {l : Launch} {V : VV} {L : LL} {N : NN} {I : List Nat} (hI : PI I) {t : Nat} (ht : V 200 15 = nI t) (ht15 : t ≤ 15) (c : Int32) (q : Nat) (hq : q ≤ 3) : Runs l 2 0 0 yX7_beginsNumber (Cond.code yX7_beginsNumber cX7_beginsNumber 3 (some .boolean)) [aR 200, aI c, aI (nI q)] V L N I (Is (some (aI (b2i (withinB c 48 57)))) (bnV V t c q) (L) N I) := by
  refine run_of RX7 (by decide +kernel) rfl (Nat.le_of_ble_eq_true rfl) (fun E hE C hQ hN => ?_)
  subst hE
  refine x_aload_n (pc := 0) C dX7_beginsNumber_0 rfl ?_
  refine x_iload_n (pc := 1) C dX7_beginsNumber_1 rfl ?_
  refine x_cS1 (pc := 2) C s_X7_190 dX7_beginsNumber_2 (c_X7_placeOf q hq) (by decide) rfl ⟨Nat.le_refl _, Nat.le_refl _⟩ ?_
  refine x_iload_n (pc := 5) C dX7_beginsNumber_5 rfl ?_
  refine x_bipush (pc := 6) C (48) dX7_beginsNumber_6 (by decide) ?_
  refine x_isub (pc := 8) C dX7_beginsNumber_8 ?_
  refine x_cV2 (pc := 9) (o := 200) C v_X7_182 dX7_beginsNumber_9 (c_X7_putRead hI ht ht15 (pcN q) (by unfold pcN; split <;> omega) _) (hI 200 rfl) rfl (by decide) rfl ⟨Nat.le_refl _, Nat.le_refl _⟩ ?_
  refine x_aload_n (pc := 12) C dX7_beginsNumber_12 rfl ?_
  refine x_iconst (pc := 13) C (1) dX7_beginsNumber_13 (by decide) ?_
  refine x_putI (pc := 14) (o := 200) C p_X7_193 dX7_beginsNumber_14 (hI 200 rfl) ⟨rfl, rfl, rfl⟩ ?_
  refine x_aload_n (pc := 17) C dX7_beginsNumber_17 rfl ?_
  refine x_iload_n (pc := 18) C dX7_beginsNumber_18 rfl ?_
  refine x_bipush (pc := 19) C (48) dX7_beginsNumber_19 (by decide) ?_
  refine x_bipush (pc := 21) C (57) dX7_beginsNumber_21 (by decide) ?_
  refine x_cS3 (pc := 23) C s_X7_41 dX7_beginsNumber_23 (c_X7_within _ _ _) (by decide) rfl ⟨Nat.le_refl _, Nat.le_refl _⟩ ?_
  refine x_bipush (pc := 26) C (20) dX7_beginsNumber_26 (by decide) ?_
  refine x_iload_n (pc := 28) C dX7_beginsNumber_28 rfl ?_
  refine x_iadd (pc := 29) C dX7_beginsNumber_29 ?_
  refine x_topi (nI (20 + q)) (nI_add 20 q) ?_
  refine x_cV2 (pc := 30) (o := 200) C v_X7_186 dX7_beginsNumber_30 (c_X7_goes hI _ _) (hI 200 rfl) rfl (by decide) rfl ⟨Nat.le_refl _, Nat.le_refl _⟩ ?_
  exact x_zret (pc := 33) C hQ dX7_beginsNumber_33 (b2i_01 _) (is_iv rfl rfl) (Nat.le_of_ble_eq_true rfl) (Nat.le_of_ble_eq_true rfl)
set_option maxRecDepth 100000 in
set_option maxHeartbeats 4000000 in
theorem c_X7_endsShow {l : Launch} {V : VV} {L : LL} {N : NN} {I : List Nat} (hI : PI I) {t : Nat} (ht : V 200 15 = nI t) (ht15 : t ≤ 15) (c : Int32) : Runs l 1 0 0 yX7_endsShow (Cond.code yX7_endsShow cX7_endsShow 2 (some .boolean)) [aR 200, aI c] V L N I (Is (some (aI (b2i (decide (c = 59))))) (enV V t c) (L) N I) := by
  refine run_of RX7 (by decide +kernel) rfl (Nat.le_of_ble_eq_true rfl) (fun E hE C hQ hN => ?_)
  subst hE
  refine x_iload_n (pc := 0) C dX7_endsShow_0 rfl ?_
  refine x_bipush (pc := 1) C (59) dX7_endsShow_1 (by decide) ?_
  refine x_icmp_ne (pc := 3) (tgt := 21) C dX7_endsShow_3 (by decide) (fun h3 => ?_) (fun h3 => ?_)
  · refine x_iload_n (pc := 21) C dX7_endsShow_21 rfl ?_
    refine x_bipush (pc := 22) C (59) dX7_endsShow_22 (by decide) ?_
    refine x_icmp_ne (pc := 24) (tgt := 31) C dX7_endsShow_24 (by decide) (fun h24 => ?_) (fun h24 => absurd h24 (by exact h3))
    refine x_iconst (pc := 31) C (0) dX7_endsShow_31 (by decide) ?_
    exact x_zret (pc := 32) C hQ dX7_endsShow_32 (by decide) (is_iv (by rw [cd_f h3]; rfl) (by unfold enV; rw [if_neg h3])) (Nat.le_of_ble_eq_true rfl) (Nat.le_of_ble_eq_true rfl)
  · refine x_aload_n (pc := 6) C dX7_endsShow_6 rfl ?_
    refine x_dup (pc := 7) C dX7_endsShow_7 rfl ?_
    refine x_getI (pc := 8) (o := 200) C f_X7_179 dX7_endsShow_8 (hI 200 rfl) ⟨rfl, rfl, rfl⟩ ?_
    refine x_topi (nI t) ht ?_
    refine x_iconst (pc := 11) C (1) dX7_endsShow_11 (by decide) ?_
    refine x_iadd (pc := 12) C dX7_endsShow_12 ?_
    refine x_topi (nI (t + 1)) (nI_1 t) ?_
    refine x_putI (pc := 13) (o := 200) C p_X7_179 dX7_endsShow_13 (hI 200 rfl) ⟨rfl, rfl, rfl⟩ ?_
    refine x_aload_n (pc := 16) C dX7_endsShow_16 rfl ?_
    refine x_iconst (pc := 17) C (0) dX7_endsShow_17 (by decide) ?_
    refine x_putI (pc := 18) (o := 200) C p_X7_176 dX7_endsShow_18 (hI 200 rfl) ⟨rfl, rfl, rfl⟩ ?_
    refine x_iload_n (pc := 21) C dX7_endsShow_21 rfl ?_
    refine x_bipush (pc := 22) C (59) dX7_endsShow_22 (by decide) ?_
    refine x_icmp_ne (pc := 24) (tgt := 31) C dX7_endsShow_24 (by decide) (fun h24 => absurd h24 (by exact fun q => q h3)) (fun h24 => ?_)
    refine x_iconst (pc := 27) C (1) dX7_endsShow_27 (by decide) ?_
    refine x_goto (pc := 28) (tgt := 32) C dX7_endsShow_28 (by decide) ?_
    exact x_zret (pc := 32) C hQ dX7_endsShow_32 (by decide) (is_iv (by rw [cd_t h3]; rfl) (by unfold enV; rw [if_pos h3])) (Nat.le_of_ble_eq_true rfl) (Nat.le_of_ble_eq_true rfl)
set_option maxRecDepth 100000 in
set_option maxHeartbeats 4000000 in
theorem c_X7_goesOn {l : Launch} {V : VV} {L : LL} {N : NN} {I : List Nat} (hI : PI I) {t : Nat} (ht : V 200 15 = nI t) (ht15 : t ≤ 15) (c : Int32) (q : Nat) (hq : q ≤ 3) : Runs l 2 0 0 yX7_goesOn (Cond.code yX7_goesOn cX7_goesOn 5 (some .boolean)) [aR 200, aI c, aI (nI q)] V L N I (Is (some (aI (b2i (gnP V t c q).1))) ((gnP V t c q).2) (L) N I) := by
  refine run_of RX7 (by decide +kernel) rfl (Nat.le_of_ble_eq_true rfl) (fun E hE C hQ hN => ?_)
  subst hE
  have hp : pcN q < 6 := by unfold pcN; split <;> omega
  have J46 : withinB c 48 57 = true → Wx E 46 [some (aR 200), some (aI c), some (aI (nI q)), some (aI (nI (6 * t + pcN q))), none] [aI (b2i (gdB V t q))] V L N I 0 0 := by
    intro hw
    refine y_istore (pc := 46) C dX7_goesOn_46 (by decide) rfl ?_
    refine x_aload_n (pc := 48) C dX7_goesOn_48 rfl ?_
    refine x_getR (pc := 49) (o := 200) (j := 209) C f_X7_34 dX7_goesOn_49 (hI 200 rfl) ⟨rfl, rfl⟩ ?_
    refine x_iload_n (pc := 52) C dX7_goesOn_52 rfl ?_
    refine x_iload (pc := 53) C dX7_goesOn_53 rfl ?_
    refine x_if_eq (pc := 55) (tgt := 75) C dX7_goesOn_55 (by decide) (fun h55 => ?_) (fun h55 => ?_)
    · refine x_aload_n (pc := 75) C dX7_goesOn_75 rfl ?_
      refine x_getR (pc := 76) (o := 200) (j := 209) C f_X7_34 dX7_goesOn_76 (hI 200 rfl) ⟨rfl, rfl⟩ ?_
      refine x_iload_n (pc := 79) C dX7_goesOn_79 rfl ?_
      refine x_iald (pc := 80) (o := 209) C dX7_goesOn_80 (hI 209 rfl) ⟨rfl, rfl⟩ (show _ < 96 by omega) (by decide) ?_
      refine x_iast (pc := 81) (o := 209) C dX7_goesOn_81 (hI 209 rfl) ⟨rfl, rfl⟩ (show _ < 96 by omega) (by decide) ?_
      refine x_aload_n (pc := 82) C dX7_goesOn_82 rfl ?_
      refine x_dup (pc := 83) C dX7_goesOn_83 rfl ?_
      refine x_getI (pc := 84) (o := 200) C f_X7_193 dX7_goesOn_84 (hI 200 rfl) ⟨rfl, rfl, rfl⟩ ?_
      refine x_topi (V 200 14) (up_no (by decide)) ?_
      refine x_iload (pc := 87) C dX7_goesOn_87 rfl ?_
      refine x_if_eq (pc := 89) (tgt := 96) C dX7_goesOn_89 (by decide) (fun h89 => ?_) (fun h89 => absurd (by exact h55) h89)
      refine x_iconst (pc := 96) C (0) dX7_goesOn_96 (by decide) ?_
      refine x_iadd (pc := 97) C dX7_goesOn_97 ?_
      refine x_putI (pc := 98) (o := 200) C p_X7_193 dX7_goesOn_98 (hI 200 rfl) ⟨rfl, rfl, rfl⟩ ?_
      refine x_iload (pc := 101) C dX7_goesOn_101 rfl ?_
      exact x_zret (pc := 103) C hQ dX7_goesOn_103 (b2i_01 _) (is_iv (by rw [gn_w hw]) (by rw [gn_w hw]; show _ = ndV V t c q; unfold ndV; rw [h55, if_neg (b2i_n h55)])) (Nat.le_of_ble_eq_true rfl) (Nat.le_of_ble_eq_true rfl)
    · refine x_bipush (pc := 58) C (10) dX7_goesOn_58 (by decide) ?_
      refine x_aload_n (pc := 60) C dX7_goesOn_60 rfl ?_
      refine x_getR (pc := 61) (o := 200) (j := 209) C f_X7_34 dX7_goesOn_61 (hI 200 rfl) ⟨rfl, rfl⟩ ?_
      refine x_iload_n (pc := 64) C dX7_goesOn_64 rfl ?_
      refine x_iald (pc := 65) (o := 209) C dX7_goesOn_65 (hI 209 rfl) ⟨rfl, rfl⟩ (show _ < 96 by omega) (by decide) ?_
      refine x_imul (pc := 66) C dX7_goesOn_66 ?_
      refine x_iload_n (pc := 67) C dX7_goesOn_67 rfl ?_
      refine x_iadd (pc := 68) C dX7_goesOn_68 ?_
      refine x_bipush (pc := 69) C (48) dX7_goesOn_69 (by decide) ?_
      refine x_isub (pc := 71) C dX7_goesOn_71 ?_
      refine x_goto (pc := 72) (tgt := 81) C dX7_goesOn_72 (by decide) ?_
      refine x_iast (pc := 81) (o := 209) C dX7_goesOn_81 (hI 209 rfl) ⟨rfl, rfl⟩ (show _ < 96 by omega) (by decide) ?_
      refine x_aload_n (pc := 82) C dX7_goesOn_82 rfl ?_
      refine x_dup (pc := 83) C dX7_goesOn_83 rfl ?_
      refine x_getI (pc := 84) (o := 200) C f_X7_193 dX7_goesOn_84 (hI 200 rfl) ⟨rfl, rfl, rfl⟩ ?_
      refine x_topi (V 200 14) (up_no (by decide)) ?_
      refine x_iload (pc := 87) C dX7_goesOn_87 rfl ?_
      refine x_if_eq (pc := 89) (tgt := 96) C dX7_goesOn_89 (by decide) (fun h89 => absurd h89 (by exact h55)) (fun h89 => ?_)
      refine x_iconst (pc := 92) C (1) dX7_goesOn_92 (by decide) ?_
      refine x_goto (pc := 93) (tgt := 97) C dX7_goesOn_93 (by decide) ?_
      refine x_iadd (pc := 97) C dX7_goesOn_97 ?_
      refine x_putI (pc := 98) (o := 200) C p_X7_193 dX7_goesOn_98 (hI 200 rfl) ⟨rfl, rfl, rfl⟩ ?_
      refine x_iload (pc := 101) C dX7_goesOn_101 rfl ?_
      exact x_zret (pc := 103) C hQ dX7_goesOn_103 (b2i_01 _) (is_iv (by rw [gn_w hw]) (by rw [gn_w hw]; show _ = ndV V t c q; unfold ndV; rw [b2i_1 h55, if_pos (b2i_t h55)])) (Nat.le_of_ble_eq_true rfl) (Nat.le_of_ble_eq_true rfl)
  refine x_bipush (pc := 0) C (6) dX7_goesOn_0 (by decide) ?_
  refine x_aload_n (pc := 2) C dX7_goesOn_2 rfl ?_
  refine x_getI (pc := 3) (o := 200) C f_X7_179 dX7_goesOn_3 (hI 200 rfl) ⟨rfl, rfl, rfl⟩ ?_
  refine x_topi (nI t) ht ?_
  refine x_imul (pc := 6) C dX7_goesOn_6 ?_
  refine x_iload_n (pc := 7) C dX7_goesOn_7 rfl ?_
  refine x_cS1 (pc := 8) C s_X7_190 dX7_goesOn_8 (c_X7_placeOf q hq) (by decide) rfl ⟨Nat.le_refl _, Nat.le_refl _⟩ ?_
  refine x_iadd (pc := 11) C dX7_goesOn_11 ?_
  refine x_topi (nI (6 * t + pcN q)) (z_ix0 (b := 6)) ?_
  refine y_istore_n (pc := 12) C dX7_goesOn_12 (by decide) rfl ?_
  refine x_iload_n (pc := 13) C dX7_goesOn_13 rfl ?_
  refine x_bipush (pc := 14) C (48) dX7_goesOn_14 (by decide) ?_
  refine x_bipush (pc := 16) C (57) dX7_goesOn_16 (by decide) ?_
  refine x_cS3 (pc := 18) C s_X7_41 dX7_goesOn_18 (c_X7_within _ _ _) (by decide) rfl ⟨Nat.le_refl _, Nat.le_refl _⟩ ?_
  refine x_if_eq (pc := 21) (tgt := 104) C dX7_goesOn_21 (by decide) (fun h21 => ?_) (fun h21 => ?_)
  · refine x_aload_n (pc := 104) C dX7_goesOn_104 rfl ?_
    refine x_getR (pc := 105) (o := 200) (j := 209) C f_X7_34 dX7_goesOn_105 (hI 200 rfl) ⟨rfl, rfl⟩ ?_
    refine x_bipush (pc := 108) C (6) dX7_goesOn_108 (by decide) ?_
    refine x_aload_n (pc := 110) C dX7_goesOn_110 rfl ?_
    refine x_getI (pc := 111) (o := 200) C f_X7_179 dX7_goesOn_111 (hI 200 rfl) ⟨rfl, rfl, rfl⟩ ?_
    refine x_topi (nI t) ht ?_
    refine x_imul (pc := 114) C dX7_goesOn_114 ?_
    refine x_topi (nI (6 * t)) (z_ixm (b := 6)) ?_
    refine x_iald (pc := 115) (o := 209) C dX7_goesOn_115 (hI 209 rfl) ⟨rfl, rfl⟩ (show _ < 96 by omega) (by decide) ?_
    refine x_iconst (pc := 116) C (2) dX7_goesOn_116 (by decide) ?_
    have J125 : Wx E 125 [some (aR 200), some (aI c), some (aI (nI q)), some (aI (nI (6 * t + pcN q))), none] [aI (b2i (decide (V 209 (6 * t) = 2)))] V L N I 0 0 := by
      refine y_istore (pc := 125) C dX7_goesOn_125 (by decide) rfl ?_
      refine x_iload_n (pc := 127) C dX7_goesOn_127 rfl ?_
      rcases (show q = 0 ∨ q = 1 ∨ q = 2 ∨ 2 < q by omega) with rfl | rfl | rfl | hsw128
      · refine x_tableInN (pc := 128) (c := 0) (tgt := 156) C dX7_goesOn_128 (by decide) (by decide) (by decide) rfl (by decide) ?_
        refine x_aload_n (pc := 156) C dX7_goesOn_156 rfl ?_
        refine x_iload_n (pc := 157) C dX7_goesOn_157 rfl ?_
        refine x_bipush (pc := 158) C (46) dX7_goesOn_158 (by decide) ?_
        refine x_icmp_ne (pc := 160) (tgt := 167) C dX7_goesOn_160 (by decide) (fun h160 => ?_) (fun h160 => ?_)
        · refine x_iconst (pc := 167) C (0) dX7_goesOn_167 (by decide) ?_
          refine x_iconst (pc := 168) C (3) dX7_goesOn_168 (by decide) ?_
          refine x_cV2 (pc := 169) (o := 200) C v_X7_186 dX7_goesOn_169 (c_X7_goes hI false _) (hI 200 rfl) rfl (by decide) rfl ⟨Nat.le_refl _, Nat.le_refl _⟩ ?_
          exact x_zret (pc := 172) C hQ dX7_goesOn_172 (b2i_01 _) (is_iv (by rw [gn_0 (b2i_f h21), cd_f h160]) (by rw [gn_0 (b2i_f h21), cd_f h160])) (Nat.le_of_ble_eq_true rfl) (Nat.le_of_ble_eq_true rfl)
        · refine x_iconst (pc := 163) C (1) dX7_goesOn_163 (by decide) ?_
          refine x_goto (pc := 164) (tgt := 168) C dX7_goesOn_164 (by decide) ?_
          refine x_iconst (pc := 168) C (3) dX7_goesOn_168 (by decide) ?_
          refine x_cV2 (pc := 169) (o := 200) C v_X7_186 dX7_goesOn_169 (c_X7_goes hI true _) (hI 200 rfl) rfl (by decide) rfl ⟨Nat.le_refl _, Nat.le_refl _⟩ ?_
          exact x_zret (pc := 172) C hQ dX7_goesOn_172 (b2i_01 _) (is_iv (by rw [gn_0 (b2i_f h21), cd_t h160]) (by rw [gn_0 (b2i_f h21), cd_t h160])) (Nat.le_of_ble_eq_true rfl) (Nat.le_of_ble_eq_true rfl)
      · refine x_tableInN (pc := 128) (c := 1) (tgt := 173) C dX7_goesOn_128 (by decide) (by decide) (by decide) rfl (by decide) ?_
        refine x_iload (pc := 173) C dX7_goesOn_173 rfl ?_
        refine x_if_eq (pc := 175) (tgt := 186) C dX7_goesOn_175 (by decide) (fun h175 => ?_) (fun h175 => ?_)
        · refine x_aload_n (pc := 186) C dX7_goesOn_186 rfl ?_
          refine x_iload_n (pc := 187) C dX7_goesOn_187 rfl ?_
          refine x_bipush (pc := 188) C (43) dX7_goesOn_188 (by decide) ?_
          refine x_icmp_ne (pc := 190) (tgt := 197) C dX7_goesOn_190 (by decide) (fun h190 => ?_) (fun h190 => ?_)
          · refine x_iconst (pc := 197) C (0) dX7_goesOn_197 (by decide) ?_
            refine x_bipush (pc := 198) C (12) dX7_goesOn_198 (by decide) ?_
            refine x_cV2 (pc := 200) (o := 200) C v_X7_186 dX7_goesOn_200 (c_X7_goes hI false _) (hI 200 rfl) rfl (by decide) rfl ⟨Nat.le_refl _, Nat.le_refl _⟩ ?_
            exact x_zret (pc := 203) C hQ dX7_goesOn_203 (b2i_01 _) (is_iv (by rw [gn_1b (b2i_f h21) (b2i_nd h175), cd_f h190]) (by rw [gn_1b (b2i_f h21) (b2i_nd h175), cd_f h190])) (Nat.le_of_ble_eq_true rfl) (Nat.le_of_ble_eq_true rfl)
          · refine x_iconst (pc := 193) C (1) dX7_goesOn_193 (by decide) ?_
            refine x_goto (pc := 194) (tgt := 198) C dX7_goesOn_194 (by decide) ?_
            refine x_bipush (pc := 198) C (12) dX7_goesOn_198 (by decide) ?_
            refine x_cV2 (pc := 200) (o := 200) C v_X7_186 dX7_goesOn_200 (c_X7_goes hI true _) (hI 200 rfl) rfl (by decide) rfl ⟨Nat.le_refl _, Nat.le_refl _⟩ ?_
            exact x_zret (pc := 203) C hQ dX7_goesOn_203 (b2i_01 _) (is_iv (by rw [gn_1b (b2i_f h21) (b2i_nd h175), cd_t h190]) (by rw [gn_1b (b2i_f h21) (b2i_nd h175), cd_t h190])) (Nat.le_of_ble_eq_true rfl) (Nat.le_of_ble_eq_true rfl)
        · refine x_aload_n (pc := 178) C dX7_goesOn_178 rfl ?_
          refine x_iload_n (pc := 179) C dX7_goesOn_179 rfl ?_
          refine x_cV1 (pc := 180) (o := 200) C v_X7_196 dX7_goesOn_180 (c_X7_endsShow (V := V) hI ht ht15 _) (hI 200 rfl) rfl (by decide) rfl ⟨Nat.le_refl _, Nat.le_refl _⟩ ?_
          refine x_goto (pc := 183) (tgt := 203) C dX7_goesOn_183 (by decide) ?_
          exact x_zret (pc := 203) C hQ dX7_goesOn_203 (b2i_01 _) (is_iv (by rw [gn_1a (b2i_f h21) (b2i_d h175)]) (by rw [gn_1a (b2i_f h21) (b2i_d h175)])) (Nat.le_of_ble_eq_true rfl) (Nat.le_of_ble_eq_true rfl)
      · refine x_tableInN (pc := 128) (c := 2) (tgt := 204) C dX7_goesOn_128 (by decide) (by decide) (by decide) rfl (by decide) ?_
        refine x_aload_n (pc := 204) C dX7_goesOn_204 rfl ?_
        refine x_iload_n (pc := 205) C dX7_goesOn_205 rfl ?_
        refine x_bipush (pc := 206) C (58) dX7_goesOn_206 (by decide) ?_
        refine x_icmp_ne (pc := 208) (tgt := 215) C dX7_goesOn_208 (by decide) (fun h208 => ?_) (fun h208 => ?_)
        · refine x_iconst (pc := 215) C (0) dX7_goesOn_215 (by decide) ?_
          refine x_bipush (pc := 216) C (13) dX7_goesOn_216 (by decide) ?_
          refine x_cV2 (pc := 218) (o := 200) C v_X7_186 dX7_goesOn_218 (c_X7_goes hI false _) (hI 200 rfl) rfl (by decide) rfl ⟨Nat.le_refl _, Nat.le_refl _⟩ ?_
          refine x_mem goV_f ?_
          refine x_if_ne (pc := 221) (tgt := 232) C dX7_goesOn_221 (by decide) (fun h221 => absurd h221 (by exact fun q => q rfl)) (fun h221 => ?_)
          refine x_aload_n (pc := 224) C dX7_goesOn_224 rfl ?_
          refine x_iload_n (pc := 225) C dX7_goesOn_225 rfl ?_
          refine x_cV1 (pc := 226) (o := 200) C v_X7_196 dX7_goesOn_226 (c_X7_endsShow (V := V) hI ht ht15 _) (hI 200 rfl) rfl (by decide) rfl ⟨Nat.le_refl _, Nat.le_refl _⟩ ?_
          refine x_if_eq (pc := 229) (tgt := 236) C dX7_goesOn_229 (by decide) (fun h229 => ?_) (fun h229 => ?_)
          · refine x_iconst (pc := 236) C (0) dX7_goesOn_236 (by decide) ?_
            exact x_zret (pc := 237) C hQ dX7_goesOn_237 (by decide) (is_iv (by rw [gn_2b (b2i_f h21) h208]; exact h229.symm) (by rw [gn_2b (b2i_f h21) h208])) (Nat.le_of_ble_eq_true rfl) (Nat.le_of_ble_eq_true rfl)
          · refine x_iconst (pc := 232) C (1) dX7_goesOn_232 (by decide) ?_
            refine x_goto (pc := 233) (tgt := 237) C dX7_goesOn_233 (by decide) ?_
            exact x_zret (pc := 237) C hQ dX7_goesOn_237 (by decide) (is_iv (by rw [gn_2b (b2i_f h21) h208]; exact (b2i_1 h229).symm) (by rw [gn_2b (b2i_f h21) h208])) (Nat.le_of_ble_eq_true rfl) (Nat.le_of_ble_eq_true rfl)
        · refine x_iconst (pc := 211) C (1) dX7_goesOn_211 (by decide) ?_
          refine x_goto (pc := 212) (tgt := 216) C dX7_goesOn_212 (by decide) ?_
          refine x_bipush (pc := 216) C (13) dX7_goesOn_216 (by decide) ?_
          refine x_cV2 (pc := 218) (o := 200) C v_X7_186 dX7_goesOn_218 (c_X7_goes hI true _) (hI 200 rfl) rfl (by decide) rfl ⟨Nat.le_refl _, Nat.le_refl _⟩ ?_
          refine x_if_ne (pc := 221) (tgt := 232) C dX7_goesOn_221 (by decide) (fun h221 => ?_) (fun h221 => absurd h221 (by decide))
          refine x_iconst (pc := 232) C (1) dX7_goesOn_232 (by decide) ?_
          refine x_goto (pc := 233) (tgt := 237) C dX7_goesOn_233 (by decide) ?_
          exact x_zret (pc := 237) C hQ dX7_goesOn_237 (by decide) (is_iv (by rw [gn_2a (b2i_f h21) h208]; rfl) (by rw [gn_2a (b2i_f h21) h208])) (Nat.le_of_ble_eq_true rfl) (Nat.le_of_ble_eq_true rfl)
      · refine x_tableOut (pc := 128) (tgt := 238) C dX7_goesOn_128 (Or.inr (by rw [nI_toInt (by omega)]; omega)) (by decide) ?_
        obtain rfl : q = 3 := by omega
        refine x_aload_n (pc := 238) C dX7_goesOn_238 rfl ?_
        refine x_iload_n (pc := 239) C dX7_goesOn_239 rfl ?_
        refine x_cV1 (pc := 240) (o := 200) C v_X7_196 dX7_goesOn_240 (c_X7_endsShow (V := V) hI ht ht15 _) (hI 200 rfl) rfl (by decide) rfl ⟨Nat.le_refl _, Nat.le_refl _⟩ ?_
        exact x_zret (pc := 243) C hQ dX7_goesOn_243 (b2i_01 _) (is_iv (by rw [gn_3 (b2i_f h21)]) (by rw [gn_3 (b2i_f h21)])) (Nat.le_of_ble_eq_true rfl) (Nat.le_of_ble_eq_true rfl)
    refine x_icmp_ne (pc := 117) (tgt := 124) C dX7_goesOn_117 (by decide) (fun h117 => ?_) (fun h117 => ?_)
    · refine x_iconst (pc := 124) C (0) dX7_goesOn_124 (by decide) ?_
      refine x_topi (b2i (decide (V 209 (6 * t) = 2))) (b2i_cn h117).symm ?_
      exact J125
    · refine x_iconst (pc := 120) C (1) dX7_goesOn_120 (by decide) ?_
      refine x_goto (pc := 121) (tgt := 125) C dX7_goesOn_121 (by decide) ?_
      refine x_topi (b2i (decide (V 209 (6 * t) = 2))) (b2i_c h117).symm ?_
      exact J125
  · refine x_aload_n (pc := 24) C dX7_goesOn_24 rfl ?_
    refine x_getR (pc := 25) (o := 200) (j := 209) C f_X7_34 dX7_goesOn_25 (hI 200 rfl) ⟨rfl, rfl⟩ ?_
    refine x_iload_n (pc := 28) C dX7_goesOn_28 rfl ?_
    refine x_iald (pc := 29) (o := 209) C dX7_goesOn_29 (hI 209 rfl) ⟨rfl, rfl⟩ (show _ < 96 by omega) (by decide) ?_
    refine x_if_le (pc := 30) (tgt := 45) C dX7_goesOn_30 (by decide) (fun h30 => ?_) (fun h30 => ?_)
    · refine x_iconst (pc := 45) C (0) dX7_goesOn_45 (by decide) ?_
      refine x_topi (b2i (gdB V t q)) (by rw [gd_2 (Int32.not_lt.mpr h30)]; rfl) ?_
      exact J46 (b2i_t h21)
    · refine x_aload_n (pc := 33) C dX7_goesOn_33 rfl ?_
      refine x_getI (pc := 34) (o := 200) C f_X7_193 dX7_goesOn_34 (hI 200 rfl) ⟨rfl, rfl, rfl⟩ ?_
      refine x_iconst (pc := 37) C (4) dX7_goesOn_37 (by decide) ?_
      refine x_icmp_ge (pc := 38) (tgt := 45) C dX7_goesOn_38 (by decide) (fun h38 => ?_) (fun h38 => ?_)
      · refine x_iconst (pc := 45) C (0) dX7_goesOn_45 (by decide) ?_
        refine x_topi (b2i (gdB V t q)) (by rw [gd_3 (Int32.not_lt.mpr h38)]; rfl) ?_
        exact J46 (b2i_t h21)
      · refine x_iconst (pc := 41) C (1) dX7_goesOn_41 (by decide) ?_
        refine x_goto (pc := 42) (tgt := 46) C dX7_goesOn_42 (by decide) ?_
        refine x_topi (b2i (gdB V t q)) (by rw [gd_1 (Int32.not_le.mp h30) (Int32.not_le.mp h38)]; rfl) ?_
        exact J46 (b2i_t h21)
set_option maxRecDepth 100000 in
set_option maxHeartbeats 4000000 in
theorem c_X7_takes {l : Launch} {V : VV} {L : LL} {N : NN} {I : List Nat} (hI : PI I) {t : Nat} (ht : V 200 15 = nI t) (ht15 : t ≤ 15) {s : Nat} (hs : V 200 13 = nI s) (hr : s ≤ 4 ∨ (10 ≤ s ∧ s ≤ 13) ∨ (20 ≤ s ∧ s ≤ 23)) (c : Int32) : Runs l 3 0 0 yX7_takes (Cond.code yX7_takes cX7_takes 2 (some .boolean)) [aR 200, aI c] V L N I (Is (some (aI (b2i (tkP V t s c).1))) ((tkP V t s c).2) (L) N I) := by
  refine run_of RX7 (by decide +kernel) rfl (Nat.le_of_ble_eq_true rfl) (fun E hE C hQ hN => ?_)
  subst hE
  refine x_aload_n (pc := 0) C dX7_takes_0 rfl ?_
  refine x_getI (pc := 1) (o := 200) C f_X7_176 dX7_takes_1 (hI 200 rfl) ⟨rfl, rfl, rfl⟩ ?_
  refine x_topi (nI s) hs ?_
  rcases (show s = 0 ∨ s = 1 ∨ s = 2 ∨ s = 3 ∨ s = 4 ∨ 4 < s by omega) with rfl | rfl | rfl | rfl | rfl | hsw4
  · refine x_tableInN (pc := 4) (c := 0) (tgt := 40) C dX7_takes_4 (by decide) (by decide) (by decide) rfl (by decide) ?_
    refine x_aload_n (pc := 40) C dX7_takes_40 rfl ?_
    refine x_iload_n (pc := 41) C dX7_takes_41 rfl ?_
    refine x_cV1 (pc := 42) (o := 200) C v_X7_199 dX7_takes_42 (c_X7_begins hI ht ht15 c) (hI 200 rfl) rfl (by decide) rfl ⟨Nat.le_refl _, Nat.le_refl _⟩ ?_
    exact x_zret (pc := 45) C hQ dX7_takes_45 (b2i_01 _) (is_iv rfl rfl) (Nat.le_of_ble_eq_true rfl) (Nat.le_of_ble_eq_true rfl)
  · refine x_tableInN (pc := 4) (c := 1) (tgt := 46) C dX7_takes_4 (by decide) (by decide) (by decide) rfl (by decide) ?_
    refine x_aload_n (pc := 46) C dX7_takes_46 rfl ?_
    refine x_iload_n (pc := 47) C dX7_takes_47 rfl ?_
    refine x_iconst (pc := 48) C (1) dX7_takes_48 (by decide) ?_
    refine x_iconst (pc := 49) C (5) dX7_takes_49 (by decide) ?_
    refine x_iconst (pc := 50) C (2) dX7_takes_50 (by decide) ?_
    refine x_cV4 (pc := 51) (o := 200) C v_X7_202 dX7_takes_51 (c_X7_takesDigit hI ht ht15 c 1 (by decide) 5 2) (hI 200 rfl) rfl (by decide) rfl ⟨Nat.le_refl _, Nat.le_refl _⟩ ?_
    exact x_zret (pc := 54) C hQ dX7_takes_54 (b2i_01 _) (is_iv rfl rfl) (Nat.le_of_ble_eq_true rfl) (Nat.le_of_ble_eq_true rfl)
  · refine x_tableInN (pc := 4) (c := 2) (tgt := 55) C dX7_takes_4 (by decide) (by decide) (by decide) rfl (by decide) ?_
    refine x_aload_n (pc := 55) C dX7_takes_55 rfl ?_
    refine x_iload_n (pc := 56) C dX7_takes_56 rfl ?_
    refine x_bipush (pc := 57) C (46) dX7_takes_57 (by decide) ?_
    refine x_icmp_ne (pc := 59) (tgt := 66) C dX7_takes_59 (by decide) (fun h59 => ?_) (fun h59 => ?_)
    · refine x_iconst (pc := 66) C (0) dX7_takes_66 (by decide) ?_
      refine x_iconst (pc := 67) C (3) dX7_takes_67 (by decide) ?_
      refine x_cV2 (pc := 68) (o := 200) C v_X7_186 dX7_takes_68 (c_X7_goes hI false _) (hI 200 rfl) rfl (by decide) rfl ⟨Nat.le_refl _, Nat.le_refl _⟩ ?_
      exact x_zret (pc := 71) C hQ dX7_takes_71 (b2i_01 _) (is_iv (by show _ = b2i (decide (c = 46)); rw [cd_f h59]) (by show _ = goV V (decide (c = 46)) _; rw [cd_f h59])) (Nat.le_of_ble_eq_true rfl) (Nat.le_of_ble_eq_true rfl)
    · refine x_iconst (pc := 62) C (1) dX7_takes_62 (by decide) ?_
      refine x_goto (pc := 63) (tgt := 67) C dX7_takes_63 (by decide) ?_
      refine x_iconst (pc := 67) C (3) dX7_takes_67 (by decide) ?_
      refine x_cV2 (pc := 68) (o := 200) C v_X7_186 dX7_takes_68 (c_X7_goes hI true _) (hI 200 rfl) rfl (by decide) rfl ⟨Nat.le_refl _, Nat.le_refl _⟩ ?_
      exact x_zret (pc := 71) C hQ dX7_takes_71 (b2i_01 _) (is_iv (by show _ = b2i (decide (c = 46)); rw [cd_t h59]) (by show _ = goV V (decide (c = 46)) _; rw [cd_t h59])) (Nat.le_of_ble_eq_true rfl) (Nat.le_of_ble_eq_true rfl)
  · refine x_tableInN (pc := 4) (c := 3) (tgt := 72) C dX7_takes_4 (by decide) (by decide) (by decide) rfl (by decide) ?_
    refine x_aload_n (pc := 72) C dX7_takes_72 rfl ?_
    refine x_iload_n (pc := 73) C dX7_takes_73 rfl ?_
    refine x_iconst (pc := 74) C (2) dX7_takes_74 (by decide) ?_
    refine x_bipush (pc := 75) C (6) dX7_takes_75 (by decide) ?_
    refine x_iconst (pc := 77) C (4) dX7_takes_77 (by decide) ?_
    refine x_cV4 (pc := 78) (o := 200) C v_X7_202 dX7_takes_78 (c_X7_takesDigit hI ht ht15 c 2 (by decide) 6 4) (hI 200 rfl) rfl (by decide) rfl ⟨Nat.le_refl _, Nat.le_refl _⟩ ?_
    exact x_zret (pc := 81) C hQ dX7_takes_81 (b2i_01 _) (is_iv rfl rfl) (Nat.le_of_ble_eq_true rfl) (Nat.le_of_ble_eq_true rfl)
  · refine x_tableInN (pc := 4) (c := 4) (tgt := 82) C dX7_takes_4 (by decide) (by decide) (by decide) rfl (by decide) ?_
    refine x_aload_n (pc := 82) C dX7_takes_82 rfl ?_
    refine x_iload_n (pc := 83) C dX7_takes_83 rfl ?_
    refine x_bipush (pc := 84) C (64) dX7_takes_84 (by decide) ?_
    refine x_icmp_ne (pc := 86) (tgt := 93) C dX7_takes_86 (by decide) (fun h86 => ?_) (fun h86 => ?_)
    · refine x_iconst (pc := 93) C (0) dX7_takes_93 (by decide) ?_
      refine x_bipush (pc := 94) C (11) dX7_takes_94 (by decide) ?_
      refine x_cV2 (pc := 96) (o := 200) C v_X7_186 dX7_takes_96 (c_X7_goes hI false _) (hI 200 rfl) rfl (by decide) rfl ⟨Nat.le_refl _, Nat.le_refl _⟩ ?_
      exact x_zret (pc := 99) C hQ dX7_takes_99 (b2i_01 _) (is_iv (by show _ = b2i (decide (c = 64)); rw [cd_f h86]) (by show _ = goV V (decide (c = 64)) _; rw [cd_f h86])) (Nat.le_of_ble_eq_true rfl) (Nat.le_of_ble_eq_true rfl)
    · refine x_iconst (pc := 89) C (1) dX7_takes_89 (by decide) ?_
      refine x_goto (pc := 90) (tgt := 94) C dX7_takes_90 (by decide) ?_
      refine x_bipush (pc := 94) C (11) dX7_takes_94 (by decide) ?_
      refine x_cV2 (pc := 96) (o := 200) C v_X7_186 dX7_takes_96 (c_X7_goes hI true _) (hI 200 rfl) rfl (by decide) rfl ⟨Nat.le_refl _, Nat.le_refl _⟩ ?_
      exact x_zret (pc := 99) C hQ dX7_takes_99 (b2i_01 _) (is_iv (by show _ = b2i (decide (c = 64)); rw [cd_t h86]) (by show _ = goV V (decide (c = 64)) _; rw [cd_t h86])) (Nat.le_of_ble_eq_true rfl) (Nat.le_of_ble_eq_true rfl)
  · refine x_tableOut (pc := 4) (tgt := 100) C dX7_takes_4 (Or.inr (by rw [nI_toInt (by omega)]; omega)) (by decide) ?_
    refine x_aload_n (pc := 100) C dX7_takes_100 rfl ?_
    refine x_getI (pc := 101) (o := 200) C f_X7_176 dX7_takes_101 (hI 200 rfl) ⟨rfl, rfl, rfl⟩ ?_
    refine x_topi (nI s) hs ?_
    refine x_bipush (pc := 104) C (20) dX7_takes_104 (by decide) ?_
    refine x_icmp_ge (pc := 106) (tgt := 124) C dX7_takes_106 (by decide) (fun h106 => ?_) (fun h106 => ?_)
    · have h20 : 20 ≤ s := (nI_leI (a := 20) (by decide) (by omega)).mp h106
      have hq : s - 20 ≤ 3 := by omega
      refine x_aload_n (pc := 124) C dX7_takes_124 rfl ?_
      refine x_iload_n (pc := 125) C dX7_takes_125 rfl ?_
      refine x_aload_n (pc := 126) C dX7_takes_126 rfl ?_
      refine x_getI (pc := 127) (o := 200) C f_X7_176 dX7_takes_127 (hI 200 rfl) ⟨rfl, rfl, rfl⟩ ?_
      refine x_topi (nI s) hs ?_
      refine x_bipush (pc := 130) C (20) dX7_takes_130 (by decide) ?_
      refine x_isub (pc := 132) C dX7_takes_132 ?_
      refine x_topi (nI (s - 20)) (nI_subn (b := 20) h20) ?_
      refine x_cV2 (pc := 133) (o := 200) C v_X7_209 dX7_takes_133 (c_X7_goesOn hI ht ht15 c (s - 20) hq) (hI 200 rfl) rfl (by decide) rfl ⟨Nat.le_refl _, Nat.le_refl _⟩ ?_
      exact x_zret (pc := 136) C hQ dX7_takes_136 (b2i_01 _) (is_iv (by rw [tk_6 h20]) (by rw [tk_6 h20])) (Nat.le_of_ble_eq_true rfl) (Nat.le_of_ble_eq_true rfl)
    · have h20 : s < 20 := by have := mt (nI_leI (a := 20) (b := s) (by decide) (by omega)).mpr h106; omega
      have hq : s - 10 ≤ 3 := by omega
      refine x_aload_n (pc := 109) C dX7_takes_109 rfl ?_
      refine x_iload_n (pc := 110) C dX7_takes_110 rfl ?_
      refine x_aload_n (pc := 111) C dX7_takes_111 rfl ?_
      refine x_getI (pc := 112) (o := 200) C f_X7_176 dX7_takes_112 (hI 200 rfl) ⟨rfl, rfl, rfl⟩ ?_
      refine x_topi (nI s) hs ?_
      refine x_bipush (pc := 115) C (10) dX7_takes_115 (by decide) ?_
      refine x_isub (pc := 117) C dX7_takes_117 ?_
      refine x_topi (nI (s - 10)) (nI_subn (b := 10) (by omega)) ?_
      refine x_cV2 (pc := 118) (o := 200) C v_X7_206 dX7_takes_118 (c_X7_beginsNumber hI ht ht15 c (s - 10) hq) (hI 200 rfl) rfl (by decide) rfl ⟨Nat.le_refl _, Nat.le_refl _⟩ ?_
      refine x_goto (pc := 121) (tgt := 136) C dX7_takes_121 (by decide) ?_
      exact x_zret (pc := 136) C hQ dX7_takes_136 (b2i_01 _) (is_iv (by rw [tk_5 hsw4 h20]) (by rw [tk_5 hsw4 h20])) (Nat.le_of_ble_eq_true rfl) (Nat.le_of_ble_eq_true rfl)
