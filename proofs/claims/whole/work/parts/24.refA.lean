set_option maxRecDepth 100000 in
set_option maxHeartbeats 4000000 in
theorem c_X7_thrown {l : Launch} {V : VV} {L : LL} {N : NN} {I : List Nat} (hI : PI I) : Runs l 1 0 0 yX7_thrown (Cond.code yX7_thrown cX7_thrown 1 (some .int)) [aR 200] V L N I (Is (some (aI (V 200 0))) (V) (L) N I) := by
  refine run_of RX7 (by decide +kernel) rfl (Nat.le_of_ble_eq_true rfl) (fun E hE C hQ hN => ?_)
  subst hE
  refine x_aload_n (pc := 0) C dX7_thrown_0 rfl ?_
  refine x_getI (pc := 1) (o := 200) C f_X7_37 dX7_thrown_1 (hI 200 rfl) ⟨rfl, rfl, rfl⟩ ?_
  exact x_iret (pc := 4) C hQ dX7_thrown_4 (is_i rfl) (Nat.le_of_ble_eq_true rfl) (Nat.le_of_ble_eq_true rfl)
set_option maxRecDepth 100000 in
set_option maxHeartbeats 4000000 in
theorem c_X7_within {l : Launch} {V : VV} {L : LL} {N : NN} {I : List Nat} (v lo hi : Int32) : Runs l 1 0 0 yX7_within (Cond.code yX7_within cX7_within 3 (some .boolean)) [aI v, aI lo, aI hi] V L N I (Is (some (aI (b2i (withinB v lo hi)))) (V) (L) N I) := by
  refine run_of RX7 (by decide +kernel) rfl (Nat.le_of_ble_eq_true rfl) (fun E hE C hQ hN => ?_)
  subst hE
  refine x_iload_n (pc := 0) C dX7_within_0 rfl ?_
  refine x_iload_n (pc := 1) C dX7_within_1 rfl ?_
  refine x_icmp_lt (pc := 2) (tgt := 14) C dX7_within_2 (by decide) (fun h2 => ?_) (fun h2 => ?_)
  · refine x_iconst (pc := 14) C (0) dX7_within_14 (by decide) ?_
    exact x_zret (pc := 15) C hQ dX7_within_15 (by decide) (is_i (by first | exact wi_t h2 h7 | exact wi_f1 h2 | exact wi_f2 h7)) (Nat.le_of_ble_eq_true rfl) (Nat.le_of_ble_eq_true rfl)
  · refine x_iload_n (pc := 5) C dX7_within_5 rfl ?_
    refine x_iload_n (pc := 6) C dX7_within_6 rfl ?_
    refine x_icmp_gt (pc := 7) (tgt := 14) C dX7_within_7 (by decide) (fun h7 => ?_) (fun h7 => ?_)
    · refine x_iconst (pc := 14) C (0) dX7_within_14 (by decide) ?_
      exact x_zret (pc := 15) C hQ dX7_within_15 (by decide) (is_i (by first | exact wi_t h2 h7 | exact wi_f1 h2 | exact wi_f2 h7)) (Nat.le_of_ble_eq_true rfl) (Nat.le_of_ble_eq_true rfl)
    · refine x_iconst (pc := 10) C (1) dX7_within_10 (by decide) ?_
      refine x_goto (pc := 11) (tgt := 15) C dX7_within_11 (by decide) ?_
      exact x_zret (pc := 15) C hQ dX7_within_15 (by decide) (is_i (by first | exact wi_t h2 h7 | exact wi_f1 h2 | exact wi_f2 h7)) (Nat.le_of_ble_eq_true rfl) (Nat.le_of_ble_eq_true rfl)
set_option maxRecDepth 100000 in
set_option maxHeartbeats 4000000 in
theorem c_X7_of {l : Launch} {V : VV} {L : LL} {N : NN} {I : List Nat} (hI : PI I) (s k : Nat) (hs : 40 + 8 * s + k < 232) : Runs l 1 0 0 yX7_of (Cond.code yX7_of cX7_of 3 (some .int)) [aR 200, aI (nI s), aI (nI k)] V L N I (Is (some (aI (V 201 (40 + 8 * s + k)))) (V) (L) N I) := by
  refine run_of RX7 (by decide +kernel) rfl (Nat.le_of_ble_eq_true rfl) (fun E hE C hQ hN => ?_)
  subst hE
  refine x_aload_n (pc := 0) C dX7_of_0 rfl ?_
  refine x_getR (pc := 1) (o := 200) (j := 201) C f_X7_7 dX7_of_1 (hI 200 rfl) ⟨rfl, rfl⟩ ?_
  refine x_bipush (pc := 4) C (40) dX7_of_4 (by decide) ?_
  refine x_bipush (pc := 6) C (8) dX7_of_6 (by decide) ?_
  refine x_iload_n (pc := 8) C dX7_of_8 rfl ?_
  refine x_imul (pc := 9) C dX7_of_9 ?_
  refine x_iadd (pc := 10) C dX7_of_10 ?_
  refine x_iload_n (pc := 11) C dX7_of_11 rfl ?_
  refine x_iadd (pc := 12) C dX7_of_12 ?_
  refine x_topi (nI (40 + 8 * s + k)) (z_ix (a := 40) (b := 8)) ?_
  refine x_iald (pc := 13) (o := 201) C dX7_of_13 (hI 201 rfl) ⟨rfl, rfl⟩ (show _ < 232 by omega) (by decide) ?_
  exact x_iret (pc := 14) C hQ dX7_of_14 (is_i rfl) (Nat.le_of_ble_eq_true rfl) (Nat.le_of_ble_eq_true rfl)
set_option maxRecDepth 100000 in
set_option maxHeartbeats 4000000 in
theorem c_X7_put {l : Launch} {V : VV} {L : LL} {N : NN} {I : List Nat} (hI : PI I) (s k : Nat) (v : Int32) (hs : 40 + 8 * s + k < 232) : Runs l 1 0 0 yX7_put (Cond.code yX7_put cX7_put 4 none) [aR 200, aI (nI s), aI (nI k), aI v] V L N I (Is none (up V 201 (40 + 8 * s + k) v) (L) N I) := by
  refine run_of RX7 (by decide +kernel) rfl (Nat.le_of_ble_eq_true rfl) (fun E hE C hQ hN => ?_)
  subst hE
  refine x_aload_n (pc := 0) C dX7_put_0 rfl ?_
  refine x_getR (pc := 1) (o := 200) (j := 201) C f_X7_7 dX7_put_1 (hI 200 rfl) ⟨rfl, rfl⟩ ?_
  refine x_bipush (pc := 4) C (40) dX7_put_4 (by decide) ?_
  refine x_bipush (pc := 6) C (8) dX7_put_6 (by decide) ?_
  refine x_iload_n (pc := 8) C dX7_put_8 rfl ?_
  refine x_imul (pc := 9) C dX7_put_9 ?_
  refine x_iadd (pc := 10) C dX7_put_10 ?_
  refine x_iload_n (pc := 11) C dX7_put_11 rfl ?_
  refine x_iadd (pc := 12) C dX7_put_12 ?_
  refine x_topi (nI (40 + 8 * s + k)) (z_ix (a := 40) (b := 8)) ?_
  refine x_iload_n (pc := 13) C dX7_put_13 rfl ?_
  refine x_iast (pc := 14) (o := 201) C dX7_put_14 (hI 201 rfl) ⟨rfl, rfl⟩ (show _ < 232 by omega) (by decide) ?_
  exact x_vret (pc := 15) C hQ dX7_put_15 (is_v rfl) (Nat.le_of_ble_eq_true rfl) (Nat.le_of_ble_eq_true rfl)
set_option maxRecDepth 100000 in
set_option maxHeartbeats 4000000 in
theorem c_X7_isShow {l : Launch} {V : VV} {L : LL} {N : NN} {I : List Nat} (hI : PI I) {n : Nat} (hn : V 201 39 = nI n) (hn24 : n ≤ 24) (v : Int32) : Runs l 2 0 0 yX7_isShow (Cond.code yX7_isShow cX7_isShow 2 (some .boolean)) [aR 200, aI v] V L N I (Is (some (aI (b2i (withinB v 0 (nI n - 1))))) (V) (L) N I) := by
  refine run_of RX7 (by decide +kernel) rfl (Nat.le_of_ble_eq_true rfl) (fun E hE C hQ hN => ?_)
  subst hE
  refine x_iload_n (pc := 0) C dX7_isShow_0 rfl ?_
  refine x_iconst (pc := 1) C (0) dX7_isShow_1 (by decide) ?_
  refine x_aload_n (pc := 2) C dX7_isShow_2 rfl ?_
  refine x_getR (pc := 3) (o := 200) (j := 201) C f_X7_7 dX7_isShow_3 (hI 200 rfl) ⟨rfl, rfl⟩ ?_
  refine x_bipush (pc := 6) C (39) dX7_isShow_6 (by decide) ?_
  refine x_topi (nI 39) (by decide) ?_
  refine x_iald (pc := 8) (o := 201) C dX7_isShow_8 (hI 201 rfl) ⟨rfl, rfl⟩ (show _ < 232 by decide) (by decide) ?_
  refine x_topi (nI n) hn ?_
  refine x_iconst (pc := 9) C (1) dX7_isShow_9 (by decide) ?_
  refine x_isub (pc := 10) C dX7_isShow_10 ?_
  refine x_cS3 (pc := 11) C s_X7_41 dX7_isShow_11 (c_X7_within _ _ _) (by decide) rfl ⟨Nat.le_refl _, Nat.le_refl _⟩ ?_
  exact x_zret (pc := 14) C hQ dX7_isShow_14 (b2i_01 _) (is_i rfl) (Nat.le_of_ble_eq_true rfl) (Nat.le_of_ble_eq_true rfl)
set_option maxRecDepth 100000 in
set_option maxHeartbeats 4000000 in
theorem c_X7_isGroup {l : Launch} {V : VV} {L : LL} {N : NN} {I : List Nat} (v : Int32) : Runs l 2 0 0 yX7_isGroup (Cond.code yX7_isGroup cX7_isGroup 1 (some .boolean)) [aI v] V L N I (Is (some (aI (b2i (withinB v 0 5)))) (V) (L) N I) := by
  refine run_of RX7 (by decide +kernel) rfl (Nat.le_of_ble_eq_true rfl) (fun E hE C hQ hN => ?_)
  subst hE
  refine x_iload_n (pc := 0) C dX7_isGroup_0 rfl ?_
  refine x_iconst (pc := 1) C (0) dX7_isGroup_1 (by decide) ?_
  refine x_iconst (pc := 2) C (5) dX7_isGroup_2 (by decide) ?_
  refine x_cS3 (pc := 3) C s_X7_41 dX7_isGroup_3 (c_X7_within _ _ _) (by decide) rfl ⟨Nat.le_refl _, Nat.le_refl _⟩ ?_
  exact x_zret (pc := 6) C hQ dX7_isGroup_6 (b2i_01 _) (is_i rfl) (Nat.le_of_ble_eq_true rfl) (Nat.le_of_ble_eq_true rfl)
set_option maxRecDepth 100000 in
set_option maxHeartbeats 4000000 in
theorem c_X7_isDay {l : Launch} {V : VV} {L : LL} {N : NN} {I : List Nat} (v : Int32) : Runs l 2 0 0 yX7_isDay (Cond.code yX7_isDay cX7_isDay 1 (some .boolean)) [aI v] V L N I (Is (some (aI (b2i (withinB v 0 6)))) (V) (L) N I) := by
  refine run_of RX7 (by decide +kernel) rfl (Nat.le_of_ble_eq_true rfl) (fun E hE C hQ hN => ?_)
  subst hE
  refine x_iload_n (pc := 0) C dX7_isDay_0 rfl ?_
  refine x_iconst (pc := 1) C (0) dX7_isDay_1 (by decide) ?_
  refine x_bipush (pc := 2) C (6) dX7_isDay_2 (by decide) ?_
  refine x_cS3 (pc := 4) C s_X7_41 dX7_isDay_4 (c_X7_within _ _ _) (by decide) rfl ⟨Nat.le_refl _, Nat.le_refl _⟩ ?_
  exact x_zret (pc := 7) C hQ dX7_isDay_7 (b2i_01 _) (is_i rfl) (Nat.le_of_ble_eq_true rfl) (Nat.le_of_ble_eq_true rfl)
set_option maxRecDepth 100000 in
set_option maxHeartbeats 4000000 in
theorem c_X7_isStart {l : Launch} {V : VV} {L : LL} {N : NN} {I : List Nat} (v : Int32) : Runs l 2 0 0 yX7_isStart (Cond.code yX7_isStart cX7_isStart 1 (some .boolean)) [aI v] V L N I (Is (some (aI (b2i (withinB v 0 1439)))) (V) (L) N I) := by
  refine run_of RX7 (by decide +kernel) rfl (Nat.le_of_ble_eq_true rfl) (fun E hE C hQ hN => ?_)
  subst hE
  refine x_iload_n (pc := 0) C dX7_isStart_0 rfl ?_
  refine x_iconst (pc := 1) C (0) dX7_isStart_1 (by decide) ?_
  refine x_sipush (pc := 2) C (1439) dX7_isStart_2 (by decide) ?_
  refine x_cS3 (pc := 5) C s_X7_41 dX7_isStart_5 (c_X7_within _ _ _) (by decide) rfl ⟨Nat.le_refl _, Nat.le_refl _⟩ ?_
  exact x_zret (pc := 8) C hQ dX7_isStart_8 (b2i_01 _) (is_i rfl) (Nat.le_of_ble_eq_true rfl) (Nat.le_of_ble_eq_true rfl)
set_option maxRecDepth 100000 in
set_option maxHeartbeats 4000000 in
theorem c_X7_isLength {l : Launch} {V : VV} {L : LL} {N : NN} {I : List Nat} (v : Int32) : Runs l 2 0 0 yX7_isLength (Cond.code yX7_isLength cX7_isLength 1 (some .boolean)) [aI v] V L N I (Is (some (aI (b2i (withinB v 5 240)))) (V) (L) N I) := by
  refine run_of RX7 (by decide +kernel) rfl (Nat.le_of_ble_eq_true rfl) (fun E hE C hQ hN => ?_)
  subst hE
  refine x_iload_n (pc := 0) C dX7_isLength_0 rfl ?_
  refine x_iconst (pc := 1) C (5) dX7_isLength_1 (by decide) ?_
  refine x_sipush (pc := 2) C (240) dX7_isLength_2 (by decide) ?_
  refine x_cS3 (pc := 5) C s_X7_41 dX7_isLength_5 (c_X7_within _ _ _) (by decide) rfl ⟨Nat.le_refl _, Nat.le_refl _⟩ ?_
  exact x_zret (pc := 8) C hQ dX7_isLength_8 (b2i_01 _) (is_i rfl) (Nat.le_of_ble_eq_true rfl) (Nat.le_of_ble_eq_true rfl)
set_option maxRecDepth 100000 in
set_option maxHeartbeats 4000000 in
theorem c_X7_worth {l : Launch} {V : VV} {L : LL} {N : NN} {I : List Nat} (hI : PI I) (k m : Int32) : Runs l 1 0 0 yX7_worth (Cond.code yX7_worth cX7_worth 3 (some .int)) [aR 200, aI k, aI m] V L N I (Is (some (aI (worthF (V 201 5) k m))) (V) (L) N I) := by
  refine run_of RX7 (by decide +kernel) rfl (Nat.le_of_ble_eq_true rfl) (fun E hE C hQ hN => ?_)
  subst hE
  refine x_iload_n (pc := 0) C dX7_worth_0 rfl ?_
  refine x_iconst (pc := 1) C (2) dX7_worth_1 (by decide) ?_
  refine x_icmp_ne (pc := 2) (tgt := 19) C dX7_worth_2 (by decide) (fun h2 => ?_) (fun h2 => ?_)
  · refine x_iload_n (pc := 19) C dX7_worth_19 rfl ?_
    exact x_iret (pc := 20) C hQ dX7_worth_20 (is_i (by simp [worthF, *])) (Nat.le_of_ble_eq_true rfl) (Nat.le_of_ble_eq_true rfl)
  · refine x_iload_n (pc := 5) C dX7_worth_5 rfl ?_
    refine x_aload_n (pc := 6) C dX7_worth_6 rfl ?_
    refine x_getR (pc := 7) (o := 200) (j := 201) C f_X7_7 dX7_worth_7 (hI 200 rfl) ⟨rfl, rfl⟩ ?_
    refine x_iconst (pc := 10) C (5) dX7_worth_10 (by decide) ?_
    refine x_topi (nI 5) (by decide) ?_
    refine x_iald (pc := 11) (o := 201) C dX7_worth_11 (hI 201 rfl) ⟨rfl, rfl⟩ (show _ < 232 by decide) (by decide) ?_
    refine x_imul (pc := 12) C dX7_worth_12 ?_
    refine x_bipush (pc := 13) C (100) dX7_worth_13 (by decide) ?_
    refine x_idiv (pc := 15) C dX7_worth_15 (by decide) ?_
    refine x_goto (pc := 16) (tgt := 20) C dX7_worth_16 (by decide) ?_
    exact x_iret (pc := 20) C hQ dX7_worth_20 (is_i (by simp [worthF, *])) (Nat.le_of_ble_eq_true rfl) (Nat.le_of_ble_eq_true rfl)
set_option maxRecDepth 100000 in
set_option maxHeartbeats 4000000 in
theorem c_X7_allowance {l : Launch} {V : VV} {L : LL} {N : NN} {I : List Nat} (hI : PI I) (g : Nat) (hg : g < 6) : Runs l 1 0 0 yX7_allowance (Cond.code yX7_allowance cX7_allowance 2 (some .int)) [aR 200, aI (nI g)] V L N I (Is (some (aI (V 201 (8 + 5 * g + 0) + V 201 (8 + 5 * g + 1)))) (V) (L) N I) := by
  refine run_of RX7 (by decide +kernel) rfl (Nat.le_of_ble_eq_true rfl) (fun E hE C hQ hN => ?_)
  subst hE
  refine x_aload_n (pc := 0) C dX7_allowance_0 rfl ?_
  refine x_getR (pc := 1) (o := 200) (j := 201) C f_X7_7 dX7_allowance_1 (hI 200 rfl) ⟨rfl, rfl⟩ ?_
  refine x_bipush (pc := 4) C (8) dX7_allowance_4 (by decide) ?_
  refine x_iconst (pc := 6) C (5) dX7_allowance_6 (by decide) ?_
  refine x_iload_n (pc := 7) C dX7_allowance_7 rfl ?_
  refine x_imul (pc := 8) C dX7_allowance_8 ?_
  refine x_iadd (pc := 9) C dX7_allowance_9 ?_
  refine x_iconst (pc := 10) C (0) dX7_allowance_10 (by decide) ?_
  refine x_iadd (pc := 11) C dX7_allowance_11 ?_
  refine x_topi (nI (8 + 5 * g + 0)) (z_ix (a := 8) (b := 5) (c := 0)) ?_
  refine x_iald (pc := 12) (o := 201) C dX7_allowance_12 (hI 201 rfl) ⟨rfl, rfl⟩ (show _ < 232 by omega) (by decide) ?_
  refine x_aload_n (pc := 13) C dX7_allowance_13 rfl ?_
  refine x_getR (pc := 14) (o := 200) (j := 201) C f_X7_7 dX7_allowance_14 (hI 200 rfl) ⟨rfl, rfl⟩ ?_
  refine x_bipush (pc := 17) C (8) dX7_allowance_17 (by decide) ?_
  refine x_iconst (pc := 19) C (5) dX7_allowance_19 (by decide) ?_
  refine x_iload_n (pc := 20) C dX7_allowance_20 rfl ?_
  refine x_imul (pc := 21) C dX7_allowance_21 ?_
  refine x_iadd (pc := 22) C dX7_allowance_22 ?_
  refine x_iconst (pc := 23) C (1) dX7_allowance_23 (by decide) ?_
  refine x_iadd (pc := 24) C dX7_allowance_24 ?_
  refine x_topi (nI (8 + 5 * g + 1)) (z_ix (a := 8) (b := 5) (c := 1)) ?_
  refine x_iald (pc := 25) (o := 201) C dX7_allowance_25 (hI 201 rfl) ⟨rfl, rfl⟩ (show _ < 232 by omega) (by decide) ?_
  refine x_iadd (pc := 26) C dX7_allowance_26 ?_
  exact x_iret (pc := 27) C hQ dX7_allowance_27 (is_i rfl) (Nat.le_of_ble_eq_true rfl) (Nat.le_of_ble_eq_true rfl)
set_option maxRecDepth 100000 in
set_option maxHeartbeats 4000000 in
theorem c_X7_tape {l : Launch} {V : VV} {L : LL} {N : NN} {I : List Nat} (hI : PI I) (k g d s l2 sp : Int32) : Runs l 1 0 0 yX7_tape (Cond.code yX7_tape cX7_tape 7 none) [aR 200, aI k, aI g, aI d, aI s, aI l2, aI sp] V L N I (Is none (tapeV V k g d s l2 sp (-1)) (L) N I) := by
  refine run_of RX7 (by decide +kernel) rfl (Nat.le_of_ble_eq_true rfl) (fun E hE C hQ hN => ?_)
  subst hE
  refine x_aload_n (pc := 0) C dX7_tape_0 rfl ?_
  refine x_getR (pc := 1) (o := 200) (j := 204) C f_X7_19 dX7_tape_1 (hI 200 rfl) ⟨rfl, rfl⟩ ?_
  refine x_iconst (pc := 4) C (0) dX7_tape_4 (by decide) ?_
  refine x_iload_n (pc := 5) C dX7_tape_5 rfl ?_
  refine x_top2i (nI 0) (by decide) ?_
  refine x_iast (pc := 6) (o := 204) C dX7_tape_6 (hI 204 rfl) ⟨rfl, rfl⟩ (show _ < 8 by decide) (by decide) ?_
  refine x_aload_n (pc := 7) C dX7_tape_7 rfl ?_
  refine x_getR (pc := 8) (o := 200) (j := 204) C f_X7_19 dX7_tape_8 (hI 200 rfl) ⟨rfl, rfl⟩ ?_
  refine x_iconst (pc := 11) C (1) dX7_tape_11 (by decide) ?_
  refine x_iload_n (pc := 12) C dX7_tape_12 rfl ?_
  refine x_top2i (nI 1) (by decide) ?_
  refine x_iast (pc := 13) (o := 204) C dX7_tape_13 (hI 204 rfl) ⟨rfl, rfl⟩ (show _ < 8 by decide) (by decide) ?_
  refine x_aload_n (pc := 14) C dX7_tape_14 rfl ?_
  refine x_getR (pc := 15) (o := 200) (j := 204) C f_X7_19 dX7_tape_15 (hI 200 rfl) ⟨rfl, rfl⟩ ?_
  refine x_iconst (pc := 18) C (2) dX7_tape_18 (by decide) ?_
  refine x_iload_n (pc := 19) C dX7_tape_19 rfl ?_
  refine x_top2i (nI 2) (by decide) ?_
  refine x_iast (pc := 20) (o := 204) C dX7_tape_20 (hI 204 rfl) ⟨rfl, rfl⟩ (show _ < 8 by decide) (by decide) ?_
  refine x_aload_n (pc := 21) C dX7_tape_21 rfl ?_
  refine x_getR (pc := 22) (o := 200) (j := 204) C f_X7_19 dX7_tape_22 (hI 200 rfl) ⟨rfl, rfl⟩ ?_
  refine x_iconst (pc := 25) C (3) dX7_tape_25 (by decide) ?_
  refine x_iload (pc := 26) C dX7_tape_26 rfl ?_
  refine x_top2i (nI 3) (by decide) ?_
  refine x_iast (pc := 28) (o := 204) C dX7_tape_28 (hI 204 rfl) ⟨rfl, rfl⟩ (show _ < 8 by decide) (by decide) ?_
  refine x_aload_n (pc := 29) C dX7_tape_29 rfl ?_
  refine x_getR (pc := 30) (o := 200) (j := 204) C f_X7_19 dX7_tape_30 (hI 200 rfl) ⟨rfl, rfl⟩ ?_
  refine x_iconst (pc := 33) C (4) dX7_tape_33 (by decide) ?_
  refine x_iload (pc := 34) C dX7_tape_34 rfl ?_
  refine x_top2i (nI 4) (by decide) ?_
  refine x_iast (pc := 36) (o := 204) C dX7_tape_36 (hI 204 rfl) ⟨rfl, rfl⟩ (show _ < 8 by decide) (by decide) ?_
  refine x_aload_n (pc := 37) C dX7_tape_37 rfl ?_
  refine x_getR (pc := 38) (o := 200) (j := 204) C f_X7_19 dX7_tape_38 (hI 200 rfl) ⟨rfl, rfl⟩ ?_
  refine x_iconst (pc := 41) C (5) dX7_tape_41 (by decide) ?_
  refine x_iload (pc := 42) C dX7_tape_42 rfl ?_
  refine x_top2i (nI 5) (by decide) ?_
  refine x_iast (pc := 44) (o := 204) C dX7_tape_44 (hI 204 rfl) ⟨rfl, rfl⟩ (show _ < 8 by decide) (by decide) ?_
  refine x_aload_n (pc := 45) C dX7_tape_45 rfl ?_
  refine x_getR (pc := 46) (o := 200) (j := 204) C f_X7_19 dX7_tape_46 (hI 200 rfl) ⟨rfl, rfl⟩ ?_
  refine x_bipush (pc := 49) C (6) dX7_tape_49 (by decide) ?_
  refine x_iconst (pc := 51) C (0) dX7_tape_51 (by decide) ?_
  refine x_top2i (nI 6) (by decide) ?_
  refine x_iast (pc := 52) (o := 204) C dX7_tape_52 (hI 204 rfl) ⟨rfl, rfl⟩ (show _ < 8 by decide) (by decide) ?_
  refine x_aload_n (pc := 53) C dX7_tape_53 rfl ?_
  refine x_getR (pc := 54) (o := 200) (j := 204) C f_X7_19 dX7_tape_54 (hI 200 rfl) ⟨rfl, rfl⟩ ?_
  refine x_bipush (pc := 57) C (7) dX7_tape_57 (by decide) ?_
  refine x_iconst (pc := 59) C (-1) dX7_tape_59 (by decide) ?_
  refine x_top2i (nI 7) (by decide) ?_
  refine x_iast (pc := 60) (o := 204) C dX7_tape_60 (hI 204 rfl) ⟨rfl, rfl⟩ (show _ < 8 by decide) (by decide) ?_
  exact x_vret (pc := 61) C hQ dX7_tape_61 (is_v rfl) (Nat.le_of_ble_eq_true rfl) (Nat.le_of_ble_eq_true rfl)
set_option maxRecDepth 100000 in
set_option maxHeartbeats 4000000 in
theorem c_X7_again {l : Launch} {V : VV} {L : LL} {N : NN} {I : List Nat} (hI : PI I) (o : Nat) (ho : o < 24) (d s : Int32) : Runs l 2 0 0 yX7_again (Cond.code yX7_again cX7_again 4 none) [aR 200, aI (nI o), aI d, aI s] V L N I (Is none (tapeV V 2 (RF V 1 o) d s (RF V 4 o) 0 (nI o)) (L) N I) := by
  refine run_of RX7 (by decide +kernel) rfl (Nat.le_of_ble_eq_true rfl) (fun E hE C hQ hN => ?_)
  subst hE
  refine x_aload_n (pc := 0) C dX7_again_0 rfl ?_
  refine x_iconst (pc := 1) C (2) dX7_again_1 (by decide) ?_
  refine x_aload_n (pc := 2) C dX7_again_2 rfl ?_
  refine x_iload_n (pc := 3) C dX7_again_3 rfl ?_
  refine x_iconst (pc := 4) C (1) dX7_again_4 (by decide) ?_
  refine x_cV2 (pc := 5) (o := 200) C v_X7_45 dX7_again_5 (c_X7_of hI (o) (1) (by omega)) (hI 200 rfl) rfl (by decide) rfl ⟨Nat.le_refl _, Nat.le_refl _⟩ ?_
  refine x_iload_n (pc := 8) C dX7_again_8 rfl ?_
  refine x_iload_n (pc := 9) C dX7_again_9 rfl ?_
  refine x_aload_n (pc := 10) C dX7_again_10 rfl ?_
  refine x_iload_n (pc := 11) C dX7_again_11 rfl ?_
  refine x_iconst (pc := 12) C (4) dX7_again_12 (by decide) ?_
  refine x_cV2 (pc := 13) (o := 200) C v_X7_45 dX7_again_13 (c_X7_of hI (o) (4) (by omega)) (hI 200 rfl) rfl (by decide) rfl ⟨Nat.le_refl _, Nat.le_refl _⟩ ?_
  refine x_iconst (pc := 16) C (0) dX7_again_16 (by decide) ?_
  refine x_cV6 (pc := 17) (o := 200) C v_X7_49 dX7_again_17 (c_X7_tape hI _ _ _ _ _ _) (hI 200 rfl) rfl (by decide) rfl ⟨Nat.le_refl _, Nat.le_refl _⟩ ?_
  refine x_aload_n (pc := 20) C dX7_again_20 rfl ?_
  refine x_getR (pc := 21) (o := 200) (j := 204) C f_X7_19 dX7_again_21 (hI 200 rfl) ⟨rfl, rfl⟩ ?_
  refine x_bipush (pc := 24) C (7) dX7_again_24 (by decide) ?_
  refine x_iload_n (pc := 26) C dX7_again_26 rfl ?_
  refine x_top2i (nI 7) (by decide) ?_
  refine x_iast (pc := 27) (o := 204) C dX7_again_27 (hI 204 rfl) ⟨rfl, rfl⟩ (show _ < 8 by decide) (by decide) ?_
  exact x_vret (pc := 28) C hQ dX7_again_28 (is_v (by unfold tapeV; exact up_up)) (Nat.le_of_ble_eq_true rfl) (Nat.le_of_ble_eq_true rfl)
set_option maxRecDepth 100000 in
set_option maxHeartbeats 4000000 in
theorem c_X7_meetsOther {l : Launch} {V : VV} {L : LL} {N : NN} {I : List Nat} (hI : PI I) {n : Nat} (hn : V 201 39 = nI n) (hn24 : n ≤ 24) : Runs l 2 0 0 yX7_meetsOther (Cond.code yX7_meetsOther cX7_meetsOther 3 (some .boolean)) [aR 200] V L N I (Is (some (aI (b2i (orTo (hitS (RF V) (V 204 2) (V 204 3) (V 204 4)) n)))) (V) (L) N I) := by
  refine run_of RX7 (by decide +kernel) rfl (Nat.le_of_ble_eq_true rfl) (fun E hE C hQ hN => ?_)
  subst hE
  refine x_iconst (pc := 0) C (0) dX7_meetsOther_0 (by decide) ?_
  refine y_istore_n (pc := 1) C dX7_meetsOther_1 (by decide) rfl ?_
  refine x_iconst (pc := 2) C (0) dX7_meetsOther_2 (by decide) ?_
  refine y_istore_n (pc := 3) C dX7_meetsOther_3 (by decide) rfl ?_
  suffices key : ∀ (k i : Nat) (s : Int32), k + i = n → (s = b2i (orTo (hitS (RF V) (V 204 2) (V 204 3) (V 204 4)) i)) → Wx E 4 [some (aR 200), some (aI s), some (aI (nI i))] [] V L N I 0 0 by
    exact key (n) 0 0 (by omega) (rfl)
  intro k
  induction k with
  | zero =>
    intro i s hk hinv
    refine x_iload_n (pc := 4) C dX7_meetsOther_4 rfl ?_
    refine x_aload_n (pc := 5) C dX7_meetsOther_5 rfl ?_
    refine x_getR (pc := 6) (o := 200) (j := 201) C f_X7_7 dX7_meetsOther_6 (hI 200 rfl) ⟨rfl, rfl⟩ ?_
    refine x_bipush (pc := 9) C (39) dX7_meetsOther_9 (by decide) ?_
    refine x_topi (nI 39) (by decide) ?_
    refine x_iald (pc := 11) (o := 201) C dX7_meetsOther_11 (hI 201 rfl) ⟨rfl, rfl⟩ (show _ < 232 by decide) (by decide) ?_
    refine x_topi (nI n) hn ?_
    refine x_icmp_ge (pc := 12) (tgt := 90) C dX7_meetsOther_12 (by decide) (fun h12 => ?_) (fun h12 => absurd (by exact nI_le (by omega) (by omega)) h12)
    refine x_iload_n (pc := 90) C dX7_meetsOther_90 rfl ?_
    exact x_zret (pc := 91) C hQ dX7_meetsOther_91 (hinv ▸ b2i_01 _) (is_i (by rw [hinv, show i = n by omega])) (Nat.le_of_ble_eq_true rfl) (Nat.le_of_ble_eq_true rfl)
  | succ k ih =>
    intro i s hk hinv
    refine x_iload_n (pc := 4) C dX7_meetsOther_4 rfl ?_
    refine x_aload_n (pc := 5) C dX7_meetsOther_5 rfl ?_
    refine x_getR (pc := 6) (o := 200) (j := 201) C f_X7_7 dX7_meetsOther_6 (hI 200 rfl) ⟨rfl, rfl⟩ ?_
    refine x_bipush (pc := 9) C (39) dX7_meetsOther_9 (by decide) ?_
    refine x_topi (nI 39) (by decide) ?_
    refine x_iald (pc := 11) (o := 201) C dX7_meetsOther_11 (hI 201 rfl) ⟨rfl, rfl⟩ (show _ < 232 by decide) (by decide) ?_
    refine x_topi (nI n) hn ?_
    refine x_icmp_ge (pc := 12) (tgt := 90) C dX7_meetsOther_12 (by decide) (fun h12 => absurd h12 (by exact nI_ge (by omega) (by omega))) (fun h12 => ?_)
    refine x_iload_n (pc := 15) C dX7_meetsOther_15 rfl ?_
    refine x_if_ne (pc := 16) (tgt := 78) C dX7_meetsOther_16 (by decide) (fun h16 => ?_) (fun h16 => ?_)
    · refine x_iconst (pc := 78) C (1) dX7_meetsOther_78 (by decide) ?_
      refine x_goto (pc := 79) (tgt := 83) C dX7_meetsOther_79 (by decide) ?_
      refine y_istore_n (pc := 83) C dX7_meetsOther_83 (by decide) rfl ?_
      refine y_iinc (pc := 84) C (nI (i + 1)) dX7_meetsOther_84 rfl (by exact nI_1 i) (by decide) rfl ?_
      refine x_goto (pc := 87) (tgt := 4) C dX7_meetsOther_87 (by decide) ?_
      exact ih (i + 1) _ (by omega) (by subst hinv; first | exact or_1 h16 | exact or_2 (hit_0 (F := RF V) h31 (Int32.not_le.mpr (Int32.not_le.mp h53)) (Int32.not_le.mpr (Int32.not_le.mp h75))) | exact or_3 h16 (hit_1 (F := RF V) h31) | exact or_3 h16 (hit_2 (F := RF V) h53) | exact or_3 h16 (hit_3 (F := RF V) h75))
    · refine x_aload_n (pc := 19) C dX7_meetsOther_19 rfl ?_
      refine x_iload_n (pc := 20) C dX7_meetsOther_20 rfl ?_
      refine x_iconst (pc := 21) C (2) dX7_meetsOther_21 (by decide) ?_
      refine x_cV2 (pc := 22) (o := 200) C v_X7_45 dX7_meetsOther_22 (c_X7_of hI (i) (2) (by omega)) (hI 200 rfl) rfl (by decide) rfl ⟨Nat.le_refl _, Nat.le_refl _⟩ ?_
      refine x_aload_n (pc := 25) C dX7_meetsOther_25 rfl ?_
      refine x_getR (pc := 26) (o := 200) (j := 204) C f_X7_19 dX7_meetsOther_26 (hI 200 rfl) ⟨rfl, rfl⟩ ?_
      refine x_iconst (pc := 29) C (2) dX7_meetsOther_29 (by decide) ?_
      refine x_topi (nI 2) (by decide) ?_
      refine x_iald (pc := 30) (o := 204) C dX7_meetsOther_30 (hI 204 rfl) ⟨rfl, rfl⟩ (show _ < 8 by decide) (by decide) ?_
      refine x_icmp_ne (pc := 31) (tgt := 82) C dX7_meetsOther_31 (by decide) (fun h31 => ?_) (fun h31 => ?_)
      · refine x_iconst (pc := 82) C (0) dX7_meetsOther_82 (by decide) ?_
        refine y_istore_n (pc := 83) C dX7_meetsOther_83 (by decide) rfl ?_
        refine y_iinc (pc := 84) C (nI (i + 1)) dX7_meetsOther_84 rfl (by exact nI_1 i) (by decide) rfl ?_
        refine x_goto (pc := 87) (tgt := 4) C dX7_meetsOther_87 (by decide) ?_
        exact ih (i + 1) _ (by omega) (by subst hinv; first | exact or_1 h16 | exact or_2 (hit_0 (F := RF V) h31 (Int32.not_le.mpr (Int32.not_le.mp h53)) (Int32.not_le.mpr (Int32.not_le.mp h75))) | exact or_3 h16 (hit_1 (F := RF V) h31) | exact or_3 h16 (hit_2 (F := RF V) h53) | exact or_3 h16 (hit_3 (F := RF V) h75))
      · refine x_aload_n (pc := 34) C dX7_meetsOther_34 rfl ?_
        refine x_iload_n (pc := 35) C dX7_meetsOther_35 rfl ?_
        refine x_iconst (pc := 36) C (3) dX7_meetsOther_36 (by decide) ?_
        refine x_cV2 (pc := 37) (o := 200) C v_X7_45 dX7_meetsOther_37 (c_X7_of hI (i) (3) (by omega)) (hI 200 rfl) rfl (by decide) rfl ⟨Nat.le_refl _, Nat.le_refl _⟩ ?_
        refine x_aload_n (pc := 40) C dX7_meetsOther_40 rfl ?_
        refine x_getR (pc := 41) (o := 200) (j := 204) C f_X7_19 dX7_meetsOther_41 (hI 200 rfl) ⟨rfl, rfl⟩ ?_
        refine x_iconst (pc := 44) C (3) dX7_meetsOther_44 (by decide) ?_
        refine x_topi (nI 3) (by decide) ?_
        refine x_iald (pc := 45) (o := 204) C dX7_meetsOther_45 (hI 204 rfl) ⟨rfl, rfl⟩ (show _ < 8 by decide) (by decide) ?_
        refine x_aload_n (pc := 46) C dX7_meetsOther_46 rfl ?_
        refine x_getR (pc := 47) (o := 200) (j := 204) C f_X7_19 dX7_meetsOther_47 (hI 200 rfl) ⟨rfl, rfl⟩ ?_
        refine x_iconst (pc := 50) C (4) dX7_meetsOther_50 (by decide) ?_
        refine x_topi (nI 4) (by decide) ?_
        refine x_iald (pc := 51) (o := 204) C dX7_meetsOther_51 (hI 204 rfl) ⟨rfl, rfl⟩ (show _ < 8 by decide) (by decide) ?_
        refine x_iadd (pc := 52) C dX7_meetsOther_52 ?_
        refine x_icmp_ge (pc := 53) (tgt := 82) C dX7_meetsOther_53 (by decide) (fun h53 => ?_) (fun h53 => ?_)
        · refine x_iconst (pc := 82) C (0) dX7_meetsOther_82 (by decide) ?_
          refine y_istore_n (pc := 83) C dX7_meetsOther_83 (by decide) rfl ?_
          refine y_iinc (pc := 84) C (nI (i + 1)) dX7_meetsOther_84 rfl (by exact nI_1 i) (by decide) rfl ?_
          refine x_goto (pc := 87) (tgt := 4) C dX7_meetsOther_87 (by decide) ?_
          exact ih (i + 1) _ (by omega) (by subst hinv; first | exact or_1 h16 | exact or_2 (hit_0 (F := RF V) h31 (Int32.not_le.mpr (Int32.not_le.mp h53)) (Int32.not_le.mpr (Int32.not_le.mp h75))) | exact or_3 h16 (hit_1 (F := RF V) h31) | exact or_3 h16 (hit_2 (F := RF V) h53) | exact or_3 h16 (hit_3 (F := RF V) h75))
        · refine x_aload_n (pc := 56) C dX7_meetsOther_56 rfl ?_
          refine x_iload_n (pc := 57) C dX7_meetsOther_57 rfl ?_
          refine x_iconst (pc := 58) C (3) dX7_meetsOther_58 (by decide) ?_
          refine x_cV2 (pc := 59) (o := 200) C v_X7_45 dX7_meetsOther_59 (c_X7_of hI (i) (3) (by omega)) (hI 200 rfl) rfl (by decide) rfl ⟨Nat.le_refl _, Nat.le_refl _⟩ ?_
          refine x_aload_n (pc := 62) C dX7_meetsOther_62 rfl ?_
          refine x_iload_n (pc := 63) C dX7_meetsOther_63 rfl ?_
          refine x_iconst (pc := 64) C (4) dX7_meetsOther_64 (by decide) ?_
          refine x_cV2 (pc := 65) (o := 200) C v_X7_45 dX7_meetsOther_65 (c_X7_of hI (i) (4) (by omega)) (hI 200 rfl) rfl (by decide) rfl ⟨Nat.le_refl _, Nat.le_refl _⟩ ?_
          refine x_iadd (pc := 68) C dX7_meetsOther_68 ?_
          refine x_aload_n (pc := 69) C dX7_meetsOther_69 rfl ?_
          refine x_getR (pc := 70) (o := 200) (j := 204) C f_X7_19 dX7_meetsOther_70 (hI 200 rfl) ⟨rfl, rfl⟩ ?_
          refine x_iconst (pc := 73) C (3) dX7_meetsOther_73 (by decide) ?_
          refine x_topi (nI 3) (by decide) ?_
          refine x_iald (pc := 74) (o := 204) C dX7_meetsOther_74 (hI 204 rfl) ⟨rfl, rfl⟩ (show _ < 8 by decide) (by decide) ?_
          refine x_icmp_le (pc := 75) (tgt := 82) C dX7_meetsOther_75 (by decide) (fun h75 => ?_) (fun h75 => ?_)
          · refine x_iconst (pc := 82) C (0) dX7_meetsOther_82 (by decide) ?_
            refine y_istore_n (pc := 83) C dX7_meetsOther_83 (by decide) rfl ?_
            refine y_iinc (pc := 84) C (nI (i + 1)) dX7_meetsOther_84 rfl (by exact nI_1 i) (by decide) rfl ?_
            refine x_goto (pc := 87) (tgt := 4) C dX7_meetsOther_87 (by decide) ?_
            exact ih (i + 1) _ (by omega) (by subst hinv; first | exact or_1 h16 | exact or_2 (hit_0 (F := RF V) h31 (Int32.not_le.mpr (Int32.not_le.mp h53)) (Int32.not_le.mpr (Int32.not_le.mp h75))) | exact or_3 h16 (hit_1 (F := RF V) h31) | exact or_3 h16 (hit_2 (F := RF V) h53) | exact or_3 h16 (hit_3 (F := RF V) h75))
          · refine x_iconst (pc := 78) C (1) dX7_meetsOther_78 (by decide) ?_
            refine x_goto (pc := 79) (tgt := 83) C dX7_meetsOther_79 (by decide) ?_
            refine y_istore_n (pc := 83) C dX7_meetsOther_83 (by decide) rfl ?_
            refine y_iinc (pc := 84) C (nI (i + 1)) dX7_meetsOther_84 rfl (by exact nI_1 i) (by decide) rfl ?_
            refine x_goto (pc := 87) (tgt := 4) C dX7_meetsOther_87 (by decide) ?_
            exact ih (i + 1) _ (by omega) (by subst hinv; first | exact or_1 h16 | exact or_2 (hit_0 (F := RF V) h31 (Int32.not_le.mpr (Int32.not_le.mp h53)) (Int32.not_le.mpr (Int32.not_le.mp h75))) | exact or_3 h16 (hit_1 (F := RF V) h31) | exact or_3 h16 (hit_2 (F := RF V) h53) | exact or_3 h16 (hit_3 (F := RF V) h75))
