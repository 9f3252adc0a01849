set_option maxRecDepth 100000 in
set_option maxHeartbeats 4000000 in
theorem c_X7_thrown {l : Launch} {V : VV} {L : LL} {N : NN} {I : List Nat} (hI : PI I) : Runs l 1 0 0 yX7_thrown (Cond.code yX7_thrown cX7_thrown 1 (some .int)) [aR 200] V L N I (Is (some (aI (V 200 0))) (V) (L) N I) := by
  refine run_of RX7 (by decide +kernel) rfl (Nat.le_of_ble_eq_true rfl) (fun E hE C hQ hN => ?_)
  subst hE
  refine x_aload_n (pc := 0) C dX7_thrown_0 rfl ?_
  refine x_getI (pc := 1) (o := 200) C f_X7_37 dX7_thrown_1 (hI 200 rfl) ⟨rfl, rfl, rfl⟩ ?_
  exact x_iret (pc := 4) C hQ dX7_thrown_4 (is_i rfl) (Nat.le_of_ble_eq_true rfl) (Nat.le_of_ble_eq_true rfl)
set_option maxRecDepth 100000 in
set_option maxHeartbeats 4000000 in
theorem c_X7_within {l : Launch} {V : VV} {L : LL} {N : NN} {I : List Nat} (v lo hi : Int32) : Runs l 1 0 0 yX7_within (Cond.code yX7_within cX7_within 3 (some .boolean)) [aI v, aI lo, aI hi] V L N I (Is (some (aI (b2i (withinB v lo hi)))) (V) (L) N I) := by
  refine run_of RX7 (by decide +kernel) rfl (Nat.le_of_ble_eq_true rfl) (fun E hE C hQ hN => ?_)
  subst hE
  refine x_iload_n (pc := 0) C dX7_within_0 rfl ?_
  refine x_iload_n (pc := 1) C dX7_within_1 rfl ?_
  refine x_icmp_lt (pc := 2) (tgt := 14) C dX7_within_2 (by decide) (fun h2 => ?_) (fun h2 => ?_)
  · refine x_iconst (pc := 14) C (0) dX7_within_14 (by decide) ?_
    exact x_zret (pc := 15) C hQ dX7_within_15 (by decide) (is_i (by first | exact wi_t h2 h7 | exact wi_f1 h2 | exact wi_f2 h7)) (Nat.le_of_ble_eq_true rfl) (Nat.le_of_ble_eq_true rfl)
  · refine x_iload_n (pc := 5) C dX7_within_5 rfl ?_
    refine x_iload_n (pc := 6) C dX7_within_6 rfl ?_
    refine x_icmp_gt (pc := 7) (tgt := 14) C dX7_within_7 (by decide) (fun h7 => ?_) (fun h7 => ?_)
    · refine x_iconst (pc := 14) C (0) dX7_within_14 (by decide) ?_
      exact x_zret (pc := 15) C hQ dX7_within_15 (by decide) (is_i (by first | exact wi_t h2 h7 | exact wi_f1 h2 | exact wi_f2 h7)) (Nat.le_of_ble_eq_true rfl) (Nat.le_of_ble_eq_true rfl)
    · refine x_iconst (pc := 10) C (1) dX7_within_10 (by decide) ?_
      refine x_goto (pc := 11) (tgt := 15) C dX7_within_11 (by decide) ?_
      exact x_zret (pc := 15) C hQ dX7_within_15 (by decide) (is_i (by first | exact wi_t h2 h7 | exact wi_f1 h2 | exact wi_f2 h7)) (Nat.le_of_ble_eq_true rfl) (Nat.le_of_ble_eq_true rfl)
set_option maxRecDepth 100000 in
set_option maxHeartbeats 4000000 in
theorem c_X7_of {l : Launch} {V : VV} {L : LL} {N : NN} {I : List Nat} (hI : PI I) (s k : Nat) (hs : 40 + 8 * s + k < 232) : Runs l 1 0 0 yX7_of (Cond.code yX7_of cX7_of 3 (some .int)) [aR 200, aI (nI s), aI (nI k)] V L N I (Is (some (aI (V 201 (40 + 8 * s + k)))) (V) (L) N I) := by
  refine run_of RX7 (by decide +kernel) rfl (Nat.le_of_ble_eq_true rfl) (fun E hE C hQ hN => ?_)
  subst hE
  refine x_aload_n (pc := 0) C dX7_of_0 rfl ?_
  refine x_getR (pc := 1) (o := 200) (j := 201) C f_X7_7 dX7_of_1 (hI 200 rfl) ⟨rfl, rfl⟩ ?_
  refine x_bipush (pc := 4) C (40) dX7_of_4 (by decide) ?_
  refine x_bipush (pc := 6) C (8) dX7_of_6 (by decide) ?_
  refine x_iload_n (pc := 8) C dX7_of_8 rfl ?_
  refine x_imul (pc := 9) C dX7_of_9 ?_
  refine x_iadd (pc := 10) C dX7_of_10 ?_
  refine x_iload_n (pc := 11) C dX7_of_11 rfl ?_
  refine x_iadd (pc := 12) C dX7_of_12 ?_
  refine x_topi (nI (40 + 8 * s + k)) (z_ix (a := 40) (b := 8)) ?_
  refine x_iald (pc := 13) (o := 201) C dX7_of_13 (hI 201 rfl) ⟨rfl, rfl⟩ (show _ < 232 by omega) (by decide) ?_
  exact x_iret (pc := 14) C hQ dX7_of_14 (is_i rfl) (Nat.le_of_ble_eq_true rfl) (Nat.le_of_ble_eq_true rfl)
set_option maxRecDepth 100000 in
set_option maxHeartbeats 4000000 in
theorem c_X7_put {l : Launch} {V : VV} {L : LL} {N : NN} {I : List Nat} (hI : PI I) (s k : Nat) (v : Int32) (hs : 40 + 8 * s + k < 232) : Runs l 1 0 0 yX7_put (Cond.code yX7_put cX7_put 4 none) [aR 200, aI (nI s), aI (nI k), aI v] V L N I (Is none (up V 201 (40 + 8 * s + k) v) (L) N I) := by
  refine run_of RX7 (by decide +kernel) rfl (Nat.le_of_ble_eq_true rfl) (fun E hE C hQ hN => ?_)
  subst hE
  refine x_aload_n (pc := 0) C dX7_put_0 rfl ?_
  refine x_getR (pc := 1) (o := 200) (j := 201) C f_X7_7 dX7_put_1 (hI 200 rfl) ⟨rfl, rfl⟩ ?_
  refine x_bipush (pc := 4) C (40) dX7_put_4 (by decide) ?_
  refine x_bipush (pc := 6) C (8) dX7_put_6 (by decide) ?_
  refine x_iload_n (pc := 8) C dX7_put_8 rfl ?_
  refine x_imul (pc := 9) C dX7_put_9 ?_
  refine x_iadd (pc := 10) C dX7_put_10 ?_
  refine x_iload_n (pc := 11) C dX7_put_11 rfl ?_
  refine x_iadd (pc := 12) C dX7_put_12 ?_
  refine x_topi (nI (40 + 8 * s + k)) (z_ix (a := 40) (b := 8)) ?_
  refine x_iload_n (pc := 13) C dX7_put_13 rfl ?_
  refine x_iast (pc := 14) (o := 201) C dX7_put_14 (hI 201 rfl) ⟨rfl, rfl⟩ (show _ < 232 by omega) (by decide) ?_
  exact x_vret (pc := 15) C hQ dX7_put_15 (is_v rfl) (Nat.le_of_ble_eq_true rfl) (Nat.le_of_ble_eq_true rfl)
set_option maxRecDepth 100000 in
set_option maxHeartbeats 4000000 in
theorem c_X7_isShow {l : Launch} {V : VV} {L : LL} {N : NN} {I : List Nat} (hI : PI I) {n : Nat} (hn : V 201 39 = nI n) (hn24 : n ≤ 24) (v : Int32) : Runs l 2 0 0 yX7_isShow (Cond.code yX7_isShow cX7_isShow 2 (some .boolean)) [aR 200, aI v] V L N I (Is (some (aI (b2i (withinB v 0 (nI n - 1))))) (V) (L) N I) := by
  refine run_of RX7 (by decide +kernel) rfl (Nat.le_of_ble_eq_true rfl) (fun E hE C hQ hN => ?_)
  subst hE
  refine x_iload_n (pc := 0) C dX7_isShow_0 rfl ?_
  refine x_iconst (pc := 1) C (0) dX7_isShow_1 (by decide) ?_
  refine x_aload_n (pc := 2) C dX7_isShow_2 rfl ?_
  refine x_getR (pc := 3) (o := 200) (j := 201) C f_X7_7 dX7_isShow_3 (hI 200 rfl) ⟨rfl, rfl⟩ ?_
  refine x_bipush (pc := 6) C (39) dX7_isShow_6 (by decide) ?_
  refine x_topi (nI 39) (by decide) ?_
  refine x_iald (pc := 8) (o := 201) C dX7_isShow_8 (hI 201 rfl) ⟨rfl, rfl⟩ (show _ < 232 by decide) (by decide) ?_
  refine x_topi (nI n) hn ?_
  refine x_iconst (pc := 9) C (1) dX7_isShow_9 (by decide) ?_
  refine x_isub (pc := 10) C dX7_isShow_10 ?_
  refine x_cS3 (pc := 11) C s_X7_41 dX7_isShow_11 (c_X7_within _ _ _) (by decide) rfl ⟨Nat.le_refl _, Nat.le_refl _⟩ ?_
  exact x_zret (pc := 14) C hQ dX7_isShow_14 (b2i_01 _) (is_i rfl) (Nat.le_of_ble_eq_true rfl) (Nat.le_of_ble_eq_true rfl)
set_option maxRecDepth 100000 in
set_option maxHeartbeats 4000000 in
theorem c_X7_isGroup {l : Launch} {V : VV} {L : LL} {N : NN} {I : List Nat} (v : Int32) : Runs l 2 0 0 yX7_isGroup (Cond.code yX7_isGroup cX7_isGroup 1 (some .boolean)) [aI v] V L N I (Is (some (aI (b2i (withinB v 0 5)))) (V) (L) N I) := by
  refine run_of RX7 (by decide +kernel) rfl (Nat.le_of_ble_eq_true rfl) (fun E hE C hQ hN => ?_)
  subst hE
  refine x_iload_n (pc := 0) C dX7_isGroup_0 rfl ?_
  refine x_iconst (pc := 1) C (0) dX7_isGroup_1 (by decide) ?_
  refine x_iconst (pc := 2) C (5) dX7_isGroup_2 (by decide) ?_
  refine x_cS3 (pc := 3) C s_X7_41 dX7_isGroup_3 (c_X7_within _ _ _) (by decide) rfl ⟨Nat.le_refl _, Nat.le_refl _⟩ ?_
  exact x_zret (pc := 6) C hQ dX7_isGroup_6 (b2i_01 _) (is_i rfl) (Nat.le_of_ble_eq_true rfl) (Nat.le_of_ble_eq_true rfl)
set_option maxRecDepth 100000 in
set_option maxHeartbeats 4000000 in
theorem c_X7_isDay {l : Launch} {V : VV} {L : LL} {N : NN} {I : List Nat} (v : Int32) : Runs l 2 0 0 yX7_isDay (Cond.code yX7_isDay cX7_isDay 1 (some .boolean)) [aI v] V L N I (Is (some (aI (b2i (withinB v 0 6)))) (V) (L) N I) := by
  refine run_of RX7 (by decide +kernel) rfl (Nat.le_of_ble_eq_true rfl) (fun E hE C hQ hN => ?_)
  subst hE
  refine x_iload_n (pc := 0) C dX7_isDay_0 rfl ?_
  refine x_iconst (pc := 1) C (0) dX7_isDay_1 (by decide) ?_
  refine x_bipush (pc := 2) C (6) dX7_isDay_2 (by decide) ?_
  refine x_cS3 (pc := 4) C s_X7_41 dX7_isDay_4 (c_X7_within _ _ _) (by decide) rfl ⟨Nat.le_refl _, Nat.le_refl _⟩ ?_
  exact x_zret (pc := 7) C hQ dX7_isDay_7 (b2i_01 _) (is_i rfl) (Nat.le_of_ble_eq_true rfl) (Nat.le_of_ble_eq_true rfl)
set_option maxRecDepth 100000 in
set_option maxHeartbeats 4000000 in
theorem c_X7_isStart {l : Launch} {V : VV} {L : LL} {N : NN} {I : List Nat} (v : Int32) : Runs l 2 0 0 yX7_isStart (Cond.code yX7_isStart cX7_isStart 1 (some .boolean)) [aI v] V L N I (Is (some (aI (b2i (withinB v 0 1439)))) (V) (L) N I) := by
  refine run_of RX7 (by decide +kernel) rfl (Nat.le_of_ble_eq_true rfl) (fun E hE C hQ hN => ?_)
  subst hE
  refine x_iload_n (pc := 0) C dX7_isStart_0 rfl ?_
  refine x_iconst (pc := 1) C (0) dX7_isStart_1 (by decide) ?_
  refine x_sipush (pc := 2) C (1439) dX7_isStart_2 (by decide) ?_
  refine x_cS3 (pc := 5) C s_X7_41 dX7_isStart_5 (c_X7_within _ _ _) (by decide) rfl ⟨Nat.le_refl _, Nat.le_refl _⟩ ?_
  exact x_zret (pc := 8) C hQ dX7_isStart_8 (b2i_01 _) (is_i rfl) (Nat.le_of_ble_eq_true rfl) (Nat.le_of_ble_eq_true rfl)
set_option maxRecDepth 100000 in
set_option maxHeartbeats 4000000 in
theorem c_X7_isLength {l : Launch} {V : VV} {L : LL} {N : NN} {I : List Nat} (v : Int32) : Runs l 2 0 0 yX7_isLength (Cond.code yX7_isLength cX7_isLength 1 (some .boolean)) [aI v] V L N I (Is (some (aI (b2i (withinB v 5 240)))) (V) (L) N I) := by
  refine run_of RX7 (by decide +kernel) rfl (Nat.le_of_ble_eq_true rfl) (fun E hE C hQ hN => ?_)
  subst hE
  refine x_iload_n (pc := 0) C dX7_isLength_0 rfl ?_
  refine x_iconst (pc := 1) C (5) dX7_isLength_1 (by decide) ?_
  refine x_sipush (pc := 2) C (240) dX7_isLength_2 (by decide) ?_
  refine x_cS3 (pc := 5) C s_X7_41 dX7_isLength_5 (c_X7_within _ _ _) (by decide) rfl ⟨Nat.le_refl _, Nat.le_refl _⟩ ?_
  exact x_zret (pc := 8) C hQ dX7_isLength_8 (b2i_01 _) (is_i rfl) (Nat.le_of_ble_eq_true rfl) (Nat.le_of_ble_eq_true rfl)
set_option maxRecDepth 100000 in
set_option maxHeartbeats 4000000 in
theorem c_X7_worth {l : Launch} {V : VV} {L : LL} {N : NN} {I : List Nat} (hI : PI I) (k m : Int32) : Runs l 1 0 0 yX7_worth (Cond.code yX7_worth cX7_worth 3 (some .int)) [aR 200, aI k, aI m] V L N I (Is (some (aI (worthF (V 201 5) k m))) (V) (L) N I) := by
  refine run_of RX7 (by decide +kernel) rfl (Nat.le_of_ble_eq_true rfl) (fun E hE C hQ hN => ?_)
  subst hE
  refine x_iload_n (pc := 0) C dX7_worth_0 rfl ?_
  refine x_iconst (pc := 1) C (2) dX7_worth_1 (by decide) ?_
  refine x_icmp_ne (pc := 2) (tgt := 19) C dX7_worth_2 (by decide) (fun h2 => ?_) (fun h2 => ?_)
  · refine x_iload_n (pc := 19) C dX7_worth_19 rfl ?_
    exact x_iret (pc := 20) C hQ dX7_worth_20 (is_i (by simp [worthF, *])) (Nat.le_of_ble_eq_true rfl) (Nat.le_of_ble_eq_true rfl)
  · refine x_iload_n (pc := 5) C dX7_worth_5 rfl ?_
    refine x_aload_n (pc := 6) C dX7_worth_6 rfl ?_
    refine x_getR (pc := 7) (o := 200) (j := 201) C f_X7_7 dX7_worth_7 (hI 200 rfl) ⟨rfl, rfl⟩ ?_
    refine x_iconst (pc := 10) C (5) dX7_worth_10 (by decide) ?_
    refine x_topi (nI 5) (by decide) ?_
    refine x_iald (pc := 11) (o := 201) C dX7_worth_11 (hI 201 rfl) ⟨rfl, rfl⟩ (show _ < 232 by decide) (by decide) ?_
    refine x_imul (pc := 12) C dX7_worth_12 ?_
    refine x_bipush (pc := 13) C (100) dX7_worth_13 (by decide) ?_
    refine x_idiv (pc := 15) C dX7_worth_15 (by decide) ?_
    refine x_goto (pc := 16) (tgt := 20) C dX7_worth_16 (by decide) ?_
    exact x_iret (pc := 20) C hQ dX7_worth_20 (is_i (by simp [worthF, *])) (Nat.le_of_ble_eq_true rfl) (Nat.le_of_ble_eq_true rfl)
set_option maxRecDepth 100000 in
set_option maxHeartbeats 4000000 in
theorem c_X7_allowance {l : Launch} {V : VV} {L : LL} {N : NN} {I : List Nat} (hI : PI I) (g : Nat) (hg : g < 6) : Runs l 1 0 0 yX7_allowance (Cond.code yX7_allowance cX7_allowance 2 (some .int)) [aR 200, aI (nI g)] V L N I (Is (some (aI (V 201 (8 + 5 * g + 0) + V 201 (8 + 5 * g + 1)))) (V) (L) N I) := by
  refine run_of RX7 (by decide +kernel) rfl (Nat.le_of_ble_eq_true rfl) (fun E hE C hQ hN => ?_)
  subst hE
  refine x_aload_n (pc := 0) C dX7_allowance_0 rfl ?_
  refine x_getR (pc := 1) (o := 200) (j := 201) C f_X7_7 dX7_allowance_1 (hI 200 rfl) ⟨rfl, rfl⟩ ?_
  refine x_bipush (pc := 4) C (8) dX7_allowance_4 (by decide) ?_
  refine x_iconst (pc := 6) C (5) dX7_allowance_6 (by decide) ?_
  refine x_iload_n (pc := 7) C dX7_allowance_7 rfl ?_
  refine x_imul (pc := 8) C dX7_allowance_8 ?_
  refine x_iadd (pc := 9) C dX7_allowance_9 ?_
  refine x_iconst (pc := 10) C (0) dX7_allowance_10 (by decide) ?_
  refine x_iadd (pc := 11) C dX7_allowance_11 ?_
  refine x_topi (nI (8 + 5 * g + 0)) (z_ix (a := 8) (b := 5) (c := 0)) ?_
  refine x_iald (pc := 12) (o := 201) C dX7_allowance_12 (hI 201 rfl) ⟨rfl, rfl⟩ (show _ < 232 by omega) (by decide) ?_
  refine x_aload_n (pc := 13) C dX7_allowance_13 rfl ?_
  refine x_getR (pc := 14) (o := 200) (j := 201) C f_X7_7 dX7_allowance_14 (hI 200 rfl) ⟨rfl, rfl⟩ ?_
  refine x_bipush (pc := 17) C (8) dX7_allowance_17 (by decide) ?_
  refine x_iconst (pc := 19) C (5) dX7_allowance_19 (by decide) ?_
  refine x_iload_n (pc := 20) C dX7_allowance_20 rfl ?_
  refine x_imul (pc := 21) C dX7_allowance_21 ?_
  refine x_iadd (pc := 22) C dX7_allowance_22 ?_
  refine x_iconst (pc := 23) C (1) dX7_allowance_23 (by decide) ?_
  refine x_iadd (pc := 24) C dX7_allowance_24 ?_
  refine x_topi (nI (8 + 5 * g + 1)) (z_ix (a := 8) (b := 5) (c := 1)) ?_
  refine x_iald (pc := 25) (o := 201) C dX7_allowance_25 (hI 201 rfl) ⟨rfl, rfl⟩ (show _ < 232 by omega) (by decide) ?_
  refine x_iadd (pc := 26) C dX7_allowance_26 ?_
  exact x_iret (pc := 27) C hQ dX7_allowance_27 (is_i rfl) (Nat.le_of_ble_eq_true rfl) (Nat.le_of_ble_eq_true rfl)
set_option maxRecDepth 100000 in
set_option maxHeartbeats 4000000 in
theorem c_X7_tape {l : Launch} {V : VV} {L : LL} {N : NN} {I : List Nat} (hI : PI I) (k g d s l2 sp : Int32) : Runs l 1 0 0 yX7_tape (Cond.code yX7_tape cX7_tape 7 none) [aR 200, aI k, aI g, aI d, aI s, aI l2, aI sp] V L N I (Is none (tapeV V k g d s l2 sp (-1)) (L) N I) := by
  refine run_of RX7 (by decide +kernel) rfl (Nat.le_of_ble_eq_true rfl) (fun E hE C hQ hN => ?_)
  subst hE
  refine x_aload_n (pc := 0) C dX7_tape_0 rfl ?_
  refine x_getR (pc := 1) (o := 200) (j := 204) C f_X7_19 dX7_tape_1 (hI 200 rfl) ⟨rfl, rfl⟩ ?_
  refine x_iconst (pc := 4) C (0) dX7_tape_4 (by decide) ?_
  refine x_iload_n (pc := 5) C dX7_tape_5 rfl ?_
  refine x_top2i (nI 0) (by decide) ?_
  refine x_iast (pc := 6) (o := 204) C dX7_tape_6 (hI 204 rfl) ⟨rfl, rfl⟩ (show _ < 8 by decide) (by decide) ?_
  refine x_aload_n (pc := 7) C dX7_tape_7 rfl ?_
  refine x_getR (pc := 8) (o := 200) (j := 204) C f_X7_19 dX7_tape_8 (hI 200 rfl) ⟨rfl, rfl⟩ ?_
  refine x_iconst (pc := 11) C (1) dX7_tape_11 (by decide) ?_
  refine x_iload_n (pc := 12) C dX7_tape_12 rfl ?_
  refine x_top2i (nI 1) (by decide) ?_
  refine x_iast (pc := 13) (o := 204) C dX7_tape_13 (hI 204 rfl) ⟨rfl, rfl⟩ (show _ < 8 by decide) (by decide) ?_
  refine x_aload_n (pc := 14) C dX7_tape_14 rfl ?_
  refine x_getR (pc := 15) (o := 200) (j := 204) C f_X7_19 dX7_tape_15 (hI 200 rfl) ⟨rfl, rfl⟩ ?_
  refine x_iconst (pc := 18) C (2) dX7_tape_18 (by decide) ?_
  refine x_iload_n (pc := 19) C dX7_tape_19 rfl ?_
  refine x_top2i (nI 2) (by decide) ?_
  refine x_iast (pc := 20) (o := 204) C dX7_tape_20 (hI 204 rfl) ⟨rfl, rfl⟩ (show _ < 8 by decide) (by decide) ?_
  refine x_aload_n (pc := 21) C dX7_tape_21 rfl ?_
  refine x_getR (pc := 22) (o := 200) (j := 204) C f_X7_19 dX7_tape_22 (hI 200 rfl) ⟨rfl, rfl⟩ ?_
  refine x_iconst (pc := 25) C (3) dX7_tape_25 (by decide) ?_
  refine x_iload (pc := 26) C dX7_tape_26 rfl ?_
  refine x_top2i (nI 3) (by decide) ?_
  refine x_iast (pc := 28) (o := 204) C dX7_tape_28 (hI 204 rfl) ⟨rfl, rfl⟩ (show _ < 8 by decide) (by decide) ?_
  refine x_aload_n (pc := 29) C dX7_tape_29 rfl ?_
  refine x_getR (pc := 30) (o := 200) (j := 204) C f_X7_19 dX7_tape_30 (hI 200 rfl) ⟨rfl, rfl⟩ ?_
  refine x_iconst (pc := 33) C (4) dX7_tape_33 (by decide) ?_
  refine x_iload (pc := 34) C dX7_tape_34 rfl ?_
  refine x_top2i (nI 4) (by decide) ?_
  refine x_iast (pc := 36) (o := 204) C dX7_tape_36 (hI 204 rfl) ⟨rfl, rfl⟩ (show _ < 8 by decide) (by decide) ?_
  refine x_aload_n (pc := 37) C dX7_tape_37 rfl ?_
  refine x_getR (pc := 38) (o := 200) (j := 204) C f_X7_19 dX7_tape_38 (hI 200 rfl) ⟨rfl, rfl⟩ ?_
  refine x_iconst (pc := 41) C (5) dX7_tape_41 (by decide) ?_
  refine x_iload (pc := 42) C dX7_tape_42 rfl ?_
  refine x_top2i (nI 5) (by decide) ?_
  refine x_iast (pc := 44) (o := 204) C dX7_tape_44 (hI 204 rfl) ⟨rfl, rfl⟩ (show _ < 8 by decide) (by decide) ?_
  refine x_aload_n (pc := 45) C dX7_tape_45 rfl ?_
  refine x_getR (pc := 46) (o := 200) (j := 204) C f_X7_19 dX7_tape_46 (hI 200 rfl) ⟨rfl, rfl⟩ ?_
  refine x_bipush (pc := 49) C (6) dX7_tape_49 (by decide) ?_
  refine x_iconst (pc := 51) C (0) dX7_tape_51 (by decide) ?_
  refine x_top2i (nI 6) (by decide) ?_
  refine x_iast (pc := 52) (o := 204) C dX7_tape_52 (hI 204 rfl) ⟨rfl, rfl⟩ (show _ < 8 by decide) (by decide) ?_
  refine x_aload_n (pc := 53) C dX7_tape_53 rfl ?_
  refine x_getR (pc := 54) (o := 200) (j := 204) C f_X7_19 dX7_tape_54 (hI 200 rfl) ⟨rfl, rfl⟩ ?_
  refine x_bipush (pc := 57) C (7) dX7_tape_57 (by decide) ?_
  refine x_iconst (pc := 59) C (-1) dX7_tape_59 (by decide) ?_
  refine x_top2i (nI 7) (by decide) ?_
  refine x_iast (pc := 60) (o := 204) C dX7_tape_60 (hI 204 rfl) ⟨rfl, rfl⟩ (show _ < 8 by decide) (by decide) ?_
  exact x_vret (pc := 61) C hQ dX7_tape_61 (is_v rfl) (Nat.le_of_ble_eq_true rfl) (Nat.le_of_ble_eq_true rfl)
set_option maxRecDepth 100000 in
set_option maxHeartbeats 4000000 in
theorem c_X7_again {l : Launch} {V : VV} {L : LL} {N : NN} {I : List Nat} (hI : PI I) (o : Nat) (ho : o < 24) (d s : Int32) : Runs l 2 0 0 yX7_again (Cond.code yX7_again cX7_again 4 none) [aR 200, aI (nI o), aI d, aI s] V L N I (Is none (tapeV V 2 (RF V 1 o) d s (RF V 4 o) 0 (nI o)) (L) N I) := by
  refine run_of RX7 (by decide +kernel) rfl (Nat.le_of_ble_eq_true rfl) (fun E hE C hQ hN => ?_)
  subst hE
  refine x_aload_n (pc := 0) C dX7_again_0 rfl ?_
  refine x_iconst (pc := 1) C (2) dX7_again_1 (by decide) ?_
  refine x_aload_n (pc := 2) C dX7_again_2 rfl ?_
  refine x_iload_n (pc := 3) C dX7_again_3 rfl ?_
  refine x_iconst (pc := 4) C (1) dX7_again_4 (by decide) ?_
  refine x_cV2 (pc := 5) (o := 200) C v_X7_45 dX7_again_5 (c_X7_of hI (o) (1) (by omega)) (hI 200 rfl) rfl (by decide) rfl ⟨Nat.le_refl _, Nat.le_refl _⟩ ?_
  refine x_iload_n (pc := 8) C dX7_again_8 rfl ?_
  refine x_iload_n (pc := 9) C dX7_again_9 rfl ?_
  refine x_aload_n (pc := 10) C dX7_again_10 rfl ?_
  refine x_iload_n (pc := 11) C dX7_again_11 rfl ?_
  refine x_iconst (pc := 12) C (4) dX7_again_12 (by decide) ?_
  refine x_cV2 (pc := 13) (o := 200) C v_X7_45 dX7_again_13 (c_X7_of hI (o) (4) (by omega)) (hI 200 rfl) rfl (by decide) rfl ⟨Nat.le_refl _, Nat.le_refl _⟩ ?_
  refine x_iconst (pc := 16) C (0) dX7_again_16 (by decide) ?_
  refine x_cV6 (pc := 17) (o := 200) C v_X7_49 dX7_again_17 (c_X7_tape hI _ _ _ _ _ _) (hI 200 rfl) rfl (by decide) rfl ⟨Nat.le_refl _, Nat.le_refl _⟩ ?_
  refine x_aload_n (pc := 20) C dX7_again_20 rfl ?_
  refine x_getR (pc := 21) (o := 200) (j := 204) C f_X7_19 dX7_again_21 (hI 200 rfl) ⟨rfl, rfl⟩ ?_
  refine x_bipush (pc := 24) C (7) dX7_again_24 (by decide) ?_
  refine x_iload_n (pc := 26) C dX7_again_26 rfl ?_
  refine x_top2i (nI 7) (by decide) ?_
  refine x_iast (pc := 27) (o := 204) C dX7_again_27 (hI 204 rfl) ⟨rfl, rfl⟩ (show _ < 8 by decide) (by decide) ?_
  exact x_vret (pc := 28) C hQ dX7_again_28 (is_v (by unfold tapeV; exact up_up)) (Nat.le_of_ble_eq_true rfl) (Nat.le_of_ble_eq_true rfl)
set_option maxRecDepth 100000 in
set_option maxHeartbeats 4000000 in
theorem c_X7_meetsOther {l : Launch} {V : VV} {L : LL} {N : NN} {I : List Nat} (hI : PI I) {n : Nat} (hn : V 201 39 = nI n) (hn24 : n ≤ 24) : Runs l 2 0 0 yX7_meetsOther (Cond.code yX7_meetsOther cX7_meetsOther 3 (some .boolean)) [aR 200] V L N I (Is (some (aI (b2i (orTo (hitS (RF V) (V 204 2) (V 204 3) (V 204 4)) n)))) (V) (L) N I) := by
  refine run_of RX7 (by decide +kernel) rfl (Nat.le_of_ble_eq_true rfl) (fun E hE C hQ hN => ?_)
  subst hE
  refine x_iconst (pc := 0) C (0) dX7_meetsOther_0 (by decide) ?_
  refine y_istore_n (pc := 1) C dX7_meetsOther_1 (by decide) rfl ?_
  refine x_iconst (pc := 2) C (0) dX7_meetsOther_2 (by decide) ?_
  refine y_istore_n (pc := 3) C dX7_meetsOther_3 (by decide) rfl ?_
  suffices key : ∀ (k i : Nat) (s : Int32), k + i = n → (s = b2i (orTo (hitS (RF V) (V 204 2) (V 204 3) (V 204 4)) i)) → Wx E 4 [some (aR 200), some (aI s), some (aI (nI i))] [] V L N I 0 0 by
    exact key (n) 0 0 (by omega) (rfl)
  intro k
  induction k with
  | zero =>
    intro i s hk hinv
    refine x_iload_n (pc := 4) C dX7_meetsOther_4 rfl ?_
    refine x_aload_n (pc := 5) C dX7_meetsOther_5 rfl ?_
    refine x_getR (pc := 6) (o := 200) (j := 201) C f_X7_7 dX7_meetsOther_6 (hI 200 rfl) ⟨rfl, rfl⟩ ?_
    refine x_bipush (pc := 9) C (39) dX7_meetsOther_9 (by decide) ?_
    refine x_topi (nI 39) (by decide) ?_
    refine x_iald (pc := 11) (o := 201) C dX7_meetsOther_11 (hI 201 rfl) ⟨rfl, rfl⟩ (show _ < 232 by decide) (by decide) ?_
    refine x_topi (nI n) hn ?_
    refine x_icmp_ge (pc := 12) (tgt := 90) C dX7_meetsOther_12 (by decide) (fun h12 => ?_) (fun h12 => absurd (by exact nI_le (by omega) (by omega)) h12)
    refine x_iload_n (pc := 90) C dX7_meetsOther_90 rfl ?_
    exact x_zret (pc := 91) C hQ dX7_meetsOther_91 (hinv ▸ b2i_01 _) (is_i (by rw [hinv, show i = n by omega])) (Nat.le_of_ble_eq_true rfl) (Nat.le_of_ble_eq_true rfl)
  | succ k ih =>
    intro i s hk hinv
    refine x_iload_n (pc := 4) C dX7_meetsOther_4 rfl ?_
    refine x_aload_n (pc := 5) C dX7_meetsOther_5 rfl ?_
    refine x_getR (pc := 6) (o := 200) (j := 201) C f_X7_7 dX7_meetsOther_6 (hI 200 rfl) ⟨rfl, rfl⟩ ?_
    refine x_bipush (pc := 9) C (39) dX7_meetsOther_9 (by decide) ?_
    refine x_topi (nI 39) (by decide) ?_
    refine x_iald (pc := 11) (o := 201) C dX7_meetsOther_11 (hI 201 rfl) ⟨rfl, rfl⟩ (show _ < 232 by decide) (by decide) ?_
    refine x_topi (nI n) hn ?_
    refine x_icmp_ge (pc := 12) (tgt := 90) C dX7_meetsOther_12 (by decide) (fun h12 => absurd h12 (by exact nI_ge (by omega) (by omega))) (fun h12 => ?_)
    refine x_iload_n (pc := 15) C dX7_meetsOther_15 rfl ?_
    refine x_if_ne (pc := 16) (tgt := 78) C dX7_meetsOther_16 (by decide) (fun h16 => ?_) (fun h16 => ?_)
    · refine x_iconst (pc := 78) C (1) dX7_meetsOther_78 (by decide) ?_
      refine x_goto (pc := 79) (tgt := 83) C dX7_meetsOther_79 (by decide) ?_
      refine y_istore_n (pc := 83) C dX7_meetsOther_83 (by decide) rfl ?_
      refine y_iinc (pc := 84) C (nI (i + 1)) dX7_meetsOther_84 rfl (by exact nI_1 i) (by decide) rfl ?_
      refine x_goto (pc := 87) (tgt := 4) C dX7_meetsOther_87 (by decide) ?_
      exact ih (i + 1) _ (by omega) (by subst hinv; exact or_1 h16)
    · refine x_aload_n (pc := 19) C dX7_meetsOther_19 rfl ?_
      refine x_iload_n (pc := 20) C dX7_meetsOther_20 rfl ?_
      refine x_iconst (pc := 21) C (2) dX7_meetsOther_21 (by decide) ?_
      refine x_cV2 (pc := 22) (o := 200) C v_X7_45 dX7_meetsOther_22 (c_X7_of hI (i) (2) (by omega)) (hI 200 rfl) rfl (by decide) rfl ⟨Nat.le_refl _, Nat.le_refl _⟩ ?_
      refine x_aload_n (pc := 25) C dX7_meetsOther_25 rfl ?_
      refine x_getR (pc := 26) (o := 200) (j := 204) C f_X7_19 dX7_meetsOther_26 (hI 200 rfl) ⟨rfl, rfl⟩ ?_
      refine x_iconst (pc := 29) C (2) dX7_meetsOther_29 (by decide) ?_
      refine x_topi (nI 2) (by decide) ?_
      refine x_iald (pc := 30) (o := 204) C dX7_meetsOther_30 (hI 204 rfl) ⟨rfl, rfl⟩ (show _ < 8 by decide) (by decide) ?_
      refine x_icmp_ne (pc := 31) (tgt := 82) C dX7_meetsOther_31 (by decide) (fun h31 => ?_) (fun h31 => ?_)
      · refine x_iconst (pc := 82) C (0) dX7_meetsOther_82 (by decide) ?_
        refine y_istore_n (pc := 83) C dX7_meetsOther_83 (by decide) rfl ?_
        refine y_iinc (pc := 84) C (nI (i + 1)) dX7_meetsOther_84 rfl (by exact nI_1 i) (by decide) rfl ?_
        refine x_goto (pc := 87) (tgt := 4) C dX7_meetsOther_87 (by decide) ?_
        exact ih (i + 1) _ (by omega) (by subst hinv; exact or_3 h16 (hit_1 (F := RF V) h31))
      · refine x_aload_n (pc := 34) C dX7_meetsOther_34 rfl ?_
        refine x_iload_n (pc := 35) C dX7_meetsOther_35 rfl ?_
        refine x_iconst (pc := 36) C (3) dX7_meetsOther_36 (by decide) ?_
        refine x_cV2 (pc := 37) (o := 200) C v_X7_45 dX7_meetsOther_37 (c_X7_of hI (i) (3) (by omega)) (hI 200 rfl) rfl (by decide) rfl ⟨Nat.le_refl _, Nat.le_refl _⟩ ?_
        refine x_aload_n (pc := 40) C dX7_meetsOther_40 rfl ?_
        refine x_getR (pc := 41) (o := 200) (j := 204) C f_X7_19 dX7_meetsOther_41 (hI 200 rfl) ⟨rfl, rfl⟩ ?_
        refine x_iconst (pc := 44) C (3) dX7_meetsOther_44 (by decide) ?_
        refine x_topi (nI 3) (by decide) ?_
        refine x_iald (pc := 45) (o := 204) C dX7_meetsOther_45 (hI 204 rfl) ⟨rfl, rfl⟩ (show _ < 8 by decide) (by decide) ?_
        refine x_aload_n (pc := 46) C dX7_meetsOther_46 rfl ?_
        refine x_getR (pc := 47) (o := 200) (j := 204) C f_X7_19 dX7_meetsOther_47 (hI 200 rfl) ⟨rfl, rfl⟩ ?_
        refine x_iconst (pc := 50) C (4) dX7_meetsOther_50 (by decide) ?_
        refine x_topi (nI 4) (by decide) ?_
        refine x_iald (pc := 51) (o := 204) C dX7_meetsOther_51 (hI 204 rfl) ⟨rfl, rfl⟩ (show _ < 8 by decide) (by decide) ?_
        refine x_iadd (pc := 52) C dX7_meetsOther_52 ?_
        refine x_icmp_ge (pc := 53) (tgt := 82) C dX7_meetsOther_53 (by decide) (fun h53 => ?_) (fun h53 => ?_)
        · refine x_iconst (pc := 82) C (0) dX7_meetsOther_82 (by decide) ?_
          refine y_istore_n (pc := 83) C dX7_meetsOther_83 (by decide) rfl ?_
          refine y_iinc (pc := 84) C (nI (i + 1)) dX7_meetsOther_84 rfl (by exact nI_1 i) (by decide) rfl ?_
          refine x_goto (pc := 87) (tgt := 4) C dX7_meetsOther_87 (by decide) ?_
          exact ih (i + 1) _ (by omega) (by subst hinv; exact or_3 h16 (hit_2 (F := RF V) h53))
        · refine x_aload_n (pc := 56) C dX7_meetsOther_56 rfl ?_
          refine x_iload_n (pc := 57) C dX7_meetsOther_57 rfl ?_
          refine x_iconst (pc := 58) C (3) dX7_meetsOther_58 (by decide) ?_
          refine x_cV2 (pc := 59) (o := 200) C v_X7_45 dX7_meetsOther_59 (c_X7_of hI (i) (3) (by omega)) (hI 200 rfl) rfl (by decide) rfl ⟨Nat.le_refl _, Nat.le_refl _⟩ ?_
          refine x_aload_n (pc := 62) C dX7_meetsOther_62 rfl ?_
          refine x_iload_n (pc := 63) C dX7_meetsOther_63 rfl ?_
          refine x_iconst (pc := 64) C (4) dX7_meetsOther_64 (by decide) ?_
          refine x_cV2 (pc := 65) (o := 200) C v_X7_45 dX7_meetsOther_65 (c_X7_of hI (i) (4) (by omega)) (hI 200 rfl) rfl (by decide) rfl ⟨Nat.le_refl _, Nat.le_refl _⟩ ?_
          refine x_iadd (pc := 68) C dX7_meetsOther_68 ?_
          refine x_aload_n (pc := 69) C dX7_meetsOther_69 rfl ?_
          refine x_getR (pc := 70) (o := 200) (j := 204) C f_X7_19 dX7_meetsOther_70 (hI 200 rfl) ⟨rfl, rfl⟩ ?_
          refine x_iconst (pc := 73) C (3) dX7_meetsOther_73 (by decide) ?_
          refine x_topi (nI 3) (by decide) ?_
          refine x_iald (pc := 74) (o := 204) C dX7_meetsOther_74 (hI 204 rfl) ⟨rfl, rfl⟩ (show _ < 8 by decide) (by decide) ?_
          refine x_icmp_le (pc := 75) (tgt := 82) C dX7_meetsOther_75 (by decide) (fun h75 => ?_) (fun h75 => ?_)
          · refine x_iconst (pc := 82) C (0) dX7_meetsOther_82 (by decide) ?_
            refine y_istore_n (pc := 83) C dX7_meetsOther_83 (by decide) rfl ?_
            refine y_iinc (pc := 84) C (nI (i + 1)) dX7_meetsOther_84 rfl (by exact nI_1 i) (by decide) rfl ?_
            refine x_goto (pc := 87) (tgt := 4) C dX7_meetsOther_87 (by decide) ?_
            exact ih (i + 1) _ (by omega) (by subst hinv; exact or_3 h16 (hit_3 (F := RF V) h75))
          · refine x_iconst (pc := 78) C (1) dX7_meetsOther_78 (by decide) ?_
            refine x_goto (pc := 79) (tgt := 83) C dX7_meetsOther_79 (by decide) ?_
            refine y_istore_n (pc := 83) C dX7_meetsOther_83 (by decide) rfl ?_
            refine y_iinc (pc := 84) C (nI (i + 1)) dX7_meetsOther_84 rfl (by exact nI_1 i) (by decide) rfl ?_
            refine x_goto (pc := 87) (tgt := 4) C dX7_meetsOther_87 (by decide) ?_
            exact ih (i + 1) _ (by omega) (by subst hinv; exact or_2 (hit_0 (F := RF V) h31 h53 h75))
set_option maxRecDepth 100000 in
set_option maxHeartbeats 4000000 in
theorem c_X7_isEarly {l : Launch} {V : VV} {L : LL} {N : NN} {I : List Nat} (hI : PI I) (o : Nat) (ho : V 204 0 = 2 → V 204 7 = nI o ∧ o < 24) : Runs l 2 0 0 yX7_isEarly (Cond.code yX7_isEarly cX7_isEarly 3 (some .boolean)) [aR 200] V L N I (Is (some (aI (b2i (decide (V 204 0 = 2 ∧ 1440 * V 204 2 + V 204 3 < earlS (RF V) (V 201 4) o))))) (V) (L) N I) := by
  refine run_of RX7 (by decide +kernel) rfl (Nat.le_of_ble_eq_true rfl) (fun E hE C hQ hN => ?_)
  subst hE
  refine x_aload_n (pc := 0) C dX7_isEarly_0 rfl ?_
  refine x_getR (pc := 1) (o := 200) (j := 204) C f_X7_19 dX7_isEarly_1 (hI 200 rfl) ⟨rfl, rfl⟩ ?_
  refine x_iconst (pc := 4) C (0) dX7_isEarly_4 (by decide) ?_
  refine x_topi (nI 0) (by decide) ?_
  refine x_iald (pc := 5) (o := 204) C dX7_isEarly_5 (hI 204 rfl) ⟨rfl, rfl⟩ (show _ < 8 by decide) (by decide) ?_
  refine x_iconst (pc := 6) C (2) dX7_isEarly_6 (by decide) ?_
  refine x_icmp_eq (pc := 7) (tgt := 12) C dX7_isEarly_7 (by decide) (fun h7 => ?_) (fun h7 => ?_)
  · have ho1 := (ho h7).1
    have ho2 := (ho h7).2
    refine x_aload_n (pc := 12) C dX7_isEarly_12 rfl ?_
    refine x_getR (pc := 13) (o := 200) (j := 204) C f_X7_19 dX7_isEarly_13 (hI 200 rfl) ⟨rfl, rfl⟩ ?_
    refine x_bipush (pc := 16) C (7) dX7_isEarly_16 (by decide) ?_
    refine x_topi (nI 7) (by decide) ?_
    refine x_iald (pc := 18) (o := 204) C dX7_isEarly_18 (hI 204 rfl) ⟨rfl, rfl⟩ (show _ < 8 by decide) (by decide) ?_
    refine x_topi (nI o) ho1 ?_
    refine y_istore_n (pc := 19) C dX7_isEarly_19 (by decide) rfl ?_
    refine x_sipush (pc := 20) C (1440) dX7_isEarly_20 (by decide) ?_
    refine x_aload_n (pc := 23) C dX7_isEarly_23 rfl ?_
    refine x_iload_n (pc := 24) C dX7_isEarly_24 rfl ?_
    refine x_iconst (pc := 25) C (2) dX7_isEarly_25 (by decide) ?_
    refine x_cV2 (pc := 26) (o := 200) C v_X7_45 dX7_isEarly_26 (c_X7_of hI (o) (2) (by omega)) (hI 200 rfl) rfl (by decide) rfl ⟨Nat.le_refl _, Nat.le_refl _⟩ ?_
    refine x_imul (pc := 29) C dX7_isEarly_29 ?_
    refine x_aload_n (pc := 30) C dX7_isEarly_30 rfl ?_
    refine x_iload_n (pc := 31) C dX7_isEarly_31 rfl ?_
    refine x_iconst (pc := 32) C (3) dX7_isEarly_32 (by decide) ?_
    refine x_cV2 (pc := 33) (o := 200) C v_X7_45 dX7_isEarly_33 (c_X7_of hI (o) (3) (by omega)) (hI 200 rfl) rfl (by decide) rfl ⟨Nat.le_refl _, Nat.le_refl _⟩ ?_
    refine x_iadd (pc := 36) C dX7_isEarly_36 ?_
    refine x_aload_n (pc := 37) C dX7_isEarly_37 rfl ?_
    refine x_iload_n (pc := 38) C dX7_isEarly_38 rfl ?_
    refine x_iconst (pc := 39) C (4) dX7_isEarly_39 (by decide) ?_
    refine x_cV2 (pc := 40) (o := 200) C v_X7_45 dX7_isEarly_40 (c_X7_of hI (o) (4) (by omega)) (hI 200 rfl) rfl (by decide) rfl ⟨Nat.le_refl _, Nat.le_refl _⟩ ?_
    refine x_iadd (pc := 43) C dX7_isEarly_43 ?_
    refine x_bipush (pc := 44) C (60) dX7_isEarly_44 (by decide) ?_
    refine x_aload_n (pc := 46) C dX7_isEarly_46 rfl ?_
    refine x_getR (pc := 47) (o := 200) (j := 201) C f_X7_7 dX7_isEarly_47 (hI 200 rfl) ⟨rfl, rfl⟩ ?_
    refine x_iconst (pc := 50) C (4) dX7_isEarly_50 (by decide) ?_
    refine x_topi (nI 4) (by decide) ?_
    refine x_iald (pc := 51) (o := 201) C dX7_isEarly_51 (hI 201 rfl) ⟨rfl, rfl⟩ (show _ < 232 by decide) (by decide) ?_
    refine x_imul (pc := 52) C dX7_isEarly_52 ?_
    refine x_iadd (pc := 53) C dX7_isEarly_53 ?_
    refine y_istore_n (pc := 54) C dX7_isEarly_54 (by decide) rfl ?_
    refine x_sipush (pc := 55) C (1440) dX7_isEarly_55 (by decide) ?_
    refine x_aload_n (pc := 58) C dX7_isEarly_58 rfl ?_
    refine x_getR (pc := 59) (o := 200) (j := 204) C f_X7_19 dX7_isEarly_59 (hI 200 rfl) ⟨rfl, rfl⟩ ?_
    refine x_iconst (pc := 62) C (2) dX7_isEarly_62 (by decide) ?_
    refine x_topi (nI 2) (by decide) ?_
    refine x_iald (pc := 63) (o := 204) C dX7_isEarly_63 (hI 204 rfl) ⟨rfl, rfl⟩ (show _ < 8 by decide) (by decide) ?_
    refine x_imul (pc := 64) C dX7_isEarly_64 ?_
    refine x_aload_n (pc := 65) C dX7_isEarly_65 rfl ?_
    refine x_getR (pc := 66) (o := 200) (j := 204) C f_X7_19 dX7_isEarly_66 (hI 200 rfl) ⟨rfl, rfl⟩ ?_
    refine x_iconst (pc := 69) C (3) dX7_isEarly_69 (by decide) ?_
    refine x_topi (nI 3) (by decide) ?_
    refine x_iald (pc := 70) (o := 204) C dX7_isEarly_70 (hI 204 rfl) ⟨rfl, rfl⟩ (show _ < 8 by decide) (by decide) ?_
    refine x_iadd (pc := 71) C dX7_isEarly_71 ?_
    refine x_iload_n (pc := 72) C dX7_isEarly_72 rfl ?_
    refine x_icmp_ge (pc := 73) (tgt := 80) C dX7_isEarly_73 (by decide) (fun h73 => ?_) (fun h73 => ?_)
    · refine x_iconst (pc := 80) C (0) dX7_isEarly_80 (by decide) ?_
      exact x_zret (pc := 81) C hQ dX7_isEarly_81 (by decide) (is_i (by first | exact (b2i_c ⟨h7, Int32.not_le.mp h73⟩).symm | exact (b2i_cn (fun q => absurd q.2 (Int32.not_lt.mpr h73))).symm)) (Nat.le_of_ble_eq_true rfl) (Nat.le_of_ble_eq_true rfl)
    · refine x_iconst (pc := 76) C (1) dX7_isEarly_76 (by decide) ?_
      refine x_goto (pc := 77) (tgt := 81) C dX7_isEarly_77 (by decide) ?_
      exact x_zret (pc := 81) C hQ dX7_isEarly_81 (by decide) (is_i (by first | exact (b2i_c ⟨h7, Int32.not_le.mp h73⟩).symm | exact (b2i_cn (fun q => absurd q.2 (Int32.not_lt.mpr h73))).symm)) (Nat.le_of_ble_eq_true rfl) (Nat.le_of_ble_eq_true rfl)
  · refine x_iconst (pc := 10) C (0) dX7_isEarly_10 (by decide) ?_
    exact x_zret (pc := 11) C hQ dX7_isEarly_11 (by decide) (is_i (b2i_cn (fun q => h7 q.1)).symm) (Nat.le_of_ble_eq_true rfl) (Nat.le_of_ble_eq_true rfl)
set_option maxRecDepth 100000 in
set_option maxHeartbeats 4000000 in
theorem c_X7_plannedWorth {l : Launch} {V : VV} {L : LL} {N : NN} {I : List Nat} (hI : PI I) {n : Nat} (hn : V 201 39 = nI n) (hn24 : n ≤ 24) (g : Int32) : Runs l 3 0 0 yX7_plannedWorth (Cond.code yX7_plannedWorth cX7_plannedWorth 4 (some .int)) [aR 200, aI g] V L N I (Is (some (aI (wolS (RF V) (V 201 5) n g))) (V) (L) N I) := by
  refine run_of RX7 (by decide +kernel) rfl (Nat.le_of_ble_eq_true rfl) (fun E hE C hQ hN => ?_)
  subst hE
  refine x_iconst (pc := 0) C (0) dX7_plannedWorth_0 (by decide) ?_
  refine y_istore_n (pc := 1) C dX7_plannedWorth_1 (by decide) rfl ?_
  refine x_iconst (pc := 2) C (0) dX7_plannedWorth_2 (by decide) ?_
  refine y_istore_n (pc := 3) C dX7_plannedWorth_3 (by decide) rfl ?_
  suffices key : ∀ (k i : Nat) (s : Int32), k + i = n → (s = sumTo (fun s => if RF V 1 s = g then worthF (V 201 5) (RF V 0 s) (RF V 4 s) else 0) i) → Wx E 4 [some (aR 200), some (aI g), some (aI s), some (aI (nI i))] [] V L N I 0 0 by
    exact key (n) 0 0 (by omega) (rfl)
  intro k
  induction k with
  | zero =>
    intro i s hk hinv
    refine x_iload_n (pc := 4) C dX7_plannedWorth_4 rfl ?_
    refine x_aload_n (pc := 5) C dX7_plannedWorth_5 rfl ?_
    refine x_getR (pc := 6) (o := 200) (j := 201) C f_X7_7 dX7_plannedWorth_6 (hI 200 rfl) ⟨rfl, rfl⟩ ?_
    refine x_bipush (pc := 9) C (39) dX7_plannedWorth_9 (by decide) ?_
    refine x_topi (nI 39) (by decide) ?_
    refine x_iald (pc := 11) (o := 201) C dX7_plannedWorth_11 (hI 201 rfl) ⟨rfl, rfl⟩ (show _ < 232 by decide) (by decide) ?_
    refine x_topi (nI n) hn ?_
    refine x_icmp_ge (pc := 12) (tgt := 54) C dX7_plannedWorth_12 (by decide) (fun h12 => ?_) (fun h12 => absurd (by exact nI_le (by omega) (by omega)) h12)
    refine x_iload_n (pc := 54) C dX7_plannedWorth_54 rfl ?_
    exact x_iret (pc := 55) C hQ dX7_plannedWorth_55 (is_i (by rw [hinv]; congr 1; omega)) (Nat.le_of_ble_eq_true rfl) (Nat.le_of_ble_eq_true rfl)
  | succ k ih =>
    intro i s hk hinv
    refine x_iload_n (pc := 4) C dX7_plannedWorth_4 rfl ?_
    refine x_aload_n (pc := 5) C dX7_plannedWorth_5 rfl ?_
    refine x_getR (pc := 6) (o := 200) (j := 201) C f_X7_7 dX7_plannedWorth_6 (hI 200 rfl) ⟨rfl, rfl⟩ ?_
    refine x_bipush (pc := 9) C (39) dX7_plannedWorth_9 (by decide) ?_
    refine x_topi (nI 39) (by decide) ?_
    refine x_iald (pc := 11) (o := 201) C dX7_plannedWorth_11 (hI 201 rfl) ⟨rfl, rfl⟩ (show _ < 232 by decide) (by decide) ?_
    refine x_topi (nI n) hn ?_
    refine x_icmp_ge (pc := 12) (tgt := 54) C dX7_plannedWorth_12 (by decide) (fun h12 => absurd h12 (by exact nI_ge (by omega) (by omega))) (fun h12 => ?_)
    refine x_iload_n (pc := 15) C dX7_plannedWorth_15 rfl ?_
    refine x_aload_n (pc := 16) C dX7_plannedWorth_16 rfl ?_
    refine x_iload_n (pc := 17) C dX7_plannedWorth_17 rfl ?_
    refine x_iconst (pc := 18) C (1) dX7_plannedWorth_18 (by decide) ?_
    refine x_cV2 (pc := 19) (o := 200) C v_X7_45 dX7_plannedWorth_19 (c_X7_of hI (i) (1) (by omega)) (hI 200 rfl) rfl (by decide) rfl ⟨Nat.le_refl _, Nat.le_refl _⟩ ?_
    refine x_iload_n (pc := 22) C dX7_plannedWorth_22 rfl ?_
    refine x_icmp_ne (pc := 23) (tgt := 45) C dX7_plannedWorth_23 (by decide) (fun h23 => ?_) (fun h23 => ?_)
    · refine x_iconst (pc := 45) C (0) dX7_plannedWorth_45 (by decide) ?_
      refine x_iadd (pc := 46) C dX7_plannedWorth_46 ?_
      refine y_istore_n (pc := 47) C dX7_plannedWorth_47 (by decide) rfl ?_
      refine y_iinc (pc := 48) C (nI (i + 1)) dX7_plannedWorth_48 rfl (by exact nI_1 i) (by decide) rfl ?_
      refine x_goto (pc := 51) (tgt := 4) C dX7_plannedWorth_51 (by decide) ?_
      exact ih (i + 1) _ (by omega) (by rw [sumTo, ← hinv, Int32.add_zero]; exact sum_f h23)
    · refine x_aload_n (pc := 26) C dX7_plannedWorth_26 rfl ?_
      refine x_aload_n (pc := 27) C dX7_plannedWorth_27 rfl ?_
      refine x_iload_n (pc := 28) C dX7_plannedWorth_28 rfl ?_
      refine x_iconst (pc := 29) C (0) dX7_plannedWorth_29 (by decide) ?_
      refine x_cV2 (pc := 30) (o := 200) C v_X7_45 dX7_plannedWorth_30 (c_X7_of hI (i) (0) (by omega)) (hI 200 rfl) rfl (by decide) rfl ⟨Nat.le_refl _, Nat.le_refl _⟩ ?_
      refine x_aload_n (pc := 33) C dX7_plannedWorth_33 rfl ?_
      refine x_iload_n (pc := 34) C dX7_plannedWorth_34 rfl ?_
      refine x_iconst (pc := 35) C (4) dX7_plannedWorth_35 (by decide) ?_
      refine x_cV2 (pc := 36) (o := 200) C v_X7_45 dX7_plannedWorth_36 (c_X7_of hI (i) (4) (by omega)) (hI 200 rfl) rfl (by decide) rfl ⟨Nat.le_refl _, Nat.le_refl _⟩ ?_
      refine x_cV2 (pc := 39) (o := 200) C v_X7_53 dX7_plannedWorth_39 (c_X7_worth hI _ _) (hI 200 rfl) rfl (by decide) rfl ⟨Nat.le_refl _, Nat.le_refl _⟩ ?_
      refine x_goto (pc := 42) (tgt := 46) C dX7_plannedWorth_42 (by decide) ?_
      refine x_iadd (pc := 46) C dX7_plannedWorth_46 ?_
      refine y_istore_n (pc := 47) C dX7_plannedWorth_47 (by decide) rfl ?_
      refine y_iinc (pc := 48) C (nI (i + 1)) dX7_plannedWorth_48 rfl (by exact nI_1 i) (by decide) rfl ?_
      refine x_goto (pc := 51) (tgt := 4) C dX7_plannedWorth_51 (by decide) ?_
      exact ih (i + 1) _ (by omega) (by rw [sumTo, ← hinv]; exact sum_t h23)
set_option maxRecDepth 100000 in
set_option maxHeartbeats 4000000 in
theorem c_X7_inHour {l : Launch} {V : VV} {L : LL} {N : NN} {I : List Nat} (f m h : Int32) : Runs l 1 0 0 yX7_inHour (Cond.code yX7_inHour cX7_inHour 5 (some .int)) [aI f, aI m, aI h] V L N I (Is (some (aI (inHourR f m h))) (V) (L) N I) := by
  refine run_of RX7 (by decide +kernel) rfl (Nat.le_of_ble_eq_true rfl) (fun E hE C hQ hN => ?_)
  subst hE
  refine x_iload_n (pc := 0) C dX7_inHour_0 rfl ?_
  refine x_bipush (pc := 1) C (60) dX7_inHour_1 (by decide) ?_
  refine x_iload_n (pc := 3) C dX7_inHour_3 rfl ?_
  refine x_imul (pc := 4) C dX7_inHour_4 ?_
  refine x_icmp_le (pc := 5) (tgt := 12) C dX7_inHour_5 (by decide) (fun h5 => ?_) (fun h5 => ?_)
  · refine x_bipush (pc := 12) C (60) dX7_inHour_12 (by decide) ?_
    refine x_iload_n (pc := 14) C dX7_inHour_14 rfl ?_
    refine x_imul (pc := 15) C dX7_inHour_15 ?_
    refine x_topi (if 60 * h < f then f else 60 * h) (by first | rw [if_pos (Int32.not_le.mp h5)] | rw [if_neg (Int32.not_lt.mpr h5)]) ?_
    refine y_istore_n (pc := 16) C dX7_inHour_16 (by decide) rfl ?_
    refine x_iload_n (pc := 17) C dX7_inHour_17 rfl ?_
    refine x_iload_n (pc := 18) C dX7_inHour_18 rfl ?_
    refine x_iadd (pc := 19) C dX7_inHour_19 ?_
    refine x_bipush (pc := 20) C (60) dX7_inHour_20 (by decide) ?_
    refine x_iload_n (pc := 22) C dX7_inHour_22 rfl ?_
    refine x_imul (pc := 23) C dX7_inHour_23 ?_
    refine x_bipush (pc := 24) C (60) dX7_inHour_24 (by decide) ?_
    refine x_iadd (pc := 26) C dX7_inHour_26 ?_
    refine x_icmp_ge (pc := 27) (tgt := 36) C dX7_inHour_27 (by decide) (fun h27 => ?_) (fun h27 => ?_)
    · refine x_bipush (pc := 36) C (60) dX7_inHour_36 (by decide) ?_
      refine x_iload_n (pc := 38) C dX7_inHour_38 rfl ?_
      refine x_imul (pc := 39) C dX7_inHour_39 ?_
      refine x_bipush (pc := 40) C (60) dX7_inHour_40 (by decide) ?_
      refine x_iadd (pc := 42) C dX7_inHour_42 ?_
      refine x_topi (if f + m < 60 * h + 60 then f + m else 60 * h + 60) (by first | rw [if_pos (Int32.not_le.mp h27)] | rw [if_neg (Int32.not_lt.mpr h27)]) ?_
      refine y_istore (pc := 43) C dX7_inHour_43 (by decide) rfl ?_
      refine x_iload (pc := 45) C dX7_inHour_45 rfl ?_
      refine x_iload_n (pc := 47) C dX7_inHour_47 rfl ?_
      refine x_icmp_le (pc := 48) (tgt := 58) C dX7_inHour_48 (by decide) (fun h48 => ?_) (fun h48 => ?_)
      · refine x_iconst (pc := 58) C (0) dX7_inHour_58 (by decide) ?_
        exact x_iret (pc := 59) C hQ dX7_inHour_59 (is_i (by unfold inHourR; first | rw [if_pos (Int32.not_le.mp h48)] | rw [if_neg (Int32.not_lt.mpr h48)])) (Nat.le_of_ble_eq_true rfl) (Nat.le_of_ble_eq_true rfl)
      · refine x_iload (pc := 51) C dX7_inHour_51 rfl ?_
        refine x_iload_n (pc := 53) C dX7_inHour_53 rfl ?_
        refine x_isub (pc := 54) C dX7_inHour_54 ?_
        refine x_goto (pc := 55) (tgt := 59) C dX7_inHour_55 (by decide) ?_
        exact x_iret (pc := 59) C hQ dX7_inHour_59 (is_i (by unfold inHourR; first | rw [if_pos (Int32.not_le.mp h48)] | rw [if_neg (Int32.not_lt.mpr h48)])) (Nat.le_of_ble_eq_true rfl) (Nat.le_of_ble_eq_true rfl)
    · refine x_iload_n (pc := 30) C dX7_inHour_30 rfl ?_
      refine x_iload_n (pc := 31) C dX7_inHour_31 rfl ?_
      refine x_iadd (pc := 32) C dX7_inHour_32 ?_
      refine x_goto (pc := 33) (tgt := 43) C dX7_inHour_33 (by decide) ?_
      refine x_topi (if f + m < 60 * h + 60 then f + m else 60 * h + 60) (by first | rw [if_pos (Int32.not_le.mp h27)] | rw [if_neg (Int32.not_lt.mpr h27)]) ?_
      refine y_istore (pc := 43) C dX7_inHour_43 (by decide) rfl ?_
      refine x_iload (pc := 45) C dX7_inHour_45 rfl ?_
      refine x_iload_n (pc := 47) C dX7_inHour_47 rfl ?_
      refine x_icmp_le (pc := 48) (tgt := 58) C dX7_inHour_48 (by decide) (fun h48 => ?_) (fun h48 => ?_)
      · refine x_iconst (pc := 58) C (0) dX7_inHour_58 (by decide) ?_
        exact x_iret (pc := 59) C hQ dX7_inHour_59 (is_i (by unfold inHourR; first | rw [if_pos (Int32.not_le.mp h48)] | rw [if_neg (Int32.not_lt.mpr h48)])) (Nat.le_of_ble_eq_true rfl) (Nat.le_of_ble_eq_true rfl)
      · refine x_iload (pc := 51) C dX7_inHour_51 rfl ?_
        refine x_iload_n (pc := 53) C dX7_inHour_53 rfl ?_
        refine x_isub (pc := 54) C dX7_inHour_54 ?_
        refine x_goto (pc := 55) (tgt := 59) C dX7_inHour_55 (by decide) ?_
        exact x_iret (pc := 59) C hQ dX7_inHour_59 (is_i (by unfold inHourR; first | rw [if_pos (Int32.not_le.mp h48)] | rw [if_neg (Int32.not_lt.mpr h48)])) (Nat.le_of_ble_eq_true rfl) (Nat.le_of_ble_eq_true rfl)
  · refine x_iload_n (pc := 8) C dX7_inHour_8 rfl ?_
    refine x_goto (pc := 9) (tgt := 16) C dX7_inHour_9 (by decide) ?_
    refine x_topi (if 60 * h < f then f else 60 * h) (by first | rw [if_pos (Int32.not_le.mp h5)] | rw [if_neg (Int32.not_lt.mpr h5)]) ?_
    refine y_istore_n (pc := 16) C dX7_inHour_16 (by decide) rfl ?_
    refine x_iload_n (pc := 17) C dX7_inHour_17 rfl ?_
    refine x_iload_n (pc := 18) C dX7_inHour_18 rfl ?_
    refine x_iadd (pc := 19) C dX7_inHour_19 ?_
    refine x_bipush (pc := 20) C (60) dX7_inHour_20 (by decide) ?_
    refine x_iload_n (pc := 22) C dX7_inHour_22 rfl ?_
    refine x_imul (pc := 23) C dX7_inHour_23 ?_
    refine x_bipush (pc := 24) C (60) dX7_inHour_24 (by decide) ?_
    refine x_iadd (pc := 26) C dX7_inHour_26 ?_
    refine x_icmp_ge (pc := 27) (tgt := 36) C dX7_inHour_27 (by decide) (fun h27 => ?_) (fun h27 => ?_)
    · refine x_bipush (pc := 36) C (60) dX7_inHour_36 (by decide) ?_
      refine x_iload_n (pc := 38) C dX7_inHour_38 rfl ?_
      refine x_imul (pc := 39) C dX7_inHour_39 ?_
      refine x_bipush (pc := 40) C (60) dX7_inHour_40 (by decide) ?_
      refine x_iadd (pc := 42) C dX7_inHour_42 ?_
      refine x_topi (if f + m < 60 * h + 60 then f + m else 60 * h + 60) (by first | rw [if_pos (Int32.not_le.mp h27)] | rw [if_neg (Int32.not_lt.mpr h27)]) ?_
      refine y_istore (pc := 43) C dX7_inHour_43 (by decide) rfl ?_
      refine x_iload (pc := 45) C dX7_inHour_45 rfl ?_
      refine x_iload_n (pc := 47) C dX7_inHour_47 rfl ?_
      refine x_icmp_le (pc := 48) (tgt := 58) C dX7_inHour_48 (by decide) (fun h48 => ?_) (fun h48 => ?_)
      · refine x_iconst (pc := 58) C (0) dX7_inHour_58 (by decide) ?_
        exact x_iret (pc := 59) C hQ dX7_inHour_59 (is_i (by unfold inHourR; first | rw [if_pos (Int32.not_le.mp h48)] | rw [if_neg (Int32.not_lt.mpr h48)])) (Nat.le_of_ble_eq_true rfl) (Nat.le_of_ble_eq_true rfl)
      · refine x_iload (pc := 51) C dX7_inHour_51 rfl ?_
        refine x_iload_n (pc := 53) C dX7_inHour_53 rfl ?_
        refine x_isub (pc := 54) C dX7_inHour_54 ?_
        refine x_goto (pc := 55) (tgt := 59) C dX7_inHour_55 (by decide) ?_
        exact x_iret (pc := 59) C hQ dX7_inHour_59 (is_i (by unfold inHourR; first | rw [if_pos (Int32.not_le.mp h48)] | rw [if_neg (Int32.not_lt.mpr h48)])) (Nat.le_of_ble_eq_true rfl) (Nat.le_of_ble_eq_true rfl)
    · refine x_iload_n (pc := 30) C dX7_inHour_30 rfl ?_
      refine x_iload_n (pc := 31) C dX7_inHour_31 rfl ?_
      refine x_iadd (pc := 32) C dX7_inHour_32 ?_
      refine x_goto (pc := 33) (tgt := 43) C dX7_inHour_33 (by decide) ?_
      refine x_topi (if f + m < 60 * h + 60 then f + m else 60 * h + 60) (by first | rw [if_pos (Int32.not_le.mp h27)] | rw [if_neg (Int32.not_lt.mpr h27)]) ?_
      refine y_istore (pc := 43) C dX7_inHour_43 (by decide) rfl ?_
      refine x_iload (pc := 45) C dX7_inHour_45 rfl ?_
      refine x_iload_n (pc := 47) C dX7_inHour_47 rfl ?_
      refine x_icmp_le (pc := 48) (tgt := 58) C dX7_inHour_48 (by decide) (fun h48 => ?_) (fun h48 => ?_)
      · refine x_iconst (pc := 58) C (0) dX7_inHour_58 (by decide) ?_
        exact x_iret (pc := 59) C hQ dX7_inHour_59 (is_i (by unfold inHourR; first | rw [if_pos (Int32.not_le.mp h48)] | rw [if_neg (Int32.not_lt.mpr h48)])) (Nat.le_of_ble_eq_true rfl) (Nat.le_of_ble_eq_true rfl)
      · refine x_iload (pc := 51) C dX7_inHour_51 rfl ?_
        refine x_iload_n (pc := 53) C dX7_inHour_53 rfl ?_
        refine x_isub (pc := 54) C dX7_inHour_54 ?_
        refine x_goto (pc := 55) (tgt := 59) C dX7_inHour_55 (by decide) ?_
        exact x_iret (pc := 59) C hQ dX7_inHour_59 (is_i (by unfold inHourR; first | rw [if_pos (Int32.not_le.mp h48)] | rw [if_neg (Int32.not_lt.mpr h48)])) (Nat.le_of_ble_eq_true rfl) (Nat.le_of_ble_eq_true rfl)
set_option maxRecDepth 100000 in
set_option maxHeartbeats 4000000 in
theorem c_X7_planned {l : Launch} {V : VV} {L : LL} {N : NN} {I : List Nat} (hI : PI I) {n : Nat} (hn : V 201 39 = nI n) (hn24 : n ≤ 24) (d h : Int32) : Runs l 3 0 0 yX7_planned (Cond.code yX7_planned cX7_planned 5 (some .int)) [aR 200, aI d, aI h] V L N I (Is (some (aI (planR (RF V) n d h))) (V) (L) N I) := by
  refine run_of RX7 (by decide +kernel) rfl (Nat.le_of_ble_eq_true rfl) (fun E hE C hQ hN => ?_)
  subst hE
  refine x_iconst (pc := 0) C (0) dX7_planned_0 (by decide) ?_
  refine y_istore_n (pc := 1) C dX7_planned_1 (by decide) rfl ?_
  refine x_iconst (pc := 2) C (0) dX7_planned_2 (by decide) ?_
  refine y_istore (pc := 3) C dX7_planned_3 (by decide) rfl ?_
  suffices key : ∀ (k i : Nat) (s : Int32), k + i = n → (s = sumTo (fun s => if RF V 2 s = d then inHourR (RF V 3 s) (RF V 5 s) h else 0) i) → Wx E 5 [some (aR 200), some (aI d), some (aI h), some (aI s), some (aI (nI i))] [] V L N I 0 0 by
    exact key (n) 0 0 (by omega) (rfl)
  intro k
  induction k with
  | zero =>
    intro i s hk hinv
    refine x_iload (pc := 5) C dX7_planned_5 rfl ?_
    refine x_aload_n (pc := 7) C dX7_planned_7 rfl ?_
    refine x_getR (pc := 8) (o := 200) (j := 201) C f_X7_7 dX7_planned_8 (hI 200 rfl) ⟨rfl, rfl⟩ ?_
    refine x_bipush (pc := 11) C (39) dX7_planned_11 (by decide) ?_
    refine x_topi (nI 39) (by decide) ?_
    refine x_iald (pc := 13) (o := 201) C dX7_planned_13 (hI 201 rfl) ⟨rfl, rfl⟩ (show _ < 232 by decide) (by decide) ?_
    refine x_topi (nI n) hn ?_
    refine x_icmp_ge (pc := 14) (tgt := 59) C dX7_planned_14 (by decide) (fun h14 => ?_) (fun h14 => absurd (by exact nI_le (by omega) (by omega)) h14)
    refine x_iload_n (pc := 59) C dX7_planned_59 rfl ?_
    exact x_iret (pc := 60) C hQ dX7_planned_60 (is_i (by rw [hinv]; congr 1; omega)) (Nat.le_of_ble_eq_true rfl) (Nat.le_of_ble_eq_true rfl)
  | succ k ih =>
    intro i s hk hinv
    refine x_iload (pc := 5) C dX7_planned_5 rfl ?_
    refine x_aload_n (pc := 7) C dX7_planned_7 rfl ?_
    refine x_getR (pc := 8) (o := 200) (j := 201) C f_X7_7 dX7_planned_8 (hI 200 rfl) ⟨rfl, rfl⟩ ?_
    refine x_bipush (pc := 11) C (39) dX7_planned_11 (by decide) ?_
    refine x_topi (nI 39) (by decide) ?_
    refine x_iald (pc := 13) (o := 201) C dX7_planned_13 (hI 201 rfl) ⟨rfl, rfl⟩ (show _ < 232 by decide) (by decide) ?_
    refine x_topi (nI n) hn ?_
    refine x_icmp_ge (pc := 14) (tgt := 59) C dX7_planned_14 (by decide) (fun h14 => absurd h14 (by exact nI_ge (by omega) (by omega))) (fun h14 => ?_)
    refine x_iload_n (pc := 17) C dX7_planned_17 rfl ?_
    refine x_aload_n (pc := 18) C dX7_planned_18 rfl ?_
    refine x_iload (pc := 19) C dX7_planned_19 rfl ?_
    refine x_iconst (pc := 21) C (2) dX7_planned_21 (by decide) ?_
    refine x_cV2 (pc := 22) (o := 200) C v_X7_45 dX7_planned_22 (c_X7_of hI (i) (2) (by omega)) (hI 200 rfl) rfl (by decide) rfl ⟨Nat.le_refl _, Nat.le_refl _⟩ ?_
    refine x_iload_n (pc := 25) C dX7_planned_25 rfl ?_
    refine x_icmp_ne (pc := 26) (tgt := 50) C dX7_planned_26 (by decide) (fun h26 => ?_) (fun h26 => ?_)
    · refine x_iconst (pc := 50) C (0) dX7_planned_50 (by decide) ?_
      refine x_iadd (pc := 51) C dX7_planned_51 ?_
      refine y_istore_n (pc := 52) C dX7_planned_52 (by decide) rfl ?_
      refine y_iinc (pc := 53) C (nI (i + 1)) dX7_planned_53 rfl (by exact nI_1 i) (by decide) rfl ?_
      refine x_goto (pc := 56) (tgt := 5) C dX7_planned_56 (by decide) ?_
      exact ih (i + 1) _ (by omega) (by rw [sumTo, ← hinv, Int32.add_zero]; exact sum_f h26)
    · refine x_aload_n (pc := 29) C dX7_planned_29 rfl ?_
      refine x_iload (pc := 30) C dX7_planned_30 rfl ?_
      refine x_iconst (pc := 32) C (3) dX7_planned_32 (by decide) ?_
      refine x_cV2 (pc := 33) (o := 200) C v_X7_45 dX7_planned_33 (c_X7_of hI (i) (3) (by omega)) (hI 200 rfl) rfl (by decide) rfl ⟨Nat.le_refl _, Nat.le_refl _⟩ ?_
      refine x_aload_n (pc := 36) C dX7_planned_36 rfl ?_
      refine x_iload (pc := 37) C dX7_planned_37 rfl ?_
      refine x_iconst (pc := 39) C (5) dX7_planned_39 (by decide) ?_
      refine x_cV2 (pc := 40) (o := 200) C v_X7_45 dX7_planned_40 (c_X7_of hI (i) (5) (by omega)) (hI 200 rfl) rfl (by decide) rfl ⟨Nat.le_refl _, Nat.le_refl _⟩ ?_
      refine x_iload_n (pc := 43) C dX7_planned_43 rfl ?_
      refine x_cS3 (pc := 44) C s_X7_56 dX7_planned_44 (c_X7_inHour _ _ _) (by decide) rfl ⟨Nat.le_refl _, Nat.le_refl _⟩ ?_
      refine x_goto (pc := 47) (tgt := 51) C dX7_planned_47 (by decide) ?_
      refine x_iadd (pc := 51) C dX7_planned_51 ?_
      refine y_istore_n (pc := 52) C dX7_planned_52 (by decide) rfl ?_
      refine y_iinc (pc := 53) C (nI (i + 1)) dX7_planned_53 rfl (by exact nI_1 i) (by decide) rfl ?_
      refine x_goto (pc := 56) (tgt := 5) C dX7_planned_56 (by decide) ?_
      exact ih (i + 1) _ (by omega) (by rw [sumTo, ← hinv]; exact sum_t h26)
set_option maxRecDepth 100000 in
set_option maxHeartbeats 4000000 in
theorem c_X7_sponsorsTooMuch {l : Launch} {V : VV} {L : LL} {N : NN} {I : List Nat} (hI : PI I) {n : Nat} (hn : V 201 39 = nI n) (hn24 : n ≤ 24) : Runs l 4 0 0 yX7_sponsorsTooMuch (Cond.code yX7_sponsorsTooMuch cX7_sponsorsTooMuch 3 (some .boolean)) [aR 200] V L N I (Is (some (aI (b2i (orTo (exR (RF V) (V 201 6) n (V 204 2) (V 204 3) (V 204 5)) 24)))) (V) (L) N I) := by
  refine run_of RX7 (by decide +kernel) rfl (Nat.le_of_ble_eq_true rfl) (fun E hE C hQ hN => ?_)
  subst hE
  refine x_iconst (pc := 0) C (0) dX7_sponsorsTooMuch_0 (by decide) ?_
  refine y_istore_n (pc := 1) C dX7_sponsorsTooMuch_1 (by decide) rfl ?_
  refine x_iconst (pc := 2) C (0) dX7_sponsorsTooMuch_2 (by decide) ?_
  refine y_istore_n (pc := 3) C dX7_sponsorsTooMuch_3 (by decide) rfl ?_
  suffices key : ∀ (k i : Nat) (s : Int32), k + i = 24 → (s = b2i (orTo (exR (RF V) (V 201 6) n (V 204 2) (V 204 3) (V 204 5)) i)) → Wx E 4 [some (aR 200), some (aI s), some (aI (nI i))] [] V L N I 0 0 by
    exact key (24) 0 0 (by omega) (rfl)
  intro k
  induction k with
  | zero =>
    intro i s hk hinv
    refine x_iload_n (pc := 4) C dX7_sponsorsTooMuch_4 rfl ?_
    refine x_bipush (pc := 5) C (24) dX7_sponsorsTooMuch_5 (by decide) ?_
    refine x_icmp_ge (pc := 7) (tgt := 64) C dX7_sponsorsTooMuch_7 (by decide) (fun h7 => ?_) (fun h7 => absurd (by exact nI_le (a := 24) (b := i) (by omega) (by omega)) h7)
    refine x_iload_n (pc := 64) C dX7_sponsorsTooMuch_64 rfl ?_
    exact x_zret (pc := 65) C hQ dX7_sponsorsTooMuch_65 (hinv ▸ b2i_01 _) (is_i (by rw [hinv, show i = 24 by omega])) (Nat.le_of_ble_eq_true rfl) (Nat.le_of_ble_eq_true rfl)
  | succ k ih =>
    intro i s hk hinv
    refine x_iload_n (pc := 4) C dX7_sponsorsTooMuch_4 rfl ?_
    refine x_bipush (pc := 5) C (24) dX7_sponsorsTooMuch_5 (by decide) ?_
    refine x_icmp_ge (pc := 7) (tgt := 64) C dX7_sponsorsTooMuch_7 (by decide) (fun h7 => absurd h7 (by exact nI_ge (a := i) (b := 24) (by omega) (by omega))) (fun h7 => ?_)
    refine x_iload_n (pc := 10) C dX7_sponsorsTooMuch_10 rfl ?_
    refine x_if_ne (pc := 11) (tgt := 52) C dX7_sponsorsTooMuch_11 (by decide) (fun h11 => ?_) (fun h11 => ?_)
    · refine x_iconst (pc := 52) C (1) dX7_sponsorsTooMuch_52 (by decide) ?_
      refine x_goto (pc := 53) (tgt := 57) C dX7_sponsorsTooMuch_53 (by decide) ?_
      refine y_istore_n (pc := 57) C dX7_sponsorsTooMuch_57 (by decide) rfl ?_
      refine y_iinc (pc := 58) C (nI (i + 1)) dX7_sponsorsTooMuch_58 rfl (by exact nI_1 i) (by decide) rfl ?_
      refine x_goto (pc := 61) (tgt := 4) C dX7_sponsorsTooMuch_61 (by decide) ?_
      exact ih (i + 1) _ (by omega) (by subst hinv; exact or_1 h11)
    · refine x_aload_n (pc := 14) C dX7_sponsorsTooMuch_14 rfl ?_
      refine x_aload_n (pc := 15) C dX7_sponsorsTooMuch_15 rfl ?_
      refine x_getR (pc := 16) (o := 200) (j := 204) C f_X7_19 dX7_sponsorsTooMuch_16 (hI 200 rfl) ⟨rfl, rfl⟩ ?_
      refine x_iconst (pc := 19) C (2) dX7_sponsorsTooMuch_19 (by decide) ?_
      refine x_topi (nI 2) (by decide) ?_
      refine x_iald (pc := 20) (o := 204) C dX7_sponsorsTooMuch_20 (hI 204 rfl) ⟨rfl, rfl⟩ (show _ < 8 by decide) (by decide) ?_
      refine x_iload_n (pc := 21) C dX7_sponsorsTooMuch_21 rfl ?_
      refine x_cV2 (pc := 22) (o := 200) C v_X7_60 dX7_sponsorsTooMuch_22 (c_X7_planned hI hn hn24 _ _) (hI 200 rfl) rfl (by decide) rfl ⟨Nat.le_refl _, Nat.le_refl _⟩ ?_
      refine x_aload_n (pc := 25) C dX7_sponsorsTooMuch_25 rfl ?_
      refine x_getR (pc := 26) (o := 200) (j := 204) C f_X7_19 dX7_sponsorsTooMuch_26 (hI 200 rfl) ⟨rfl, rfl⟩ ?_
      refine x_iconst (pc := 29) C (3) dX7_sponsorsTooMuch_29 (by decide) ?_
      refine x_topi (nI 3) (by decide) ?_
      refine x_iald (pc := 30) (o := 204) C dX7_sponsorsTooMuch_30 (hI 204 rfl) ⟨rfl, rfl⟩ (show _ < 8 by decide) (by decide) ?_
      refine x_aload_n (pc := 31) C dX7_sponsorsTooMuch_31 rfl ?_
      refine x_getR (pc := 32) (o := 200) (j := 204) C f_X7_19 dX7_sponsorsTooMuch_32 (hI 200 rfl) ⟨rfl, rfl⟩ ?_
      refine x_iconst (pc := 35) C (5) dX7_sponsorsTooMuch_35 (by decide) ?_
      refine x_topi (nI 5) (by decide) ?_
      refine x_iald (pc := 36) (o := 204) C dX7_sponsorsTooMuch_36 (hI 204 rfl) ⟨rfl, rfl⟩ (show _ < 8 by decide) (by decide) ?_
      refine x_iload_n (pc := 37) C dX7_sponsorsTooMuch_37 rfl ?_
      refine x_cS3 (pc := 38) C s_X7_56 dX7_sponsorsTooMuch_38 (c_X7_inHour _ _ _) (by decide) rfl ⟨Nat.le_refl _, Nat.le_refl _⟩ ?_
      refine x_iadd (pc := 41) C dX7_sponsorsTooMuch_41 ?_
      refine x_aload_n (pc := 42) C dX7_sponsorsTooMuch_42 rfl ?_
      refine x_getR (pc := 43) (o := 200) (j := 201) C f_X7_7 dX7_sponsorsTooMuch_43 (hI 200 rfl) ⟨rfl, rfl⟩ ?_
      refine x_bipush (pc := 46) C (6) dX7_sponsorsTooMuch_46 (by decide) ?_
      refine x_topi (nI 6) (by decide) ?_
      refine x_iald (pc := 48) (o := 201) C dX7_sponsorsTooMuch_48 (hI 201 rfl) ⟨rfl, rfl⟩ (show _ < 232 by decide) (by decide) ?_
      refine x_icmp_le (pc := 49) (tgt := 56) C dX7_sponsorsTooMuch_49 (by decide) (fun h49 => ?_) (fun h49 => ?_)
      · refine x_iconst (pc := 56) C (0) dX7_sponsorsTooMuch_56 (by decide) ?_
        refine y_istore_n (pc := 57) C dX7_sponsorsTooMuch_57 (by decide) rfl ?_
        refine y_iinc (pc := 58) C (nI (i + 1)) dX7_sponsorsTooMuch_58 rfl (by exact nI_1 i) (by decide) rfl ?_
        refine x_goto (pc := 61) (tgt := 4) C dX7_sponsorsTooMuch_61 (by decide) ?_
        exact ih (i + 1) _ (by omega) (by subst hinv; exact or_3 h11 (fun q => absurd (of_decide_eq_true q) (Int32.not_lt.mpr h49)))
      · refine x_iconst (pc := 52) C (1) dX7_sponsorsTooMuch_52 (by decide) ?_
        refine x_goto (pc := 53) (tgt := 57) C dX7_sponsorsTooMuch_53 (by decide) ?_
        refine y_istore_n (pc := 57) C dX7_sponsorsTooMuch_57 (by decide) rfl ?_
        refine y_iinc (pc := 58) C (nI (i + 1)) dX7_sponsorsTooMuch_58 rfl (by exact nI_1 i) (by decide) rfl ?_
        refine x_goto (pc := 61) (tgt := 4) C dX7_sponsorsTooMuch_61 (by decide) ?_
        exact ih (i + 1) _ (by omega) (by subst hinv; exact or_2 (decide_eq_true (Int32.not_le.mp h49)))
set_option maxRecDepth 100000 in
set_option maxHeartbeats 4000000 in
theorem c_X7_refusal {l : Launch} {V : VV} {L : LL} {N : NN} {I : List Nat} (hI : PI I) {n : Nat} (hn : V 201 39 = nI n) (hn24 : n ≤ 24) {g o : Nat} (hk : V 204 0 = 2 → V 204 7 = nI o ∧ o < 24) (hg : V 204 1 = nI g) (hg6 : g < 6) : Runs l 5 0 0 yX7_refusal (Cond.code yX7_refusal cX7_refusal 2 (some .int)) [aR 200] V L N I (Is (some (aI (refR (RF V) (V 201) (V 201 (8 + 5 * g + 0) + V 201 (8 + 5 * g + 1)) n (V 204 0) (nI g) (V 204 2) (V 204 3) (V 204 4) (V 204 5) o))) (V) (L) N I) := by
  refine run_of RX7 (by decide +kernel) rfl (Nat.le_of_ble_eq_true rfl) (fun E hE C hQ hN => ?_)
  subst hE
  refine x_aload_n (pc := 0) C dX7_refusal_0 rfl ?_
  refine x_getR (pc := 1) (o := 200) (j := 201) C f_X7_7 dX7_refusal_1 (hI 200 rfl) ⟨rfl, rfl⟩ ?_
  refine x_bipush (pc := 4) C (39) dX7_refusal_4 (by decide) ?_
  refine x_topi (nI 39) (by decide) ?_
  refine x_iald (pc := 6) (o := 201) C dX7_refusal_6 (hI 201 rfl) ⟨rfl, rfl⟩ (show _ < 232 by decide) (by decide) ?_
  refine x_topi (nI n) hn ?_
  refine x_bipush (pc := 7) C (24) dX7_refusal_7 (by decide) ?_
  refine x_icmp_ne (pc := 9) (tgt := 14) C dX7_refusal_9 (by decide) (fun h9 => ?_) (fun h9 => ?_)
  · refine x_aload_n (pc := 14) C dX7_refusal_14 rfl ?_
    refine x_getR (pc := 15) (o := 200) (j := 204) C f_X7_19 dX7_refusal_15 (hI 200 rfl) ⟨rfl, rfl⟩ ?_
    refine x_iconst (pc := 18) C (0) dX7_refusal_18 (by decide) ?_
    refine x_topi (nI 0) (by decide) ?_
    refine x_iald (pc := 19) (o := 204) C dX7_refusal_19 (hI 204 rfl) ⟨rfl, rfl⟩ (show _ < 8 by decide) (by decide) ?_
    refine x_iconst (pc := 20) C (2) dX7_refusal_20 (by decide) ?_
    refine x_icmp_ne (pc := 21) (tgt := 42) C dX7_refusal_21 (by decide) (fun h21 => ?_) (fun h21 => ?_)
    · refine x_aload_n (pc := 42) C dX7_refusal_42 rfl ?_
      refine x_getR (pc := 43) (o := 200) (j := 204) C f_X7_19 dX7_refusal_43 (hI 200 rfl) ⟨rfl, rfl⟩ ?_
      refine x_iconst (pc := 46) C (3) dX7_refusal_46 (by decide) ?_
      refine x_topi (nI 3) (by decide) ?_
      refine x_iald (pc := 47) (o := 204) C dX7_refusal_47 (hI 204 rfl) ⟨rfl, rfl⟩ (show _ < 8 by decide) (by decide) ?_
      refine x_aload_n (pc := 48) C dX7_refusal_48 rfl ?_
      refine x_getR (pc := 49) (o := 200) (j := 201) C f_X7_7 dX7_refusal_49 (hI 200 rfl) ⟨rfl, rfl⟩ ?_
      refine x_iconst (pc := 52) C (0) dX7_refusal_52 (by decide) ?_
      refine x_topi (nI 0) (by decide) ?_
      refine x_iald (pc := 53) (o := 201) C dX7_refusal_53 (hI 201 rfl) ⟨rfl, rfl⟩ (show _ < 232 by decide) (by decide) ?_
      refine x_icmp_lt (pc := 54) (tgt := 79) C dX7_refusal_54 (by decide) (fun h54 => ?_) (fun h54 => ?_)
      · refine x_iconst (pc := 79) C (3) dX7_refusal_79 (by decide) ?_
        exact x_iret (pc := 80) C hQ dX7_refusal_80 (is_i (by rw [refR, if_neg (fun q => h9 (congrArg nI q)), if_neg (by first | exact fun q => h21 q.1 | exact fun q => h37 q.2), if_pos (by first | exact Or.inl h54 | exact Or.inr (Int32.not_le.mp h76))])) (Nat.le_of_ble_eq_true rfl) (Nat.le_of_ble_eq_true rfl)
      · refine x_aload_n (pc := 57) C dX7_refusal_57 rfl ?_
        refine x_getR (pc := 58) (o := 200) (j := 204) C f_X7_19 dX7_refusal_58 (hI 200 rfl) ⟨rfl, rfl⟩ ?_
        refine x_iconst (pc := 61) C (3) dX7_refusal_61 (by decide) ?_
        refine x_topi (nI 3) (by decide) ?_
        refine x_iald (pc := 62) (o := 204) C dX7_refusal_62 (hI 204 rfl) ⟨rfl, rfl⟩ (show _ < 8 by decide) (by decide) ?_
        refine x_aload_n (pc := 63) C dX7_refusal_63 rfl ?_
        refine x_getR (pc := 64) (o := 200) (j := 204) C f_X7_19 dX7_refusal_64 (hI 200 rfl) ⟨rfl, rfl⟩ ?_
        refine x_iconst (pc := 67) C (4) dX7_refusal_67 (by decide) ?_
        refine x_topi (nI 4) (by decide) ?_
        refine x_iald (pc := 68) (o := 204) C dX7_refusal_68 (hI 204 rfl) ⟨rfl, rfl⟩ (show _ < 8 by decide) (by decide) ?_
        refine x_iadd (pc := 69) C dX7_refusal_69 ?_
        refine x_aload_n (pc := 70) C dX7_refusal_70 rfl ?_
        refine x_getR (pc := 71) (o := 200) (j := 201) C f_X7_7 dX7_refusal_71 (hI 200 rfl) ⟨rfl, rfl⟩ ?_
        refine x_iconst (pc := 74) C (1) dX7_refusal_74 (by decide) ?_
        refine x_topi (nI 1) (by decide) ?_
        refine x_iald (pc := 75) (o := 201) C dX7_refusal_75 (hI 201 rfl) ⟨rfl, rfl⟩ (show _ < 232 by decide) (by decide) ?_
        refine x_icmp_le (pc := 76) (tgt := 81) C dX7_refusal_76 (by decide) (fun h76 => ?_) (fun h76 => ?_)
        · refine x_aload_n (pc := 81) C dX7_refusal_81 rfl ?_
          refine x_cV0 (pc := 82) (o := 200) C v_X7_63 dX7_refusal_82 (c_X7_meetsOther hI hn hn24) (hI 200 rfl) rfl (by decide) rfl ⟨Nat.le_refl _, Nat.le_refl _⟩ ?_
          refine x_if_eq (pc := 85) (tgt := 90) C dX7_refusal_85 (by decide) (fun h85 => ?_) (fun h85 => ?_)
          · refine x_aload_n (pc := 90) C dX7_refusal_90 rfl ?_
            refine x_cV0 (pc := 91) (o := 200) C v_X7_67 dX7_refusal_91 (c_X7_isEarly hI o hk) (hI 200 rfl) rfl (by decide) rfl ⟨Nat.le_refl _, Nat.le_refl _⟩ ?_
            refine x_if_eq (pc := 94) (tgt := 99) C dX7_refusal_94 (by decide) (fun h94 => ?_) (fun h94 => ?_)
            · refine x_aload_n (pc := 99) C dX7_refusal_99 rfl ?_
              refine x_getR (pc := 100) (o := 200) (j := 204) C f_X7_19 dX7_refusal_100 (hI 200 rfl) ⟨rfl, rfl⟩ ?_
              refine x_iconst (pc := 103) C (1) dX7_refusal_103 (by decide) ?_
              refine x_topi (nI 1) (by decide) ?_
              refine x_iald (pc := 104) (o := 204) C dX7_refusal_104 (hI 204 rfl) ⟨rfl, rfl⟩ (show _ < 8 by decide) (by decide) ?_
              refine x_topi (nI g) hg ?_
              refine y_istore_n (pc := 105) C dX7_refusal_105 (by decide) rfl ?_
              refine x_aload_n (pc := 106) C dX7_refusal_106 rfl ?_
              refine x_iload_n (pc := 107) C dX7_refusal_107 rfl ?_
              refine x_cV1 (pc := 108) (o := 200) C v_X7_70 dX7_refusal_108 (c_X7_plannedWorth hI hn hn24 _) (hI 200 rfl) rfl (by decide) rfl ⟨Nat.le_refl _, Nat.le_refl _⟩ ?_
              refine x_aload_n (pc := 111) C dX7_refusal_111 rfl ?_
              refine x_aload_n (pc := 112) C dX7_refusal_112 rfl ?_
              refine x_getR (pc := 113) (o := 200) (j := 204) C f_X7_19 dX7_refusal_113 (hI 200 rfl) ⟨rfl, rfl⟩ ?_
              refine x_iconst (pc := 116) C (0) dX7_refusal_116 (by decide) ?_
              refine x_topi (nI 0) (by decide) ?_
              refine x_iald (pc := 117) (o := 204) C dX7_refusal_117 (hI 204 rfl) ⟨rfl, rfl⟩ (show _ < 8 by decide) (by decide) ?_
              refine x_aload_n (pc := 118) C dX7_refusal_118 rfl ?_
              refine x_getR (pc := 119) (o := 200) (j := 204) C f_X7_19 dX7_refusal_119 (hI 200 rfl) ⟨rfl, rfl⟩ ?_
              refine x_iconst (pc := 122) C (4) dX7_refusal_122 (by decide) ?_
              refine x_topi (nI 4) (by decide) ?_
              refine x_iald (pc := 123) (o := 204) C dX7_refusal_123 (hI 204 rfl) ⟨rfl, rfl⟩ (show _ < 8 by decide) (by decide) ?_
              refine x_cV2 (pc := 124) (o := 200) C v_X7_53 dX7_refusal_124 (c_X7_worth hI _ _) (hI 200 rfl) rfl (by decide) rfl ⟨Nat.le_refl _, Nat.le_refl _⟩ ?_
              refine x_iadd (pc := 127) C dX7_refusal_127 ?_
              refine x_aload_n (pc := 128) C dX7_refusal_128 rfl ?_
              refine x_iload_n (pc := 129) C dX7_refusal_129 rfl ?_
              refine x_cV1 (pc := 130) (o := 200) C v_X7_74 dX7_refusal_130 (c_X7_allowance hI g hg6) (hI 200 rfl) rfl (by decide) rfl ⟨Nat.le_refl _, Nat.le_refl _⟩ ?_
              refine x_icmp_le (pc := 133) (tgt := 139) C dX7_refusal_133 (by decide) (fun h133 => ?_) (fun h133 => ?_)
              · refine x_aload_n (pc := 139) C dX7_refusal_139 rfl ?_
                refine x_cV0 (pc := 140) (o := 200) C v_X7_77 dX7_refusal_140 (c_X7_sponsorsTooMuch hI hn hn24) (hI 200 rfl) rfl (by decide) rfl ⟨Nat.le_refl _, Nat.le_refl _⟩ ?_
                refine x_if_eq (pc := 143) (tgt := 151) C dX7_refusal_143 (by decide) (fun h143 => ?_) (fun h143 => ?_)
                · refine x_iconst (pc := 151) C (0) dX7_refusal_151 (by decide) ?_
                  exact x_iret (pc := 152) C hQ dX7_refusal_152 (is_i (by rw [refR, if_neg (fun q => h9 (congrArg nI q)), if_neg (by first | exact fun q => h21 q.1 | exact fun q => h37 q.2), if_neg (not_or.mpr ⟨h54, Int32.not_lt.mpr h76⟩), if_neg (b2i_n h85), if_neg (b2i_nd h94), if_neg (Int32.not_lt.mpr h133)]; first | rw [if_pos (b2i_t h143)] | rw [if_neg (b2i_n h143)])) (Nat.le_of_ble_eq_true rfl) (Nat.le_of_ble_eq_true rfl)
                · refine x_bipush (pc := 146) C (7) dX7_refusal_146 (by decide) ?_
                  refine x_goto (pc := 148) (tgt := 152) C dX7_refusal_148 (by decide) ?_
                  exact x_iret (pc := 152) C hQ dX7_refusal_152 (is_i (by rw [refR, if_neg (fun q => h9 (congrArg nI q)), if_neg (by first | exact fun q => h21 q.1 | exact fun q => h37 q.2), if_neg (not_or.mpr ⟨h54, Int32.not_lt.mpr h76⟩), if_neg (b2i_n h85), if_neg (b2i_nd h94), if_neg (Int32.not_lt.mpr h133)]; first | rw [if_pos (b2i_t h143)] | rw [if_neg (b2i_n h143)])) (Nat.le_of_ble_eq_true rfl) (Nat.le_of_ble_eq_true rfl)
              · refine x_bipush (pc := 136) C (6) dX7_refusal_136 (by decide) ?_
                exact x_iret (pc := 138) C hQ dX7_refusal_138 (is_i (by rw [refR, if_neg (fun q => h9 (congrArg nI q)), if_neg (by first | exact fun q => h21 q.1 | exact fun q => h37 q.2), if_neg (not_or.mpr ⟨h54, Int32.not_lt.mpr h76⟩), if_neg (b2i_n h85), if_neg (b2i_nd h94), if_pos (Int32.not_le.mp h133)])) (Nat.le_of_ble_eq_true rfl) (Nat.le_of_ble_eq_true rfl)
            · refine x_iconst (pc := 97) C (5) dX7_refusal_97 (by decide) ?_
              exact x_iret (pc := 98) C hQ dX7_refusal_98 (is_i (by rw [refR, if_neg (fun q => h9 (congrArg nI q)), if_neg (by first | exact fun q => h21 q.1 | exact fun q => h37 q.2), if_neg (not_or.mpr ⟨h54, Int32.not_lt.mpr h76⟩), if_neg (b2i_n h85), if_pos (b2i_d h94)])) (Nat.le_of_ble_eq_true rfl) (Nat.le_of_ble_eq_true rfl)
          · refine x_iconst (pc := 88) C (4) dX7_refusal_88 (by decide) ?_
            exact x_iret (pc := 89) C hQ dX7_refusal_89 (is_i (by rw [refR, if_neg (fun q => h9 (congrArg nI q)), if_neg (by first | exact fun q => h21 q.1 | exact fun q => h37 q.2), if_neg (not_or.mpr ⟨h54, Int32.not_lt.mpr h76⟩), if_pos (b2i_t h85)])) (Nat.le_of_ble_eq_true rfl) (Nat.le_of_ble_eq_true rfl)
        · refine x_iconst (pc := 79) C (3) dX7_refusal_79 (by decide) ?_
          exact x_iret (pc := 80) C hQ dX7_refusal_80 (is_i (by rw [refR, if_neg (fun q => h9 (congrArg nI q)), if_neg (by first | exact fun q => h21 q.1 | exact fun q => h37 q.2), if_pos (by first | exact Or.inl h54 | exact Or.inr (Int32.not_le.mp h76))])) (Nat.le_of_ble_eq_true rfl) (Nat.le_of_ble_eq_true rfl)
    · have ho1 := (hk h21).1
      have ho2 := (hk h21).2
      refine x_aload_n (pc := 24) C dX7_refusal_24 rfl ?_
      refine x_aload_n (pc := 25) C dX7_refusal_25 rfl ?_
      refine x_getR (pc := 26) (o := 200) (j := 204) C f_X7_19 dX7_refusal_26 (hI 200 rfl) ⟨rfl, rfl⟩ ?_
      refine x_bipush (pc := 29) C (7) dX7_refusal_29 (by decide) ?_
      refine x_topi (nI 7) (by decide) ?_
      refine x_iald (pc := 31) (o := 204) C dX7_refusal_31 (hI 204 rfl) ⟨rfl, rfl⟩ (show _ < 8 by decide) (by decide) ?_
      refine x_topi (nI o) ho1 ?_
      refine x_iconst (pc := 32) C (0) dX7_refusal_32 (by decide) ?_
      refine x_cV2 (pc := 33) (o := 200) C v_X7_45 dX7_refusal_33 (c_X7_of hI (o) (0) (by omega)) (hI 200 rfl) rfl (by decide) rfl ⟨Nat.le_refl _, Nat.le_refl _⟩ ?_
      refine x_iconst (pc := 36) C (2) dX7_refusal_36 (by decide) ?_
      refine x_icmp_ne (pc := 37) (tgt := 42) C dX7_refusal_37 (by decide) (fun h37 => ?_) (fun h37 => ?_)
      · refine x_aload_n (pc := 42) C dX7_refusal_42 rfl ?_
        refine x_getR (pc := 43) (o := 200) (j := 204) C f_X7_19 dX7_refusal_43 (hI 200 rfl) ⟨rfl, rfl⟩ ?_
        refine x_iconst (pc := 46) C (3) dX7_refusal_46 (by decide) ?_
        refine x_topi (nI 3) (by decide) ?_
        refine x_iald (pc := 47) (o := 204) C dX7_refusal_47 (hI 204 rfl) ⟨rfl, rfl⟩ (show _ < 8 by decide) (by decide) ?_
        refine x_aload_n (pc := 48) C dX7_refusal_48 rfl ?_
        refine x_getR (pc := 49) (o := 200) (j := 201) C f_X7_7 dX7_refusal_49 (hI 200 rfl) ⟨rfl, rfl⟩ ?_
        refine x_iconst (pc := 52) C (0) dX7_refusal_52 (by decide) ?_
        refine x_topi (nI 0) (by decide) ?_
        refine x_iald (pc := 53) (o := 201) C dX7_refusal_53 (hI 201 rfl) ⟨rfl, rfl⟩ (show _ < 232 by decide) (by decide) ?_
        refine x_icmp_lt (pc := 54) (tgt := 79) C dX7_refusal_54 (by decide) (fun h54 => ?_) (fun h54 => ?_)
        · refine x_iconst (pc := 79) C (3) dX7_refusal_79 (by decide) ?_
          exact x_iret (pc := 80) C hQ dX7_refusal_80 (is_i (by rw [refR, if_neg (fun q => h9 (congrArg nI q)), if_neg (by first | exact fun q => h21 q.1 | exact fun q => h37 q.2), if_pos (by first | exact Or.inl h54 | exact Or.inr (Int32.not_le.mp h76))])) (Nat.le_of_ble_eq_true rfl) (Nat.le_of_ble_eq_true rfl)
        · refine x_aload_n (pc := 57) C dX7_refusal_57 rfl ?_
          refine x_getR (pc := 58) (o := 200) (j := 204) C f_X7_19 dX7_refusal_58 (hI 200 rfl) ⟨rfl, rfl⟩ ?_
          refine x_iconst (pc := 61) C (3) dX7_refusal_61 (by decide) ?_
          refine x_topi (nI 3) (by decide) ?_
          refine x_iald (pc := 62) (o := 204) C dX7_refusal_62 (hI 204 rfl) ⟨rfl, rfl⟩ (show _ < 8 by decide) (by decide) ?_
          refine x_aload_n (pc := 63) C dX7_refusal_63 rfl ?_
          refine x_getR (pc := 64) (o := 200) (j := 204) C f_X7_19 dX7_refusal_64 (hI 200 rfl) ⟨rfl, rfl⟩ ?_
          refine x_iconst (pc := 67) C (4) dX7_refusal_67 (by decide) ?_
          refine x_topi (nI 4) (by decide) ?_
          refine x_iald (pc := 68) (o := 204) C dX7_refusal_68 (hI 204 rfl) ⟨rfl, rfl⟩ (show _ < 8 by decide) (by decide) ?_
          refine x_iadd (pc := 69) C dX7_refusal_69 ?_
          refine x_aload_n (pc := 70) C dX7_refusal_70 rfl ?_
          refine x_getR (pc := 71) (o := 200) (j := 201) C f_X7_7 dX7_refusal_71 (hI 200 rfl) ⟨rfl, rfl⟩ ?_
          refine x_iconst (pc := 74) C (1) dX7_refusal_74 (by decide) ?_
          refine x_topi (nI 1) (by decide) ?_
          refine x_iald (pc := 75) (o := 201) C dX7_refusal_75 (hI 201 rfl) ⟨rfl, rfl⟩ (show _ < 232 by decide) (by decide) ?_
          refine x_icmp_le (pc := 76) (tgt := 81) C dX7_refusal_76 (by decide) (fun h76 => ?_) (fun h76 => ?_)
          · refine x_aload_n (pc := 81) C dX7_refusal_81 rfl ?_
            refine x_cV0 (pc := 82) (o := 200) C v_X7_63 dX7_refusal_82 (c_X7_meetsOther hI hn hn24) (hI 200 rfl) rfl (by decide) rfl ⟨Nat.le_refl _, Nat.le_refl _⟩ ?_
            refine x_if_eq (pc := 85) (tgt := 90) C dX7_refusal_85 (by decide) (fun h85 => ?_) (fun h85 => ?_)
            · refine x_aload_n (pc := 90) C dX7_refusal_90 rfl ?_
              refine x_cV0 (pc := 91) (o := 200) C v_X7_67 dX7_refusal_91 (c_X7_isEarly hI o hk) (hI 200 rfl) rfl (by decide) rfl ⟨Nat.le_refl _, Nat.le_refl _⟩ ?_
              refine x_if_eq (pc := 94) (tgt := 99) C dX7_refusal_94 (by decide) (fun h94 => ?_) (fun h94 => ?_)
              · refine x_aload_n (pc := 99) C dX7_refusal_99 rfl ?_
                refine x_getR (pc := 100) (o := 200) (j := 204) C f_X7_19 dX7_refusal_100 (hI 200 rfl) ⟨rfl, rfl⟩ ?_
                refine x_iconst (pc := 103) C (1) dX7_refusal_103 (by decide) ?_
                refine x_topi (nI 1) (by decide) ?_
                refine x_iald (pc := 104) (o := 204) C dX7_refusal_104 (hI 204 rfl) ⟨rfl, rfl⟩ (show _ < 8 by decide) (by decide) ?_
                refine x_topi (nI g) hg ?_
                refine y_istore_n (pc := 105) C dX7_refusal_105 (by decide) rfl ?_
                refine x_aload_n (pc := 106) C dX7_refusal_106 rfl ?_
                refine x_iload_n (pc := 107) C dX7_refusal_107 rfl ?_
                refine x_cV1 (pc := 108) (o := 200) C v_X7_70 dX7_refusal_108 (c_X7_plannedWorth hI hn hn24 _) (hI 200 rfl) rfl (by decide) rfl ⟨Nat.le_refl _, Nat.le_refl _⟩ ?_
                refine x_aload_n (pc := 111) C dX7_refusal_111 rfl ?_
                refine x_aload_n (pc := 112) C dX7_refusal_112 rfl ?_
                refine x_getR (pc := 113) (o := 200) (j := 204) C f_X7_19 dX7_refusal_113 (hI 200 rfl) ⟨rfl, rfl⟩ ?_
                refine x_iconst (pc := 116) C (0) dX7_refusal_116 (by decide) ?_
                refine x_topi (nI 0) (by decide) ?_
                refine x_iald (pc := 117) (o := 204) C dX7_refusal_117 (hI 204 rfl) ⟨rfl, rfl⟩ (show _ < 8 by decide) (by decide) ?_
                refine x_aload_n (pc := 118) C dX7_refusal_118 rfl ?_
                refine x_getR (pc := 119) (o := 200) (j := 204) C f_X7_19 dX7_refusal_119 (hI 200 rfl) ⟨rfl, rfl⟩ ?_
                refine x_iconst (pc := 122) C (4) dX7_refusal_122 (by decide) ?_
                refine x_topi (nI 4) (by decide) ?_
                refine x_iald (pc := 123) (o := 204) C dX7_refusal_123 (hI 204 rfl) ⟨rfl, rfl⟩ (show _ < 8 by decide) (by decide) ?_
                refine x_cV2 (pc := 124) (o := 200) C v_X7_53 dX7_refusal_124 (c_X7_worth hI _ _) (hI 200 rfl) rfl (by decide) rfl ⟨Nat.le_refl _, Nat.le_refl _⟩ ?_
                refine x_iadd (pc := 127) C dX7_refusal_127 ?_
                refine x_aload_n (pc := 128) C dX7_refusal_128 rfl ?_
                refine x_iload_n (pc := 129) C dX7_refusal_129 rfl ?_
                refine x_cV1 (pc := 130) (o := 200) C v_X7_74 dX7_refusal_130 (c_X7_allowance hI g hg6) (hI 200 rfl) rfl (by decide) rfl ⟨Nat.le_refl _, Nat.le_refl _⟩ ?_
                refine x_icmp_le (pc := 133) (tgt := 139) C dX7_refusal_133 (by decide) (fun h133 => ?_) (fun h133 => ?_)
                · refine x_aload_n (pc := 139) C dX7_refusal_139 rfl ?_
                  refine x_cV0 (pc := 140) (o := 200) C v_X7_77 dX7_refusal_140 (c_X7_sponsorsTooMuch hI hn hn24) (hI 200 rfl) rfl (by decide) rfl ⟨Nat.le_refl _, Nat.le_refl _⟩ ?_
                  refine x_if_eq (pc := 143) (tgt := 151) C dX7_refusal_143 (by decide) (fun h143 => ?_) (fun h143 => ?_)
                  · refine x_iconst (pc := 151) C (0) dX7_refusal_151 (by decide) ?_
                    exact x_iret (pc := 152) C hQ dX7_refusal_152 (is_i (by rw [refR, if_neg (fun q => h9 (congrArg nI q)), if_neg (by first | exact fun q => h21 q.1 | exact fun q => h37 q.2), if_neg (not_or.mpr ⟨h54, Int32.not_lt.mpr h76⟩), if_neg (b2i_n h85), if_neg (b2i_nd h94), if_neg (Int32.not_lt.mpr h133)]; first | rw [if_pos (b2i_t h143)] | rw [if_neg (b2i_n h143)])) (Nat.le_of_ble_eq_true rfl) (Nat.le_of_ble_eq_true rfl)
                  · refine x_bipush (pc := 146) C (7) dX7_refusal_146 (by decide) ?_
                    refine x_goto (pc := 148) (tgt := 152) C dX7_refusal_148 (by decide) ?_
                    exact x_iret (pc := 152) C hQ dX7_refusal_152 (is_i (by rw [refR, if_neg (fun q => h9 (congrArg nI q)), if_neg (by first | exact fun q => h21 q.1 | exact fun q => h37 q.2), if_neg (not_or.mpr ⟨h54, Int32.not_lt.mpr h76⟩), if_neg (b2i_n h85), if_neg (b2i_nd h94), if_neg (Int32.not_lt.mpr h133)]; first | rw [if_pos (b2i_t h143)] | rw [if_neg (b2i_n h143)])) (Nat.le_of_ble_eq_true rfl) (Nat.le_of_ble_eq_true rfl)
                · refine x_bipush (pc := 136) C (6) dX7_refusal_136 (by decide) ?_
                  exact x_iret (pc := 138) C hQ dX7_refusal_138 (is_i (by rw [refR, if_neg (fun q => h9 (congrArg nI q)), if_neg (by first | exact fun q => h21 q.1 | exact fun q => h37 q.2), if_neg (not_or.mpr ⟨h54, Int32.not_lt.mpr h76⟩), if_neg (b2i_n h85), if_neg (b2i_nd h94), if_pos (Int32.not_le.mp h133)])) (Nat.le_of_ble_eq_true rfl) (Nat.le_of_ble_eq_true rfl)
              · refine x_iconst (pc := 97) C (5) dX7_refusal_97 (by decide) ?_
                exact x_iret (pc := 98) C hQ dX7_refusal_98 (is_i (by rw [refR, if_neg (fun q => h9 (congrArg nI q)), if_neg (by first | exact fun q => h21 q.1 | exact fun q => h37 q.2), if_neg (not_or.mpr ⟨h54, Int32.not_lt.mpr h76⟩), if_neg (b2i_n h85), if_pos (b2i_d h94)])) (Nat.le_of_ble_eq_true rfl) (Nat.le_of_ble_eq_true rfl)
            · refine x_iconst (pc := 88) C (4) dX7_refusal_88 (by decide) ?_
              exact x_iret (pc := 89) C hQ dX7_refusal_89 (is_i (by rw [refR, if_neg (fun q => h9 (congrArg nI q)), if_neg (by first | exact fun q => h21 q.1 | exact fun q => h37 q.2), if_neg (not_or.mpr ⟨h54, Int32.not_lt.mpr h76⟩), if_pos (b2i_t h85)])) (Nat.le_of_ble_eq_true rfl) (Nat.le_of_ble_eq_true rfl)
          · refine x_iconst (pc := 79) C (3) dX7_refusal_79 (by decide) ?_
            exact x_iret (pc := 80) C hQ dX7_refusal_80 (is_i (by rw [refR, if_neg (fun q => h9 (congrArg nI q)), if_neg (by first | exact fun q => h21 q.1 | exact fun q => h37 q.2), if_pos (by first | exact Or.inl h54 | exact Or.inr (Int32.not_le.mp h76))])) (Nat.le_of_ble_eq_true rfl) (Nat.le_of_ble_eq_true rfl)
      · refine x_iconst (pc := 40) C (2) dX7_refusal_40 (by decide) ?_
        exact x_iret (pc := 41) C hQ dX7_refusal_41 (is_i (by rw [refR, if_neg (fun q => h9 (congrArg nI q)), if_pos ⟨h21, h37⟩])) (Nat.le_of_ble_eq_true rfl) (Nat.le_of_ble_eq_true rfl)
  · refine x_iconst (pc := 12) C (1) dX7_refusal_12 (by decide) ?_
    exact x_iret (pc := 13) C hQ dX7_refusal_13 (is_i (by rw [refR, if_pos (eq24 hn24 h9)])) (Nat.le_of_ble_eq_true rfl) (Nat.le_of_ble_eq_true rfl)
