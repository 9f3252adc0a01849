set_option maxRecDepth 100000 in
set_option maxHeartbeats 4000000 in
theorem c_X6_isWithin {l : Launch} {V : VV} {L : LL} {N : NN} {I : List Nat} (v lo hi : Int32) : Runs l 1 0 0 yX6_isWithin (Cond.code yX6_isWithin cX6_isWithin 3 (some .boolean)) [aI v, aI lo, aI hi] V L N I (Is (some (aI (b2i (withinB v lo hi)))) (V) (L) N I) := by
  refine run_of RX6 (by decide +kernel) rfl (Nat.le_of_ble_eq_true rfl) (fun E hE C hQ hN => ?_)
  subst hE
  refine x_iload_n (pc := 0) C dX6_isWithin_0 rfl ?_
  refine x_iload_n (pc := 1) C dX6_isWithin_1 rfl ?_
  refine x_icmp_lt (pc := 2) (tgt := 14) C dX6_isWithin_2 (by decide) (fun h2 => ?_) (fun h2 => ?_)
  · refine x_iconst (pc := 14) C (0) dX6_isWithin_14 (by decide) ?_
    exact x_zret (pc := 15) C hQ dX6_isWithin_15 (by decide) (is_i (by first | exact wi_t h2 h7 | exact wi_f1 h2 | exact wi_f2 h7)) (Nat.le_of_ble_eq_true rfl) (Nat.le_of_ble_eq_true rfl)
  · refine x_iload_n (pc := 5) C dX6_isWithin_5 rfl ?_
    refine x_iload_n (pc := 6) C dX6_isWithin_6 rfl ?_
    refine x_icmp_gt (pc := 7) (tgt := 14) C dX6_isWithin_7 (by decide) (fun h7 => ?_) (fun h7 => ?_)
    · refine x_iconst (pc := 14) C (0) dX6_isWithin_14 (by decide) ?_
      exact x_zret (pc := 15) C hQ dX6_isWithin_15 (by decide) (is_i (by first | exact wi_t h2 h7 | exact wi_f1 h2 | exact wi_f2 h7)) (Nat.le_of_ble_eq_true rfl) (Nat.le_of_ble_eq_true rfl)
    · refine x_iconst (pc := 10) C (1) dX6_isWithin_10 (by decide) ?_
      refine x_goto (pc := 11) (tgt := 15) C dX6_isWithin_11 (by decide) ?_
      exact x_zret (pc := 15) C hQ dX6_isWithin_15 (by decide) (is_i (by first | exact wi_t h2 h7 | exact wi_f1 h2 | exact wi_f2 h7)) (Nat.le_of_ble_eq_true rfl) (Nat.le_of_ble_eq_true rfl)
set_option maxRecDepth 100000 in
set_option maxHeartbeats 4000000 in
theorem c_X6_minutesInHour {l : Launch} {V : VV} {L : LL} {N : NN} {I : List Nat} (f m h : Int32) : Runs l 1 0 0 yX6_minutesInHour (Cond.code yX6_minutesInHour cX6_minutesInHour 5 (some .int)) [aI f, aI m, aI h] V L N I (Is (some (aI (inHourF f m h))) (V) (L) N I) := by
  refine run_of RX6 (by decide +kernel) rfl (Nat.le_of_ble_eq_true rfl) (fun E hE C hQ hN => ?_)
  subst hE
  refine x_iload_n (pc := 0) C dX6_minutesInHour_0 rfl ?_
  refine x_bipush (pc := 1) C (60) dX6_minutesInHour_1 (by decide) ?_
  refine x_iload_n (pc := 3) C dX6_minutesInHour_3 rfl ?_
  refine x_imul (pc := 4) C dX6_minutesInHour_4 ?_
  refine x_mmax (pc := 5) C q_X6_273 dX6_minutesInHour_5 (by decide) (Nat.le_of_ble_eq_true rfl) ⟨Nat.le_refl _, Nat.le_refl _⟩ ?_ mm_max.1 mm_max.2.1 mm_max.2.2
  refine y_istore_n (pc := 8) C dX6_minutesInHour_8 (by decide) rfl ?_
  refine x_iload_n (pc := 9) C dX6_minutesInHour_9 rfl ?_
  refine x_iload_n (pc := 10) C dX6_minutesInHour_10 rfl ?_
  refine x_iadd (pc := 11) C dX6_minutesInHour_11 ?_
  refine x_bipush (pc := 12) C (60) dX6_minutesInHour_12 (by decide) ?_
  refine x_iload_n (pc := 14) C dX6_minutesInHour_14 rfl ?_
  refine x_iconst (pc := 15) C (1) dX6_minutesInHour_15 (by decide) ?_
  refine x_iadd (pc := 16) C dX6_minutesInHour_16 ?_
  refine x_imul (pc := 17) C dX6_minutesInHour_17 ?_
  refine x_mmin (pc := 18) C q_X6_278 dX6_minutesInHour_18 (by decide) (Nat.le_of_ble_eq_true rfl) ⟨Nat.le_refl _, Nat.le_refl _⟩ ?_ mm_min.1 mm_min.2.1 mm_min.2.2
  refine y_istore (pc := 21) C dX6_minutesInHour_21 (by decide) rfl ?_
  refine x_iconst (pc := 23) C (0) dX6_minutesInHour_23 (by decide) ?_
  refine x_iload (pc := 24) C dX6_minutesInHour_24 rfl ?_
  refine x_iload_n (pc := 26) C dX6_minutesInHour_26 rfl ?_
  refine x_isub (pc := 27) C dX6_minutesInHour_27 ?_
  refine x_mmax (pc := 28) C q_X6_273 dX6_minutesInHour_28 (by decide) (Nat.le_of_ble_eq_true rfl) ⟨Nat.le_refl _, Nat.le_refl _⟩ ?_ mm_max.1 mm_max.2.1 mm_max.2.2
  exact x_iret (pc := 31) C hQ dX6_minutesInHour_31 (is_i rfl) (Nat.le_of_ble_eq_true rfl) (Nat.le_of_ble_eq_true rfl)
set_option maxRecDepth 100000 in
set_option maxHeartbeats 4000000 in
theorem c_X3_hasShow {l : Launch} {V : VV} {L : LL} {N : NN} {I : List Nat} (hI : PI I) {n : Nat} (hn : V 20 7 = nI n) (hn24 : n ≤ 24) (v : Int32) : Runs l 1 0 0 yX3_hasShow (Cond.code yX3_hasShow cX3_hasShow 2 (some .boolean)) [aR 20, aI v] V L N I (Is (some (aI (b2i (decide (¬ v < 0 ∧ v < nI n))))) (V) (L) N I) := by
  refine run_of RX3 (by decide +kernel) rfl (Nat.le_of_ble_eq_true rfl) (fun E hE C hQ hN => ?_)
  subst hE
  refine x_iload_n (pc := 0) C dX3_hasShow_0 rfl ?_
  refine x_if_lt (pc := 1) (tgt := 16) C dX3_hasShow_1 (by decide) (fun h1 => ?_) (fun h1 => ?_)
  · refine x_iconst (pc := 16) C (0) dX3_hasShow_16 (by decide) ?_
    exact x_zret (pc := 17) C hQ dX3_hasShow_17 (by decide) (is_i (by simp_all [b2i])) (Nat.le_of_ble_eq_true rfl) (Nat.le_of_ble_eq_true rfl)
  · refine x_iload_n (pc := 4) C dX3_hasShow_4 rfl ?_
    refine x_aload_n (pc := 5) C dX3_hasShow_5 rfl ?_
    refine x_getI (pc := 6) (o := 20) C f_X3_67 dX3_hasShow_6 (hI 20 rfl) ⟨rfl, rfl, rfl⟩ ?_
    refine x_topi (nI n) hn ?_
    refine x_icmp_ge (pc := 9) (tgt := 16) C dX3_hasShow_9 (by decide) (fun h9 => ?_) (fun h9 => ?_)
    · refine x_iconst (pc := 16) C (0) dX3_hasShow_16 (by decide) ?_
      exact x_zret (pc := 17) C hQ dX3_hasShow_17 (by decide) (is_i (by simp_all [b2i])) (Nat.le_of_ble_eq_true rfl) (Nat.le_of_ble_eq_true rfl)
    · refine x_iconst (pc := 12) C (1) dX3_hasShow_12 (by decide) ?_
      refine x_goto (pc := 13) (tgt := 17) C dX3_hasShow_13 (by decide) ?_
      exact x_zret (pc := 17) C hQ dX3_hasShow_17 (by decide) (is_i (by simp_all [b2i])) (Nat.le_of_ble_eq_true rfl) (Nat.le_of_ble_eq_true rfl)
set_option maxRecDepth 100000 in
set_option maxHeartbeats 4000000 in
theorem c_X3_allowance {l : Launch} {V : VV} {L : LL} {N : NN} {I : List Nat} (hI : PI I) (g : Nat) (hg : g < 6) : Runs l 1 0 0 yX3_allowance (Cond.code yX3_allowance cX3_allowance 2 (some .int)) [aR 20, aI (nI g)] V L N I (Is (some (aI (V 22 g + V 23 g))) (V) (L) N I) := by
  refine run_of RX3 (by decide +kernel) rfl (Nat.le_of_ble_eq_true rfl) (fun E hE C hQ hN => ?_)
  subst hE
  refine x_aload_n (pc := 0) C dX3_allowance_0 rfl ?_
  refine x_getR (pc := 1) (o := 20) (j := 22) C f_X3_15 dX3_allowance_1 (hI 20 rfl) ⟨rfl, rfl⟩ ?_
  refine x_iload_n (pc := 4) C dX3_allowance_4 rfl ?_
  refine x_iald (pc := 5) (o := 22) C dX3_allowance_5 (hI 22 rfl) ⟨rfl, rfl⟩ (show _ < 6 by omega) (by decide) ?_
  refine x_aload_n (pc := 6) C dX3_allowance_6 rfl ?_
  refine x_getR (pc := 7) (o := 20) (j := 23) C f_X3_18 dX3_allowance_7 (hI 20 rfl) ⟨rfl, rfl⟩ ?_
  refine x_iload_n (pc := 10) C dX3_allowance_10 rfl ?_
  refine x_iald (pc := 11) (o := 23) C dX3_allowance_11 (hI 23 rfl) ⟨rfl, rfl⟩ (show _ < 6 by omega) (by decide) ?_
  refine x_iadd (pc := 12) C dX3_allowance_12 ?_
  exact x_iret (pc := 13) C hQ dX3_allowance_13 (is_i rfl) (Nat.le_of_ble_eq_true rfl) (Nat.le_of_ble_eq_true rfl)
set_option maxRecDepth 100000 in
set_option maxHeartbeats 4000000 in
theorem c_X3_worth {l : Launch} {V : VV} {L : LL} {N : NN} {I : List Nat} (hI : PI I) (k m : Int32) : Runs l 1 0 0 yX3_worth (Cond.code yX3_worth cX3_worth 3 (some .int)) [aR 20, aI k, aI m] V L N I (Is (some (aI (worthF (V 21 5) k m))) (V) (L) N I) := by
  refine run_of RX3 (by decide +kernel) rfl (Nat.le_of_ble_eq_true rfl) (fun E hE C hQ hN => ?_)
  subst hE
  refine x_iload_n (pc := 0) C dX3_worth_0 rfl ?_
  refine x_iconst (pc := 1) C (2) dX3_worth_1 (by decide) ?_
  refine x_icmp_ne (pc := 2) (tgt := 19) C dX3_worth_2 (by decide) (fun h2 => ?_) (fun h2 => ?_)
  · refine x_iload_n (pc := 19) C dX3_worth_19 rfl ?_
    exact x_iret (pc := 20) C hQ dX3_worth_20 (is_i (by simp [worthF, *])) (Nat.le_of_ble_eq_true rfl) (Nat.le_of_ble_eq_true rfl)
  · refine x_iload_n (pc := 5) C dX3_worth_5 rfl ?_
    refine x_aload_n (pc := 6) C dX3_worth_6 rfl ?_
    refine x_getR (pc := 7) (o := 20) (j := 21) C f_X3_9 dX3_worth_7 (hI 20 rfl) ⟨rfl, rfl⟩ ?_
    refine x_iconst (pc := 10) C (5) dX3_worth_10 (by decide) ?_
    refine x_topi (nI 5) (by decide) ?_
    refine x_iald (pc := 11) (o := 21) C dX3_worth_11 (hI 21 rfl) ⟨rfl, rfl⟩ (show _ < 8 by decide) (by decide) ?_
    refine x_imul (pc := 12) C dX3_worth_12 ?_
    refine x_bipush (pc := 13) C (100) dX3_worth_13 (by decide) ?_
    refine x_idiv (pc := 15) C dX3_worth_15 (by decide) ?_
    refine x_goto (pc := 16) (tgt := 20) C dX3_worth_16 (by decide) ?_
    exact x_iret (pc := 20) C hQ dX3_worth_20 (is_i (by simp [worthF, *])) (Nat.le_of_ble_eq_true rfl) (Nat.le_of_ble_eq_true rfl)
set_option maxRecDepth 100000 in
set_option maxHeartbeats 4000000 in
theorem c_X3_worthOfLengths {l : Launch} {V : VV} {L : LL} {N : NN} {I : List Nat} (hI : PI I) {n : Nat} (hn : V 20 7 = nI n) (hn24 : n ≤ 24) (g : Int32) : Runs l 2 0 0 yX3_worthOfLengths (Cond.code yX3_worthOfLengths cX3_worthOfLengths 4 (some .int)) [aR 20, aI g] V L N I (Is (some (aI (wolS (CF V) (V 21 5) n g))) (V) (L) N I) := by
  refine run_of RX3 (by decide +kernel) rfl (Nat.le_of_ble_eq_true rfl) (fun E hE C hQ hN => ?_)
  subst hE
  refine x_iconst (pc := 0) C (0) dX3_worthOfLengths_0 (by decide) ?_
  refine y_istore_n (pc := 1) C dX3_worthOfLengths_1 (by decide) rfl ?_
  refine x_iconst (pc := 2) C (0) dX3_worthOfLengths_2 (by decide) ?_
  refine y_istore_n (pc := 3) C dX3_worthOfLengths_3 (by decide) rfl ?_
  suffices key : ∀ (k i : Nat) (s : Int32), k + i = n → (s = sumTo (fun s => if V 30 s = g then worthF (V 21 5) (V 29 s) (V 33 s) else 0) i) → Wx E 4 [some (aR 20), some (aI g), some (aI s), some (aI (nI i))] [] V L N I 0 0 by
    exact key (n) 0 0 (by omega) (rfl)
  intro k
  induction k with
  | zero =>
    intro i s hk hinv
    refine x_iload_n (pc := 4) C dX3_worthOfLengths_4 rfl ?_
    refine x_aload_n (pc := 5) C dX3_worthOfLengths_5 rfl ?_
    refine x_getI (pc := 6) (o := 20) C f_X3_67 dX3_worthOfLengths_6 (hI 20 rfl) ⟨rfl, rfl, rfl⟩ ?_
    refine x_topi (nI n) hn ?_
    refine x_icmp_ge (pc := 9) (tgt := 47) C dX3_worthOfLengths_9 (by decide) (fun h9 => ?_) (fun h9 => absurd (by exact nI_le (by omega) (by omega)) h9)
    refine x_iload_n (pc := 47) C dX3_worthOfLengths_47 rfl ?_
    exact x_iret (pc := 48) C hQ dX3_worthOfLengths_48 (is_i (by rw [hinv]; congr 1; omega)) (Nat.le_of_ble_eq_true rfl) (Nat.le_of_ble_eq_true rfl)
  | succ k ih =>
    intro i s hk hinv
    refine x_iload_n (pc := 4) C dX3_worthOfLengths_4 rfl ?_
    refine x_aload_n (pc := 5) C dX3_worthOfLengths_5 rfl ?_
    refine x_getI (pc := 6) (o := 20) C f_X3_67 dX3_worthOfLengths_6 (hI 20 rfl) ⟨rfl, rfl, rfl⟩ ?_
    refine x_topi (nI n) hn ?_
    refine x_icmp_ge (pc := 9) (tgt := 47) C dX3_worthOfLengths_9 (by decide) (fun h9 => absurd h9 (by exact nI_ge (by omega) (by omega))) (fun h9 => ?_)
    refine x_aload_n (pc := 12) C dX3_worthOfLengths_12 rfl ?_
    refine x_getR (pc := 13) (o := 20) (j := 30) C f_X3_33 dX3_worthOfLengths_13 (hI 20 rfl) ⟨rfl, rfl⟩ ?_
    refine x_iload_n (pc := 16) C dX3_worthOfLengths_16 rfl ?_
    refine x_iald (pc := 17) (o := 30) C dX3_worthOfLengths_17 (hI 30 rfl) ⟨rfl, rfl⟩ (show _ < 24 by omega) (by decide) ?_
    refine x_iload_n (pc := 18) C dX3_worthOfLengths_18 rfl ?_
    refine x_icmp_ne (pc := 19) (tgt := 41) C dX3_worthOfLengths_19 (by decide) (fun h19 => ?_) (fun h19 => ?_)
    · refine y_iinc (pc := 41) C (nI (i + 1)) dX3_worthOfLengths_41 rfl (by exact nI_1 i) (by decide) rfl ?_
      refine x_goto (pc := 44) (tgt := 4) C dX3_worthOfLengths_44 (by decide) ?_
      exact ih (i + 1) _ (by omega) (by rw [sumTo, ← hinv]; simp [*])
    · refine x_iload_n (pc := 22) C dX3_worthOfLengths_22 rfl ?_
      refine x_aload_n (pc := 23) C dX3_worthOfLengths_23 rfl ?_
      refine x_aload_n (pc := 24) C dX3_worthOfLengths_24 rfl ?_
      refine x_getR (pc := 25) (o := 20) (j := 29) C f_X3_30 dX3_worthOfLengths_25 (hI 20 rfl) ⟨rfl, rfl⟩ ?_
      refine x_iload_n (pc := 28) C dX3_worthOfLengths_28 rfl ?_
      refine x_iald (pc := 29) (o := 29) C dX3_worthOfLengths_29 (hI 29 rfl) ⟨rfl, rfl⟩ (show _ < 24 by omega) (by decide) ?_
      refine x_aload_n (pc := 30) C dX3_worthOfLengths_30 rfl ?_
      refine x_getR (pc := 31) (o := 20) (j := 33) C f_X3_42 dX3_worthOfLengths_31 (hI 20 rfl) ⟨rfl, rfl⟩ ?_
      refine x_iload_n (pc := 34) C dX3_worthOfLengths_34 rfl ?_
      refine x_iald (pc := 35) (o := 33) C dX3_worthOfLengths_35 (hI 33 rfl) ⟨rfl, rfl⟩ (show _ < 24 by omega) (by decide) ?_
      refine x_cV2 (pc := 36) (o := 20) C v_X3_70 dX3_worthOfLengths_36 (c_X3_worth hI _ _) (hI 20 rfl) rfl (by decide) rfl ⟨Nat.le_refl _, Nat.le_refl _⟩ ?_
      refine x_iadd (pc := 39) C dX3_worthOfLengths_39 ?_
      refine y_istore_n (pc := 40) C dX3_worthOfLengths_40 (by decide) rfl ?_
      refine y_iinc (pc := 41) C (nI (i + 1)) dX3_worthOfLengths_41 rfl (by exact nI_1 i) (by decide) rfl ?_
      refine x_goto (pc := 44) (tgt := 4) C dX3_worthOfLengths_44 (by decide) ?_
      exact ih (i + 1) _ (by omega) (by rw [sumTo, ← hinv]; simp [*])
set_option maxRecDepth 100000 in
set_option maxHeartbeats 4000000 in
theorem c_X3_showsOfGroup {l : Launch} {V : VV} {L : LL} {N : NN} {I : List Nat} (hI : PI I) {n : Nat} (hn : V 20 7 = nI n) (hn24 : n ≤ 24) (g : Int32) : Runs l 1 0 0 yX3_showsOfGroup (Cond.code yX3_showsOfGroup cX3_showsOfGroup 4 (some .int)) [aR 20, aI g] V L N I (Is (some (aI (cntS (CF V) 1 n g))) (V) (L) N I) := by
  refine run_of RX3 (by decide +kernel) rfl (Nat.le_of_ble_eq_true rfl) (fun E hE C hQ hN => ?_)
  subst hE
  refine x_iconst (pc := 0) C (0) dX3_showsOfGroup_0 (by decide) ?_
  refine y_istore_n (pc := 1) C dX3_showsOfGroup_1 (by decide) rfl ?_
  refine x_iconst (pc := 2) C (0) dX3_showsOfGroup_2 (by decide) ?_
  refine y_istore_n (pc := 3) C dX3_showsOfGroup_3 (by decide) rfl ?_
  suffices key : ∀ (k i : Nat) (s : Int32), k + i = n → (s = sumTo (fun s => if V 30 s = g then 1 else 0) i) → Wx E 4 [some (aR 20), some (aI g), some (aI s), some (aI (nI i))] [] V L N I 0 0 by
    exact key (n) 0 0 (by omega) (rfl)
  intro k
  induction k with
  | zero =>
    intro i s hk hinv
    refine x_iload_n (pc := 4) C dX3_showsOfGroup_4 rfl ?_
    refine x_aload_n (pc := 5) C dX3_showsOfGroup_5 rfl ?_
    refine x_getI (pc := 6) (o := 20) C f_X3_67 dX3_showsOfGroup_6 (hI 20 rfl) ⟨rfl, rfl, rfl⟩ ?_
    refine x_topi (nI n) hn ?_
    refine x_icmp_ge (pc := 9) (tgt := 31) C dX3_showsOfGroup_9 (by decide) (fun h9 => ?_) (fun h9 => absurd (by exact nI_le (by omega) (by omega)) h9)
    refine x_iload_n (pc := 31) C dX3_showsOfGroup_31 rfl ?_
    exact x_iret (pc := 32) C hQ dX3_showsOfGroup_32 (is_i (by rw [hinv]; congr 1; omega)) (Nat.le_of_ble_eq_true rfl) (Nat.le_of_ble_eq_true rfl)
  | succ k ih =>
    intro i s hk hinv
    refine x_iload_n (pc := 4) C dX3_showsOfGroup_4 rfl ?_
    refine x_aload_n (pc := 5) C dX3_showsOfGroup_5 rfl ?_
    refine x_getI (pc := 6) (o := 20) C f_X3_67 dX3_showsOfGroup_6 (hI 20 rfl) ⟨rfl, rfl, rfl⟩ ?_
    refine x_topi (nI n) hn ?_
    refine x_icmp_ge (pc := 9) (tgt := 31) C dX3_showsOfGroup_9 (by decide) (fun h9 => absurd h9 (by exact nI_ge (by omega) (by omega))) (fun h9 => ?_)
    refine x_aload_n (pc := 12) C dX3_showsOfGroup_12 rfl ?_
    refine x_getR (pc := 13) (o := 20) (j := 30) C f_X3_33 dX3_showsOfGroup_13 (hI 20 rfl) ⟨rfl, rfl⟩ ?_
    refine x_iload_n (pc := 16) C dX3_showsOfGroup_16 rfl ?_
    refine x_iald (pc := 17) (o := 30) C dX3_showsOfGroup_17 (hI 30 rfl) ⟨rfl, rfl⟩ (show _ < 24 by omega) (by decide) ?_
    refine x_iload_n (pc := 18) C dX3_showsOfGroup_18 rfl ?_
    refine x_icmp_ne (pc := 19) (tgt := 25) C dX3_showsOfGroup_19 (by decide) (fun h19 => ?_) (fun h19 => ?_)
    · refine y_iinc (pc := 25) C (nI (i + 1)) dX3_showsOfGroup_25 rfl (by exact nI_1 i) (by decide) rfl ?_
      refine x_goto (pc := 28) (tgt := 4) C dX3_showsOfGroup_28 (by decide) ?_
      exact ih (i + 1) _ (by omega) (by rw [sumTo, ← hinv]; simp [*])
    · refine y_iinc (pc := 22) C _ dX3_showsOfGroup_22 rfl rfl (by decide) rfl ?_
      refine y_iinc (pc := 25) C (nI (i + 1)) dX3_showsOfGroup_25 rfl (by exact nI_1 i) (by decide) rfl ?_
      refine x_goto (pc := 28) (tgt := 4) C dX3_showsOfGroup_28 (by decide) ?_
      exact ih (i + 1) _ (by omega) (by rw [sumTo, ← hinv]; simp [*])
set_option maxRecDepth 100000 in
set_option maxHeartbeats 4000000 in
theorem c_X3_showsOfKind {l : Launch} {V : VV} {L : LL} {N : NN} {I : List Nat} (hI : PI I) {n : Nat} (hn : V 20 7 = nI n) (hn24 : n ≤ 24) (g : Int32) : Runs l 1 0 0 yX3_showsOfKind (Cond.code yX3_showsOfKind cX3_showsOfKind 4 (some .int)) [aR 20, aI g] V L N I (Is (some (aI (cntS (CF V) 0 n g))) (V) (L) N I) := by
  refine run_of RX3 (by decide +kernel) rfl (Nat.le_of_ble_eq_true rfl) (fun E hE C hQ hN => ?_)
  subst hE
  refine x_iconst (pc := 0) C (0) dX3_showsOfKind_0 (by decide) ?_
  refine y_istore_n (pc := 1) C dX3_showsOfKind_1 (by decide) rfl ?_
  refine x_iconst (pc := 2) C (0) dX3_showsOfKind_2 (by decide) ?_
  refine y_istore_n (pc := 3) C dX3_showsOfKind_3 (by decide) rfl ?_
  suffices key : ∀ (k i : Nat) (s : Int32), k + i = n → (s = sumTo (fun s => if V 29 s = g then 1 else 0) i) → Wx E 4 [some (aR 20), some (aI g), some (aI s), some (aI (nI i))] [] V L N I 0 0 by
    exact key (n) 0 0 (by omega) (rfl)
  intro k
  induction k with
  | zero =>
    intro i s hk hinv
    refine x_iload_n (pc := 4) C dX3_showsOfKind_4 rfl ?_
    refine x_aload_n (pc := 5) C dX3_showsOfKind_5 rfl ?_
    refine x_getI (pc := 6) (o := 20) C f_X3_67 dX3_showsOfKind_6 (hI 20 rfl) ⟨rfl, rfl, rfl⟩ ?_
    refine x_topi (nI n) hn ?_
    refine x_icmp_ge (pc := 9) (tgt := 31) C dX3_showsOfKind_9 (by decide) (fun h9 => ?_) (fun h9 => absurd (by exact nI_le (by omega) (by omega)) h9)
    refine x_iload_n (pc := 31) C dX3_showsOfKind_31 rfl ?_
    exact x_iret (pc := 32) C hQ dX3_showsOfKind_32 (is_i (by rw [hinv]; congr 1; omega)) (Nat.le_of_ble_eq_true rfl) (Nat.le_of_ble_eq_true rfl)
  | succ k ih =>
    intro i s hk hinv
    refine x_iload_n (pc := 4) C dX3_showsOfKind_4 rfl ?_
    refine x_aload_n (pc := 5) C dX3_showsOfKind_5 rfl ?_
    refine x_getI (pc := 6) (o := 20) C f_X3_67 dX3_showsOfKind_6 (hI 20 rfl) ⟨rfl, rfl, rfl⟩ ?_
    refine x_topi (nI n) hn ?_
    refine x_icmp_ge (pc := 9) (tgt := 31) C dX3_showsOfKind_9 (by decide) (fun h9 => absurd h9 (by exact nI_ge (by omega) (by omega))) (fun h9 => ?_)
    refine x_aload_n (pc := 12) C dX3_showsOfKind_12 rfl ?_
    refine x_getR (pc := 13) (o := 20) (j := 29) C f_X3_30 dX3_showsOfKind_13 (hI 20 rfl) ⟨rfl, rfl⟩ ?_
    refine x_iload_n (pc := 16) C dX3_showsOfKind_16 rfl ?_
    refine x_iald (pc := 17) (o := 29) C dX3_showsOfKind_17 (hI 29 rfl) ⟨rfl, rfl⟩ (show _ < 24 by omega) (by decide) ?_
    refine x_iload_n (pc := 18) C dX3_showsOfKind_18 rfl ?_
    refine x_icmp_ne (pc := 19) (tgt := 25) C dX3_showsOfKind_19 (by decide) (fun h19 => ?_) (fun h19 => ?_)
    · refine y_iinc (pc := 25) C (nI (i + 1)) dX3_showsOfKind_25 rfl (by exact nI_1 i) (by decide) rfl ?_
      refine x_goto (pc := 28) (tgt := 4) C dX3_showsOfKind_28 (by decide) ?_
      exact ih (i + 1) _ (by omega) (by rw [sumTo, ← hinv]; simp [*])
    · refine y_iinc (pc := 22) C _ dX3_showsOfKind_22 rfl rfl (by decide) rfl ?_
      refine y_iinc (pc := 25) C (nI (i + 1)) dX3_showsOfKind_25 rfl (by exact nI_1 i) (by decide) rfl ?_
      refine x_goto (pc := 28) (tgt := 4) C dX3_showsOfKind_28 (by decide) ?_
      exact ih (i + 1) _ (by omega) (by rw [sumTo, ← hinv]; simp [*])
set_option maxRecDepth 100000 in
set_option maxHeartbeats 4000000 in
theorem c_X3_plannedSponsors {l : Launch} {V : VV} {L : LL} {N : NN} {I : List Nat} (hI : PI I) {n : Nat} (hn : V 20 7 = nI n) (hn24 : n ≤ 24) (d h : Int32) : Runs l 2 0 0 yX3_plannedSponsors (Cond.code yX3_plannedSponsors cX3_plannedSponsors 5 (some .int)) [aR 20, aI d, aI h] V L N I (Is (some (aI (planS (CF V) n d h))) (V) (L) N I) := by
  refine run_of RX3 (by decide +kernel) rfl (Nat.le_of_ble_eq_true rfl) (fun E hE C hQ hN => ?_)
  subst hE
  refine x_iconst (pc := 0) C (0) dX3_plannedSponsors_0 (by decide) ?_
  refine y_istore_n (pc := 1) C dX3_plannedSponsors_1 (by decide) rfl ?_
  refine x_iconst (pc := 2) C (0) dX3_plannedSponsors_2 (by decide) ?_
  refine y_istore (pc := 3) C dX3_plannedSponsors_3 (by decide) rfl ?_
  suffices key : ∀ (k i : Nat) (s : Int32), k + i = n → (s = sumTo (fun s => if V 31 s = d then inHourF (V 32 s) (V 34 s) h else 0) i) → Wx E 5 [some (aR 20), some (aI d), some (aI h), some (aI s), some (aI (nI i))] [] V L N I 0 0 by
    exact key (n) 0 0 (by omega) (rfl)
  intro k
  induction k with
  | zero =>
    intro i s hk hinv
    refine x_iload (pc := 5) C dX3_plannedSponsors_5 rfl ?_
    refine x_aload_n (pc := 7) C dX3_plannedSponsors_7 rfl ?_
    refine x_getI (pc := 8) (o := 20) C f_X3_67 dX3_plannedSponsors_8 (hI 20 rfl) ⟨rfl, rfl, rfl⟩ ?_
    refine x_topi (nI n) hn ?_
    refine x_icmp_ge (pc := 11) (tgt := 52) C dX3_plannedSponsors_11 (by decide) (fun h11 => ?_) (fun h11 => absurd (by exact nI_le (by omega) (by omega)) h11)
    refine x_iload_n (pc := 52) C dX3_plannedSponsors_52 rfl ?_
    exact x_iret (pc := 53) C hQ dX3_plannedSponsors_53 (is_i (by rw [hinv]; congr 1; omega)) (Nat.le_of_ble_eq_true rfl) (Nat.le_of_ble_eq_true rfl)
  | succ k ih =>
    intro i s hk hinv
    refine x_iload (pc := 5) C dX3_plannedSponsors_5 rfl ?_
    refine x_aload_n (pc := 7) C dX3_plannedSponsors_7 rfl ?_
    refine x_getI (pc := 8) (o := 20) C f_X3_67 dX3_plannedSponsors_8 (hI 20 rfl) ⟨rfl, rfl, rfl⟩ ?_
    refine x_topi (nI n) hn ?_
    refine x_icmp_ge (pc := 11) (tgt := 52) C dX3_plannedSponsors_11 (by decide) (fun h11 => absurd h11 (by exact nI_ge (by omega) (by omega))) (fun h11 => ?_)
    refine x_aload_n (pc := 14) C dX3_plannedSponsors_14 rfl ?_
    refine x_getR (pc := 15) (o := 20) (j := 31) C f_X3_36 dX3_plannedSponsors_15 (hI 20 rfl) ⟨rfl, rfl⟩ ?_
    refine x_iload (pc := 18) C dX3_plannedSponsors_18 rfl ?_
    refine x_iald (pc := 20) (o := 31) C dX3_plannedSponsors_20 (hI 31 rfl) ⟨rfl, rfl⟩ (show _ < 24 by omega) (by decide) ?_
    refine x_iload_n (pc := 21) C dX3_plannedSponsors_21 rfl ?_
    refine x_icmp_ne (pc := 22) (tgt := 46) C dX3_plannedSponsors_22 (by decide) (fun h22 => ?_) (fun h22 => ?_)
    · refine y_iinc (pc := 46) C (nI (i + 1)) dX3_plannedSponsors_46 rfl (by exact nI_1 i) (by decide) rfl ?_
      refine x_goto (pc := 49) (tgt := 5) C dX3_plannedSponsors_49 (by decide) ?_
      exact ih (i + 1) _ (by omega) (by rw [sumTo, ← hinv]; simp [*])
    · refine x_iload_n (pc := 25) C dX3_plannedSponsors_25 rfl ?_
      refine x_aload_n (pc := 26) C dX3_plannedSponsors_26 rfl ?_
      refine x_getR (pc := 27) (o := 20) (j := 32) C f_X3_39 dX3_plannedSponsors_27 (hI 20 rfl) ⟨rfl, rfl⟩ ?_
      refine x_iload (pc := 30) C dX3_plannedSponsors_30 rfl ?_
      refine x_iald (pc := 32) (o := 32) C dX3_plannedSponsors_32 (hI 32 rfl) ⟨rfl, rfl⟩ (show _ < 24 by omega) (by decide) ?_
      refine x_aload_n (pc := 33) C dX3_plannedSponsors_33 rfl ?_
      refine x_getR (pc := 34) (o := 20) (j := 34) C f_X3_45 dX3_plannedSponsors_34 (hI 20 rfl) ⟨rfl, rfl⟩ ?_
      refine x_iload (pc := 37) C dX3_plannedSponsors_37 rfl ?_
      refine x_iald (pc := 39) (o := 34) C dX3_plannedSponsors_39 (hI 34 rfl) ⟨rfl, rfl⟩ (show _ < 24 by omega) (by decide) ?_
      refine x_iload_n (pc := 40) C dX3_plannedSponsors_40 rfl ?_
      refine x_cN3 (pc := 41) C n_X3_74 dX3_plannedSponsors_41 (c_X6_minutesInHour _ _ _) (by decide) rfl ⟨Nat.le_refl _, Nat.le_refl _⟩ ?_
      refine x_iadd (pc := 44) C dX3_plannedSponsors_44 ?_
      refine y_istore_n (pc := 45) C dX3_plannedSponsors_45 (by decide) rfl ?_
      refine y_iinc (pc := 46) C (nI (i + 1)) dX3_plannedSponsors_46 rfl (by exact nI_1 i) (by decide) rfl ?_
      refine x_goto (pc := 49) (tgt := 5) C dX3_plannedSponsors_49 (by decide) ?_
      exact ih (i + 1) _ (by omega) (by rw [sumTo, ← hinv]; simp [*])
set_option maxRecDepth 100000 in
set_option maxHeartbeats 4000000 in
theorem c_X3_patience {l : Launch} {V : VV} {L : LL} {N : NN} {I : List Nat} (hI : PI I) (s : Nat) (hs : s < 24) : Runs l 1 0 0 yX3_patience (Cond.code yX3_patience cX3_patience 2 (some .int)) [aR 20, aI (nI s)] V L N I (Is (some (aI (if V 29 s = 0 then V 21 2 else V 21 3))) (V) (L) N I) := by
  refine run_of RX3 (by decide +kernel) rfl (Nat.le_of_ble_eq_true rfl) (fun E hE C hQ hN => ?_)
  subst hE
  refine x_aload_n (pc := 0) C dX3_patience_0 rfl ?_
  refine x_getR (pc := 1) (o := 20) (j := 21) C f_X3_9 dX3_patience_1 (hI 20 rfl) ⟨rfl, rfl⟩ ?_
  refine x_aload_n (pc := 4) C dX3_patience_4 rfl ?_
  refine x_getR (pc := 5) (o := 20) (j := 29) C f_X3_30 dX3_patience_5 (hI 20 rfl) ⟨rfl, rfl⟩ ?_
  refine x_iload_n (pc := 8) C dX3_patience_8 rfl ?_
  refine x_iald (pc := 9) (o := 29) C dX3_patience_9 (hI 29 rfl) ⟨rfl, rfl⟩ (show _ < 24 by omega) (by decide) ?_
  refine x_if_ne (pc := 10) (tgt := 17) C dX3_patience_10 (by decide) (fun h10 => ?_) (fun h10 => ?_)
  · refine x_iconst (pc := 17) C (3) dX3_patience_17 (by decide) ?_
    refine x_topi (nI 3) (by decide) ?_
    refine x_iald (pc := 18) (o := 21) C dX3_patience_18 (hI 21 rfl) ⟨rfl, rfl⟩ (show _ < 8 by decide) (by decide) ?_
    exact x_iret (pc := 19) C hQ dX3_patience_19 (is_i (by simp [*])) (Nat.le_of_ble_eq_true rfl) (Nat.le_of_ble_eq_true rfl)
  · refine x_iconst (pc := 13) C (2) dX3_patience_13 (by decide) ?_
    refine x_goto (pc := 14) (tgt := 18) C dX3_patience_14 (by decide) ?_
    refine x_topi (nI 2) (by decide) ?_
    refine x_iald (pc := 18) (o := 21) C dX3_patience_18 (hI 21 rfl) ⟨rfl, rfl⟩ (show _ < 8 by decide) (by decide) ?_
    exact x_iret (pc := 19) C hQ dX3_patience_19 (is_i (by simp [*])) (Nat.le_of_ble_eq_true rfl) (Nat.le_of_ble_eq_true rfl)
set_option maxRecDepth 100000 in
set_option maxHeartbeats 4000000 in
theorem c_X3_showInTheWay {l : Launch} {V : VV} {L : LL} {N : NN} {I : List Nat} (hI : PI I) {n : Nat} (hn : V 20 7 = nI n) (hn24 : n ≤ 24) (d st ln : Int32) : Runs l 1 0 0 yX3_showInTheWay (Cond.code yX3_showInTheWay cX3_showInTheWay 5 (some .int)) [aR 20, aI d, aI st, aI ln] V L N I (Is (some (aI (o2i (fstF (hitS (CF V) d st ln) n 0)))) (V) (L) N I) := by
  refine run_of RX3 (by decide +kernel) rfl (Nat.le_of_ble_eq_true rfl) (fun E hE C hQ hN => ?_)
  subst hE
  refine x_iconst (pc := 0) C (0) dX3_showInTheWay_0 (by decide) ?_
  refine y_istore (pc := 1) C dX3_showInTheWay_1 (by decide) rfl ?_
  suffices key : ∀ (k i : Nat) , k + i = n → (fstF (hitS (CF V) d st ln) n 0 = fstF (hitS (CF V) d st ln) k i) → Wx E 3 [some (aR 20), some (aI d), some (aI st), some (aI ln), some (aI (nI i))] [] V L N I 0 0 by
    exact key (n) 0  (by omega) (rfl)
  intro k
  induction k with
  | zero =>
    intro i  hk hinv
    refine x_iload (pc := 3) C dX3_showInTheWay_3 rfl ?_
    refine x_aload_n (pc := 5) C dX3_showInTheWay_5 rfl ?_
    refine x_getI (pc := 6) (o := 20) C f_X3_67 dX3_showInTheWay_6 (hI 20 rfl) ⟨rfl, rfl, rfl⟩ ?_
    refine x_topi (nI n) hn ?_
    refine x_icmp_ge (pc := 9) (tgt := 64) C dX3_showInTheWay_9 (by decide) (fun h9 => ?_) (fun h9 => absurd (by exact nI_le (by omega) (by omega)) h9)
    refine x_iconst (pc := 64) C (-1) dX3_showInTheWay_64 (by decide) ?_
    exact x_iret (pc := 65) C hQ dX3_showInTheWay_65 (is_i (by rw [hinv]; rfl)) (Nat.le_of_ble_eq_true rfl) (Nat.le_of_ble_eq_true rfl)
  | succ k ih =>
    intro i  hk hinv
    refine x_iload (pc := 3) C dX3_showInTheWay_3 rfl ?_
    refine x_aload_n (pc := 5) C dX3_showInTheWay_5 rfl ?_
    refine x_getI (pc := 6) (o := 20) C f_X3_67 dX3_showInTheWay_6 (hI 20 rfl) ⟨rfl, rfl, rfl⟩ ?_
    refine x_topi (nI n) hn ?_
    refine x_icmp_ge (pc := 9) (tgt := 64) C dX3_showInTheWay_9 (by decide) (fun h9 => absurd h9 (by exact nI_ge (by omega) (by omega))) (fun h9 => ?_)
    refine x_aload_n (pc := 12) C dX3_showInTheWay_12 rfl ?_
    refine x_getR (pc := 13) (o := 20) (j := 31) C f_X3_36 dX3_showInTheWay_13 (hI 20 rfl) ⟨rfl, rfl⟩ ?_
    refine x_iload (pc := 16) C dX3_showInTheWay_16 rfl ?_
    refine x_iald (pc := 18) (o := 31) C dX3_showInTheWay_18 (hI 31 rfl) ⟨rfl, rfl⟩ (show _ < 24 by omega) (by decide) ?_
    refine x_iload_n (pc := 19) C dX3_showInTheWay_19 rfl ?_
    refine x_icmp_ne (pc := 20) (tgt := 58) C dX3_showInTheWay_20 (by decide) (fun h20 => ?_) (fun h20 => ?_)
    · refine y_iinc (pc := 58) C (nI (i + 1)) dX3_showInTheWay_58 rfl (by exact nI_1 i) (by decide) rfl ?_
      refine x_goto (pc := 61) (tgt := 3) C dX3_showInTheWay_61 (by decide) ?_
      exact ih (i + 1)  (by omega) (by rw [hinv, fstF, if_neg (by first | exact hit_1 (F := CF V) h20 | exact hit_2 (F := CF V) h33 | exact hit_3 (F := CF V) h52)])
    · refine x_aload_n (pc := 23) C dX3_showInTheWay_23 rfl ?_
      refine x_getR (pc := 24) (o := 20) (j := 32) C f_X3_39 dX3_showInTheWay_24 (hI 20 rfl) ⟨rfl, rfl⟩ ?_
      refine x_iload (pc := 27) C dX3_showInTheWay_27 rfl ?_
      refine x_iald (pc := 29) (o := 32) C dX3_showInTheWay_29 (hI 32 rfl) ⟨rfl, rfl⟩ (show _ < 24 by omega) (by decide) ?_
      refine x_iload_n (pc := 30) C dX3_showInTheWay_30 rfl ?_
      refine x_iload_n (pc := 31) C dX3_showInTheWay_31 rfl ?_
      refine x_iadd (pc := 32) C dX3_showInTheWay_32 ?_
      refine x_icmp_ge (pc := 33) (tgt := 58) C dX3_showInTheWay_33 (by decide) (fun h33 => ?_) (fun h33 => ?_)
      · refine y_iinc (pc := 58) C (nI (i + 1)) dX3_showInTheWay_58 rfl (by exact nI_1 i) (by decide) rfl ?_
        refine x_goto (pc := 61) (tgt := 3) C dX3_showInTheWay_61 (by decide) ?_
        exact ih (i + 1)  (by omega) (by rw [hinv, fstF, if_neg (by first | exact hit_1 (F := CF V) h20 | exact hit_2 (F := CF V) h33 | exact hit_3 (F := CF V) h52)])
      · refine x_aload_n (pc := 36) C dX3_showInTheWay_36 rfl ?_
        refine x_getR (pc := 37) (o := 20) (j := 32) C f_X3_39 dX3_showInTheWay_37 (hI 20 rfl) ⟨rfl, rfl⟩ ?_
        refine x_iload (pc := 40) C dX3_showInTheWay_40 rfl ?_
        refine x_iald (pc := 42) (o := 32) C dX3_showInTheWay_42 (hI 32 rfl) ⟨rfl, rfl⟩ (show _ < 24 by omega) (by decide) ?_
        refine x_aload_n (pc := 43) C dX3_showInTheWay_43 rfl ?_
        refine x_getR (pc := 44) (o := 20) (j := 33) C f_X3_42 dX3_showInTheWay_44 (hI 20 rfl) ⟨rfl, rfl⟩ ?_
        refine x_iload (pc := 47) C dX3_showInTheWay_47 rfl ?_
        refine x_iald (pc := 49) (o := 33) C dX3_showInTheWay_49 (hI 33 rfl) ⟨rfl, rfl⟩ (show _ < 24 by omega) (by decide) ?_
        refine x_iadd (pc := 50) C dX3_showInTheWay_50 ?_
        refine x_iload_n (pc := 51) C dX3_showInTheWay_51 rfl ?_
        refine x_icmp_le (pc := 52) (tgt := 58) C dX3_showInTheWay_52 (by decide) (fun h52 => ?_) (fun h52 => ?_)
        · refine y_iinc (pc := 58) C (nI (i + 1)) dX3_showInTheWay_58 rfl (by exact nI_1 i) (by decide) rfl ?_
          refine x_goto (pc := 61) (tgt := 3) C dX3_showInTheWay_61 (by decide) ?_
          exact ih (i + 1)  (by omega) (by rw [hinv, fstF, if_neg (by first | exact hit_1 (F := CF V) h20 | exact hit_2 (F := CF V) h33 | exact hit_3 (F := CF V) h52)])
        · refine x_iload (pc := 55) C dX3_showInTheWay_55 rfl ?_
          exact x_iret (pc := 57) C hQ dX3_showInTheWay_57 (is_i (by rw [hinv, fstF, if_pos (hit_0 (F := CF V) h20 h33 h52)]; rfl)) (Nat.le_of_ble_eq_true rfl) (Nat.le_of_ble_eq_true rfl)
set_option maxRecDepth 100000 in
set_option maxHeartbeats 4000000 in
theorem c_X3_earliestRepeat {l : Launch} {V : VV} {L : LL} {N : NN} {I : List Nat} (hI : PI I) (o : Nat) (ho : o < 24) : Runs l 1 0 0 yX3_earliestRepeat (Cond.code yX3_earliestRepeat cX3_earliestRepeat 2 (some .int)) [aR 20, aI (nI o)] V L N I (Is (some (aI (earlS (CF V) (V 21 4) o))) (V) (L) N I) := by
  refine run_of RX3 (by decide +kernel) rfl (Nat.le_of_ble_eq_true rfl) (fun E hE C hQ hN => ?_)
  subst hE
  refine x_sipush (pc := 0) C (1440) dX3_earliestRepeat_0 (by decide) ?_
  refine x_aload_n (pc := 3) C dX3_earliestRepeat_3 rfl ?_
  refine x_getR (pc := 4) (o := 20) (j := 31) C f_X3_36 dX3_earliestRepeat_4 (hI 20 rfl) ⟨rfl, rfl⟩ ?_
  refine x_iload_n (pc := 7) C dX3_earliestRepeat_7 rfl ?_
  refine x_iald (pc := 8) (o := 31) C dX3_earliestRepeat_8 (hI 31 rfl) ⟨rfl, rfl⟩ (show _ < 24 by omega) (by decide) ?_
  refine x_imul (pc := 9) C dX3_earliestRepeat_9 ?_
  refine x_aload_n (pc := 10) C dX3_earliestRepeat_10 rfl ?_
  refine x_getR (pc := 11) (o := 20) (j := 32) C f_X3_39 dX3_earliestRepeat_11 (hI 20 rfl) ⟨rfl, rfl⟩ ?_
  refine x_iload_n (pc := 14) C dX3_earliestRepeat_14 rfl ?_
  refine x_iald (pc := 15) (o := 32) C dX3_earliestRepeat_15 (hI 32 rfl) ⟨rfl, rfl⟩ (show _ < 24 by omega) (by decide) ?_
  refine x_iadd (pc := 16) C dX3_earliestRepeat_16 ?_
  refine x_aload_n (pc := 17) C dX3_earliestRepeat_17 rfl ?_
  refine x_getR (pc := 18) (o := 20) (j := 33) C f_X3_42 dX3_earliestRepeat_18 (hI 20 rfl) ⟨rfl, rfl⟩ ?_
  refine x_iload_n (pc := 21) C dX3_earliestRepeat_21 rfl ?_
  refine x_iald (pc := 22) (o := 33) C dX3_earliestRepeat_22 (hI 33 rfl) ⟨rfl, rfl⟩ (show _ < 24 by omega) (by decide) ?_
  refine x_iadd (pc := 23) C dX3_earliestRepeat_23 ?_
  refine x_bipush (pc := 24) C (60) dX3_earliestRepeat_24 (by decide) ?_
  refine x_aload_n (pc := 26) C dX3_earliestRepeat_26 rfl ?_
  refine x_getR (pc := 27) (o := 20) (j := 21) C f_X3_9 dX3_earliestRepeat_27 (hI 20 rfl) ⟨rfl, rfl⟩ ?_
  refine x_iconst (pc := 30) C (4) dX3_earliestRepeat_30 (by decide) ?_
  refine x_topi (nI 4) (by decide) ?_
  refine x_iald (pc := 31) (o := 21) C dX3_earliestRepeat_31 (hI 21 rfl) ⟨rfl, rfl⟩ (show _ < 8 by decide) (by decide) ?_
  refine x_imul (pc := 32) C dX3_earliestRepeat_32 ?_
  refine x_iadd (pc := 33) C dX3_earliestRepeat_33 ?_
  exact x_iret (pc := 34) C hQ dX3_earliestRepeat_34 (is_i rfl) (Nat.le_of_ble_eq_true rfl) (Nat.le_of_ble_eq_true rfl)
set_option maxRecDepth 100000 in
set_option maxHeartbeats 4000000 in
theorem c_X3_exceedsAllowance {l : Launch} {V : VV} {L : LL} {N : NN} {I : List Nat} (hI : PI I) {n : Nat} (hn : V 20 7 = nI n) (hn24 : n ≤ 24) (g : Nat) (hg : g < 6) (x : Int32) : Runs l 3 0 0 yX3_exceedsAllowance (Cond.code yX3_exceedsAllowance cX3_exceedsAllowance 3 (some .boolean)) [aR 20, aI (nI g), aI x] V L N I (Is (some (aI (b2i (decide (V 22 g + V 23 g < wolS (CF V) (V 21 5) n (nI g) + x))))) (V) (L) N I) := by
  refine run_of RX3 (by decide +kernel) rfl (Nat.le_of_ble_eq_true rfl) (fun E hE C hQ hN => ?_)
  subst hE
  refine x_aload_n (pc := 0) C dX3_exceedsAllowance_0 rfl ?_
  refine x_iload_n (pc := 1) C dX3_exceedsAllowance_1 rfl ?_
  refine x_cV1 (pc := 2) (o := 20) C v_X3_119 dX3_exceedsAllowance_2 (c_X3_worthOfLengths hI hn hn24 _) (hI 20 rfl) rfl (by decide) rfl ⟨Nat.le_refl _, Nat.le_refl _⟩ ?_
  refine x_iload_n (pc := 5) C dX3_exceedsAllowance_5 rfl ?_
  refine x_iadd (pc := 6) C dX3_exceedsAllowance_6 ?_
  refine x_aload_n (pc := 7) C dX3_exceedsAllowance_7 rfl ?_
  refine x_iload_n (pc := 8) C dX3_exceedsAllowance_8 rfl ?_
  refine x_cV1 (pc := 9) (o := 20) C v_X3_122 dX3_exceedsAllowance_9 (c_X3_allowance hI g hg) (hI 20 rfl) rfl (by decide) rfl ⟨Nat.le_refl _, Nat.le_refl _⟩ ?_
  refine x_icmp_le (pc := 12) (tgt := 19) C dX3_exceedsAllowance_12 (by decide) (fun h12 => ?_) (fun h12 => ?_)
  · refine x_iconst (pc := 19) C (0) dX3_exceedsAllowance_19 (by decide) ?_
    exact x_zret (pc := 20) C hQ dX3_exceedsAllowance_20 (by decide) (is_i (by simp_all [b2i])) (Nat.le_of_ble_eq_true rfl) (Nat.le_of_ble_eq_true rfl)
  · refine x_iconst (pc := 15) C (1) dX3_exceedsAllowance_15 (by decide) ?_
    refine x_goto (pc := 16) (tgt := 20) C dX3_exceedsAllowance_16 (by decide) ?_
    exact x_zret (pc := 20) C hQ dX3_exceedsAllowance_20 (by decide) (is_i (by simp_all [b2i])) (Nat.le_of_ble_eq_true rfl) (Nat.le_of_ble_eq_true rfl)
set_option maxRecDepth 100000 in
set_option maxHeartbeats 4000000 in
theorem c_X3_exceedsSponsorLimit {l : Launch} {V : VV} {L : LL} {N : NN} {I : List Nat} (hI : PI I) {n : Nat} (hn : V 20 7 = nI n) (hn24 : n ≤ 24) (d st sp : Int32) : Runs l 3 0 0 yX3_exceedsSponsorLimit (Cond.code yX3_exceedsSponsorLimit cX3_exceedsSponsorLimit 6 (some .boolean)) [aR 20, aI d, aI st, aI sp] V L N I (Is (some (aI (b2i (exS (CF V) (V 21 6) n d st sp)))) (V) (L) N I) := by
  refine run_of RX3 (by decide +kernel) rfl (Nat.le_of_ble_eq_true rfl) (fun E hE C hQ hN => ?_)
  subst hE
  refine x_iconst (pc := 0) C (0) dX3_exceedsSponsorLimit_0 (by decide) ?_
  refine y_istore (pc := 1) C dX3_exceedsSponsorLimit_1 (by decide) rfl ?_
  suffices key : ∀ (k i : Nat) , k + i = 24 → (fstF (exP (CF V) (V 21 6) n d st sp) 24 0 = fstF (exP (CF V) (V 21 6) n d st sp) k i) → Wx E 3 [some (aR 20), some (aI d), some (aI st), some (aI sp), some (aI (nI i)), none] [] V L N I 0 0 by
    exact key (24) 0  (by omega) (rfl)
  intro k
  induction k with
  | zero =>
    intro i  hk hinv
    refine x_iload (pc := 3) C dX3_exceedsSponsorLimit_3 rfl ?_
    refine x_bipush (pc := 5) C (24) dX3_exceedsSponsorLimit_5 (by decide) ?_
    refine x_icmp_ge (pc := 7) (tgt := 47) C dX3_exceedsSponsorLimit_7 (by decide) (fun h7 => ?_) (fun h7 => absurd (by exact nI_le (a := 24) (b := i) (by omega) (by omega)) h7)
    refine x_iconst (pc := 47) C (0) dX3_exceedsSponsorLimit_47 (by decide) ?_
    exact x_zret (pc := 48) C hQ dX3_exceedsSponsorLimit_48 (by decide) (is_i (by rw [exS, hinv]; rfl)) (Nat.le_of_ble_eq_true rfl) (Nat.le_of_ble_eq_true rfl)
  | succ k ih =>
    intro i  hk hinv
    refine x_iload (pc := 3) C dX3_exceedsSponsorLimit_3 rfl ?_
    refine x_bipush (pc := 5) C (24) dX3_exceedsSponsorLimit_5 (by decide) ?_
    refine x_icmp_ge (pc := 7) (tgt := 47) C dX3_exceedsSponsorLimit_7 (by decide) (fun h7 => absurd h7 (by exact nI_ge (a := i) (b := 24) (by omega) (by omega))) (fun h7 => ?_)
    refine x_aload_n (pc := 10) C dX3_exceedsSponsorLimit_10 rfl ?_
    refine x_iload_n (pc := 11) C dX3_exceedsSponsorLimit_11 rfl ?_
    refine x_iload (pc := 12) C dX3_exceedsSponsorLimit_12 rfl ?_
    refine x_cV2 (pc := 14) (o := 20) C v_X3_125 dX3_exceedsSponsorLimit_14 (c_X3_plannedSponsors hI hn hn24 _ _) (hI 20 rfl) rfl (by decide) rfl ⟨Nat.le_refl _, Nat.le_refl _⟩ ?_
    refine x_iload_n (pc := 17) C dX3_exceedsSponsorLimit_17 rfl ?_
    refine x_iload_n (pc := 18) C dX3_exceedsSponsorLimit_18 rfl ?_
    refine x_iload (pc := 19) C dX3_exceedsSponsorLimit_19 rfl ?_
    refine x_cN3 (pc := 21) C n_X3_74 dX3_exceedsSponsorLimit_21 (c_X6_minutesInHour _ _ _) (by decide) rfl ⟨Nat.le_refl _, Nat.le_refl _⟩ ?_
    refine x_iadd (pc := 24) C dX3_exceedsSponsorLimit_24 ?_
    refine y_istore (pc := 25) C dX3_exceedsSponsorLimit_25 (by decide) rfl ?_
    refine x_iload (pc := 27) C dX3_exceedsSponsorLimit_27 rfl ?_
    refine x_aload_n (pc := 29) C dX3_exceedsSponsorLimit_29 rfl ?_
    refine x_getR (pc := 30) (o := 20) (j := 21) C f_X3_9 dX3_exceedsSponsorLimit_30 (hI 20 rfl) ⟨rfl, rfl⟩ ?_
    refine x_bipush (pc := 33) C (6) dX3_exceedsSponsorLimit_33 (by decide) ?_
    refine x_topi (nI 6) (by decide) ?_
    refine x_iald (pc := 35) (o := 21) C dX3_exceedsSponsorLimit_35 (hI 21 rfl) ⟨rfl, rfl⟩ (show _ < 8 by decide) (by decide) ?_
    refine x_icmp_le (pc := 36) (tgt := 41) C dX3_exceedsSponsorLimit_36 (by decide) (fun h36 => ?_) (fun h36 => ?_)
    · refine y_iinc (pc := 41) C (nI (i + 1)) dX3_exceedsSponsorLimit_41 rfl (by exact nI_1 i) (by decide) rfl ?_
      refine x_goto (pc := 44) (tgt := 3) C dX3_exceedsSponsorLimit_44 (by decide) ?_
      refine x_fgt 5 ?_
      exact ih (i + 1)  (by omega) (by rw [hinv, fstF, if_neg (by simp_all [exP])])
    · refine x_iconst (pc := 39) C (1) dX3_exceedsSponsorLimit_39 (by decide) ?_
      exact x_zret (pc := 40) C hQ dX3_exceedsSponsorLimit_40 (by decide) (is_i (by rw [exS, hinv, fstF, if_pos (by simp_all [exP])]; rfl)) (Nat.le_of_ble_eq_true rfl) (Nat.le_of_ble_eq_true rfl)
set_option maxRecDepth 100000 in
set_option maxHeartbeats 4000000 in
theorem c_X3_nextTimeStep {l : Launch} {V : VV} {L : LL} {N : NN} {I : List Nat} (t : Int32) : Runs l 1 0 0 yX3_nextTimeStep (Cond.code yX3_nextTimeStep cX3_nextTimeStep 1 (some .int)) [aI t] V L N I (Is (some (aI (nextF t))) (V) (L) N I) := by
  refine run_of RX3 (by decide +kernel) rfl (Nat.le_of_ble_eq_true rfl) (fun E hE C hQ hN => ?_)
  subst hE
  refine x_iload_n (pc := 0) C dX3_nextTimeStep_0 rfl ?_
  refine x_iconst (pc := 1) C (5) dX3_nextTimeStep_1 (by decide) ?_
  refine x_iadd (pc := 2) C dX3_nextTimeStep_2 ?_
  refine x_iconst (pc := 3) C (1) dX3_nextTimeStep_3 (by decide) ?_
  refine x_isub (pc := 4) C dX3_nextTimeStep_4 ?_
  refine x_iconst (pc := 5) C (5) dX3_nextTimeStep_5 (by decide) ?_
  refine x_idiv (pc := 6) C dX3_nextTimeStep_6 (by decide) ?_
  refine x_iconst (pc := 7) C (5) dX3_nextTimeStep_7 (by decide) ?_
  refine x_imul (pc := 8) C dX3_nextTimeStep_8 ?_
  exact x_iret (pc := 9) C hQ dX3_nextTimeStep_9 (is_i rfl) (Nat.le_of_ble_eq_true rfl) (Nat.le_of_ble_eq_true rfl)
set_option maxRecDepth 100000 in
set_option maxHeartbeats 4000000 in
theorem c_X3_firstFreeStart {l : Launch} {V : VV} {L : LL} {N : NN} {I : List Nat} (hI : PI I) {n : Nat} (hn : V 20 7 = nI n) (hn24 : n ≤ 24) (d ln e : Int32) : Runs l 3 0 0 yX3_firstFreeStart (Cond.code yX3_firstFreeStart cX3_firstFreeStart 7 (some .int)) [aR 20, aI d, aI ln, aI e] V L N I (Is (some (aI (ffF (CF V) (V 21 1) n d ln (n + 1) (nextF (maxF e (V 21 0)))))) (V) (L) N I) := by
  refine run_of RX3 (by decide +kernel) rfl (Nat.le_of_ble_eq_true rfl) (fun E hE C hQ hN => ?_)
  subst hE
  refine x_iload_n (pc := 0) C dX3_firstFreeStart_0 rfl ?_
  refine x_aload_n (pc := 1) C dX3_firstFreeStart_1 rfl ?_
  refine x_getR (pc := 2) (o := 20) (j := 21) C f_X3_9 dX3_firstFreeStart_2 (hI 20 rfl) ⟨rfl, rfl⟩ ?_
  refine x_iconst (pc := 5) C (0) dX3_firstFreeStart_5 (by decide) ?_
  refine x_topi (nI 0) (by decide) ?_
  refine x_iald (pc := 6) (o := 21) C dX3_firstFreeStart_6 (hI 21 rfl) ⟨rfl, rfl⟩ (show _ < 8 by decide) (by decide) ?_
  refine x_mmax (pc := 7) C q_X3_131 dX3_firstFreeStart_7 (by decide) (Nat.le_of_ble_eq_true rfl) ⟨Nat.le_refl _, Nat.le_refl _⟩ ?_ mm_max.1 mm_max.2.1 mm_max.2.2
  refine x_cS1 (pc := 10) C s_X3_136 dX3_firstFreeStart_10 (c_X3_nextTimeStep _) (by decide) rfl ⟨Nat.le_refl _, Nat.le_refl _⟩ ?_
  refine y_istore (pc := 13) C dX3_firstFreeStart_13 (by decide) rfl ?_
  refine x_iconst (pc := 15) C (0) dX3_firstFreeStart_15 (by decide) ?_
  refine y_istore (pc := 16) C dX3_firstFreeStart_16 (by decide) rfl ?_
  suffices key : ∀ (k i : Nat) (s : Int32), k + i = n + 1 → (ffF (CF V) (V 21 1) n d ln (n + 1) (nextF (maxF e (V 21 0))) = ffF (CF V) (V 21 1) n d ln k s) → Wx E 18 [some (aR 20), some (aI d), some (aI ln), some (aI e), some (aI s), some (aI (nI i)), none] [] V L N I 0 0 by
    exact key (n + 1) 0 _ (by omega) (rfl)
  intro k
  induction k with
  | zero =>
    intro i s hk hinv
    refine x_iload (pc := 18) C dX3_firstFreeStart_18 rfl ?_
    refine x_aload_n (pc := 20) C dX3_firstFreeStart_20 rfl ?_
    refine x_getI (pc := 21) (o := 20) C f_X3_67 dX3_firstFreeStart_21 (hI 20 rfl) ⟨rfl, rfl, rfl⟩ ?_
    refine x_topi (nI n) hn ?_
    refine x_icmp_gt (pc := 24) (tgt := 85) C dX3_firstFreeStart_24 (by decide) (fun h24 => ?_) (fun h24 => absurd (by exact nI_lt (by omega) (by omega)) h24)
    refine x_iconst (pc := 85) C (-1) dX3_firstFreeStart_85 (by decide) ?_
    exact x_iret (pc := 86) C hQ dX3_firstFreeStart_86 (is_i (by rw [hinv]; rfl)) (Nat.le_of_ble_eq_true rfl) (Nat.le_of_ble_eq_true rfl)
  | succ k ih =>
    intro i s hk hinv
    refine x_iload (pc := 18) C dX3_firstFreeStart_18 rfl ?_
    refine x_aload_n (pc := 20) C dX3_firstFreeStart_20 rfl ?_
    refine x_getI (pc := 21) (o := 20) C f_X3_67 dX3_firstFreeStart_21 (hI 20 rfl) ⟨rfl, rfl, rfl⟩ ?_
    refine x_topi (nI n) hn ?_
    refine x_icmp_gt (pc := 24) (tgt := 85) C dX3_firstFreeStart_24 (by decide) (fun h24 => absurd h24 (by exact nI_nlt (by omega) (by omega))) (fun h24 => ?_)
    refine x_iload (pc := 27) C dX3_firstFreeStart_27 rfl ?_
    refine x_iload_n (pc := 29) C dX3_firstFreeStart_29 rfl ?_
    refine x_iadd (pc := 30) C dX3_firstFreeStart_30 ?_
    refine x_aload_n (pc := 31) C dX3_firstFreeStart_31 rfl ?_
    refine x_getR (pc := 32) (o := 20) (j := 21) C f_X3_9 dX3_firstFreeStart_32 (hI 20 rfl) ⟨rfl, rfl⟩ ?_
    refine x_iconst (pc := 35) C (1) dX3_firstFreeStart_35 (by decide) ?_
    refine x_topi (nI 1) (by decide) ?_
    refine x_iald (pc := 36) (o := 21) C dX3_firstFreeStart_36 (hI 21 rfl) ⟨rfl, rfl⟩ (show _ < 8 by decide) (by decide) ?_
    refine x_icmp_gt (pc := 37) (tgt := 85) C dX3_firstFreeStart_37 (by decide) (fun h37 => ?_) (fun h37 => ?_)
    · refine x_iconst (pc := 85) C (-1) dX3_firstFreeStart_85 (by decide) ?_
      exact x_iret (pc := 86) C hQ dX3_firstFreeStart_86 (is_i (by rw [hinv, ffF, if_pos h37])) (Nat.le_of_ble_eq_true rfl) (Nat.le_of_ble_eq_true rfl)
    · refine x_aload_n (pc := 40) C dX3_firstFreeStart_40 rfl ?_
      refine x_iload_n (pc := 41) C dX3_firstFreeStart_41 rfl ?_
      refine x_iload (pc := 42) C dX3_firstFreeStart_42 rfl ?_
      refine x_iload_n (pc := 44) C dX3_firstFreeStart_44 rfl ?_
      refine x_cV3 (pc := 45) (o := 20) C v_X3_102 dX3_firstFreeStart_45 (c_X3_showInTheWay hI hn hn24 _ _ _) (hI 20 rfl) rfl (by decide) rfl ⟨Nat.le_refl _, Nat.le_refl _⟩ ?_
      refine y_istore (pc := 48) C dX3_firstFreeStart_48 (by decide) rfl ?_
      refine x_iload (pc := 50) C dX3_firstFreeStart_50 rfl ?_
      refine x_iconst (pc := 52) C (-1) dX3_firstFreeStart_52 (by decide) ?_
      refine x_icmp_ne (pc := 53) (tgt := 59) C dX3_firstFreeStart_53 (by decide) (fun h53 => ?_) (fun h53 => ?_)
      · obtain ⟨o, ho, hon⟩ := o2i_some h53
        rw [ho]
        have ho24 : o < n := by have := (fstF_lt hon).2.1; omega
        refine x_aload_n (pc := 59) C dX3_firstFreeStart_59 rfl ?_
        refine x_getR (pc := 60) (o := 20) (j := 32) C f_X3_39 dX3_firstFreeStart_60 (hI 20 rfl) ⟨rfl, rfl⟩ ?_
        refine x_iload (pc := 63) C dX3_firstFreeStart_63 rfl ?_
        refine x_iald (pc := 65) (o := 32) C dX3_firstFreeStart_65 (hI 32 rfl) ⟨rfl, rfl⟩ (show _ < 24 by omega) (by decide) ?_
        refine x_aload_n (pc := 66) C dX3_firstFreeStart_66 rfl ?_
        refine x_getR (pc := 67) (o := 20) (j := 33) C f_X3_42 dX3_firstFreeStart_67 (hI 20 rfl) ⟨rfl, rfl⟩ ?_
        refine x_iload (pc := 70) C dX3_firstFreeStart_70 rfl ?_
        refine x_iald (pc := 72) (o := 33) C dX3_firstFreeStart_72 (hI 33 rfl) ⟨rfl, rfl⟩ (show _ < 24 by omega) (by decide) ?_
        refine x_iadd (pc := 73) C dX3_firstFreeStart_73 ?_
        refine x_cS1 (pc := 74) C s_X3_136 dX3_firstFreeStart_74 (c_X3_nextTimeStep _) (by decide) rfl ⟨Nat.le_refl _, Nat.le_refl _⟩ ?_
        refine y_istore (pc := 77) C dX3_firstFreeStart_77 (by decide) rfl ?_
        refine y_iinc (pc := 79) C (nI (i + 1)) dX3_firstFreeStart_79 rfl (by exact nI_1 i) (by decide) rfl ?_
        refine x_goto (pc := 82) (tgt := 18) C dX3_firstFreeStart_82 (by decide) ?_
        refine x_fgt 6 ?_
        exact ih (i + 1) _ (by omega) (by rw [hinv, ffF, if_neg h37, hon]; rfl)
      · refine x_iload (pc := 56) C dX3_firstFreeStart_56 rfl ?_
        exact x_iret (pc := 58) C hQ dX3_firstFreeStart_58 (is_i (by rw [hinv, ffF, if_neg h37, o2i_none (by omega) h53])) (Nat.le_of_ble_eq_true rfl) (Nat.le_of_ble_eq_true rfl)
