set_option maxRecDepth 100000 in
set_option maxHeartbeats 4000000 in
theorem c_X6_isWithin {l : Launch} {V : VV} {L : LL} {N : NN} {I : List Nat} (v lo hi : Int32) : Runs l 1 0 0 yX6_isWithin (Cond.code yX6_isWithin cX6_isWithin 3 (some .boolean)) [aI v, aI lo, aI hi] V L N I (Is (some (aI (b2i (withinB v lo hi)))) (V) (L) N I) := by
  refine run_of RX6 (by decide +kernel) rfl (Nat.le_of_ble_eq_true rfl) (fun E hE C hQ hN => ?_)
  subst hE
  refine x_iload_n (pc := 0) C dX6_isWithin_0 rfl ?_
  refine x_iload_n (pc := 1) C dX6_isWithin_1 rfl ?_
  refine x_icmp_lt (pc := 2) (tgt := 14) C dX6_isWithin_2 (by decide) (fun h2 => ?_) (fun h2 => ?_)
  · refine x_iconst (pc := 14) C (0) dX6_isWithin_14 (by decide) ?_
    exact x_zret (pc := 15) C hQ dX6_isWithin_15 (by decide) (is_i (by simp_all [b2i, withinB])) (Nat.le_of_ble_eq_true rfl) (Nat.le_of_ble_eq_true rfl)
  · refine x_iload_n (pc := 5) C dX6_isWithin_5 rfl ?_
    refine x_iload_n (pc := 6) C dX6_isWithin_6 rfl ?_
    refine x_icmp_gt (pc := 7) (tgt := 14) C dX6_isWithin_7 (by decide) (fun h7 => ?_) (fun h7 => ?_)
    · refine x_iconst (pc := 14) C (0) dX6_isWithin_14 (by decide) ?_
      exact x_zret (pc := 15) C hQ dX6_isWithin_15 (by decide) (is_i (by simp_all [b2i, withinB])) (Nat.le_of_ble_eq_true rfl) (Nat.le_of_ble_eq_true rfl)
    · refine x_iconst (pc := 10) C (1) dX6_isWithin_10 (by decide) ?_
      refine x_goto (pc := 11) (tgt := 15) C dX6_isWithin_11 (by decide) ?_
      exact x_zret (pc := 15) C hQ dX6_isWithin_15 (by decide) (is_i (by simp_all [b2i, withinB])) (Nat.le_of_ble_eq_true rfl) (Nat.le_of_ble_eq_true rfl)
set_option maxRecDepth 100000 in
set_option maxHeartbeats 4000000 in
theorem c_X6_minutesInHour {l : Launch} {V : VV} {L : LL} {N : NN} {I : List Nat} (f m h : Int32) : Runs l 1 0 0 yX6_minutesInHour (Cond.code yX6_minutesInHour cX6_minutesInHour 5 (some .int)) [aI f, aI m, aI h] V L N I (Is (some (aI (inHourF f m h))) (V) (L) N I) := by
  refine run_of RX6 (by decide +kernel) rfl (Nat.le_of_ble_eq_true rfl) (fun E hE C hQ hN => ?_)
  subst hE
  refine x_iload_n (pc := 0) C dX6_minutesInHour_0 rfl ?_
  refine x_bipush (pc := 1) C (60) dX6_minutesInHour_1 (by decide) ?_
  refine x_iload_n (pc := 3) C dX6_minutesInHour_3 rfl ?_
  refine x_imul (pc := 4) C dX6_minutesInHour_4 ?_
  refine x_mmax (pc := 5) C q_X6_273 dX6_minutesInHour_5 (by decide) (Nat.le_of_ble_eq_true rfl) ⟨Nat.le_refl _, Nat.le_refl _⟩ ?_ mm_max.1 mm_max.2.1 mm_max.2.2
  refine x_istore_n (pc := 8) C dX6_minutesInHour_8 (by decide) ?_
  refine x_iload_n (pc := 9) C dX6_minutesInHour_9 rfl ?_
  refine x_iload_n (pc := 10) C dX6_minutesInHour_10 rfl ?_
  refine x_iadd (pc := 11) C dX6_minutesInHour_11 ?_
  refine x_bipush (pc := 12) C (60) dX6_minutesInHour_12 (by decide) ?_
  refine x_iload_n (pc := 14) C dX6_minutesInHour_14 rfl ?_
  refine x_iconst (pc := 15) C (1) dX6_minutesInHour_15 (by decide) ?_
  refine x_iadd (pc := 16) C dX6_minutesInHour_16 ?_
  refine x_imul (pc := 17) C dX6_minutesInHour_17 ?_
  refine x_mmin (pc := 18) C q_X6_278 dX6_minutesInHour_18 (by decide) (Nat.le_of_ble_eq_true rfl) ⟨Nat.le_refl _, Nat.le_refl _⟩ ?_ mm_min.1 mm_min.2.1 mm_min.2.2
  refine x_istore (pc := 21) C dX6_minutesInHour_21 (by decide) ?_
  refine x_iconst (pc := 23) C (0) dX6_minutesInHour_23 (by decide) ?_
  refine x_iload (pc := 24) C dX6_minutesInHour_24 rfl ?_
  refine x_iload_n (pc := 26) C dX6_minutesInHour_26 rfl ?_
  refine x_isub (pc := 27) C dX6_minutesInHour_27 ?_
  refine x_mmax (pc := 28) C q_X6_273 dX6_minutesInHour_28 (by decide) (Nat.le_of_ble_eq_true rfl) ⟨Nat.le_refl _, Nat.le_refl _⟩ ?_ mm_max.1 mm_max.2.1 mm_max.2.2
  exact x_iret (pc := 31) C hQ dX6_minutesInHour_31 (is_i rfl) (Nat.le_of_ble_eq_true rfl) (Nat.le_of_ble_eq_true rfl)
set_option maxRecDepth 100000 in
set_option maxHeartbeats 4000000 in
theorem c_X3_worth {l : Launch} {V : VV} {L : LL} {N : NN} {I : List Nat} (hI : PI I) (k m : Int32) : Runs l 1 0 0 yX3_worth (Cond.code yX3_worth cX3_worth 3 (some .int)) [aR 20, aI k, aI m] V L N I (Is (some (aI (worthF (V 21 5) k m))) (V) (L) N I) := by
  refine run_of RX3 (by decide +kernel) rfl (Nat.le_of_ble_eq_true rfl) (fun E hE C hQ hN => ?_)
  subst hE
  refine x_iload_n (pc := 0) C dX3_worth_0 rfl ?_
  refine x_iconst (pc := 1) C (2) dX3_worth_1 (by decide) ?_
  refine x_icmp_ne (pc := 2) (tgt := 19) C dX3_worth_2 (by decide) (fun h2 => ?_) (fun h2 => ?_)
  · refine x_iload_n (pc := 19) C dX3_worth_19 rfl ?_
    exact x_iret (pc := 20) C hQ dX3_worth_20 (is_i (by simp [worthF, *])) (Nat.le_of_ble_eq_true rfl) (Nat.le_of_ble_eq_true rfl)
  · refine x_iload_n (pc := 5) C dX3_worth_5 rfl ?_
    refine x_aload_n (pc := 6) C dX3_worth_6 rfl ?_
    refine x_getR (pc := 7) (o := 20) (j := 21) C f_X3_9 dX3_worth_7 (hI 20 rfl) ⟨rfl, rfl⟩ ?_
    refine x_iconst (pc := 10) C (5) dX3_worth_10 (by decide) ?_
    refine x_topi (nI 5) (by decide) ?_
    refine x_iald (pc := 11) (o := 21) C dX3_worth_11 (hI 21 rfl) ⟨rfl, rfl⟩ (show _ < 8 by decide) (by decide) ?_
    refine x_imul (pc := 12) C dX3_worth_12 ?_
    refine x_bipush (pc := 13) C (100) dX3_worth_13 (by decide) ?_
    refine x_idiv (pc := 15) C dX3_worth_15 (by decide) ?_
    refine x_goto (pc := 16) (tgt := 20) C dX3_worth_16 (by decide) ?_
    exact x_iret (pc := 20) C hQ dX3_worth_20 (is_i (by simp [worthF, *])) (Nat.le_of_ble_eq_true rfl) (Nat.le_of_ble_eq_true rfl)
set_option maxRecDepth 100000 in
set_option maxHeartbeats 4000000 in
theorem c_X3_worthOfLengths {l : Launch} {V : VV} {L : LL} {N : NN} {I : List Nat} (hI : PI I) {n : Nat} (hn : V 20 7 = nI n) (hn24 : n ≤ 24) (g : Int32) : Runs l 2 0 0 yX3_worthOfLengths (Cond.code yX3_worthOfLengths cX3_worthOfLengths 4 (some .int)) [aR 20, aI g] V L N I (Is (some (aI (sumTo (fun s => if V 30 s = g then worthF (V 21 5) (V 29 s) (V 33 s) else 0) n))) (V) (L) N I) := by
  refine run_of RX3 (by decide +kernel) rfl (Nat.le_of_ble_eq_true rfl) (fun E hE C hQ hN => ?_)
  subst hE
  refine x_iconst (pc := 0) C (0) dX3_worthOfLengths_0 (by decide) ?_
  refine x_istore_n (pc := 1) C dX3_worthOfLengths_1 (by decide) ?_
  refine x_iconst (pc := 2) C (0) dX3_worthOfLengths_2 (by decide) ?_
  refine x_istore_n (pc := 3) C dX3_worthOfLengths_3 (by decide) ?_
  suffices key : ∀ (k i : Nat) (s : Int32), k + i = n → s = sumTo (fun s => if V 30 s = g then worthF (V 21 5) (V 29 s) (V 33 s) else 0) i → Wx E 4 [some (aR 20), some (aI g), some (aI s), some (aI (nI i))] [] V L N I 0 0 by
    exact key n 0 0 (by omega) rfl
  intro k
  induction k with
  | zero =>
    intro i s hk hs
    refine x_iload_n (pc := 4) C dX3_worthOfLengths_4 rfl ?_
    refine x_aload_n (pc := 5) C dX3_worthOfLengths_5 rfl ?_
    refine x_getI (pc := 6) (o := 20) C f_X3_67 dX3_worthOfLengths_6 (hI 20 rfl) ⟨rfl, rfl, rfl⟩ ?_
    refine x_topi (nI n) hn ?_
    refine x_icmp_ge (pc := 9) (tgt := 47) C dX3_worthOfLengths_9 (by decide) (fun h9 => ?_) (fun h9 => absurd (by exact nI_le (by omega) (by omega)) h9)
    refine x_iload_n (pc := 47) C dX3_worthOfLengths_47 rfl ?_
    exact x_iret (pc := 48) C hQ dX3_worthOfLengths_48 (is_i (by rw [hs]; congr 1; omega)) (Nat.le_of_ble_eq_true rfl) (Nat.le_of_ble_eq_true rfl)
  | succ k ih =>
    intro i s hk hs
    refine x_iload_n (pc := 4) C dX3_worthOfLengths_4 rfl ?_
    refine x_aload_n (pc := 5) C dX3_worthOfLengths_5 rfl ?_
    refine x_getI (pc := 6) (o := 20) C f_X3_67 dX3_worthOfLengths_6 (hI 20 rfl) ⟨rfl, rfl, rfl⟩ ?_
    refine x_topi (nI n) hn ?_
    refine x_icmp_ge (pc := 9) (tgt := 47) C dX3_worthOfLengths_9 (by decide) (fun h9 => absurd h9 (by exact nI_ge (by omega) (by omega))) (fun h9 => ?_)
    refine x_aload_n (pc := 12) C dX3_worthOfLengths_12 rfl ?_
    refine x_getR (pc := 13) (o := 20) (j := 30) C f_X3_33 dX3_worthOfLengths_13 (hI 20 rfl) ⟨rfl, rfl⟩ ?_
    refine x_iload_n (pc := 16) C dX3_worthOfLengths_16 rfl ?_
    refine x_iald (pc := 17) (o := 30) C dX3_worthOfLengths_17 (hI 30 rfl) ⟨rfl, rfl⟩ (show _ < 24 by omega) (by decide) ?_
    refine x_iload_n (pc := 18) C dX3_worthOfLengths_18 rfl ?_
    refine x_icmp_ne (pc := 19) (tgt := 41) C dX3_worthOfLengths_19 (by decide) (fun h19 => ?_) (fun h19 => ?_)
    · refine x_iinc (pc := 41) C (nI (i + 1)) dX3_worthOfLengths_41 rfl (by exact nI_1 i)  (by decide) ?_
      refine x_goto (pc := 44) (tgt := 4) C dX3_worthOfLengths_44 (by decide) ?_
      exact ih (i + 1) _ (by omega) (by rw [sumTo, ← hs]; simp [*])
    · refine x_iload_n (pc := 22) C dX3_worthOfLengths_22 rfl ?_
      refine x_aload_n (pc := 23) C dX3_worthOfLengths_23 rfl ?_
      refine x_aload_n (pc := 24) C dX3_worthOfLengths_24 rfl ?_
      refine x_getR (pc := 25) (o := 20) (j := 29) C f_X3_30 dX3_worthOfLengths_25 (hI 20 rfl) ⟨rfl, rfl⟩ ?_
      refine x_iload_n (pc := 28) C dX3_worthOfLengths_28 rfl ?_
      refine x_iald (pc := 29) (o := 29) C dX3_worthOfLengths_29 (hI 29 rfl) ⟨rfl, rfl⟩ (show _ < 24 by omega) (by decide) ?_
      refine x_aload_n (pc := 30) C dX3_worthOfLengths_30 rfl ?_
      refine x_getR (pc := 31) (o := 20) (j := 33) C f_X3_42 dX3_worthOfLengths_31 (hI 20 rfl) ⟨rfl, rfl⟩ ?_
      refine x_iload_n (pc := 34) C dX3_worthOfLengths_34 rfl ?_
      refine x_iald (pc := 35) (o := 33) C dX3_worthOfLengths_35 (hI 33 rfl) ⟨rfl, rfl⟩ (show _ < 24 by omega) (by decide) ?_
      refine x_cV2 (pc := 36) (o := 20) C v_X3_70 dX3_worthOfLengths_36 (c_X3_worth hI _ _) (hI 20 rfl) rfl (by decide) rfl ⟨Nat.le_refl _, Nat.le_refl _⟩ ?_
      refine x_iadd (pc := 39) C dX3_worthOfLengths_39 ?_
      refine x_istore_n (pc := 40) C dX3_worthOfLengths_40 (by decide) ?_
      refine x_iinc (pc := 41) C (nI (i + 1)) dX3_worthOfLengths_41 rfl (by exact nI_1 i)  (by decide) ?_
      refine x_goto (pc := 44) (tgt := 4) C dX3_worthOfLengths_44 (by decide) ?_
      exact ih (i + 1) _ (by omega) (by rw [sumTo, ← hs]; simp [*])
