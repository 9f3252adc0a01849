set_option maxRecDepth 100000 in
set_option maxHeartbeats 4000000 in
theorem c_X0_isDropped {l : Launch} {V : VV} {L : LL} {N : NN} {I : List Nat} (hI : PI I) (s : Nat) (hs : s < 24) : Runs l 1 0 0 yX0_isDropped (Cond.code yX0_isDropped cX0_isDropped 2 (some .boolean)) [aR 6, aI (nI s)] V L N I (Is (some (aI (b2i (drpB (AF 6 V) s)))) (V) (L) N I) := by
  refine run_of RX0 (by decide +kernel) rfl (Nat.le_of_ble_eq_true rfl) (fun E hE C hQ hN => ?_)
  subst hE
  refine x_aload_n (pc := 0) C dX0_isDropped_0 rfl ?_
  refine x_getR (pc := 1) (o := 6) (j := 7) C f_X0_9 dX0_isDropped_1 (hI 6 rfl) ⟨rfl, rfl⟩ ?_
  refine x_iload_n (pc := 4) C dX0_isDropped_4 rfl ?_
  refine x_iald (pc := 5) (o := 7) C dX0_isDropped_5 (hI 7 rfl) ⟨rfl, rfl⟩ (show _ < 24 by omega) (by decide) ?_
  refine x_iconst (pc := 6) C (-1) dX0_isDropped_6 (by decide) ?_
  refine x_icmp_ne (pc := 7) (tgt := 14) C dX0_isDropped_7 (by decide) (fun h7 => ?_) (fun h7 => ?_)
  · refine x_iconst (pc := 14) C (0) dX0_isDropped_14 (by decide) ?_
    exact x_zret (pc := 15) C hQ dX0_isDropped_15 (by decide) (is_i (by first | exact (b2i_c ‹_›).symm | exact (b2i_cn ‹_›).symm)) (Nat.le_of_ble_eq_true rfl) (Nat.le_of_ble_eq_true rfl)
  · refine x_iconst (pc := 10) C (1) dX0_isDropped_10 (by decide) ?_
    refine x_goto (pc := 11) (tgt := 15) C dX0_isDropped_11 (by decide) ?_
    exact x_zret (pc := 15) C hQ dX0_isDropped_15 (by decide) (is_i (by first | exact (b2i_c ‹_›).symm | exact (b2i_cn ‹_›).symm)) (Nat.le_of_ble_eq_true rfl) (Nat.le_of_ble_eq_true rfl)
set_option maxRecDepth 100000 in
set_option maxHeartbeats 4000000 in
theorem c_X0_isDelayed {l : Launch} {V : VV} {L : LL} {N : NN} {I : List Nat} (hI : PI I) (s : Nat) (hs : s < 24) : Runs l 2 0 0 yX0_isDelayed (Cond.code yX0_isDelayed cX0_isDelayed 2 (some .boolean)) [aR 6, aI (nI s)] V L N I (Is (some (aI (b2i (dlyB (AF 6 V) s)))) (V) (L) N I) := by
  refine run_of RX0 (by decide +kernel) rfl (Nat.le_of_ble_eq_true rfl) (fun E hE C hQ hN => ?_)
  subst hE
  refine x_aload_n (pc := 0) C dX0_isDelayed_0 rfl ?_
  refine x_iload_n (pc := 1) C dX0_isDelayed_1 rfl ?_
  refine x_cV1 (pc := 2) (o := 6) C v_X0_67 dX0_isDelayed_2 (c_X0_isDropped hI s hs) (hI 6 rfl) rfl (by decide) rfl ⟨Nat.le_refl _, Nat.le_refl _⟩ ?_
  refine x_if_ne (pc := 5) (tgt := 21) C dX0_isDelayed_5 (by decide) (fun h5 => ?_) (fun h5 => ?_)
  · refine x_iconst (pc := 21) C (0) dX0_isDelayed_21 (by decide) ?_
    exact x_zret (pc := 22) C hQ dX0_isDelayed_22 (by decide) (is_i (by first | exact (dly_1 (A := AF 6 V) h5 h14).symm | exact (dly_2 (A := AF 6 V) h14).symm | exact (dly_3 h5).symm)) (Nat.le_of_ble_eq_true rfl) (Nat.le_of_ble_eq_true rfl)
  · refine x_aload_n (pc := 8) C dX0_isDelayed_8 rfl ?_
    refine x_getR (pc := 9) (o := 6) (j := 9) C f_X0_18 dX0_isDelayed_9 (hI 6 rfl) ⟨rfl, rfl⟩ ?_
    refine x_iload_n (pc := 12) C dX0_isDelayed_12 rfl ?_
    refine x_iald (pc := 13) (o := 9) C dX0_isDelayed_13 (hI 9 rfl) ⟨rfl, rfl⟩ (show _ < 24 by omega) (by decide) ?_
    refine x_if_le (pc := 14) (tgt := 21) C dX0_isDelayed_14 (by decide) (fun h14 => ?_) (fun h14 => ?_)
    · refine x_iconst (pc := 21) C (0) dX0_isDelayed_21 (by decide) ?_
      exact x_zret (pc := 22) C hQ dX0_isDelayed_22 (by decide) (is_i (by first | exact (dly_1 (A := AF 6 V) h5 h14).symm | exact (dly_2 (A := AF 6 V) h14).symm | exact (dly_3 h5).symm)) (Nat.le_of_ble_eq_true rfl) (Nat.le_of_ble_eq_true rfl)
    · refine x_iconst (pc := 17) C (1) dX0_isDelayed_17 (by decide) ?_
      refine x_goto (pc := 18) (tgt := 22) C dX0_isDelayed_18 (by decide) ?_
      exact x_zret (pc := 22) C hQ dX0_isDelayed_22 (by decide) (is_i (by first | exact (dly_1 (A := AF 6 V) h5 h14).symm | exact (dly_2 (A := AF 6 V) h14).symm | exact (dly_3 h5).symm)) (Nat.le_of_ble_eq_true rfl) (Nat.le_of_ble_eq_true rfl)
set_option maxRecDepth 100000 in
set_option maxHeartbeats 4000000 in
theorem c_X0_fate {l : Launch} {V : VV} {L : LL} {N : NN} {I : List Nat} (hI : PI I) (s : Nat) (hs : s < 24) : Runs l 3 0 0 yX0_fate (Cond.code yX0_fate cX0_fate 3 (some .int)) [aR 6, aI (nI s)] V L N I (Is (some (aI (fateS (AF 6 V) s))) (V) (L) N I) := by
  refine run_of RX0 (by decide +kernel) rfl (Nat.le_of_ble_eq_true rfl) (fun E hE C hQ hN => ?_)
  subst hE
  refine x_aload_n (pc := 0) C dX0_fate_0 rfl ?_
  refine x_iload_n (pc := 1) C dX0_fate_1 rfl ?_
  refine x_cV1 (pc := 2) (o := 6) C v_X0_67 dX0_fate_2 (c_X0_isDropped hI s hs) (hI 6 rfl) rfl (by decide) rfl ⟨Nat.le_refl _, Nat.le_refl _⟩ ?_
  refine x_if_eq (pc := 5) (tgt := 12) C dX0_fate_5 (by decide) (fun h2d => ?_) (fun h2d => ?_)
  · refine x_aload_n (pc := 12) C dX0_fate_12 rfl ?_
    refine x_iload_n (pc := 13) C dX0_fate_13 rfl ?_
    refine x_cV1 (pc := 14) (o := 6) C v_X0_71 dX0_fate_14 (c_X0_isDelayed hI s hs) (hI 6 rfl) rfl (by decide) rfl ⟨Nat.le_refl _, Nat.le_refl _⟩ ?_
    refine x_if_eq (pc := 17) (tgt := 24) C dX0_fate_17 (by decide) (fun h14d => ?_) (fun h14d => ?_)
    · refine x_iconst (pc := 24) C (0) dX0_fate_24 (by decide) ?_
      refine y_istore_n (pc := 25) C dX0_fate_25 (by decide) rfl ?_
      refine x_aload_n (pc := 26) C dX0_fate_26 rfl ?_
      refine x_getR (pc := 27) (o := 6) (j := 10) C f_X0_21 dX0_fate_27 (hI 6 rfl) ⟨rfl, rfl⟩ ?_
      refine x_iload_n (pc := 30) C dX0_fate_30 rfl ?_
      refine x_zald (pc := 31) (o := 10) C dX0_fate_31 (hI 10 rfl) ⟨rfl, rfl⟩ (show _ < 24 by omega) (by decide) ?_
      refine x_if_eq (pc := 32) (tgt := 41) C dX0_fate_32 (by decide) (fun h32 => ?_) (fun h32 => ?_)
      · refine x_iload_n (pc := 41) C dX0_fate_41 rfl ?_
        exact x_iret (pc := 42) C hQ dX0_fate_42 (is_i (by first | exact fate_1 (A := AF 6 V) h2d h32 | exact fate_2 (A := AF 6 V) h2d h14d h32 | exact fate_3 (A := AF 6 V) h2d h14d h32 | exact fate_4 (A := AF 6 V) h2d h32 | exact fate_5 (A := AF 6 V) h2d h14d h32 | exact fate_6 (A := AF 6 V) h2d h14d h32)) (Nat.le_of_ble_eq_true rfl) (Nat.le_of_ble_eq_true rfl)
      · refine x_iload_n (pc := 35) C dX0_fate_35 rfl ?_
        refine x_iconst (pc := 36) C (4) dX0_fate_36 (by decide) ?_
        refine x_iadd (pc := 37) C dX0_fate_37 ?_
        refine x_goto (pc := 38) (tgt := 42) C dX0_fate_38 (by decide) ?_
        exact x_iret (pc := 42) C hQ dX0_fate_42 (is_i (by first | exact fate_1 (A := AF 6 V) h2d h32 | exact fate_2 (A := AF 6 V) h2d h14d h32 | exact fate_3 (A := AF 6 V) h2d h14d h32 | exact fate_4 (A := AF 6 V) h2d h32 | exact fate_5 (A := AF 6 V) h2d h14d h32 | exact fate_6 (A := AF 6 V) h2d h14d h32)) (Nat.le_of_ble_eq_true rfl) (Nat.le_of_ble_eq_true rfl)
    · refine x_iconst (pc := 20) C (1) dX0_fate_20 (by decide) ?_
      refine x_goto (pc := 21) (tgt := 25) C dX0_fate_21 (by decide) ?_
      refine y_istore_n (pc := 25) C dX0_fate_25 (by decide) rfl ?_
      refine x_aload_n (pc := 26) C dX0_fate_26 rfl ?_
      refine x_getR (pc := 27) (o := 6) (j := 10) C f_X0_21 dX0_fate_27 (hI 6 rfl) ⟨rfl, rfl⟩ ?_
      refine x_iload_n (pc := 30) C dX0_fate_30 rfl ?_
      refine x_zald (pc := 31) (o := 10) C dX0_fate_31 (hI 10 rfl) ⟨rfl, rfl⟩ (show _ < 24 by omega) (by decide) ?_
      refine x_if_eq (pc := 32) (tgt := 41) C dX0_fate_32 (by decide) (fun h32 => ?_) (fun h32 => ?_)
      · refine x_iload_n (pc := 41) C dX0_fate_41 rfl ?_
        exact x_iret (pc := 42) C hQ dX0_fate_42 (is_i (by first | exact fate_1 (A := AF 6 V) h2d h32 | exact fate_2 (A := AF 6 V) h2d h14d h32 | exact fate_3 (A := AF 6 V) h2d h14d h32 | exact fate_4 (A := AF 6 V) h2d h32 | exact fate_5 (A := AF 6 V) h2d h14d h32 | exact fate_6 (A := AF 6 V) h2d h14d h32)) (Nat.le_of_ble_eq_true rfl) (Nat.le_of_ble_eq_true rfl)
      · refine x_iload_n (pc := 35) C dX0_fate_35 rfl ?_
        refine x_iconst (pc := 36) C (4) dX0_fate_36 (by decide) ?_
        refine x_iadd (pc := 37) C dX0_fate_37 ?_
        refine x_goto (pc := 38) (tgt := 42) C dX0_fate_38 (by decide) ?_
        exact x_iret (pc := 42) C hQ dX0_fate_42 (is_i (by first | exact fate_1 (A := AF 6 V) h2d h32 | exact fate_2 (A := AF 6 V) h2d h14d h32 | exact fate_3 (A := AF 6 V) h2d h14d h32 | exact fate_4 (A := AF 6 V) h2d h32 | exact fate_5 (A := AF 6 V) h2d h14d h32 | exact fate_6 (A := AF 6 V) h2d h14d h32)) (Nat.le_of_ble_eq_true rfl) (Nat.le_of_ble_eq_true rfl)
  · refine x_iconst (pc := 8) C (2) dX0_fate_8 (by decide) ?_
    refine x_goto (pc := 9) (tgt := 25) C dX0_fate_9 (by decide) ?_
    refine y_istore_n (pc := 25) C dX0_fate_25 (by decide) rfl ?_
    refine x_aload_n (pc := 26) C dX0_fate_26 rfl ?_
    refine x_getR (pc := 27) (o := 6) (j := 10) C f_X0_21 dX0_fate_27 (hI 6 rfl) ⟨rfl, rfl⟩ ?_
    refine x_iload_n (pc := 30) C dX0_fate_30 rfl ?_
    refine x_zald (pc := 31) (o := 10) C dX0_fate_31 (hI 10 rfl) ⟨rfl, rfl⟩ (show _ < 24 by omega) (by decide) ?_
    refine x_if_eq (pc := 32) (tgt := 41) C dX0_fate_32 (by decide) (fun h32 => ?_) (fun h32 => ?_)
    · refine x_iload_n (pc := 41) C dX0_fate_41 rfl ?_
      exact x_iret (pc := 42) C hQ dX0_fate_42 (is_i (by first | exact fate_1 (A := AF 6 V) h2d h32 | exact fate_2 (A := AF 6 V) h2d h14d h32 | exact fate_3 (A := AF 6 V) h2d h14d h32 | exact fate_4 (A := AF 6 V) h2d h32 | exact fate_5 (A := AF 6 V) h2d h14d h32 | exact fate_6 (A := AF 6 V) h2d h14d h32)) (Nat.le_of_ble_eq_true rfl) (Nat.le_of_ble_eq_true rfl)
    · refine x_iload_n (pc := 35) C dX0_fate_35 rfl ?_
      refine x_iconst (pc := 36) C (4) dX0_fate_36 (by decide) ?_
      refine x_iadd (pc := 37) C dX0_fate_37 ?_
      refine x_goto (pc := 38) (tgt := 42) C dX0_fate_38 (by decide) ?_
      exact x_iret (pc := 42) C hQ dX0_fate_42 (is_i (by first | exact fate_1 (A := AF 6 V) h2d h32 | exact fate_2 (A := AF 6 V) h2d h14d h32 | exact fate_3 (A := AF 6 V) h2d h14d h32 | exact fate_4 (A := AF 6 V) h2d h32 | exact fate_5 (A := AF 6 V) h2d h14d h32 | exact fate_6 (A := AF 6 V) h2d h14d h32)) (Nat.le_of_ble_eq_true rfl) (Nat.le_of_ble_eq_true rfl)
set_option maxRecDepth 100000 in
set_option maxHeartbeats 4000000 in
theorem c_X0_worthOfGroup {l : Launch} {V : VV} {L : LL} {N : NN} {I : List Nat} (hI : PI I) {n : Nat} (hn : V 20 7 = nI n) (hn24 : n ≤ 24) (g : Int32) : Runs l 2 0 0 yX0_worthOfGroup (Cond.code yX0_worthOfGroup cX0_worthOfGroup 5 (some .int)) [aR 6, aR 20, aI g] V L N I (Is (some (aI (wogS (CF V) (AF 6 V) (V 21 5) n g))) (V) (L) N I) := by
  refine run_of RX0 (by decide +kernel) rfl (Nat.le_of_ble_eq_true rfl) (fun E hE C hQ hN => ?_)
  subst hE
  refine x_iconst (pc := 0) C (0) dX0_worthOfGroup_0 (by decide) ?_
  refine y_istore_n (pc := 1) C dX0_worthOfGroup_1 (by decide) rfl ?_
  refine x_iconst (pc := 2) C (0) dX0_worthOfGroup_2 (by decide) ?_
  refine y_istore (pc := 3) C dX0_worthOfGroup_3 (by decide) rfl ?_
  suffices key : ∀ (k i : Nat) (s : Int32), k + i = n → (s = sumTo (fun s => if V 30 s = g then worthF (V 21 5) (V 29 s) (V 8 s) else 0) i) → Wx E 5 [some (aR 6), some (aR 20), some (aI g), some (aI s), some (aI (nI i))] [] V L N I 0 0 by
    exact key (n) 0 0 (by omega) (rfl)
  intro k
  induction k with
  | zero =>
    intro i s hk hinv
    refine x_iload (pc := 5) C dX0_worthOfGroup_5 rfl ?_
    refine x_aload_n (pc := 7) C dX0_worthOfGroup_7 rfl ?_
    refine x_getI (pc := 8) (o := 20) C f_X0_37 dX0_worthOfGroup_8 (hI 20 rfl) ⟨rfl, rfl, rfl⟩ ?_
    refine x_topi (nI n) hn ?_
    refine x_icmp_ge (pc := 11) (tgt := 52) C dX0_worthOfGroup_11 (by decide) (fun h11 => ?_) (fun h11 => absurd (by exact nI_le (by omega) (by omega)) h11)
    refine x_iload_n (pc := 52) C dX0_worthOfGroup_52 rfl ?_
    exact x_iret (pc := 53) C hQ dX0_worthOfGroup_53 (is_i (by rw [hinv]; congr 1; omega)) (Nat.le_of_ble_eq_true rfl) (Nat.le_of_ble_eq_true rfl)
  | succ k ih =>
    intro i s hk hinv
    refine x_iload (pc := 5) C dX0_worthOfGroup_5 rfl ?_
    refine x_aload_n (pc := 7) C dX0_worthOfGroup_7 rfl ?_
    refine x_getI (pc := 8) (o := 20) C f_X0_37 dX0_worthOfGroup_8 (hI 20 rfl) ⟨rfl, rfl, rfl⟩ ?_
    refine x_topi (nI n) hn ?_
    refine x_icmp_ge (pc := 11) (tgt := 52) C dX0_worthOfGroup_11 (by decide) (fun h11 => absurd h11 (by exact nI_ge (by omega) (by omega))) (fun h11 => ?_)
    refine x_aload_n (pc := 14) C dX0_worthOfGroup_14 rfl ?_
    refine x_getR (pc := 15) (o := 20) (j := 30) C f_X0_74 dX0_worthOfGroup_15 (hI 20 rfl) ⟨rfl, rfl⟩ ?_
    refine x_iload (pc := 18) C dX0_worthOfGroup_18 rfl ?_
    refine x_iald (pc := 20) (o := 30) C dX0_worthOfGroup_20 (hI 30 rfl) ⟨rfl, rfl⟩ (show _ < 24 by omega) (by decide) ?_
    refine x_iload_n (pc := 21) C dX0_worthOfGroup_21 rfl ?_
    refine x_icmp_ne (pc := 22) (tgt := 46) C dX0_worthOfGroup_22 (by decide) (fun h22 => ?_) (fun h22 => ?_)
    · refine y_iinc (pc := 46) C (nI (i + 1)) dX0_worthOfGroup_46 rfl (by exact nI_1 i) (by decide) rfl ?_
      refine x_goto (pc := 49) (tgt := 5) C dX0_worthOfGroup_49 (by decide) ?_
      exact ih (i + 1) _ (by omega) (by rw [sumTo, ← hinv]; simp [*])
    · refine x_iload_n (pc := 25) C dX0_worthOfGroup_25 rfl ?_
      refine x_aload_n (pc := 26) C dX0_worthOfGroup_26 rfl ?_
      refine x_aload_n (pc := 27) C dX0_worthOfGroup_27 rfl ?_
      refine x_getR (pc := 28) (o := 20) (j := 29) C f_X0_77 dX0_worthOfGroup_28 (hI 20 rfl) ⟨rfl, rfl⟩ ?_
      refine x_iload (pc := 31) C dX0_worthOfGroup_31 rfl ?_
      refine x_iald (pc := 33) (o := 29) C dX0_worthOfGroup_33 (hI 29 rfl) ⟨rfl, rfl⟩ (show _ < 24 by omega) (by decide) ?_
      refine x_aload_n (pc := 34) C dX0_worthOfGroup_34 rfl ?_
      refine x_getR (pc := 35) (o := 6) (j := 8) C f_X0_15 dX0_worthOfGroup_35 (hI 6 rfl) ⟨rfl, rfl⟩ ?_
      refine x_iload (pc := 38) C dX0_worthOfGroup_38 rfl ?_
      refine x_iald (pc := 40) (o := 8) C dX0_worthOfGroup_40 (hI 8 rfl) ⟨rfl, rfl⟩ (show _ < 24 by omega) (by decide) ?_
      refine x_cV2 (pc := 41) (o := 20) C v_X0_80 dX0_worthOfGroup_41 (c_X3_worth hI _ _) (hI 20 rfl) rfl (by decide) rfl ⟨Nat.le_refl _, Nat.le_refl _⟩ ?_
      refine x_iadd (pc := 44) C dX0_worthOfGroup_44 ?_
      refine y_istore_n (pc := 45) C dX0_worthOfGroup_45 (by decide) rfl ?_
      refine y_iinc (pc := 46) C (nI (i + 1)) dX0_worthOfGroup_46 rfl (by exact nI_1 i) (by decide) rfl ?_
      refine x_goto (pc := 49) (tgt := 5) C dX0_worthOfGroup_49 (by decide) ?_
      exact ih (i + 1) _ (by omega) (by rw [sumTo, ← hinv]; simp [*])
set_option maxRecDepth 100000 in
set_option maxHeartbeats 4000000 in
theorem c_X0_sponsorsInHour {l : Launch} {V : VV} {L : LL} {N : NN} {I : List Nat} (hI : PI I) {n : Nat} (hn : V 20 7 = nI n) (hn24 : n ≤ 24) (d h : Int32) : Runs l 2 0 0 yX0_sponsorsInHour (Cond.code yX0_sponsorsInHour cX0_sponsorsInHour 6 (some .int)) [aR 6, aR 20, aI d, aI h] V L N I (Is (some (aI (spS (CF V) (AF 6 V) n d h))) (V) (L) N I) := by
  refine run_of RX0 (by decide +kernel) rfl (Nat.le_of_ble_eq_true rfl) (fun E hE C hQ hN => ?_)
  subst hE
  refine x_iconst (pc := 0) C (0) dX0_sponsorsInHour_0 (by decide) ?_
  refine y_istore (pc := 1) C dX0_sponsorsInHour_1 (by decide) rfl ?_
  refine x_iconst (pc := 3) C (0) dX0_sponsorsInHour_3 (by decide) ?_
  refine y_istore (pc := 4) C dX0_sponsorsInHour_4 (by decide) rfl ?_
  suffices key : ∀ (k i : Nat) (s : Int32), k + i = n → (s = sumTo (fun s => if V 31 s = d ∧ drpB (AF 6 V) s = false then inHourF (V 7 s) (minF (V 34 s) (V 8 s)) h else 0) i) → Wx E 6 [some (aR 6), some (aR 20), some (aI d), some (aI h), some (aI s), some (aI (nI i))] [] V L N I 0 0 by
    exact key (n) 0 0 (by omega) (rfl)
  intro k
  induction k with
  | zero =>
    intro i s hk hinv
    refine x_iload (pc := 6) C dX0_sponsorsInHour_6 rfl ?_
    refine x_aload_n (pc := 8) C dX0_sponsorsInHour_8 rfl ?_
    refine x_getI (pc := 9) (o := 20) C f_X0_37 dX0_sponsorsInHour_9 (hI 20 rfl) ⟨rfl, rfl, rfl⟩ ?_
    refine x_topi (nI n) hn ?_
    refine x_icmp_ge (pc := 12) (tgt := 74) C dX0_sponsorsInHour_12 (by decide) (fun h12 => ?_) (fun h12 => absurd (by exact nI_le (by omega) (by omega)) h12)
    refine x_iload (pc := 74) C dX0_sponsorsInHour_74 rfl ?_
    exact x_iret (pc := 76) C hQ dX0_sponsorsInHour_76 (is_i (by rw [hinv]; congr 1; omega)) (Nat.le_of_ble_eq_true rfl) (Nat.le_of_ble_eq_true rfl)
  | succ k ih =>
    intro i s hk hinv
    refine x_iload (pc := 6) C dX0_sponsorsInHour_6 rfl ?_
    refine x_aload_n (pc := 8) C dX0_sponsorsInHour_8 rfl ?_
    refine x_getI (pc := 9) (o := 20) C f_X0_37 dX0_sponsorsInHour_9 (hI 20 rfl) ⟨rfl, rfl, rfl⟩ ?_
    refine x_topi (nI n) hn ?_
    refine x_icmp_ge (pc := 12) (tgt := 74) C dX0_sponsorsInHour_12 (by decide) (fun h12 => absurd h12 (by exact nI_ge (by omega) (by omega))) (fun h12 => ?_)
    refine x_aload_n (pc := 15) C dX0_sponsorsInHour_15 rfl ?_
    refine x_getR (pc := 16) (o := 20) (j := 31) C f_X0_47 dX0_sponsorsInHour_16 (hI 20 rfl) ⟨rfl, rfl⟩ ?_
    refine x_iload (pc := 19) C dX0_sponsorsInHour_19 rfl ?_
    refine x_iald (pc := 21) (o := 31) C dX0_sponsorsInHour_21 (hI 31 rfl) ⟨rfl, rfl⟩ (show _ < 24 by omega) (by decide) ?_
    refine x_iload_n (pc := 22) C dX0_sponsorsInHour_22 rfl ?_
    refine x_icmp_ne (pc := 23) (tgt := 68) C dX0_sponsorsInHour_23 (by decide) (fun h23 => ?_) (fun h23 => ?_)
    · refine y_iinc (pc := 68) C (nI (i + 1)) dX0_sponsorsInHour_68 rfl (by exact nI_1 i) (by decide) rfl ?_
      refine x_goto (pc := 71) (tgt := 6) C dX0_sponsorsInHour_71 (by decide) ?_
      exact ih (i + 1) _ (by omega) (by rw [sumTo, ← hinv]; first | exact sum_t ⟨h23, b2i_f h32⟩ | exact sum_f (fun q => b2i_nf h32 q.2) | exact sum_f (fun q => h23 q.1))
    · refine x_aload_n (pc := 26) C dX0_sponsorsInHour_26 rfl ?_
      refine x_iload (pc := 27) C dX0_sponsorsInHour_27 rfl ?_
      refine x_cV1 (pc := 29) (o := 6) C v_X0_67 dX0_sponsorsInHour_29 (c_X0_isDropped hI i (by omega)) (hI 6 rfl) rfl (by decide) rfl ⟨Nat.le_refl _, Nat.le_refl _⟩ ?_
      refine x_if_ne (pc := 32) (tgt := 68) C dX0_sponsorsInHour_32 (by decide) (fun h32 => ?_) (fun h32 => ?_)
      · refine y_iinc (pc := 68) C (nI (i + 1)) dX0_sponsorsInHour_68 rfl (by exact nI_1 i) (by decide) rfl ?_
        refine x_goto (pc := 71) (tgt := 6) C dX0_sponsorsInHour_71 (by decide) ?_
        exact ih (i + 1) _ (by omega) (by rw [sumTo, ← hinv]; first | exact sum_t ⟨h23, b2i_f h32⟩ | exact sum_f (fun q => b2i_nf h32 q.2) | exact sum_f (fun q => h23 q.1))
      · refine x_iload (pc := 35) C dX0_sponsorsInHour_35 rfl ?_
        refine x_aload_n (pc := 37) C dX0_sponsorsInHour_37 rfl ?_
        refine x_getR (pc := 38) (o := 6) (j := 7) C f_X0_9 dX0_sponsorsInHour_38 (hI 6 rfl) ⟨rfl, rfl⟩ ?_
        refine x_iload (pc := 41) C dX0_sponsorsInHour_41 rfl ?_
        refine x_iald (pc := 43) (o := 7) C dX0_sponsorsInHour_43 (hI 7 rfl) ⟨rfl, rfl⟩ (show _ < 24 by omega) (by decide) ?_
        refine x_aload_n (pc := 44) C dX0_sponsorsInHour_44 rfl ?_
        refine x_getR (pc := 45) (o := 20) (j := 34) C f_X0_83 dX0_sponsorsInHour_45 (hI 20 rfl) ⟨rfl, rfl⟩ ?_
        refine x_iload (pc := 48) C dX0_sponsorsInHour_48 rfl ?_
        refine x_iald (pc := 50) (o := 34) C dX0_sponsorsInHour_50 (hI 34 rfl) ⟨rfl, rfl⟩ (show _ < 24 by omega) (by decide) ?_
        refine x_aload_n (pc := 51) C dX0_sponsorsInHour_51 rfl ?_
        refine x_getR (pc := 52) (o := 6) (j := 8) C f_X0_15 dX0_sponsorsInHour_52 (hI 6 rfl) ⟨rfl, rfl⟩ ?_
        refine x_iload (pc := 55) C dX0_sponsorsInHour_55 rfl ?_
        refine x_iald (pc := 57) (o := 8) C dX0_sponsorsInHour_57 (hI 8 rfl) ⟨rfl, rfl⟩ (show _ < 24 by omega) (by decide) ?_
        refine x_mmin (pc := 58) C q_X0_64 dX0_sponsorsInHour_58 (by decide) (Nat.le_of_ble_eq_true rfl) ⟨Nat.le_refl _, Nat.le_refl _⟩ ?_ mm_min.1 mm_min.2.1 mm_min.2.2
        refine x_iload_n (pc := 61) C dX0_sponsorsInHour_61 rfl ?_
        refine x_cN3 (pc := 62) C n_X0_86 dX0_sponsorsInHour_62 (c_X6_minutesInHour _ _ _) (by decide) rfl ⟨Nat.le_refl _, Nat.le_refl _⟩ ?_
        refine x_iadd (pc := 65) C dX0_sponsorsInHour_65 ?_
        refine y_istore (pc := 66) C dX0_sponsorsInHour_66 (by decide) rfl ?_
        refine y_iinc (pc := 68) C (nI (i + 1)) dX0_sponsorsInHour_68 rfl (by exact nI_1 i) (by decide) rfl ?_
        refine x_goto (pc := 71) (tgt := 6) C dX0_sponsorsInHour_71 (by decide) ?_
        exact ih (i + 1) _ (by omega) (by rw [sumTo, ← hinv]; first | exact sum_t ⟨h23, b2i_f h32⟩ | exact sum_f (fun q => b2i_nf h32 q.2) | exact sum_f (fun q => h23 q.1))
set_option maxRecDepth 100000 in
set_option maxHeartbeats 4000000 in
theorem c_X0_partOfDay {l : Launch} {V : VV} {L : LL} {N : NN} {I : List Nat} (hI : PI I) (s w : Nat) (hs : s < 24) (hw : w < 8) : Runs l 3 0 0 yX0_partOfDay (Cond.code yX0_partOfDay cX0_partOfDay 4 (some .int)) [aR 6, aR 20, aI (nI s), aI (nI w)] V L N I (Is (some (aI (partS (CF V) (AF 6 V) w s))) (V) (L) N I) := by
  refine run_of RX0 (by decide +kernel) rfl (Nat.le_of_ble_eq_true rfl) (fun E hE C hQ hN => ?_)
  subst hE
  refine x_iload_n (pc := 0) C dX0_partOfDay_0 rfl ?_
  rcases (show w = 0 ∨ w = 1 ∨ w = 2 ∨ w = 3 ∨ w = 4 ∨ 4 < w by omega) with rfl | rfl | rfl | rfl | rfl | hsw1
  · refine x_tableInN (pc := 1) (c := 0) (tgt := 36) C dX0_partOfDay_1 (by decide) (by decide) (by decide) rfl (by decide) ?_
    refine x_iconst (pc := 36) C (1) dX0_partOfDay_36 (by decide) ?_
    exact x_iret (pc := 37) C hQ dX0_partOfDay_37 (is_i rfl) (Nat.le_of_ble_eq_true rfl) (Nat.le_of_ble_eq_true rfl)
  · refine x_tableInN (pc := 1) (c := 1) (tgt := 38) C dX0_partOfDay_1 (by decide) (by decide) (by decide) rfl (by decide) ?_
    refine x_aload_n (pc := 38) C dX0_partOfDay_38 rfl ?_
    refine x_getR (pc := 39) (o := 20) (j := 33) C f_X0_61 dX0_partOfDay_39 (hI 20 rfl) ⟨rfl, rfl⟩ ?_
    refine x_iload_n (pc := 42) C dX0_partOfDay_42 rfl ?_
    refine x_iald (pc := 43) (o := 33) C dX0_partOfDay_43 (hI 33 rfl) ⟨rfl, rfl⟩ (show _ < 24 by omega) (by decide) ?_
    exact x_iret (pc := 44) C hQ dX0_partOfDay_44 (is_i rfl) (Nat.le_of_ble_eq_true rfl) (Nat.le_of_ble_eq_true rfl)
  · refine x_tableInN (pc := 1) (c := 2) (tgt := 45) C dX0_partOfDay_1 (by decide) (by decide) (by decide) rfl (by decide) ?_
    refine x_aload_n (pc := 45) C dX0_partOfDay_45 rfl ?_
    refine x_getR (pc := 46) (o := 6) (j := 8) C f_X0_15 dX0_partOfDay_46 (hI 6 rfl) ⟨rfl, rfl⟩ ?_
    refine x_iload_n (pc := 49) C dX0_partOfDay_49 rfl ?_
    refine x_iald (pc := 50) (o := 8) C dX0_partOfDay_50 (hI 8 rfl) ⟨rfl, rfl⟩ (show _ < 24 by omega) (by decide) ?_
    exact x_iret (pc := 51) C hQ dX0_partOfDay_51 (is_i rfl) (Nat.le_of_ble_eq_true rfl) (Nat.le_of_ble_eq_true rfl)
  · refine x_tableInN (pc := 1) (c := 3) (tgt := 52) C dX0_partOfDay_1 (by decide) (by decide) (by decide) rfl (by decide) ?_
    refine x_aload_n (pc := 52) C dX0_partOfDay_52 rfl ?_
    refine x_iload_n (pc := 53) C dX0_partOfDay_53 rfl ?_
    refine x_cV1 (pc := 54) (o := 6) C v_X0_71 dX0_partOfDay_54 (c_X0_isDelayed hI s hs) (hI 6 rfl) rfl (by decide) rfl ⟨Nat.le_refl _, Nat.le_refl _⟩ ?_
    refine x_if_eq (pc := 57) (tgt := 64) C dX0_partOfDay_57 (by decide) (fun h57 => ?_) (fun h57 => ?_)
    · refine x_iconst (pc := 64) C (0) dX0_partOfDay_64 (by decide) ?_
      exact x_iret (pc := 65) C hQ dX0_partOfDay_65 (is_i (part_3 (A := AF 6 V) (by first | exact (b2i_1 h57).symm | exact h57.symm))) (Nat.le_of_ble_eq_true rfl) (Nat.le_of_ble_eq_true rfl)
    · refine x_iconst (pc := 60) C (1) dX0_partOfDay_60 (by decide) ?_
      refine x_goto (pc := 61) (tgt := 65) C dX0_partOfDay_61 (by decide) ?_
      exact x_iret (pc := 65) C hQ dX0_partOfDay_65 (is_i (part_3 (A := AF 6 V) (by first | exact (b2i_1 h57).symm | exact h57.symm))) (Nat.le_of_ble_eq_true rfl) (Nat.le_of_ble_eq_true rfl)
  · refine x_tableInN (pc := 1) (c := 4) (tgt := 66) C dX0_partOfDay_1 (by decide) (by decide) (by decide) rfl (by decide) ?_
    refine x_aload_n (pc := 66) C dX0_partOfDay_66 rfl ?_
    refine x_iload_n (pc := 67) C dX0_partOfDay_67 rfl ?_
    refine x_cV1 (pc := 68) (o := 6) C v_X0_67 dX0_partOfDay_68 (c_X0_isDropped hI s hs) (hI 6 rfl) rfl (by decide) rfl ⟨Nat.le_refl _, Nat.le_refl _⟩ ?_
    refine x_if_eq (pc := 71) (tgt := 78) C dX0_partOfDay_71 (by decide) (fun h71 => ?_) (fun h71 => ?_)
    · refine x_iconst (pc := 78) C (0) dX0_partOfDay_78 (by decide) ?_
      exact x_iret (pc := 79) C hQ dX0_partOfDay_79 (is_i (part_4 (A := AF 6 V) (by first | exact (b2i_1 h71).symm | exact h71.symm))) (Nat.le_of_ble_eq_true rfl) (Nat.le_of_ble_eq_true rfl)
    · refine x_iconst (pc := 74) C (1) dX0_partOfDay_74 (by decide) ?_
      refine x_goto (pc := 75) (tgt := 79) C dX0_partOfDay_75 (by decide) ?_
      exact x_iret (pc := 79) C hQ dX0_partOfDay_79 (is_i (part_4 (A := AF 6 V) (by first | exact (b2i_1 h71).symm | exact h71.symm))) (Nat.le_of_ble_eq_true rfl) (Nat.le_of_ble_eq_true rfl)
  · refine x_tableOut (pc := 1) (tgt := 80) C dX0_partOfDay_1 (Or.inr (by rw [nI_toInt (by omega)]; omega)) (by decide) ?_
    refine x_aload_n (pc := 80) C dX0_partOfDay_80 rfl ?_
    refine x_iload_n (pc := 81) C dX0_partOfDay_81 rfl ?_
    refine x_cV1 (pc := 82) (o := 6) C v_X0_67 dX0_partOfDay_82 (c_X0_isDropped hI s hs) (hI 6 rfl) rfl (by decide) rfl ⟨Nat.le_refl _, Nat.le_refl _⟩ ?_
    refine x_if_eq (pc := 85) (tgt := 92) C dX0_partOfDay_85 (by decide) (fun h85 => ?_) (fun h85 => ?_)
    · refine x_aload_n (pc := 92) C dX0_partOfDay_92 rfl ?_
      refine x_getR (pc := 93) (o := 6) (j := 9) C f_X0_18 dX0_partOfDay_93 (hI 6 rfl) ⟨rfl, rfl⟩ ?_
      refine x_iload_n (pc := 96) C dX0_partOfDay_96 rfl ?_
      refine x_iald (pc := 97) (o := 9) C dX0_partOfDay_97 (hI 9 rfl) ⟨rfl, rfl⟩ (show _ < 24 by omega) (by decide) ?_
      exact x_iret (pc := 98) C hQ dX0_partOfDay_98 (is_i (by first | exact part_5 (A := AF 6 V) hsw1 h85 | exact part_6 (A := AF 6 V) hsw1 h85)) (Nat.le_of_ble_eq_true rfl) (Nat.le_of_ble_eq_true rfl)
    · refine x_iconst (pc := 88) C (0) dX0_partOfDay_88 (by decide) ?_
      refine x_goto (pc := 89) (tgt := 98) C dX0_partOfDay_89 (by decide) ?_
      exact x_iret (pc := 98) C hQ dX0_partOfDay_98 (is_i (by first | exact part_5 (A := AF 6 V) hsw1 h85 | exact part_6 (A := AF 6 V) hsw1 h85)) (Nat.le_of_ble_eq_true rfl) (Nat.le_of_ble_eq_true rfl)
set_option maxRecDepth 100000 in
set_option maxHeartbeats 4000000 in
theorem c_X0_sumOverWeek {l : Launch} {V : VV} {L : LL} {N : NN} {I : List Nat} (hI : PI I) {n : Nat} (hn : V 20 7 = nI n) (hn24 : n ≤ 24) (w : Nat) (hw : w < 8) : Runs l 4 0 0 yX0_sumOverWeek (Cond.code yX0_sumOverWeek cX0_sumOverWeek 5 (some .int)) [aR 6, aR 20, aI (nI w)] V L N I (Is (some (aI (wkS (CF V) (AF 6 V) n w))) (V) (L) N I) := by
  refine run_of RX0 (by decide +kernel) rfl (Nat.le_of_ble_eq_true rfl) (fun E hE C hQ hN => ?_)
  subst hE
  refine x_iconst (pc := 0) C (0) dX0_sumOverWeek_0 (by decide) ?_
  refine y_istore_n (pc := 1) C dX0_sumOverWeek_1 (by decide) rfl ?_
  refine x_iconst (pc := 2) C (0) dX0_sumOverWeek_2 (by decide) ?_
  refine y_istore (pc := 3) C dX0_sumOverWeek_3 (by decide) rfl ?_
  suffices key : ∀ (k i : Nat) (s : Int32), k + i = n → (s = sumTo (partS (CF V) (AF 6 V) w) i) → Wx E 5 [some (aR 6), some (aR 20), some (aI (nI w)), some (aI s), some (aI (nI i))] [] V L N I 0 0 by
    exact key (n) 0 0 (by omega) (rfl)
  intro k
  induction k with
  | zero =>
    intro i s hk hinv
    refine x_iload (pc := 5) C dX0_sumOverWeek_5 rfl ?_
    refine x_aload_n (pc := 7) C dX0_sumOverWeek_7 rfl ?_
    refine x_getI (pc := 8) (o := 20) C f_X0_37 dX0_sumOverWeek_8 (hI 20 rfl) ⟨rfl, rfl, rfl⟩ ?_
    refine x_topi (nI n) hn ?_
    refine x_icmp_ge (pc := 11) (tgt := 31) C dX0_sumOverWeek_11 (by decide) (fun h11 => ?_) (fun h11 => absurd (by exact nI_le (by omega) (by omega)) h11)
    refine x_iload_n (pc := 31) C dX0_sumOverWeek_31 rfl ?_
    exact x_iret (pc := 32) C hQ dX0_sumOverWeek_32 (is_i (by rw [hinv]; congr 1; omega)) (Nat.le_of_ble_eq_true rfl) (Nat.le_of_ble_eq_true rfl)
  | succ k ih =>
    intro i s hk hinv
    refine x_iload (pc := 5) C dX0_sumOverWeek_5 rfl ?_
    refine x_aload_n (pc := 7) C dX0_sumOverWeek_7 rfl ?_
    refine x_getI (pc := 8) (o := 20) C f_X0_37 dX0_sumOverWeek_8 (hI 20 rfl) ⟨rfl, rfl, rfl⟩ ?_
    refine x_topi (nI n) hn ?_
    refine x_icmp_ge (pc := 11) (tgt := 31) C dX0_sumOverWeek_11 (by decide) (fun h11 => absurd h11 (by exact nI_ge (by omega) (by omega))) (fun h11 => ?_)
    refine x_iload_n (pc := 14) C dX0_sumOverWeek_14 rfl ?_
    refine x_aload_n (pc := 15) C dX0_sumOverWeek_15 rfl ?_
    refine x_aload_n (pc := 16) C dX0_sumOverWeek_16 rfl ?_
    refine x_iload (pc := 17) C dX0_sumOverWeek_17 rfl ?_
    refine x_iload_n (pc := 19) C dX0_sumOverWeek_19 rfl ?_
    refine x_cV3 (pc := 20) (o := 6) C v_X0_94 dX0_sumOverWeek_20 (c_X0_partOfDay hI i w (by omega) hw) (hI 6 rfl) rfl (by decide) rfl ⟨Nat.le_refl _, Nat.le_refl _⟩ ?_
    refine x_iadd (pc := 23) C dX0_sumOverWeek_23 ?_
    refine y_istore_n (pc := 24) C dX0_sumOverWeek_24 (by decide) rfl ?_
    refine y_iinc (pc := 25) C (nI (i + 1)) dX0_sumOverWeek_25 rfl (by exact nI_1 i) (by decide) rfl ?_
    refine x_goto (pc := 28) (tgt := 5) C dX0_sumOverWeek_28 (by decide) ?_
    exact ih (i + 1) _ (by omega) (by rw [sumTo, ← hinv])
set_option maxRecDepth 100000 in
set_option maxHeartbeats 4000000 in
theorem c_X0_minutesOfWeek {l : Launch} {V : VV} {L : LL} {N : NN} {I : List Nat} (hI : PI I) {n : Nat} (hn : V 20 7 = nI n) (hn24 : n ≤ 24) : Runs l 5 0 0 yX0_minutesOfWeek (Cond.code yX0_minutesOfWeek cX0_minutesOfWeek 2 (some .int)) [aR 6, aR 20] V L N I (Is (some (aI (wkS (CF V) (AF 6 V) n 2))) (V) (L) N I) := by
  refine run_of RX0 (by decide +kernel) rfl (Nat.le_of_ble_eq_true rfl) (fun E hE C hQ hN => ?_)
  subst hE
  refine x_aload_n (pc := 0) C dX0_minutesOfWeek_0 rfl ?_
  refine x_aload_n (pc := 1) C dX0_minutesOfWeek_1 rfl ?_
  refine x_iconst (pc := 2) C (2) dX0_minutesOfWeek_2 (by decide) ?_
  refine x_cV2 (pc := 3) (o := 6) C v_X0_98 dX0_minutesOfWeek_3 (c_X0_sumOverWeek hI hn hn24 2 (by decide)) (hI 6 rfl) rfl (by decide) rfl ⟨Nat.le_refl _, Nat.le_refl _⟩ ?_
  exact x_iret (pc := 6) C hQ dX0_minutesOfWeek_6 (is_i rfl) (Nat.le_of_ble_eq_true rfl) (Nat.le_of_ble_eq_true rfl)
set_option maxRecDepth 100000 in
set_option maxHeartbeats 4000000 in
theorem c_X0_delayedShows {l : Launch} {V : VV} {L : LL} {N : NN} {I : List Nat} (hI : PI I) {n : Nat} (hn : V 20 7 = nI n) (hn24 : n ≤ 24) : Runs l 5 0 0 yX0_delayedShows (Cond.code yX0_delayedShows cX0_delayedShows 2 (some .int)) [aR 6, aR 20] V L N I (Is (some (aI (wkS (CF V) (AF 6 V) n 3))) (V) (L) N I) := by
  refine run_of RX0 (by decide +kernel) rfl (Nat.le_of_ble_eq_true rfl) (fun E hE C hQ hN => ?_)
  subst hE
  refine x_aload_n (pc := 0) C dX0_delayedShows_0 rfl ?_
  refine x_aload_n (pc := 1) C dX0_delayedShows_1 rfl ?_
  refine x_iconst (pc := 2) C (3) dX0_delayedShows_2 (by decide) ?_
  refine x_cV2 (pc := 3) (o := 6) C v_X0_98 dX0_delayedShows_3 (c_X0_sumOverWeek hI hn hn24 3 (by decide)) (hI 6 rfl) rfl (by decide) rfl ⟨Nat.le_refl _, Nat.le_refl _⟩ ?_
  exact x_iret (pc := 6) C hQ dX0_delayedShows_6 (is_i rfl) (Nat.le_of_ble_eq_true rfl) (Nat.le_of_ble_eq_true rfl)
set_option maxRecDepth 100000 in
set_option maxHeartbeats 4000000 in
theorem c_X0_droppedShows {l : Launch} {V : VV} {L : LL} {N : NN} {I : List Nat} (hI : PI I) {n : Nat} (hn : V 20 7 = nI n) (hn24 : n ≤ 24) : Runs l 5 0 0 yX0_droppedShows (Cond.code yX0_droppedShows cX0_droppedShows 2 (some .int)) [aR 6, aR 20] V L N I (Is (some (aI (wkS (CF V) (AF 6 V) n 4))) (V) (L) N I) := by
  refine run_of RX0 (by decide +kernel) rfl (Nat.le_of_ble_eq_true rfl) (fun E hE C hQ hN => ?_)
  subst hE
  refine x_aload_n (pc := 0) C dX0_droppedShows_0 rfl ?_
  refine x_aload_n (pc := 1) C dX0_droppedShows_1 rfl ?_
  refine x_iconst (pc := 2) C (4) dX0_droppedShows_2 (by decide) ?_
  refine x_cV2 (pc := 3) (o := 6) C v_X0_98 dX0_droppedShows_3 (c_X0_sumOverWeek hI hn hn24 4 (by decide)) (hI 6 rfl) rfl (by decide) rfl ⟨Nat.le_refl _, Nat.le_refl _⟩ ?_
  exact x_iret (pc := 6) C hQ dX0_droppedShows_6 (is_i rfl) (Nat.le_of_ble_eq_true rfl) (Nat.le_of_ble_eq_true rfl)
set_option maxRecDepth 100000 in
set_option maxHeartbeats 4000000 in
theorem c_X0_hoursAboveLimit {l : Launch} {V : VV} {L : LL} {N : NN} {I : List Nat} (hI : PI I) {n : Nat} (hn : V 20 7 = nI n) (hn24 : n ≤ 24) (d : Int32) : Runs l 3 0 0 yX0_hoursAboveLimit (Cond.code yX0_hoursAboveLimit cX0_hoursAboveLimit 5 (some .int)) [aR 6, aR 20, aI d] V L N I (Is (some (aI (hrsS (CF V) (AF 6 V) (V 21 6) n d))) (V) (L) N I) := by
  refine run_of RX0 (by decide +kernel) rfl (Nat.le_of_ble_eq_true rfl) (fun E hE C hQ hN => ?_)
  subst hE
  refine x_iconst (pc := 0) C (0) dX0_hoursAboveLimit_0 (by decide) ?_
  refine y_istore_n (pc := 1) C dX0_hoursAboveLimit_1 (by decide) rfl ?_
  refine x_iconst (pc := 2) C (0) dX0_hoursAboveLimit_2 (by decide) ?_
  refine y_istore (pc := 3) C dX0_hoursAboveLimit_3 (by decide) rfl ?_
  suffices key : ∀ (k i : Nat) (s : Int32), k + i = 24 → (s = sumTo (fun h => if V 21 6 < spS (CF V) (AF 6 V) n d (nI h) then 1 else 0) i) → Wx E 5 [some (aR 6), some (aR 20), some (aI d), some (aI s), some (aI (nI i))] [] V L N I 0 0 by
    exact key (24) 0 0 (by omega) (rfl)
  intro k
  induction k with
  | zero =>
    intro i s hk hinv
    refine x_iload (pc := 5) C dX0_hoursAboveLimit_5 rfl ?_
    refine x_bipush (pc := 7) C (24) dX0_hoursAboveLimit_7 (by decide) ?_
    refine x_icmp_ge (pc := 9) (tgt := 39) C dX0_hoursAboveLimit_9 (by decide) (fun h9 => ?_) (fun h9 => absurd (by exact nI_le (a := 24) (b := i) (by omega) (by omega)) h9)
    refine x_iload_n (pc := 39) C dX0_hoursAboveLimit_39 rfl ?_
    exact x_iret (pc := 40) C hQ dX0_hoursAboveLimit_40 (is_i (by rw [hinv]; unfold hrsS; congr 1; omega)) (Nat.le_of_ble_eq_true rfl) (Nat.le_of_ble_eq_true rfl)
  | succ k ih =>
    intro i s hk hinv
    refine x_iload (pc := 5) C dX0_hoursAboveLimit_5 rfl ?_
    refine x_bipush (pc := 7) C (24) dX0_hoursAboveLimit_7 (by decide) ?_
    refine x_icmp_ge (pc := 9) (tgt := 39) C dX0_hoursAboveLimit_9 (by decide) (fun h9 => absurd h9 (by exact nI_ge (a := i) (b := 24) (by omega) (by omega))) (fun h9 => ?_)
    refine x_aload_n (pc := 12) C dX0_hoursAboveLimit_12 rfl ?_
    refine x_aload_n (pc := 13) C dX0_hoursAboveLimit_13 rfl ?_
    refine x_iload_n (pc := 14) C dX0_hoursAboveLimit_14 rfl ?_
    refine x_iload (pc := 15) C dX0_hoursAboveLimit_15 rfl ?_
    refine x_cV3 (pc := 17) (o := 6) C v_X0_101 dX0_hoursAboveLimit_17 (c_X0_sponsorsInHour hI hn hn24 _ _) (hI 6 rfl) rfl (by decide) rfl ⟨Nat.le_refl _, Nat.le_refl _⟩ ?_
    refine x_aload_n (pc := 20) C dX0_hoursAboveLimit_20 rfl ?_
    refine x_getR (pc := 21) (o := 20) (j := 21) C f_X0_32 dX0_hoursAboveLimit_21 (hI 20 rfl) ⟨rfl, rfl⟩ ?_
    refine x_bipush (pc := 24) C (6) dX0_hoursAboveLimit_24 (by decide) ?_
    refine x_topi (nI 6) (by decide) ?_
    refine x_iald (pc := 26) (o := 21) C dX0_hoursAboveLimit_26 (hI 21 rfl) ⟨rfl, rfl⟩ (show _ < 8 by decide) (by decide) ?_
    refine x_icmp_le (pc := 27) (tgt := 33) C dX0_hoursAboveLimit_27 (by decide) (fun h27 => ?_) (fun h27 => ?_)
    · refine y_iinc (pc := 33) C (nI (i + 1)) dX0_hoursAboveLimit_33 rfl (by exact nI_1 i) (by decide) rfl ?_
      refine x_goto (pc := 36) (tgt := 5) C dX0_hoursAboveLimit_36 (by decide) ?_
      exact ih (i + 1) _ (by omega) (by rw [sumTo, ← hinv]; first | exact sum_t (Int32.not_le.mp h27) | exact sum_f (Int32.not_lt.mpr h27))
    · refine y_iinc (pc := 30) C _ dX0_hoursAboveLimit_30 rfl rfl (by decide) rfl ?_
      refine y_iinc (pc := 33) C (nI (i + 1)) dX0_hoursAboveLimit_33 rfl (by exact nI_1 i) (by decide) rfl ?_
      refine x_goto (pc := 36) (tgt := 5) C dX0_hoursAboveLimit_36 (by decide) ?_
      exact ih (i + 1) _ (by omega) (by rw [sumTo, ← hinv]; first | exact sum_t (Int32.not_le.mp h27) | exact sum_f (Int32.not_lt.mpr h27))
set_option maxRecDepth 100000 in
set_option maxHeartbeats 4000000 in
theorem c_X0_dayProperty {l : Launch} {V : VV} {L : LL} {N : NN} {I : List Nat} (hI : PI I) {n : Nat} (hn : V 20 7 = nI n) (hn24 : n ≤ 24) (d w : Nat) (hd : d < 7) (hw : w < 8) : Runs l 4 0 0 yX0_dayProperty (Cond.code yX0_dayProperty cX0_dayProperty 6 (some .int)) [aR 6, aR 20, aI (nI d), aI (nI w)] V L N I (Is (some (aI (dayS (CF V) (AF 6 V) (V 21 6) n d w))) (V) (L) N I) := by
  refine run_of RX0 (by decide +kernel) rfl (Nat.le_of_ble_eq_true rfl) (fun E hE C hQ hN => ?_)
  subst hE
  refine x_iload_n (pc := 0) C dX0_dayProperty_0 rfl ?_
  refine x_bipush (pc := 1) C (6) dX0_dayProperty_1 (by decide) ?_
  refine x_icmp_ne (pc := 3) (tgt := 13) C dX0_dayProperty_3 (by decide) (fun h3 => ?_) (fun h3 => ?_)
  · refine x_iload_n (pc := 13) C dX0_dayProperty_13 rfl ?_
    refine x_bipush (pc := 14) C (7) dX0_dayProperty_14 (by decide) ?_
    refine x_icmp_ne (pc := 16) (tgt := 26) C dX0_dayProperty_16 (by decide) (fun h16 => ?_) (fun h16 => ?_)
    · refine x_iconst (pc := 26) C (0) dX0_dayProperty_26 (by decide) ?_
      refine y_istore (pc := 27) C dX0_dayProperty_27 (by decide) rfl ?_
      refine x_iconst (pc := 29) C (0) dX0_dayProperty_29 (by decide) ?_
      refine y_istore (pc := 30) C dX0_dayProperty_30 (by decide) rfl ?_
      have hT : dayS (CF V) (AF 6 V) (V 21 6) n d w = sumTo (fun s => if V 31 s = nI d then partS (CF V) (AF 6 V) w s else 0) n := by unfold dayS; rw [if_neg (nI_wn (k := 6) h3), if_neg (nI_wn (k := 7) h16)]; rfl
      suffices key : ∀ (k i : Nat) (s : Int32), k + i = n → (s = sumTo (fun s => if V 31 s = nI d then partS (CF V) (AF 6 V) w s else 0) i) → Wx E 32 [some (aR 6), some (aR 20), some (aI (nI d)), some (aI (nI w)), some (aI s), some (aI (nI i))] [] V L N I 0 0 by
        exact key (n) 0 0 (by omega) (rfl)
      intro k
      induction k with
      | zero =>
        intro i s hk hinv
        refine x_iload (pc := 32) C dX0_dayProperty_32 rfl ?_
        refine x_aload_n (pc := 34) C dX0_dayProperty_34 rfl ?_
        refine x_getI (pc := 35) (o := 20) C f_X0_37 dX0_dayProperty_35 (hI 20 rfl) ⟨rfl, rfl, rfl⟩ ?_
        refine x_topi (nI n) hn ?_
        refine x_icmp_ge (pc := 38) (tgt := 71) C dX0_dayProperty_38 (by decide) (fun h38 => ?_) (fun h38 => absurd (by exact nI_le (by omega) (by omega)) h38)
        refine x_iload (pc := 71) C dX0_dayProperty_71 rfl ?_
        exact x_iret (pc := 73) C hQ dX0_dayProperty_73 (is_i (by rw [hT, hinv]; congr 1; omega)) (Nat.le_of_ble_eq_true rfl) (Nat.le_of_ble_eq_true rfl)
      | succ k ih =>
        intro i s hk hinv
        refine x_iload (pc := 32) C dX0_dayProperty_32 rfl ?_
        refine x_aload_n (pc := 34) C dX0_dayProperty_34 rfl ?_
        refine x_getI (pc := 35) (o := 20) C f_X0_37 dX0_dayProperty_35 (hI 20 rfl) ⟨rfl, rfl, rfl⟩ ?_
        refine x_topi (nI n) hn ?_
        refine x_icmp_ge (pc := 38) (tgt := 71) C dX0_dayProperty_38 (by decide) (fun h38 => absurd h38 (by exact nI_ge (by omega) (by omega))) (fun h38 => ?_)
        refine x_aload_n (pc := 41) C dX0_dayProperty_41 rfl ?_
        refine x_getR (pc := 42) (o := 20) (j := 31) C f_X0_47 dX0_dayProperty_42 (hI 20 rfl) ⟨rfl, rfl⟩ ?_
        refine x_iload (pc := 45) C dX0_dayProperty_45 rfl ?_
        refine x_iald (pc := 47) (o := 31) C dX0_dayProperty_47 (hI 31 rfl) ⟨rfl, rfl⟩ (show _ < 24 by omega) (by decide) ?_
        refine x_iload_n (pc := 48) C dX0_dayProperty_48 rfl ?_
        refine x_icmp_ne (pc := 49) (tgt := 65) C dX0_dayProperty_49 (by decide) (fun h49 => ?_) (fun h49 => ?_)
        · refine y_iinc (pc := 65) C (nI (i + 1)) dX0_dayProperty_65 rfl (by exact nI_1 i) (by decide) rfl ?_
          refine x_goto (pc := 68) (tgt := 32) C dX0_dayProperty_68 (by decide) ?_
          exact ih (i + 1) _ (by omega) (by rw [sumTo, ← hinv]; simp [*])
        · refine x_iload (pc := 52) C dX0_dayProperty_52 rfl ?_
          refine x_aload_n (pc := 54) C dX0_dayProperty_54 rfl ?_
          refine x_aload_n (pc := 55) C dX0_dayProperty_55 rfl ?_
          refine x_iload (pc := 56) C dX0_dayProperty_56 rfl ?_
          refine x_iload_n (pc := 58) C dX0_dayProperty_58 rfl ?_
          refine x_cV3 (pc := 59) (o := 6) C v_X0_94 dX0_dayProperty_59 (c_X0_partOfDay hI i w (by omega) hw) (hI 6 rfl) rfl (by decide) rfl ⟨Nat.le_refl _, Nat.le_refl _⟩ ?_
          refine x_iadd (pc := 62) C dX0_dayProperty_62 ?_
          refine y_istore (pc := 63) C dX0_dayProperty_63 (by decide) rfl ?_
          refine y_iinc (pc := 65) C (nI (i + 1)) dX0_dayProperty_65 rfl (by exact nI_1 i) (by decide) rfl ?_
          refine x_goto (pc := 68) (tgt := 32) C dX0_dayProperty_68 (by decide) ?_
          exact ih (i + 1) _ (by omega) (by rw [sumTo, ← hinv]; simp [*])
    · refine x_aload_n (pc := 19) C dX0_dayProperty_19 rfl ?_
      refine x_aload_n (pc := 20) C dX0_dayProperty_20 rfl ?_
      refine x_iload_n (pc := 21) C dX0_dayProperty_21 rfl ?_
      refine x_cV2 (pc := 22) (o := 6) C v_X0_90 dX0_dayProperty_22 (c_X0_hoursAboveLimit hI hn hn24 _) (hI 6 rfl) rfl (by decide) rfl ⟨Nat.le_refl _, Nat.le_refl _⟩ ?_
      exact x_iret (pc := 25) C hQ dX0_dayProperty_25 (is_i (by rw [dayS, if_neg (nI_wn (k := 6) h3), if_pos (nI_w (k := 7) hw (by decide) h16)])) (Nat.le_of_ble_eq_true rfl) (Nat.le_of_ble_eq_true rfl)
  · refine x_aload_n (pc := 6) C dX0_dayProperty_6 rfl ?_
    refine x_getR (pc := 7) (o := 6) (j := 11) C f_X0_25 dX0_dayProperty_7 (hI 6 rfl) ⟨rfl, rfl⟩ ?_
    refine x_iload_n (pc := 10) C dX0_dayProperty_10 rfl ?_
    refine x_iald (pc := 11) (o := 11) C dX0_dayProperty_11 (hI 11 rfl) ⟨rfl, rfl⟩ (show _ < 7 by omega) (by decide) ?_
    exact x_iret (pc := 12) C hQ dX0_dayProperty_12 (is_i (by rw [dayS, if_pos (nI_w (k := 6) hw (by decide) h3)]; rfl)) (Nat.le_of_ble_eq_true rfl) (Nat.le_of_ble_eq_true rfl)
set_option maxRecDepth 100000 in
set_option maxHeartbeats 4000000 in
theorem c_X0_playShow {l : Launch} {V : VV} {L : LL} {N : NN} {I : List Nat} (hI : PI I) (s d : Nat) (hs : s < 24) (hd : d < 7) (hday : V 31 s = nI d) (ov : Int32) : Runs l 2 0 0 yX0_playShow (Cond.code yX0_playShow cX0_playShow 8 none) [aR 6, aR 20, aI (nI s), aI ov] V L N I (Is none (psV 6 V d s ov) (L) N I) := by
  refine run_of RX0 (by decide +kernel) rfl (Nat.le_of_ble_eq_true rfl) (fun E hE C hQ hN => ?_)
  subst hE
  refine x_aload_n (pc := 0) C dX0_playShow_0 rfl ?_
  refine x_getR (pc := 1) (o := 20) (j := 31) C f_X0_47 dX0_playShow_1 (hI 20 rfl) ⟨rfl, rfl⟩ ?_
  refine x_iload_n (pc := 4) C dX0_playShow_4 rfl ?_
  refine x_iald (pc := 5) (o := 31) C dX0_playShow_5 (hI 31 rfl) ⟨rfl, rfl⟩ (show _ < 24 by omega) (by decide) ?_
  refine x_topi (nI d) hday ?_
  refine y_istore (pc := 6) C dX0_playShow_6 (by decide) rfl ?_
  refine x_aload_n (pc := 8) C dX0_playShow_8 rfl ?_
  refine x_getR (pc := 9) (o := 20) (j := 32) C f_X0_50 dX0_playShow_9 (hI 20 rfl) ⟨rfl, rfl⟩ ?_
  refine x_iload_n (pc := 12) C dX0_playShow_12 rfl ?_
  refine x_iald (pc := 13) (o := 32) C dX0_playShow_13 (hI 32 rfl) ⟨rfl, rfl⟩ (show _ < 24 by omega) (by decide) ?_
  refine x_aload_n (pc := 14) C dX0_playShow_14 rfl ?_
  refine x_getR (pc := 15) (o := 6) (j := 11) C f_X0_25 dX0_playShow_15 (hI 6 rfl) ⟨rfl, rfl⟩ ?_
  refine x_iload (pc := 18) C dX0_playShow_18 rfl ?_
  refine x_iald (pc := 20) (o := 11) C dX0_playShow_20 (hI 11 rfl) ⟨rfl, rfl⟩ (show _ < 7 by omega) (by decide) ?_
  refine x_mmax (pc := 21) C q_X0_51 dX0_playShow_21 (by decide) (Nat.le_of_ble_eq_true rfl) ⟨Nat.le_refl _, Nat.le_refl _⟩ ?_ mm_max.1 mm_max.2.1 mm_max.2.2
  refine x_topi (stS (CF V) (V 11 d) s) rfl ?_
  refine y_istore (pc := 24) C dX0_playShow_24 (by decide) rfl ?_
  refine x_aload_n (pc := 26) C dX0_playShow_26 rfl ?_
  refine x_getR (pc := 27) (o := 20) (j := 21) C f_X0_32 dX0_playShow_27 (hI 20 rfl) ⟨rfl, rfl⟩ ?_
  refine x_iconst (pc := 30) C (1) dX0_playShow_30 (by decide) ?_
  refine x_topi (nI 1) (by decide) ?_
  refine x_iald (pc := 31) (o := 21) C dX0_playShow_31 (hI 21 rfl) ⟨rfl, rfl⟩ (show _ < 8 by decide) (by decide) ?_
  refine x_iload (pc := 32) C dX0_playShow_32 rfl ?_
  refine x_isub (pc := 34) C dX0_playShow_34 ?_
  refine y_istore (pc := 35) C dX0_playShow_35 (by decide) rfl ?_
  refine x_aload_n (pc := 37) C dX0_playShow_37 rfl ?_
  refine x_getR (pc := 38) (o := 6) (j := 9) C f_X0_18 dX0_playShow_38 (hI 6 rfl) ⟨rfl, rfl⟩ ?_
  refine x_iload_n (pc := 41) C dX0_playShow_41 rfl ?_
  refine x_iload (pc := 42) C dX0_playShow_42 rfl ?_
  refine x_aload_n (pc := 44) C dX0_playShow_44 rfl ?_
  refine x_getR (pc := 45) (o := 20) (j := 32) C f_X0_50 dX0_playShow_45 (hI 20 rfl) ⟨rfl, rfl⟩ ?_
  refine x_iload_n (pc := 48) C dX0_playShow_48 rfl ?_
  refine x_iald (pc := 49) (o := 32) C dX0_playShow_49 (hI 32 rfl) ⟨rfl, rfl⟩ (show _ < 24 by omega) (by decide) ?_
  refine x_isub (pc := 50) C dX0_playShow_50 ?_
  refine x_iast (pc := 51) (o := 9) C dX0_playShow_51 (hI 9 rfl) ⟨rfl, rfl⟩ (show _ < 24 by omega) (by decide) ?_
  refine x_aload_n (pc := 52) C dX0_playShow_52 rfl ?_
  refine x_getR (pc := 53) (o := 6) (j := 9) C f_X0_18 dX0_playShow_53 (hI 6 rfl) ⟨rfl, rfl⟩ ?_
  refine x_iload_n (pc := 56) C dX0_playShow_56 rfl ?_
  refine x_iald (pc := 57) (o := 9) C dX0_playShow_57 (hI 9 rfl) ⟨rfl, rfl⟩ (show _ < 24 by omega) (by decide) ?_
  refine x_topi (stS (CF V) (V 11 d) s - V 32 s) up_ss ?_
  refine x_aload_n (pc := 58) C dX0_playShow_58 rfl ?_
  refine x_iload_n (pc := 59) C dX0_playShow_59 rfl ?_
  refine x_cV1 (pc := 60) (o := 20) C v_X0_57 dX0_playShow_60 (c_X3_patience hI s hs) (hI 20 rfl) rfl (by decide) rfl ⟨Nat.le_refl _, Nat.le_refl _⟩ ?_
  refine x_topi (patS (CF V) (V 21) s) rfl ?_
  refine x_icmp_gt (pc := 63) (tgt := 71) C dX0_playShow_63 (by decide) (fun h63 => ?_) (fun h63 => ?_)
  · refine x_aload_n (pc := 71) C dX0_playShow_71 rfl ?_
    refine x_getR (pc := 72) (o := 6) (j := 7) C f_X0_9 dX0_playShow_72 (hI 6 rfl) ⟨rfl, rfl⟩ ?_
    refine x_iload_n (pc := 75) C dX0_playShow_75 rfl ?_
    refine x_iconst (pc := 76) C (-1) dX0_playShow_76 (by decide) ?_
    refine x_iast (pc := 77) (o := 7) C dX0_playShow_77 (hI 7 rfl) ⟨rfl, rfl⟩ (show _ < 24 by omega) (by decide) ?_
    refine x_aload_n (pc := 78) C dX0_playShow_78 rfl ?_
    refine x_getR (pc := 79) (o := 6) (j := 8) C f_X0_15 dX0_playShow_79 (hI 6 rfl) ⟨rfl, rfl⟩ ?_
    refine x_iload_n (pc := 82) C dX0_playShow_82 rfl ?_
    refine x_iconst (pc := 83) C (0) dX0_playShow_83 (by decide) ?_
    refine x_iast (pc := 84) (o := 8) C dX0_playShow_84 (hI 8 rfl) ⟨rfl, rfl⟩ (show _ < 24 by omega) (by decide) ?_
    refine x_aload_n (pc := 85) C dX0_playShow_85 rfl ?_
    refine x_getR (pc := 86) (o := 6) (j := 10) C f_X0_21 dX0_playShow_86 (hI 6 rfl) ⟨rfl, rfl⟩ ?_
    refine x_iload_n (pc := 89) C dX0_playShow_89 rfl ?_
    refine x_iconst (pc := 90) C (0) dX0_playShow_90 (by decide) ?_
    refine x_zast (pc := 91) (o := 10) C dX0_playShow_91 (rfl) (hI 10 rfl) ⟨rfl, rfl⟩ (show _ < 24 by omega) (by decide) ?_
    exact x_vret (pc := 92) C hQ dX0_playShow_92 (is_v (by unfold psV; exact (if_pos (by first | exact dr_1 (F := CF V) h63 | exact dr_2 (F := CF V) h68)).symm)) (Nat.le_of_ble_eq_true rfl) (Nat.le_of_ble_eq_true rfl)
  · refine x_iload (pc := 66) C dX0_playShow_66 rfl ?_
    refine x_if_gt (pc := 68) (tgt := 93) C dX0_playShow_68 (by decide) (fun h68 => ?_) (fun h68 => ?_)
    · refine x_iconst (pc := 93) C (1) dX0_playShow_93 (by decide) ?_
      refine x_aload_n (pc := 94) C dX0_playShow_94 rfl ?_
      refine x_getR (pc := 95) (o := 20) (j := 33) C f_X0_61 dX0_playShow_95 (hI 20 rfl) ⟨rfl, rfl⟩ ?_
      refine x_iload_n (pc := 98) C dX0_playShow_98 rfl ?_
      refine x_iald (pc := 99) (o := 33) C dX0_playShow_99 (hI 33 rfl) ⟨rfl, rfl⟩ (show _ < 24 by omega) (by decide) ?_
      refine x_iload_n (pc := 100) C dX0_playShow_100 rfl ?_
      refine x_iadd (pc := 101) C dX0_playShow_101 ?_
      refine x_mmax (pc := 102) C q_X0_51 dX0_playShow_102 (by decide) (Nat.le_of_ble_eq_true rfl) ⟨Nat.le_refl _, Nat.le_refl _⟩ ?_ mm_max.1 mm_max.2.1 mm_max.2.2
      refine x_topi (wantS (CF V) s ov) rfl ?_
      refine y_istore (pc := 105) C dX0_playShow_105 (by decide) rfl ?_
      refine x_aload_n (pc := 107) C dX0_playShow_107 rfl ?_
      refine x_getR (pc := 108) (o := 6) (j := 7) C f_X0_9 dX0_playShow_108 (hI 6 rfl) ⟨rfl, rfl⟩ ?_
      refine x_iload_n (pc := 111) C dX0_playShow_111 rfl ?_
      refine x_iload (pc := 112) C dX0_playShow_112 rfl ?_
      refine x_iast (pc := 114) (o := 7) C dX0_playShow_114 (hI 7 rfl) ⟨rfl, rfl⟩ (show _ < 24 by omega) (by decide) ?_
      refine x_aload_n (pc := 115) C dX0_playShow_115 rfl ?_
      refine x_getR (pc := 116) (o := 6) (j := 8) C f_X0_15 dX0_playShow_116 (hI 6 rfl) ⟨rfl, rfl⟩ ?_
      refine x_iload_n (pc := 119) C dX0_playShow_119 rfl ?_
      refine x_iload (pc := 120) C dX0_playShow_120 rfl ?_
      refine x_iload (pc := 122) C dX0_playShow_122 rfl ?_
      refine x_mmin (pc := 124) C q_X0_64 dX0_playShow_124 (by decide) (Nat.le_of_ble_eq_true rfl) ⟨Nat.le_refl _, Nat.le_refl _⟩ ?_ mm_min.1 mm_min.2.1 mm_min.2.2
      refine x_topi (minS (CF V) (V 21) (V 11 d) s ov) rfl ?_
      refine x_iast (pc := 127) (o := 8) C dX0_playShow_127 (hI 8 rfl) ⟨rfl, rfl⟩ (show _ < 24 by omega) (by decide) ?_
      refine x_aload_n (pc := 128) C dX0_playShow_128 rfl ?_
      refine x_getR (pc := 129) (o := 6) (j := 10) C f_X0_21 dX0_playShow_129 (hI 6 rfl) ⟨rfl, rfl⟩ ?_
      refine x_iload_n (pc := 132) C dX0_playShow_132 rfl ?_
      refine x_iload (pc := 133) C dX0_playShow_133 rfl ?_
      refine x_iload (pc := 135) C dX0_playShow_135 rfl ?_
      refine x_icmp_le (pc := 137) (tgt := 144) C dX0_playShow_137 (by decide) (fun h137 => ?_) (fun h137 => ?_)
      · refine x_iconst (pc := 144) C (0) dX0_playShow_144 (by decide) ?_
        refine x_zast (pc := 145) (o := 10) C dX0_playShow_145 (rfl) (hI 10 rfl) ⟨rfl, rfl⟩ (show _ < 24 by omega) (by decide) ?_
        refine x_aload_n (pc := 146) C dX0_playShow_146 rfl ?_
        refine x_getR (pc := 147) (o := 6) (j := 11) C f_X0_25 dX0_playShow_147 (hI 6 rfl) ⟨rfl, rfl⟩ ?_
        refine x_iload (pc := 150) C dX0_playShow_150 rfl ?_
        refine x_iload (pc := 152) C dX0_playShow_152 rfl ?_
        refine x_aload_n (pc := 154) C dX0_playShow_154 rfl ?_
        refine x_getR (pc := 155) (o := 6) (j := 8) C f_X0_15 dX0_playShow_155 (hI 6 rfl) ⟨rfl, rfl⟩ ?_
        refine x_iload_n (pc := 158) C dX0_playShow_158 rfl ?_
        refine x_iald (pc := 159) (o := 8) C dX0_playShow_159 (hI 8 rfl) ⟨rfl, rfl⟩ (show _ < 24 by omega) (by decide) ?_
        refine x_topi (minS (CF V) (V 21) (V 11 d) s ov) (by simp [up]) ?_
        refine x_iadd (pc := 160) C dX0_playShow_160 ?_
        refine x_iast (pc := 161) (o := 11) C dX0_playShow_161 (hI 11 rfl) ⟨rfl, rfl⟩ (show _ < 7 by omega) (by decide) ?_
        exact x_vret (pc := 162) C hQ dX0_playShow_162 (is_v (by unfold psV; rw [if_neg (dr_0 (F := CF V) h63 h68)]; first | rw [b2i_cn (Int32.not_lt.mpr h137)] | rw [b2i_c (Int32.not_le.mp h137)])) (Nat.le_of_ble_eq_true rfl) (Nat.le_of_ble_eq_true rfl)
      · refine x_iconst (pc := 140) C (1) dX0_playShow_140 (by decide) ?_
        refine x_goto (pc := 141) (tgt := 145) C dX0_playShow_141 (by decide) ?_
        refine x_zast (pc := 145) (o := 10) C dX0_playShow_145 (rfl) (hI 10 rfl) ⟨rfl, rfl⟩ (show _ < 24 by omega) (by decide) ?_
        refine x_aload_n (pc := 146) C dX0_playShow_146 rfl ?_
        refine x_getR (pc := 147) (o := 6) (j := 11) C f_X0_25 dX0_playShow_147 (hI 6 rfl) ⟨rfl, rfl⟩ ?_
        refine x_iload (pc := 150) C dX0_playShow_150 rfl ?_
        refine x_iload (pc := 152) C dX0_playShow_152 rfl ?_
        refine x_aload_n (pc := 154) C dX0_playShow_154 rfl ?_
        refine x_getR (pc := 155) (o := 6) (j := 8) C f_X0_15 dX0_playShow_155 (hI 6 rfl) ⟨rfl, rfl⟩ ?_
        refine x_iload_n (pc := 158) C dX0_playShow_158 rfl ?_
        refine x_iald (pc := 159) (o := 8) C dX0_playShow_159 (hI 8 rfl) ⟨rfl, rfl⟩ (show _ < 24 by omega) (by decide) ?_
        refine x_topi (minS (CF V) (V 21) (V 11 d) s ov) (by simp [up]) ?_
        refine x_iadd (pc := 160) C dX0_playShow_160 ?_
        refine x_iast (pc := 161) (o := 11) C dX0_playShow_161 (hI 11 rfl) ⟨rfl, rfl⟩ (show _ < 7 by omega) (by decide) ?_
        exact x_vret (pc := 162) C hQ dX0_playShow_162 (is_v (by unfold psV; rw [if_neg (dr_0 (F := CF V) h63 h68)]; first | rw [b2i_cn (Int32.not_lt.mpr h137)] | rw [b2i_c (Int32.not_le.mp h137)])) (Nat.le_of_ble_eq_true rfl) (Nat.le_of_ble_eq_true rfl)
    · refine x_aload_n (pc := 71) C dX0_playShow_71 rfl ?_
      refine x_getR (pc := 72) (o := 6) (j := 7) C f_X0_9 dX0_playShow_72 (hI 6 rfl) ⟨rfl, rfl⟩ ?_
      refine x_iload_n (pc := 75) C dX0_playShow_75 rfl ?_
      refine x_iconst (pc := 76) C (-1) dX0_playShow_76 (by decide) ?_
      refine x_iast (pc := 77) (o := 7) C dX0_playShow_77 (hI 7 rfl) ⟨rfl, rfl⟩ (show _ < 24 by omega) (by decide) ?_
      refine x_aload_n (pc := 78) C dX0_playShow_78 rfl ?_
      refine x_getR (pc := 79) (o := 6) (j := 8) C f_X0_15 dX0_playShow_79 (hI 6 rfl) ⟨rfl, rfl⟩ ?_
      refine x_iload_n (pc := 82) C dX0_playShow_82 rfl ?_
      refine x_iconst (pc := 83) C (0) dX0_playShow_83 (by decide) ?_
      refine x_iast (pc := 84) (o := 8) C dX0_playShow_84 (hI 8 rfl) ⟨rfl, rfl⟩ (show _ < 24 by omega) (by decide) ?_
      refine x_aload_n (pc := 85) C dX0_playShow_85 rfl ?_
      refine x_getR (pc := 86) (o := 6) (j := 10) C f_X0_21 dX0_playShow_86 (hI 6 rfl) ⟨rfl, rfl⟩ ?_
      refine x_iload_n (pc := 89) C dX0_playShow_89 rfl ?_
      refine x_iconst (pc := 90) C (0) dX0_playShow_90 (by decide) ?_
      refine x_zast (pc := 91) (o := 10) C dX0_playShow_91 (rfl) (hI 10 rfl) ⟨rfl, rfl⟩ (show _ < 24 by omega) (by decide) ?_
      exact x_vret (pc := 92) C hQ dX0_playShow_92 (is_v (by unfold psV; exact (if_pos (by first | exact dr_1 (F := CF V) h63 | exact dr_2 (F := CF V) h68)).symm)) (Nat.le_of_ble_eq_true rfl) (Nat.le_of_ble_eq_true rfl)
set_option maxRecDepth 100000 in
set_option maxHeartbeats 4000000 in
theorem u_X0_isDropped {l : Launch} {V : VV} {L : LL} {N : NN} {I : List Nat} (hI : PI I) (s : Nat) (hs : s < 24) : Runs l 1 0 0 yX0_isDropped (Cond.code yX0_isDropped cX0_isDropped 2 (some .boolean)) [aR 12, aI (nI s)] V L N I (Is (some (aI (b2i (drpB (AF 12 V) s)))) (V) (L) N I) := by
  refine run_of RX0 (by decide +kernel) rfl (Nat.le_of_ble_eq_true rfl) (fun E hE C hQ hN => ?_)
  subst hE
  refine x_aload_n (pc := 0) C dX0_isDropped_0 rfl ?_
  refine x_getR (pc := 1) (o := 12) (j := 13) C f_X0_9 dX0_isDropped_1 (hI 12 rfl) ⟨rfl, rfl⟩ ?_
  refine x_iload_n (pc := 4) C dX0_isDropped_4 rfl ?_
  refine x_iald (pc := 5) (o := 13) C dX0_isDropped_5 (hI 13 rfl) ⟨rfl, rfl⟩ (show _ < 24 by omega) (by decide) ?_
  refine x_iconst (pc := 6) C (-1) dX0_isDropped_6 (by decide) ?_
  refine x_icmp_ne (pc := 7) (tgt := 14) C dX0_isDropped_7 (by decide) (fun h7 => ?_) (fun h7 => ?_)
  · refine x_iconst (pc := 14) C (0) dX0_isDropped_14 (by decide) ?_
    exact x_zret (pc := 15) C hQ dX0_isDropped_15 (by decide) (is_i (by first | exact (b2i_c ‹_›).symm | exact (b2i_cn ‹_›).symm)) (Nat.le_of_ble_eq_true rfl) (Nat.le_of_ble_eq_true rfl)
  · refine x_iconst (pc := 10) C (1) dX0_isDropped_10 (by decide) ?_
    refine x_goto (pc := 11) (tgt := 15) C dX0_isDropped_11 (by decide) ?_
    exact x_zret (pc := 15) C hQ dX0_isDropped_15 (by decide) (is_i (by first | exact (b2i_c ‹_›).symm | exact (b2i_cn ‹_›).symm)) (Nat.le_of_ble_eq_true rfl) (Nat.le_of_ble_eq_true rfl)
set_option maxRecDepth 100000 in
set_option maxHeartbeats 4000000 in
theorem u_X0_isDelayed {l : Launch} {V : VV} {L : LL} {N : NN} {I : List Nat} (hI : PI I) (s : Nat) (hs : s < 24) : Runs l 2 0 0 yX0_isDelayed (Cond.code yX0_isDelayed cX0_isDelayed 2 (some .boolean)) [aR 12, aI (nI s)] V L N I (Is (some (aI (b2i (dlyB (AF 12 V) s)))) (V) (L) N I) := by
  refine run_of RX0 (by decide +kernel) rfl (Nat.le_of_ble_eq_true rfl) (fun E hE C hQ hN => ?_)
  subst hE
  refine x_aload_n (pc := 0) C dX0_isDelayed_0 rfl ?_
  refine x_iload_n (pc := 1) C dX0_isDelayed_1 rfl ?_
  refine x_cV1 (pc := 2) (o := 12) C v_X0_67 dX0_isDelayed_2 (u_X0_isDropped hI s hs) (hI 12 rfl) rfl (by decide) rfl ⟨Nat.le_refl _, Nat.le_refl _⟩ ?_
  refine x_if_ne (pc := 5) (tgt := 21) C dX0_isDelayed_5 (by decide) (fun h5 => ?_) (fun h5 => ?_)
  · refine x_iconst (pc := 21) C (0) dX0_isDelayed_21 (by decide) ?_
    exact x_zret (pc := 22) C hQ dX0_isDelayed_22 (by decide) (is_i (by first | exact (dly_1 (A := AF 12 V) h5 h14).symm | exact (dly_2 (A := AF 12 V) h14).symm | exact (dly_3 h5).symm)) (Nat.le_of_ble_eq_true rfl) (Nat.le_of_ble_eq_true rfl)
  · refine x_aload_n (pc := 8) C dX0_isDelayed_8 rfl ?_
    refine x_getR (pc := 9) (o := 12) (j := 15) C f_X0_18 dX0_isDelayed_9 (hI 12 rfl) ⟨rfl, rfl⟩ ?_
    refine x_iload_n (pc := 12) C dX0_isDelayed_12 rfl ?_
    refine x_iald (pc := 13) (o := 15) C dX0_isDelayed_13 (hI 15 rfl) ⟨rfl, rfl⟩ (show _ < 24 by omega) (by decide) ?_
    refine x_if_le (pc := 14) (tgt := 21) C dX0_isDelayed_14 (by decide) (fun h14 => ?_) (fun h14 => ?_)
    · refine x_iconst (pc := 21) C (0) dX0_isDelayed_21 (by decide) ?_
      exact x_zret (pc := 22) C hQ dX0_isDelayed_22 (by decide) (is_i (by first | exact (dly_1 (A := AF 12 V) h5 h14).symm | exact (dly_2 (A := AF 12 V) h14).symm | exact (dly_3 h5).symm)) (Nat.le_of_ble_eq_true rfl) (Nat.le_of_ble_eq_true rfl)
    · refine x_iconst (pc := 17) C (1) dX0_isDelayed_17 (by decide) ?_
      refine x_goto (pc := 18) (tgt := 22) C dX0_isDelayed_18 (by decide) ?_
      exact x_zret (pc := 22) C hQ dX0_isDelayed_22 (by decide) (is_i (by first | exact (dly_1 (A := AF 12 V) h5 h14).symm | exact (dly_2 (A := AF 12 V) h14).symm | exact (dly_3 h5).symm)) (Nat.le_of_ble_eq_true rfl) (Nat.le_of_ble_eq_true rfl)
set_option maxRecDepth 100000 in
set_option maxHeartbeats 4000000 in
theorem u_X0_sponsorsInHour {l : Launch} {V : VV} {L : LL} {N : NN} {I : List Nat} (hI : PI I) {n : Nat} (hn : V 20 7 = nI n) (hn24 : n ≤ 24) (d h : Int32) : Runs l 2 0 0 yX0_sponsorsInHour (Cond.code yX0_sponsorsInHour cX0_sponsorsInHour 6 (some .int)) [aR 12, aR 20, aI d, aI h] V L N I (Is (some (aI (spS (CF V) (AF 12 V) n d h))) (V) (L) N I) := by
  refine run_of RX0 (by decide +kernel) rfl (Nat.le_of_ble_eq_true rfl) (fun E hE C hQ hN => ?_)
  subst hE
  refine x_iconst (pc := 0) C (0) dX0_sponsorsInHour_0 (by decide) ?_
  refine y_istore (pc := 1) C dX0_sponsorsInHour_1 (by decide) rfl ?_
  refine x_iconst (pc := 3) C (0) dX0_sponsorsInHour_3 (by decide) ?_
  refine y_istore (pc := 4) C dX0_sponsorsInHour_4 (by decide) rfl ?_
  suffices key : ∀ (k i : Nat) (s : Int32), k + i = n → (s = sumTo (fun s => if V 31 s = d ∧ drpB (AF 12 V) s = false then inHourF (V 13 s) (minF (V 34 s) (V 14 s)) h else 0) i) → Wx E 6 [some (aR 12), some (aR 20), some (aI d), some (aI h), some (aI s), some (aI (nI i))] [] V L N I 0 0 by
    exact key (n) 0 0 (by omega) (rfl)
  intro k
  induction k with
  | zero =>
    intro i s hk hinv
    refine x_iload (pc := 6) C dX0_sponsorsInHour_6 rfl ?_
    refine x_aload_n (pc := 8) C dX0_sponsorsInHour_8 rfl ?_
    refine x_getI (pc := 9) (o := 20) C f_X0_37 dX0_sponsorsInHour_9 (hI 20 rfl) ⟨rfl, rfl, rfl⟩ ?_
    refine x_topi (nI n) hn ?_
    refine x_icmp_ge (pc := 12) (tgt := 74) C dX0_sponsorsInHour_12 (by decide) (fun h12 => ?_) (fun h12 => absurd (by exact nI_le (by omega) (by omega)) h12)
    refine x_iload (pc := 74) C dX0_sponsorsInHour_74 rfl ?_
    exact x_iret (pc := 76) C hQ dX0_sponsorsInHour_76 (is_i (by rw [hinv]; congr 1; omega)) (Nat.le_of_ble_eq_true rfl) (Nat.le_of_ble_eq_true rfl)
  | succ k ih =>
    intro i s hk hinv
    refine x_iload (pc := 6) C dX0_sponsorsInHour_6 rfl ?_
    refine x_aload_n (pc := 8) C dX0_sponsorsInHour_8 rfl ?_
    refine x_getI (pc := 9) (o := 20) C f_X0_37 dX0_sponsorsInHour_9 (hI 20 rfl) ⟨rfl, rfl, rfl⟩ ?_
    refine x_topi (nI n) hn ?_
    refine x_icmp_ge (pc := 12) (tgt := 74) C dX0_sponsorsInHour_12 (by decide) (fun h12 => absurd h12 (by exact nI_ge (by omega) (by omega))) (fun h12 => ?_)
    refine x_aload_n (pc := 15) C dX0_sponsorsInHour_15 rfl ?_
    refine x_getR (pc := 16) (o := 20) (j := 31) C f_X0_47 dX0_sponsorsInHour_16 (hI 20 rfl) ⟨rfl, rfl⟩ ?_
    refine x_iload (pc := 19) C dX0_sponsorsInHour_19 rfl ?_
    refine x_iald (pc := 21) (o := 31) C dX0_sponsorsInHour_21 (hI 31 rfl) ⟨rfl, rfl⟩ (show _ < 24 by omega) (by decide) ?_
    refine x_iload_n (pc := 22) C dX0_sponsorsInHour_22 rfl ?_
    refine x_icmp_ne (pc := 23) (tgt := 68) C dX0_sponsorsInHour_23 (by decide) (fun h23 => ?_) (fun h23 => ?_)
    · refine y_iinc (pc := 68) C (nI (i + 1)) dX0_sponsorsInHour_68 rfl (by exact nI_1 i) (by decide) rfl ?_
      refine x_goto (pc := 71) (tgt := 6) C dX0_sponsorsInHour_71 (by decide) ?_
      exact ih (i + 1) _ (by omega) (by rw [sumTo, ← hinv]; first | exact sum_t ⟨h23, b2i_f h32⟩ | exact sum_f (fun q => b2i_nf h32 q.2) | exact sum_f (fun q => h23 q.1))
    · refine x_aload_n (pc := 26) C dX0_sponsorsInHour_26 rfl ?_
      refine x_iload (pc := 27) C dX0_sponsorsInHour_27 rfl ?_
      refine x_cV1 (pc := 29) (o := 12) C v_X0_67 dX0_sponsorsInHour_29 (u_X0_isDropped hI i (by omega)) (hI 12 rfl) rfl (by decide) rfl ⟨Nat.le_refl _, Nat.le_refl _⟩ ?_
      refine x_if_ne (pc := 32) (tgt := 68) C dX0_sponsorsInHour_32 (by decide) (fun h32 => ?_) (fun h32 => ?_)
      · refine y_iinc (pc := 68) C (nI (i + 1)) dX0_sponsorsInHour_68 rfl (by exact nI_1 i) (by decide) rfl ?_
        refine x_goto (pc := 71) (tgt := 6) C dX0_sponsorsInHour_71 (by decide) ?_
        exact ih (i + 1) _ (by omega) (by rw [sumTo, ← hinv]; first | exact sum_t ⟨h23, b2i_f h32⟩ | exact sum_f (fun q => b2i_nf h32 q.2) | exact sum_f (fun q => h23 q.1))
      · refine x_iload (pc := 35) C dX0_sponsorsInHour_35 rfl ?_
        refine x_aload_n (pc := 37) C dX0_sponsorsInHour_37 rfl ?_
        refine x_getR (pc := 38) (o := 12) (j := 13) C f_X0_9 dX0_sponsorsInHour_38 (hI 12 rfl) ⟨rfl, rfl⟩ ?_
        refine x_iload (pc := 41) C dX0_sponsorsInHour_41 rfl ?_
        refine x_iald (pc := 43) (o := 13) C dX0_sponsorsInHour_43 (hI 13 rfl) ⟨rfl, rfl⟩ (show _ < 24 by omega) (by decide) ?_
        refine x_aload_n (pc := 44) C dX0_sponsorsInHour_44 rfl ?_
        refine x_getR (pc := 45) (o := 20) (j := 34) C f_X0_83 dX0_sponsorsInHour_45 (hI 20 rfl) ⟨rfl, rfl⟩ ?_
        refine x_iload (pc := 48) C dX0_sponsorsInHour_48 rfl ?_
        refine x_iald (pc := 50) (o := 34) C dX0_sponsorsInHour_50 (hI 34 rfl) ⟨rfl, rfl⟩ (show _ < 24 by omega) (by decide) ?_
        refine x_aload_n (pc := 51) C dX0_sponsorsInHour_51 rfl ?_
        refine x_getR (pc := 52) (o := 12) (j := 14) C f_X0_15 dX0_sponsorsInHour_52 (hI 12 rfl) ⟨rfl, rfl⟩ ?_
        refine x_iload (pc := 55) C dX0_sponsorsInHour_55 rfl ?_
        refine x_iald (pc := 57) (o := 14) C dX0_sponsorsInHour_57 (hI 14 rfl) ⟨rfl, rfl⟩ (show _ < 24 by omega) (by decide) ?_
        refine x_mmin (pc := 58) C q_X0_64 dX0_sponsorsInHour_58 (by decide) (Nat.le_of_ble_eq_true rfl) ⟨Nat.le_refl _, Nat.le_refl _⟩ ?_ mm_min.1 mm_min.2.1 mm_min.2.2
        refine x_iload_n (pc := 61) C dX0_sponsorsInHour_61 rfl ?_
        refine x_cN3 (pc := 62) C n_X0_86 dX0_sponsorsInHour_62 (c_X6_minutesInHour _ _ _) (by decide) rfl ⟨Nat.le_refl _, Nat.le_refl _⟩ ?_
        refine x_iadd (pc := 65) C dX0_sponsorsInHour_65 ?_
        refine y_istore (pc := 66) C dX0_sponsorsInHour_66 (by decide) rfl ?_
        refine y_iinc (pc := 68) C (nI (i + 1)) dX0_sponsorsInHour_68 rfl (by exact nI_1 i) (by decide) rfl ?_
        refine x_goto (pc := 71) (tgt := 6) C dX0_sponsorsInHour_71 (by decide) ?_
        exact ih (i + 1) _ (by omega) (by rw [sumTo, ← hinv]; first | exact sum_t ⟨h23, b2i_f h32⟩ | exact sum_f (fun q => b2i_nf h32 q.2) | exact sum_f (fun q => h23 q.1))
set_option maxRecDepth 100000 in
set_option maxHeartbeats 4000000 in
theorem u_X0_partOfDay {l : Launch} {V : VV} {L : LL} {N : NN} {I : List Nat} (hI : PI I) (s w : Nat) (hs : s < 24) (hw : w < 8) : Runs l 3 0 0 yX0_partOfDay (Cond.code yX0_partOfDay cX0_partOfDay 4 (some .int)) [aR 12, aR 20, aI (nI s), aI (nI w)] V L N I (Is (some (aI (partS (CF V) (AF 12 V) w s))) (V) (L) N I) := by
  refine run_of RX0 (by decide +kernel) rfl (Nat.le_of_ble_eq_true rfl) (fun E hE C hQ hN => ?_)
  subst hE
  refine x_iload_n (pc := 0) C dX0_partOfDay_0 rfl ?_
  rcases (show w = 0 ∨ w = 1 ∨ w = 2 ∨ w = 3 ∨ w = 4 ∨ 4 < w by omega) with rfl | rfl | rfl | rfl | rfl | hsw1
  · refine x_tableInN (pc := 1) (c := 0) (tgt := 36) C dX0_partOfDay_1 (by decide) (by decide) (by decide) rfl (by decide) ?_
    refine x_iconst (pc := 36) C (1) dX0_partOfDay_36 (by decide) ?_
    exact x_iret (pc := 37) C hQ dX0_partOfDay_37 (is_i rfl) (Nat.le_of_ble_eq_true rfl) (Nat.le_of_ble_eq_true rfl)
  · refine x_tableInN (pc := 1) (c := 1) (tgt := 38) C dX0_partOfDay_1 (by decide) (by decide) (by decide) rfl (by decide) ?_
    refine x_aload_n (pc := 38) C dX0_partOfDay_38 rfl ?_
    refine x_getR (pc := 39) (o := 20) (j := 33) C f_X0_61 dX0_partOfDay_39 (hI 20 rfl) ⟨rfl, rfl⟩ ?_
    refine x_iload_n (pc := 42) C dX0_partOfDay_42 rfl ?_
    refine x_iald (pc := 43) (o := 33) C dX0_partOfDay_43 (hI 33 rfl) ⟨rfl, rfl⟩ (show _ < 24 by omega) (by decide) ?_
    exact x_iret (pc := 44) C hQ dX0_partOfDay_44 (is_i rfl) (Nat.le_of_ble_eq_true rfl) (Nat.le_of_ble_eq_true rfl)
  · refine x_tableInN (pc := 1) (c := 2) (tgt := 45) C dX0_partOfDay_1 (by decide) (by decide) (by decide) rfl (by decide) ?_
    refine x_aload_n (pc := 45) C dX0_partOfDay_45 rfl ?_
    refine x_getR (pc := 46) (o := 12) (j := 14) C f_X0_15 dX0_partOfDay_46 (hI 12 rfl) ⟨rfl, rfl⟩ ?_
    refine x_iload_n (pc := 49) C dX0_partOfDay_49 rfl ?_
    refine x_iald (pc := 50) (o := 14) C dX0_partOfDay_50 (hI 14 rfl) ⟨rfl, rfl⟩ (show _ < 24 by omega) (by decide) ?_
    exact x_iret (pc := 51) C hQ dX0_partOfDay_51 (is_i rfl) (Nat.le_of_ble_eq_true rfl) (Nat.le_of_ble_eq_true rfl)
  · refine x_tableInN (pc := 1) (c := 3) (tgt := 52) C dX0_partOfDay_1 (by decide) (by decide) (by decide) rfl (by decide) ?_
    refine x_aload_n (pc := 52) C dX0_partOfDay_52 rfl ?_
    refine x_iload_n (pc := 53) C dX0_partOfDay_53 rfl ?_
    refine x_cV1 (pc := 54) (o := 12) C v_X0_71 dX0_partOfDay_54 (u_X0_isDelayed hI s hs) (hI 12 rfl) rfl (by decide) rfl ⟨Nat.le_refl _, Nat.le_refl _⟩ ?_
    refine x_if_eq (pc := 57) (tgt := 64) C dX0_partOfDay_57 (by decide) (fun h57 => ?_) (fun h57 => ?_)
    · refine x_iconst (pc := 64) C (0) dX0_partOfDay_64 (by decide) ?_
      exact x_iret (pc := 65) C hQ dX0_partOfDay_65 (is_i (part_3 (A := AF 12 V) (by first | exact (b2i_1 h57).symm | exact h57.symm))) (Nat.le_of_ble_eq_true rfl) (Nat.le_of_ble_eq_true rfl)
    · refine x_iconst (pc := 60) C (1) dX0_partOfDay_60 (by decide) ?_
      refine x_goto (pc := 61) (tgt := 65) C dX0_partOfDay_61 (by decide) ?_
      exact x_iret (pc := 65) C hQ dX0_partOfDay_65 (is_i (part_3 (A := AF 12 V) (by first | exact (b2i_1 h57).symm | exact h57.symm))) (Nat.le_of_ble_eq_true rfl) (Nat.le_of_ble_eq_true rfl)
  · refine x_tableInN (pc := 1) (c := 4) (tgt := 66) C dX0_partOfDay_1 (by decide) (by decide) (by decide) rfl (by decide) ?_
    refine x_aload_n (pc := 66) C dX0_partOfDay_66 rfl ?_
    refine x_iload_n (pc := 67) C dX0_partOfDay_67 rfl ?_
    refine x_cV1 (pc := 68) (o := 12) C v_X0_67 dX0_partOfDay_68 (u_X0_isDropped hI s hs) (hI 12 rfl) rfl (by decide) rfl ⟨Nat.le_refl _, Nat.le_refl _⟩ ?_
    refine x_if_eq (pc := 71) (tgt := 78) C dX0_partOfDay_71 (by decide) (fun h71 => ?_) (fun h71 => ?_)
    · refine x_iconst (pc := 78) C (0) dX0_partOfDay_78 (by decide) ?_
      exact x_iret (pc := 79) C hQ dX0_partOfDay_79 (is_i (part_4 (A := AF 12 V) (by first | exact (b2i_1 h71).symm | exact h71.symm))) (Nat.le_of_ble_eq_true rfl) (Nat.le_of_ble_eq_true rfl)
    · refine x_iconst (pc := 74) C (1) dX0_partOfDay_74 (by decide) ?_
      refine x_goto (pc := 75) (tgt := 79) C dX0_partOfDay_75 (by decide) ?_
      exact x_iret (pc := 79) C hQ dX0_partOfDay_79 (is_i (part_4 (A := AF 12 V) (by first | exact (b2i_1 h71).symm | exact h71.symm))) (Nat.le_of_ble_eq_true rfl) (Nat.le_of_ble_eq_true rfl)
  · refine x_tableOut (pc := 1) (tgt := 80) C dX0_partOfDay_1 (Or.inr (by rw [nI_toInt (by omega)]; omega)) (by decide) ?_
    refine x_aload_n (pc := 80) C dX0_partOfDay_80 rfl ?_
    refine x_iload_n (pc := 81) C dX0_partOfDay_81 rfl ?_
    refine x_cV1 (pc := 82) (o := 12) C v_X0_67 dX0_partOfDay_82 (u_X0_isDropped hI s hs) (hI 12 rfl) rfl (by decide) rfl ⟨Nat.le_refl _, Nat.le_refl _⟩ ?_
    refine x_if_eq (pc := 85) (tgt := 92) C dX0_partOfDay_85 (by decide) (fun h85 => ?_) (fun h85 => ?_)
    · refine x_aload_n (pc := 92) C dX0_partOfDay_92 rfl ?_
      refine x_getR (pc := 93) (o := 12) (j := 15) C f_X0_18 dX0_partOfDay_93 (hI 12 rfl) ⟨rfl, rfl⟩ ?_
      refine x_iload_n (pc := 96) C dX0_partOfDay_96 rfl ?_
      refine x_iald (pc := 97) (o := 15) C dX0_partOfDay_97 (hI 15 rfl) ⟨rfl, rfl⟩ (show _ < 24 by omega) (by decide) ?_
      exact x_iret (pc := 98) C hQ dX0_partOfDay_98 (is_i (by first | exact part_5 (A := AF 12 V) hsw1 h85 | exact part_6 (A := AF 12 V) hsw1 h85)) (Nat.le_of_ble_eq_true rfl) (Nat.le_of_ble_eq_true rfl)
    · refine x_iconst (pc := 88) C (0) dX0_partOfDay_88 (by decide) ?_
      refine x_goto (pc := 89) (tgt := 98) C dX0_partOfDay_89 (by decide) ?_
      exact x_iret (pc := 98) C hQ dX0_partOfDay_98 (is_i (by first | exact part_5 (A := AF 12 V) hsw1 h85 | exact part_6 (A := AF 12 V) hsw1 h85)) (Nat.le_of_ble_eq_true rfl) (Nat.le_of_ble_eq_true rfl)
set_option maxRecDepth 100000 in
set_option maxHeartbeats 4000000 in
theorem u_X0_hoursAboveLimit {l : Launch} {V : VV} {L : LL} {N : NN} {I : List Nat} (hI : PI I) {n : Nat} (hn : V 20 7 = nI n) (hn24 : n ≤ 24) (d : Int32) : Runs l 3 0 0 yX0_hoursAboveLimit (Cond.code yX0_hoursAboveLimit cX0_hoursAboveLimit 5 (some .int)) [aR 12, aR 20, aI d] V L N I (Is (some (aI (hrsS (CF V) (AF 12 V) (V 21 6) n d))) (V) (L) N I) := by
  refine run_of RX0 (by decide +kernel) rfl (Nat.le_of_ble_eq_true rfl) (fun E hE C hQ hN => ?_)
  subst hE
  refine x_iconst (pc := 0) C (0) dX0_hoursAboveLimit_0 (by decide) ?_
  refine y_istore_n (pc := 1) C dX0_hoursAboveLimit_1 (by decide) rfl ?_
  refine x_iconst (pc := 2) C (0) dX0_hoursAboveLimit_2 (by decide) ?_
  refine y_istore (pc := 3) C dX0_hoursAboveLimit_3 (by decide) rfl ?_
  suffices key : ∀ (k i : Nat) (s : Int32), k + i = 24 → (s = sumTo (fun h => if V 21 6 < spS (CF V) (AF 12 V) n d (nI h) then 1 else 0) i) → Wx E 5 [some (aR 12), some (aR 20), some (aI d), some (aI s), some (aI (nI i))] [] V L N I 0 0 by
    exact key (24) 0 0 (by omega) (rfl)
  intro k
  induction k with
  | zero =>
    intro i s hk hinv
    refine x_iload (pc := 5) C dX0_hoursAboveLimit_5 rfl ?_
    refine x_bipush (pc := 7) C (24) dX0_hoursAboveLimit_7 (by decide) ?_
    refine x_icmp_ge (pc := 9) (tgt := 39) C dX0_hoursAboveLimit_9 (by decide) (fun h9 => ?_) (fun h9 => absurd (by exact nI_le (a := 24) (b := i) (by omega) (by omega)) h9)
    refine x_iload_n (pc := 39) C dX0_hoursAboveLimit_39 rfl ?_
    exact x_iret (pc := 40) C hQ dX0_hoursAboveLimit_40 (is_i (by rw [hinv]; unfold hrsS; congr 1; omega)) (Nat.le_of_ble_eq_true rfl) (Nat.le_of_ble_eq_true rfl)
  | succ k ih =>
    intro i s hk hinv
    refine x_iload (pc := 5) C dX0_hoursAboveLimit_5 rfl ?_
    refine x_bipush (pc := 7) C (24) dX0_hoursAboveLimit_7 (by decide) ?_
    refine x_icmp_ge (pc := 9) (tgt := 39) C dX0_hoursAboveLimit_9 (by decide) (fun h9 => absurd h9 (by exact nI_ge (a := i) (b := 24) (by omega) (by omega))) (fun h9 => ?_)
    refine x_aload_n (pc := 12) C dX0_hoursAboveLimit_12 rfl ?_
    refine x_aload_n (pc := 13) C dX0_hoursAboveLimit_13 rfl ?_
    refine x_iload_n (pc := 14) C dX0_hoursAboveLimit_14 rfl ?_
    refine x_iload (pc := 15) C dX0_hoursAboveLimit_15 rfl ?_
    refine x_cV3 (pc := 17) (o := 12) C v_X0_101 dX0_hoursAboveLimit_17 (u_X0_sponsorsInHour hI hn hn24 _ _) (hI 12 rfl) rfl (by decide) rfl ⟨Nat.le_refl _, Nat.le_refl _⟩ ?_
    refine x_aload_n (pc := 20) C dX0_hoursAboveLimit_20 rfl ?_
    refine x_getR (pc := 21) (o := 20) (j := 21) C f_X0_32 dX0_hoursAboveLimit_21 (hI 20 rfl) ⟨rfl, rfl⟩ ?_
    refine x_bipush (pc := 24) C (6) dX0_hoursAboveLimit_24 (by decide) ?_
    refine x_topi (nI 6) (by decide) ?_
    refine x_iald (pc := 26) (o := 21) C dX0_hoursAboveLimit_26 (hI 21 rfl) ⟨rfl, rfl⟩ (show _ < 8 by decide) (by decide) ?_
    refine x_icmp_le (pc := 27) (tgt := 33) C dX0_hoursAboveLimit_27 (by decide) (fun h27 => ?_) (fun h27 => ?_)
    · refine y_iinc (pc := 33) C (nI (i + 1)) dX0_hoursAboveLimit_33 rfl (by exact nI_1 i) (by decide) rfl ?_
      refine x_goto (pc := 36) (tgt := 5) C dX0_hoursAboveLimit_36 (by decide) ?_
      exact ih (i + 1) _ (by omega) (by rw [sumTo, ← hinv]; first | exact sum_t (Int32.not_le.mp h27) | exact sum_f (Int32.not_lt.mpr h27))
    · refine y_iinc (pc := 30) C _ dX0_hoursAboveLimit_30 rfl rfl (by decide) rfl ?_
      refine y_iinc (pc := 33) C (nI (i + 1)) dX0_hoursAboveLimit_33 rfl (by exact nI_1 i) (by decide) rfl ?_
      refine x_goto (pc := 36) (tgt := 5) C dX0_hoursAboveLimit_36 (by decide) ?_
      exact ih (i + 1) _ (by omega) (by rw [sumTo, ← hinv]; first | exact sum_t (Int32.not_le.mp h27) | exact sum_f (Int32.not_lt.mpr h27))
set_option maxRecDepth 100000 in
set_option maxHeartbeats 4000000 in
theorem u_X0_dayProperty {l : Launch} {V : VV} {L : LL} {N : NN} {I : List Nat} (hI : PI I) {n : Nat} (hn : V 20 7 = nI n) (hn24 : n ≤ 24) (d w : Nat) (hd : d < 7) (hw : w < 8) : Runs l 4 0 0 yX0_dayProperty (Cond.code yX0_dayProperty cX0_dayProperty 6 (some .int)) [aR 12, aR 20, aI (nI d), aI (nI w)] V L N I (Is (some (aI (dayS (CF V) (AF 12 V) (V 21 6) n d w))) (V) (L) N I) := by
  refine run_of RX0 (by decide +kernel) rfl (Nat.le_of_ble_eq_true rfl) (fun E hE C hQ hN => ?_)
  subst hE
  refine x_iload_n (pc := 0) C dX0_dayProperty_0 rfl ?_
  refine x_bipush (pc := 1) C (6) dX0_dayProperty_1 (by decide) ?_
  refine x_icmp_ne (pc := 3) (tgt := 13) C dX0_dayProperty_3 (by decide) (fun h3 => ?_) (fun h3 => ?_)
  · refine x_iload_n (pc := 13) C dX0_dayProperty_13 rfl ?_
    refine x_bipush (pc := 14) C (7) dX0_dayProperty_14 (by decide) ?_
    refine x_icmp_ne (pc := 16) (tgt := 26) C dX0_dayProperty_16 (by decide) (fun h16 => ?_) (fun h16 => ?_)
    · refine x_iconst (pc := 26) C (0) dX0_dayProperty_26 (by decide) ?_
      refine y_istore (pc := 27) C dX0_dayProperty_27 (by decide) rfl ?_
      refine x_iconst (pc := 29) C (0) dX0_dayProperty_29 (by decide) ?_
      refine y_istore (pc := 30) C dX0_dayProperty_30 (by decide) rfl ?_
      have hT : dayS (CF V) (AF 12 V) (V 21 6) n d w = sumTo (fun s => if V 31 s = nI d then partS (CF V) (AF 12 V) w s else 0) n := by unfold dayS; rw [if_neg (nI_wn (k := 6) h3), if_neg (nI_wn (k := 7) h16)]; rfl
      suffices key : ∀ (k i : Nat) (s : Int32), k + i = n → (s = sumTo (fun s => if V 31 s = nI d then partS (CF V) (AF 12 V) w s else 0) i) → Wx E 32 [some (aR 12), some (aR 20), some (aI (nI d)), some (aI (nI w)), some (aI s), some (aI (nI i))] [] V L N I 0 0 by
        exact key (n) 0 0 (by omega) (rfl)
      intro k
      induction k with
      | zero =>
        intro i s hk hinv
        refine x_iload (pc := 32) C dX0_dayProperty_32 rfl ?_
        refine x_aload_n (pc := 34) C dX0_dayProperty_34 rfl ?_
        refine x_getI (pc := 35) (o := 20) C f_X0_37 dX0_dayProperty_35 (hI 20 rfl) ⟨rfl, rfl, rfl⟩ ?_
        refine x_topi (nI n) hn ?_
        refine x_icmp_ge (pc := 38) (tgt := 71) C dX0_dayProperty_38 (by decide) (fun h38 => ?_) (fun h38 => absurd (by exact nI_le (by omega) (by omega)) h38)
        refine x_iload (pc := 71) C dX0_dayProperty_71 rfl ?_
        exact x_iret (pc := 73) C hQ dX0_dayProperty_73 (is_i (by rw [hT, hinv]; congr 1; omega)) (Nat.le_of_ble_eq_true rfl) (Nat.le_of_ble_eq_true rfl)
      | succ k ih =>
        intro i s hk hinv
        refine x_iload (pc := 32) C dX0_dayProperty_32 rfl ?_
        refine x_aload_n (pc := 34) C dX0_dayProperty_34 rfl ?_
        refine x_getI (pc := 35) (o := 20) C f_X0_37 dX0_dayProperty_35 (hI 20 rfl) ⟨rfl, rfl, rfl⟩ ?_
        refine x_topi (nI n) hn ?_
        refine x_icmp_ge (pc := 38) (tgt := 71) C dX0_dayProperty_38 (by decide) (fun h38 => absurd h38 (by exact nI_ge (by omega) (by omega))) (fun h38 => ?_)
        refine x_aload_n (pc := 41) C dX0_dayProperty_41 rfl ?_
        refine x_getR (pc := 42) (o := 20) (j := 31) C f_X0_47 dX0_dayProperty_42 (hI 20 rfl) ⟨rfl, rfl⟩ ?_
        refine x_iload (pc := 45) C dX0_dayProperty_45 rfl ?_
        refine x_iald (pc := 47) (o := 31) C dX0_dayProperty_47 (hI 31 rfl) ⟨rfl, rfl⟩ (show _ < 24 by omega) (by decide) ?_
        refine x_iload_n (pc := 48) C dX0_dayProperty_48 rfl ?_
        refine x_icmp_ne (pc := 49) (tgt := 65) C dX0_dayProperty_49 (by decide) (fun h49 => ?_) (fun h49 => ?_)
        · refine y_iinc (pc := 65) C (nI (i + 1)) dX0_dayProperty_65 rfl (by exact nI_1 i) (by decide) rfl ?_
          refine x_goto (pc := 68) (tgt := 32) C dX0_dayProperty_68 (by decide) ?_
          exact ih (i + 1) _ (by omega) (by rw [sumTo, ← hinv]; simp [*])
        · refine x_iload (pc := 52) C dX0_dayProperty_52 rfl ?_
          refine x_aload_n (pc := 54) C dX0_dayProperty_54 rfl ?_
          refine x_aload_n (pc := 55) C dX0_dayProperty_55 rfl ?_
          refine x_iload (pc := 56) C dX0_dayProperty_56 rfl ?_
          refine x_iload_n (pc := 58) C dX0_dayProperty_58 rfl ?_
          refine x_cV3 (pc := 59) (o := 12) C v_X0_94 dX0_dayProperty_59 (u_X0_partOfDay hI i w (by omega) hw) (hI 12 rfl) rfl (by decide) rfl ⟨Nat.le_refl _, Nat.le_refl _⟩ ?_
          refine x_iadd (pc := 62) C dX0_dayProperty_62 ?_
          refine y_istore (pc := 63) C dX0_dayProperty_63 (by decide) rfl ?_
          refine y_iinc (pc := 65) C (nI (i + 1)) dX0_dayProperty_65 rfl (by exact nI_1 i) (by decide) rfl ?_
          refine x_goto (pc := 68) (tgt := 32) C dX0_dayProperty_68 (by decide) ?_
          exact ih (i + 1) _ (by omega) (by rw [sumTo, ← hinv]; simp [*])
    · refine x_aload_n (pc := 19) C dX0_dayProperty_19 rfl ?_
      refine x_aload_n (pc := 20) C dX0_dayProperty_20 rfl ?_
      refine x_iload_n (pc := 21) C dX0_dayProperty_21 rfl ?_
      refine x_cV2 (pc := 22) (o := 12) C v_X0_90 dX0_dayProperty_22 (u_X0_hoursAboveLimit hI hn hn24 _) (hI 12 rfl) rfl (by decide) rfl ⟨Nat.le_refl _, Nat.le_refl _⟩ ?_
      exact x_iret (pc := 25) C hQ dX0_dayProperty_25 (is_i (by rw [dayS, if_neg (nI_wn (k := 6) h3), if_pos (nI_w (k := 7) hw (by decide) h16)])) (Nat.le_of_ble_eq_true rfl) (Nat.le_of_ble_eq_true rfl)
  · refine x_aload_n (pc := 6) C dX0_dayProperty_6 rfl ?_
    refine x_getR (pc := 7) (o := 12) (j := 17) C f_X0_25 dX0_dayProperty_7 (hI 12 rfl) ⟨rfl, rfl⟩ ?_
    refine x_iload_n (pc := 10) C dX0_dayProperty_10 rfl ?_
    refine x_iald (pc := 11) (o := 17) C dX0_dayProperty_11 (hI 17 rfl) ⟨rfl, rfl⟩ (show _ < 7 by omega) (by decide) ?_
    exact x_iret (pc := 12) C hQ dX0_dayProperty_12 (is_i (by rw [dayS, if_pos (nI_w (k := 6) hw (by decide) h3)]; rfl)) (Nat.le_of_ble_eq_true rfl) (Nat.le_of_ble_eq_true rfl)
set_option maxRecDepth 100000 in
set_option maxHeartbeats 4000000 in
theorem u_X0_playShow {l : Launch} {V : VV} {L : LL} {N : NN} {I : List Nat} (hI : PI I) (s d : Nat) (hs : s < 24) (hd : d < 7) (hday : V 31 s = nI d) (ov : Int32) : Runs l 2 0 0 yX0_playShow (Cond.code yX0_playShow cX0_playShow 8 none) [aR 12, aR 20, aI (nI s), aI ov] V L N I (Is none (psV 12 V d s ov) (L) N I) := by
  refine run_of RX0 (by decide +kernel) rfl (Nat.le_of_ble_eq_true rfl) (fun E hE C hQ hN => ?_)
  subst hE
  refine x_aload_n (pc := 0) C dX0_playShow_0 rfl ?_
  refine x_getR (pc := 1) (o := 20) (j := 31) C f_X0_47 dX0_playShow_1 (hI 20 rfl) ⟨rfl, rfl⟩ ?_
  refine x_iload_n (pc := 4) C dX0_playShow_4 rfl ?_
  refine x_iald (pc := 5) (o := 31) C dX0_playShow_5 (hI 31 rfl) ⟨rfl, rfl⟩ (show _ < 24 by omega) (by decide) ?_
  refine x_topi (nI d) hday ?_
  refine y_istore (pc := 6) C dX0_playShow_6 (by decide) rfl ?_
  refine x_aload_n (pc := 8) C dX0_playShow_8 rfl ?_
  refine x_getR (pc := 9) (o := 20) (j := 32) C f_X0_50 dX0_playShow_9 (hI 20 rfl) ⟨rfl, rfl⟩ ?_
  refine x_iload_n (pc := 12) C dX0_playShow_12 rfl ?_
  refine x_iald (pc := 13) (o := 32) C dX0_playShow_13 (hI 32 rfl) ⟨rfl, rfl⟩ (show _ < 24 by omega) (by decide) ?_
  refine x_aload_n (pc := 14) C dX0_playShow_14 rfl ?_
  refine x_getR (pc := 15) (o := 12) (j := 17) C f_X0_25 dX0_playShow_15 (hI 12 rfl) ⟨rfl, rfl⟩ ?_
  refine x_iload (pc := 18) C dX0_playShow_18 rfl ?_
  refine x_iald (pc := 20) (o := 17) C dX0_playShow_20 (hI 17 rfl) ⟨rfl, rfl⟩ (show _ < 7 by omega) (by decide) ?_
  refine x_mmax (pc := 21) C q_X0_51 dX0_playShow_21 (by decide) (Nat.le_of_ble_eq_true rfl) ⟨Nat.le_refl _, Nat.le_refl _⟩ ?_ mm_max.1 mm_max.2.1 mm_max.2.2
  refine x_topi (stS (CF V) (V 17 d) s) rfl ?_
  refine y_istore (pc := 24) C dX0_playShow_24 (by decide) rfl ?_
  refine x_aload_n (pc := 26) C dX0_playShow_26 rfl ?_
  refine x_getR (pc := 27) (o := 20) (j := 21) C f_X0_32 dX0_playShow_27 (hI 20 rfl) ⟨rfl, rfl⟩ ?_
  refine x_iconst (pc := 30) C (1) dX0_playShow_30 (by decide) ?_
  refine x_topi (nI 1) (by decide) ?_
  refine x_iald (pc := 31) (o := 21) C dX0_playShow_31 (hI 21 rfl) ⟨rfl, rfl⟩ (show _ < 8 by decide) (by decide) ?_
  refine x_iload (pc := 32) C dX0_playShow_32 rfl ?_
  refine x_isub (pc := 34) C dX0_playShow_34 ?_
  refine y_istore (pc := 35) C dX0_playShow_35 (by decide) rfl ?_
  refine x_aload_n (pc := 37) C dX0_playShow_37 rfl ?_
  refine x_getR (pc := 38) (o := 12) (j := 15) C f_X0_18 dX0_playShow_38 (hI 12 rfl) ⟨rfl, rfl⟩ ?_
  refine x_iload_n (pc := 41) C dX0_playShow_41 rfl ?_
  refine x_iload (pc := 42) C dX0_playShow_42 rfl ?_
  refine x_aload_n (pc := 44) C dX0_playShow_44 rfl ?_
  refine x_getR (pc := 45) (o := 20) (j := 32) C f_X0_50 dX0_playShow_45 (hI 20 rfl) ⟨rfl, rfl⟩ ?_
  refine x_iload_n (pc := 48) C dX0_playShow_48 rfl ?_
  refine x_iald (pc := 49) (o := 32) C dX0_playShow_49 (hI 32 rfl) ⟨rfl, rfl⟩ (show _ < 24 by omega) (by decide) ?_
  refine x_isub (pc := 50) C dX0_playShow_50 ?_
  refine x_iast (pc := 51) (o := 15) C dX0_playShow_51 (hI 15 rfl) ⟨rfl, rfl⟩ (show _ < 24 by omega) (by decide) ?_
  refine x_aload_n (pc := 52) C dX0_playShow_52 rfl ?_
  refine x_getR (pc := 53) (o := 12) (j := 15) C f_X0_18 dX0_playShow_53 (hI 12 rfl) ⟨rfl, rfl⟩ ?_
  refine x_iload_n (pc := 56) C dX0_playShow_56 rfl ?_
  refine x_iald (pc := 57) (o := 15) C dX0_playShow_57 (hI 15 rfl) ⟨rfl, rfl⟩ (show _ < 24 by omega) (by decide) ?_
  refine x_topi (stS (CF V) (V 17 d) s - V 32 s) up_ss ?_
  refine x_aload_n (pc := 58) C dX0_playShow_58 rfl ?_
  refine x_iload_n (pc := 59) C dX0_playShow_59 rfl ?_
  refine x_cV1 (pc := 60) (o := 20) C v_X0_57 dX0_playShow_60 (c_X3_patience hI s hs) (hI 20 rfl) rfl (by decide) rfl ⟨Nat.le_refl _, Nat.le_refl _⟩ ?_
  refine x_topi (patS (CF V) (V 21) s) rfl ?_
  refine x_icmp_gt (pc := 63) (tgt := 71) C dX0_playShow_63 (by decide) (fun h63 => ?_) (fun h63 => ?_)
  · refine x_aload_n (pc := 71) C dX0_playShow_71 rfl ?_
    refine x_getR (pc := 72) (o := 12) (j := 13) C f_X0_9 dX0_playShow_72 (hI 12 rfl) ⟨rfl, rfl⟩ ?_
    refine x_iload_n (pc := 75) C dX0_playShow_75 rfl ?_
    refine x_iconst (pc := 76) C (-1) dX0_playShow_76 (by decide) ?_
    refine x_iast (pc := 77) (o := 13) C dX0_playShow_77 (hI 13 rfl) ⟨rfl, rfl⟩ (show _ < 24 by omega) (by decide) ?_
    refine x_aload_n (pc := 78) C dX0_playShow_78 rfl ?_
    refine x_getR (pc := 79) (o := 12) (j := 14) C f_X0_15 dX0_playShow_79 (hI 12 rfl) ⟨rfl, rfl⟩ ?_
    refine x_iload_n (pc := 82) C dX0_playShow_82 rfl ?_
    refine x_iconst (pc := 83) C (0) dX0_playShow_83 (by decide) ?_
    refine x_iast (pc := 84) (o := 14) C dX0_playShow_84 (hI 14 rfl) ⟨rfl, rfl⟩ (show _ < 24 by omega) (by decide) ?_
    refine x_aload_n (pc := 85) C dX0_playShow_85 rfl ?_
    refine x_getR (pc := 86) (o := 12) (j := 16) C f_X0_21 dX0_playShow_86 (hI 12 rfl) ⟨rfl, rfl⟩ ?_
    refine x_iload_n (pc := 89) C dX0_playShow_89 rfl ?_
    refine x_iconst (pc := 90) C (0) dX0_playShow_90 (by decide) ?_
    refine x_zast (pc := 91) (o := 16) C dX0_playShow_91 (rfl) (hI 16 rfl) ⟨rfl, rfl⟩ (show _ < 24 by omega) (by decide) ?_
    exact x_vret (pc := 92) C hQ dX0_playShow_92 (is_v (by unfold psV; exact (if_pos (by first | exact dr_1 (F := CF V) h63 | exact dr_2 (F := CF V) h68)).symm)) (Nat.le_of_ble_eq_true rfl) (Nat.le_of_ble_eq_true rfl)
  · refine x_iload (pc := 66) C dX0_playShow_66 rfl ?_
    refine x_if_gt (pc := 68) (tgt := 93) C dX0_playShow_68 (by decide) (fun h68 => ?_) (fun h68 => ?_)
    · refine x_iconst (pc := 93) C (1) dX0_playShow_93 (by decide) ?_
      refine x_aload_n (pc := 94) C dX0_playShow_94 rfl ?_
      refine x_getR (pc := 95) (o := 20) (j := 33) C f_X0_61 dX0_playShow_95 (hI 20 rfl) ⟨rfl, rfl⟩ ?_
      refine x_iload_n (pc := 98) C dX0_playShow_98 rfl ?_
      refine x_iald (pc := 99) (o := 33) C dX0_playShow_99 (hI 33 rfl) ⟨rfl, rfl⟩ (show _ < 24 by omega) (by decide) ?_
      refine x_iload_n (pc := 100) C dX0_playShow_100 rfl ?_
      refine x_iadd (pc := 101) C dX0_playShow_101 ?_
      refine x_mmax (pc := 102) C q_X0_51 dX0_playShow_102 (by decide) (Nat.le_of_ble_eq_true rfl) ⟨Nat.le_refl _, Nat.le_refl _⟩ ?_ mm_max.1 mm_max.2.1 mm_max.2.2
      refine x_topi (wantS (CF V) s ov) rfl ?_
      refine y_istore (pc := 105) C dX0_playShow_105 (by decide) rfl ?_
      refine x_aload_n (pc := 107) C dX0_playShow_107 rfl ?_
      refine x_getR (pc := 108) (o := 12) (j := 13) C f_X0_9 dX0_playShow_108 (hI 12 rfl) ⟨rfl, rfl⟩ ?_
      refine x_iload_n (pc := 111) C dX0_playShow_111 rfl ?_
      refine x_iload (pc := 112) C dX0_playShow_112 rfl ?_
      refine x_iast (pc := 114) (o := 13) C dX0_playShow_114 (hI 13 rfl) ⟨rfl, rfl⟩ (show _ < 24 by omega) (by decide) ?_
      refine x_aload_n (pc := 115) C dX0_playShow_115 rfl ?_
      refine x_getR (pc := 116) (o := 12) (j := 14) C f_X0_15 dX0_playShow_116 (hI 12 rfl) ⟨rfl, rfl⟩ ?_
      refine x_iload_n (pc := 119) C dX0_playShow_119 rfl ?_
      refine x_iload (pc := 120) C dX0_playShow_120 rfl ?_
      refine x_iload (pc := 122) C dX0_playShow_122 rfl ?_
      refine x_mmin (pc := 124) C q_X0_64 dX0_playShow_124 (by decide) (Nat.le_of_ble_eq_true rfl) ⟨Nat.le_refl _, Nat.le_refl _⟩ ?_ mm_min.1 mm_min.2.1 mm_min.2.2
      refine x_topi (minS (CF V) (V 21) (V 17 d) s ov) rfl ?_
      refine x_iast (pc := 127) (o := 14) C dX0_playShow_127 (hI 14 rfl) ⟨rfl, rfl⟩ (show _ < 24 by omega) (by decide) ?_
      refine x_aload_n (pc := 128) C dX0_playShow_128 rfl ?_
      refine x_getR (pc := 129) (o := 12) (j := 16) C f_X0_21 dX0_playShow_129 (hI 12 rfl) ⟨rfl, rfl⟩ ?_
      refine x_iload_n (pc := 132) C dX0_playShow_132 rfl ?_
      refine x_iload (pc := 133) C dX0_playShow_133 rfl ?_
      refine x_iload (pc := 135) C dX0_playShow_135 rfl ?_
      refine x_icmp_le (pc := 137) (tgt := 144) C dX0_playShow_137 (by decide) (fun h137 => ?_) (fun h137 => ?_)
      · refine x_iconst (pc := 144) C (0) dX0_playShow_144 (by decide) ?_
        refine x_zast (pc := 145) (o := 16) C dX0_playShow_145 (rfl) (hI 16 rfl) ⟨rfl, rfl⟩ (show _ < 24 by omega) (by decide) ?_
        refine x_aload_n (pc := 146) C dX0_playShow_146 rfl ?_
        refine x_getR (pc := 147) (o := 12) (j := 17) C f_X0_25 dX0_playShow_147 (hI 12 rfl) ⟨rfl, rfl⟩ ?_
        refine x_iload (pc := 150) C dX0_playShow_150 rfl ?_
        refine x_iload (pc := 152) C dX0_playShow_152 rfl ?_
        refine x_aload_n (pc := 154) C dX0_playShow_154 rfl ?_
        refine x_getR (pc := 155) (o := 12) (j := 14) C f_X0_15 dX0_playShow_155 (hI 12 rfl) ⟨rfl, rfl⟩ ?_
        refine x_iload_n (pc := 158) C dX0_playShow_158 rfl ?_
        refine x_iald (pc := 159) (o := 14) C dX0_playShow_159 (hI 14 rfl) ⟨rfl, rfl⟩ (show _ < 24 by omega) (by decide) ?_
        refine x_topi (minS (CF V) (V 21) (V 17 d) s ov) (by simp [up]) ?_
        refine x_iadd (pc := 160) C dX0_playShow_160 ?_
        refine x_iast (pc := 161) (o := 17) C dX0_playShow_161 (hI 17 rfl) ⟨rfl, rfl⟩ (show _ < 7 by omega) (by decide) ?_
        exact x_vret (pc := 162) C hQ dX0_playShow_162 (is_v (by unfold psV; rw [if_neg (dr_0 (F := CF V) h63 h68)]; first | rw [b2i_cn (Int32.not_lt.mpr h137)] | rw [b2i_c (Int32.not_le.mp h137)])) (Nat.le_of_ble_eq_true rfl) (Nat.le_of_ble_eq_true rfl)
      · refine x_iconst (pc := 140) C (1) dX0_playShow_140 (by decide) ?_
        refine x_goto (pc := 141) (tgt := 145) C dX0_playShow_141 (by decide) ?_
        refine x_zast (pc := 145) (o := 16) C dX0_playShow_145 (rfl) (hI 16 rfl) ⟨rfl, rfl⟩ (show _ < 24 by omega) (by decide) ?_
        refine x_aload_n (pc := 146) C dX0_playShow_146 rfl ?_
        refine x_getR (pc := 147) (o := 12) (j := 17) C f_X0_25 dX0_playShow_147 (hI 12 rfl) ⟨rfl, rfl⟩ ?_
        refine x_iload (pc := 150) C dX0_playShow_150 rfl ?_
        refine x_iload (pc := 152) C dX0_playShow_152 rfl ?_
        refine x_aload_n (pc := 154) C dX0_playShow_154 rfl ?_
        refine x_getR (pc := 155) (o := 12) (j := 14) C f_X0_15 dX0_playShow_155 (hI 12 rfl) ⟨rfl, rfl⟩ ?_
        refine x_iload_n (pc := 158) C dX0_playShow_158 rfl ?_
        refine x_iald (pc := 159) (o := 14) C dX0_playShow_159 (hI 14 rfl) ⟨rfl, rfl⟩ (show _ < 24 by omega) (by decide) ?_
        refine x_topi (minS (CF V) (V 21) (V 17 d) s ov) (by simp [up]) ?_
        refine x_iadd (pc := 160) C dX0_playShow_160 ?_
        refine x_iast (pc := 161) (o := 17) C dX0_playShow_161 (hI 17 rfl) ⟨rfl, rfl⟩ (show _ < 7 by omega) (by decide) ?_
        exact x_vret (pc := 162) C hQ dX0_playShow_162 (is_v (by unfold psV; rw [if_neg (dr_0 (F := CF V) h63 h68)]; first | rw [b2i_cn (Int32.not_lt.mpr h137)] | rw [b2i_c (Int32.not_le.mp h137)])) (Nat.le_of_ble_eq_true rfl) (Nat.le_of_ble_eq_true rfl)
    · refine x_aload_n (pc := 71) C dX0_playShow_71 rfl ?_
      refine x_getR (pc := 72) (o := 12) (j := 13) C f_X0_9 dX0_playShow_72 (hI 12 rfl) ⟨rfl, rfl⟩ ?_
      refine x_iload_n (pc := 75) C dX0_playShow_75 rfl ?_
      refine x_iconst (pc := 76) C (-1) dX0_playShow_76 (by decide) ?_
      refine x_iast (pc := 77) (o := 13) C dX0_playShow_77 (hI 13 rfl) ⟨rfl, rfl⟩ (show _ < 24 by omega) (by decide) ?_
      refine x_aload_n (pc := 78) C dX0_playShow_78 rfl ?_
      refine x_getR (pc := 79) (o := 12) (j := 14) C f_X0_15 dX0_playShow_79 (hI 12 rfl) ⟨rfl, rfl⟩ ?_
      refine x_iload_n (pc := 82) C dX0_playShow_82 rfl ?_
      refine x_iconst (pc := 83) C (0) dX0_playShow_83 (by decide) ?_
      refine x_iast (pc := 84) (o := 14) C dX0_playShow_84 (hI 14 rfl) ⟨rfl, rfl⟩ (show _ < 24 by omega) (by decide) ?_
      refine x_aload_n (pc := 85) C dX0_playShow_85 rfl ?_
      refine x_getR (pc := 86) (o := 12) (j := 16) C f_X0_21 dX0_playShow_86 (hI 12 rfl) ⟨rfl, rfl⟩ ?_
      refine x_iload_n (pc := 89) C dX0_playShow_89 rfl ?_
      refine x_iconst (pc := 90) C (0) dX0_playShow_90 (by decide) ?_
      refine x_zast (pc := 91) (o := 16) C dX0_playShow_91 (rfl) (hI 16 rfl) ⟨rfl, rfl⟩ (show _ < 24 by omega) (by decide) ?_
      exact x_vret (pc := 92) C hQ dX0_playShow_92 (is_v (by unfold psV; exact (if_pos (by first | exact dr_1 (F := CF V) h63 | exact dr_2 (F := CF V) h68)).symm)) (Nat.le_of_ble_eq_true rfl) (Nat.le_of_ble_eq_true rfl)
