set_option maxRecDepth 100000 in
set_option maxHeartbeats 4000000 in
theorem c_X3_firstTapeTime {l : Launch} {V : VV} {L : LL} {N : NN} {I : List Nat} (hI : PI I) {n : Nat} (hn : V 20 7 = nI n) (hn24 : n ≤ 24) (g : Nat) (hg : g < 6) (d ln : Int32) : Runs l 4 0 0 yX3_firstTapeTime (Cond.code yX3_firstTapeTime cX3_firstTapeTime 4 (some .int)) [aR 20, aI (nI g), aI d, aI ln] V L N I (Is (some (aI (tapeT (CF V) (V 21) (V 22 g + V 23 g) n (nI g) d ln))) (V) (L) N I) := by
  refine run_of RX3 (by decide +kernel) rfl (Nat.le_of_ble_eq_true rfl) (fun E hE C hQ hN => ?_)
  subst hE
  refine x_aload_n (pc := 0) C dX3_firstTapeTime_0 rfl ?_
  refine x_getI (pc := 1) (o := 20) C f_X3_67 dX3_firstTapeTime_1 (hI 20 rfl) ⟨rfl, rfl, rfl⟩ ?_
  refine x_topi (nI n) hn ?_
  refine x_bipush (pc := 4) C (24) dX3_firstTapeTime_4 (by decide) ?_
  refine x_icmp_ge (pc := 6) (tgt := 28) C dX3_firstTapeTime_6 (by decide) (fun h6 => ?_) (fun h6 => ?_)
  · refine x_iconst (pc := 28) C (-1) dX3_firstTapeTime_28 (by decide) ?_
    exact x_iret (pc := 29) C hQ dX3_firstTapeTime_29 (is_i (by rw [tapeT, if_pos (by first | exact Or.inl (ge24q hn24 h6) | exact Or.inr (Or.inl (b2i_d (by assumption))) | exact Or.inr (Or.inr (b2i_t (by assumption))))])) (Nat.le_of_ble_eq_true rfl) (Nat.le_of_ble_eq_true rfl)
  · refine x_aload_n (pc := 9) C dX3_firstTapeTime_9 rfl ?_
    refine x_iload_n (pc := 10) C dX3_firstTapeTime_10 rfl ?_
    refine x_iload_n (pc := 11) C dX3_firstTapeTime_11 rfl ?_
    refine x_cV2 (pc := 12) (o := 20) C v_X3_109 dX3_firstTapeTime_12 (c_X3_exceedsAllowance hI hn hn24 g hg _) (hI 20 rfl) rfl (by decide) rfl ⟨Nat.le_refl _, Nat.le_refl _⟩ ?_
    refine x_if_ne (pc := 15) (tgt := 28) C dX3_firstTapeTime_15 (by decide) (fun h15 => ?_) (fun h15 => ?_)
    · refine x_iconst (pc := 28) C (-1) dX3_firstTapeTime_28 (by decide) ?_
      exact x_iret (pc := 29) C hQ dX3_firstTapeTime_29 (is_i (by rw [tapeT, if_pos (by first | exact Or.inl (ge24q hn24 h6) | exact Or.inr (Or.inl (b2i_d (by assumption))) | exact Or.inr (Or.inr (b2i_t (by assumption))))])) (Nat.le_of_ble_eq_true rfl) (Nat.le_of_ble_eq_true rfl)
    · refine x_aload_n (pc := 18) C dX3_firstTapeTime_18 rfl ?_
      refine x_iload_n (pc := 19) C dX3_firstTapeTime_19 rfl ?_
      refine x_iconst (pc := 20) C (0) dX3_firstTapeTime_20 (by decide) ?_
      refine x_iconst (pc := 21) C (0) dX3_firstTapeTime_21 (by decide) ?_
      refine x_cV3 (pc := 22) (o := 20) C v_X3_115 dX3_firstTapeTime_22 (c_X3_exceedsSponsorLimit hI hn hn24 _ _ _) (hI 20 rfl) rfl (by decide) rfl ⟨Nat.le_refl _, Nat.le_refl _⟩ ?_
      refine x_if_eq (pc := 25) (tgt := 30) C dX3_firstTapeTime_25 (by decide) (fun h25 => ?_) (fun h25 => ?_)
      · refine x_aload_n (pc := 30) C dX3_firstTapeTime_30 rfl ?_
        refine x_iload_n (pc := 31) C dX3_firstTapeTime_31 rfl ?_
        refine x_iload_n (pc := 32) C dX3_firstTapeTime_32 rfl ?_
        refine x_iconst (pc := 33) C (0) dX3_firstTapeTime_33 (by decide) ?_
        refine x_cV3 (pc := 34) (o := 20) C v_X3_128 dX3_firstTapeTime_34 (c_X3_firstFreeStart hI hn hn24 _ _ _) (hI 20 rfl) rfl (by decide) rfl ⟨Nat.le_refl _, Nat.le_refl _⟩ ?_
        exact x_iret (pc := 37) C hQ dX3_firstTapeTime_37 (is_i (by rw [tapeT, if_neg (not_or.mpr ⟨lt24q h6, not_or.mpr ⟨b2i_nd h15, b2i_n h25⟩⟩)])) (Nat.le_of_ble_eq_true rfl) (Nat.le_of_ble_eq_true rfl)
      · refine x_iconst (pc := 28) C (-1) dX3_firstTapeTime_28 (by decide) ?_
        exact x_iret (pc := 29) C hQ dX3_firstTapeTime_29 (is_i (by rw [tapeT, if_pos (by first | exact Or.inl (ge24q hn24 h6) | exact Or.inr (Or.inl (b2i_d (by assumption))) | exact Or.inr (Or.inr (b2i_t (by assumption))))])) (Nat.le_of_ble_eq_true rfl) (Nat.le_of_ble_eq_true rfl)
set_option maxRecDepth 100000 in
set_option maxHeartbeats 4000000 in
theorem c_X3_firstRepeatTime {l : Launch} {V : VV} {L : LL} {N : NN} {I : List Nat} (hI : PI I) {n : Nat} (hn : V 20 7 = nI n) (hn24 : n ≤ 24) (o : Nat) (ho : o < n) {g : Nat} (hg : V 30 o = nI g) (hg6 : g < 6) : Runs l 4 0 0 yX3_firstRepeatTime (Cond.code yX3_firstRepeatTime cX3_firstRepeatTime 5 (some .int)) [aR 20, aI (nI o)] V L N I (Is (some (aI (repT (CF V) (V 21) (V 22 g + V 23 g) n o))) (V) (L) N I) := by
  refine run_of RX3 (by decide +kernel) rfl (Nat.le_of_ble_eq_true rfl) (fun E hE C hQ hN => ?_)
  subst hE
  refine x_aload_n (pc := 0) C dX3_firstRepeatTime_0 rfl ?_
  refine x_getR (pc := 1) (o := 20) (j := 33) C f_X3_42 dX3_firstRepeatTime_1 (hI 20 rfl) ⟨rfl, rfl⟩ ?_
  refine x_iload_n (pc := 4) C dX3_firstRepeatTime_4 rfl ?_
  refine x_iald (pc := 5) (o := 33) C dX3_firstRepeatTime_5 (hI 33 rfl) ⟨rfl, rfl⟩ (show _ < 24 by omega) (by decide) ?_
  refine y_istore_n (pc := 6) C dX3_firstRepeatTime_6 (by decide) rfl ?_
  refine x_aload_n (pc := 7) C dX3_firstRepeatTime_7 rfl ?_
  refine x_getI (pc := 8) (o := 20) C f_X3_67 dX3_firstRepeatTime_8 (hI 20 rfl) ⟨rfl, rfl, rfl⟩ ?_
  refine x_topi (nI n) hn ?_
  refine x_bipush (pc := 11) C (24) dX3_firstRepeatTime_11 (by decide) ?_
  refine x_icmp_ge (pc := 13) (tgt := 45) C dX3_firstRepeatTime_13 (by decide) (fun h13 => ?_) (fun h13 => ?_)
  · refine x_iconst (pc := 45) C (-1) dX3_firstRepeatTime_45 (by decide) ?_
    exact x_iret (pc := 46) C hQ dX3_firstRepeatTime_46 (is_i (by rw [repT, show CF V 1 o = nI g from hg, if_pos (by first | exact Or.inl (ge24q hn24 h13) | exact Or.inr (Or.inl (by assumption)) | exact Or.inr (Or.inr (b2i_d (by assumption))))])) (Nat.le_of_ble_eq_true rfl) (Nat.le_of_ble_eq_true rfl)
  · refine x_aload_n (pc := 16) C dX3_firstRepeatTime_16 rfl ?_
    refine x_getR (pc := 17) (o := 20) (j := 29) C f_X3_30 dX3_firstRepeatTime_17 (hI 20 rfl) ⟨rfl, rfl⟩ ?_
    refine x_iload_n (pc := 20) C dX3_firstRepeatTime_20 rfl ?_
    refine x_iald (pc := 21) (o := 29) C dX3_firstRepeatTime_21 (hI 29 rfl) ⟨rfl, rfl⟩ (show _ < 24 by omega) (by decide) ?_
    refine x_iconst (pc := 22) C (2) dX3_firstRepeatTime_22 (by decide) ?_
    refine x_icmp_eq (pc := 23) (tgt := 45) C dX3_firstRepeatTime_23 (by decide) (fun h23 => ?_) (fun h23 => ?_)
    · refine x_iconst (pc := 45) C (-1) dX3_firstRepeatTime_45 (by decide) ?_
      exact x_iret (pc := 46) C hQ dX3_firstRepeatTime_46 (is_i (by rw [repT, show CF V 1 o = nI g from hg, if_pos (by first | exact Or.inl (ge24q hn24 h13) | exact Or.inr (Or.inl (by assumption)) | exact Or.inr (Or.inr (b2i_d (by assumption))))])) (Nat.le_of_ble_eq_true rfl) (Nat.le_of_ble_eq_true rfl)
    · refine x_aload_n (pc := 26) C dX3_firstRepeatTime_26 rfl ?_
      refine x_aload_n (pc := 27) C dX3_firstRepeatTime_27 rfl ?_
      refine x_getR (pc := 28) (o := 20) (j := 30) C f_X3_33 dX3_firstRepeatTime_28 (hI 20 rfl) ⟨rfl, rfl⟩ ?_
      refine x_iload_n (pc := 31) C dX3_firstRepeatTime_31 rfl ?_
      refine x_iald (pc := 32) (o := 30) C dX3_firstRepeatTime_32 (hI 30 rfl) ⟨rfl, rfl⟩ (show _ < 24 by omega) (by decide) ?_
      refine x_topi (nI g) hg ?_
      refine x_aload_n (pc := 33) C dX3_firstRepeatTime_33 rfl ?_
      refine x_iconst (pc := 34) C (2) dX3_firstRepeatTime_34 (by decide) ?_
      refine x_iload_n (pc := 35) C dX3_firstRepeatTime_35 rfl ?_
      refine x_cV2 (pc := 36) (o := 20) C v_X3_70 dX3_firstRepeatTime_36 (c_X3_worth hI _ _) (hI 20 rfl) rfl (by decide) rfl ⟨Nat.le_refl _, Nat.le_refl _⟩ ?_
      refine x_cV2 (pc := 39) (o := 20) C v_X3_109 dX3_firstRepeatTime_39 (c_X3_exceedsAllowance hI hn hn24 g hg6 _) (hI 20 rfl) rfl (by decide) rfl ⟨Nat.le_refl _, Nat.le_refl _⟩ ?_
      refine x_if_eq (pc := 42) (tgt := 47) C dX3_firstRepeatTime_42 (by decide) (fun h42 => ?_) (fun h42 => ?_)
      · refine x_iconst (pc := 47) C (0) dX3_firstRepeatTime_47 (by decide) ?_
        refine y_istore_n (pc := 48) C dX3_firstRepeatTime_48 (by decide) rfl ?_
        have hT : repT (CF V) (V 21) (V 22 g + V 23 g) n o = repD (CF V) (V 21) n o 7 0 := by unfold repT; rw [show CF V 1 o = nI g from hg]; exact if_neg (not_or.mpr ⟨lt24q h13, not_or.mpr ⟨h23, b2i_nd h42⟩⟩)
        suffices key : ∀ (k i : Nat) , k + i = 7 → (repD (CF V) (V 21) n o 7 0 = repD (CF V) (V 21) n o k i) → Wx E 49 [some (aR 20), some (aI (nI o)), some (aI (V 33 o)), some (aI (nI i)), none] [] V L N I 0 0 by
          exact key (7) 0  (by omega) (rfl)
        intro k
        induction k with
        | zero =>
          intro i  hk hinv
          refine x_iload_n (pc := 49) C dX3_firstRepeatTime_49 rfl ?_
          refine x_bipush (pc := 50) C (7) dX3_firstRepeatTime_50 (by decide) ?_
          refine x_icmp_ge (pc := 52) (tgt := 105) C dX3_firstRepeatTime_52 (by decide) (fun h52 => ?_) (fun h52 => absurd (by exact nI_le (a := 7) (b := i) (by omega) (by omega)) h52)
          refine x_iconst (pc := 105) C (-1) dX3_firstRepeatTime_105 (by decide) ?_
          exact x_iret (pc := 106) C hQ dX3_firstRepeatTime_106 (is_i (by rw [hT, hinv]; rfl)) (Nat.le_of_ble_eq_true rfl) (Nat.le_of_ble_eq_true rfl)
        | succ k ih =>
          intro i  hk hinv
          refine x_iload_n (pc := 49) C dX3_firstRepeatTime_49 rfl ?_
          refine x_bipush (pc := 50) C (7) dX3_firstRepeatTime_50 (by decide) ?_
          refine x_icmp_ge (pc := 52) (tgt := 105) C dX3_firstRepeatTime_52 (by decide) (fun h52 => absurd h52 (by exact nI_ge (a := i) (b := 7) (by omega) (by omega))) (fun h52 => ?_)
          refine x_aload_n (pc := 55) C dX3_firstRepeatTime_55 rfl ?_
          refine x_iload_n (pc := 56) C dX3_firstRepeatTime_56 rfl ?_
          refine x_iload_n (pc := 57) C dX3_firstRepeatTime_57 rfl ?_
          refine x_aload_n (pc := 58) C dX3_firstRepeatTime_58 rfl ?_
          refine x_iload_n (pc := 59) C dX3_firstRepeatTime_59 rfl ?_
          refine x_cV1 (pc := 60) (o := 20) C v_X3_105 dX3_firstRepeatTime_60 (c_X3_earliestRepeat hI o (by omega)) (hI 20 rfl) rfl (by decide) rfl ⟨Nat.le_refl _, Nat.le_refl _⟩ ?_
          refine x_sipush (pc := 63) C (1440) dX3_firstRepeatTime_63 (by decide) ?_
          refine x_iload_n (pc := 66) C dX3_firstRepeatTime_66 rfl ?_
          refine x_imul (pc := 67) C dX3_firstRepeatTime_67 ?_
          refine x_isub (pc := 68) C dX3_firstRepeatTime_68 ?_
          refine x_cV3 (pc := 69) (o := 20) C v_X3_128 dX3_firstRepeatTime_69 (c_X3_firstFreeStart hI hn hn24 _ _ _) (hI 20 rfl) rfl (by decide) rfl ⟨Nat.le_refl _, Nat.le_refl _⟩ ?_
          refine y_istore (pc := 72) C dX3_firstRepeatTime_72 (by decide) rfl ?_
          refine x_iload (pc := 74) C dX3_firstRepeatTime_74 rfl ?_
          refine x_iconst (pc := 76) C (-1) dX3_firstRepeatTime_76 (by decide) ?_
          refine x_icmp_eq (pc := 77) (tgt := 99) C dX3_firstRepeatTime_77 (by decide) (fun h77 => ?_) (fun h77 => ?_)
          · refine y_iinc (pc := 99) C (nI (i + 1)) dX3_firstRepeatTime_99 rfl (by exact nI_1 i) (by decide) rfl ?_
            refine x_goto (pc := 102) (tgt := 49) C dX3_firstRepeatTime_102 (by decide) ?_
            refine x_fgt 4 ?_
            exact ih (i + 1)  (by omega) (by rw [hinv, repD, if_neg (by first | exact fun q => q.1 h77 | exact fun q => b2i_nf h87 q.2)])
          · refine x_aload_n (pc := 80) C dX3_firstRepeatTime_80 rfl ?_
            refine x_iload_n (pc := 81) C dX3_firstRepeatTime_81 rfl ?_
            refine x_iconst (pc := 82) C (0) dX3_firstRepeatTime_82 (by decide) ?_
            refine x_iconst (pc := 83) C (0) dX3_firstRepeatTime_83 (by decide) ?_
            refine x_cV3 (pc := 84) (o := 20) C v_X3_115 dX3_firstRepeatTime_84 (c_X3_exceedsSponsorLimit hI hn hn24 _ _ _) (hI 20 rfl) rfl (by decide) rfl ⟨Nat.le_refl _, Nat.le_refl _⟩ ?_
            refine x_if_ne (pc := 87) (tgt := 99) C dX3_firstRepeatTime_87 (by decide) (fun h87 => ?_) (fun h87 => ?_)
            · refine y_iinc (pc := 99) C (nI (i + 1)) dX3_firstRepeatTime_99 rfl (by exact nI_1 i) (by decide) rfl ?_
              refine x_goto (pc := 102) (tgt := 49) C dX3_firstRepeatTime_102 (by decide) ?_
              refine x_fgt 4 ?_
              exact ih (i + 1)  (by omega) (by rw [hinv, repD, if_neg (by first | exact fun q => q.1 h77 | exact fun q => b2i_nf h87 q.2)])
            · refine x_sipush (pc := 90) C (1440) dX3_firstRepeatTime_90 (by decide) ?_
              refine x_iload_n (pc := 93) C dX3_firstRepeatTime_93 rfl ?_
              refine x_imul (pc := 94) C dX3_firstRepeatTime_94 ?_
              refine x_iload (pc := 95) C dX3_firstRepeatTime_95 rfl ?_
              refine x_iadd (pc := 97) C dX3_firstRepeatTime_97 ?_
              exact x_iret (pc := 98) C hQ dX3_firstRepeatTime_98 (is_i (by rw [hT, hinv, repD, if_pos ⟨h77, b2i_f h87⟩]; rfl)) (Nat.le_of_ble_eq_true rfl) (Nat.le_of_ble_eq_true rfl)
      · refine x_iconst (pc := 45) C (-1) dX3_firstRepeatTime_45 (by decide) ?_
        exact x_iret (pc := 46) C hQ dX3_firstRepeatTime_46 (is_i (by rw [repT, show CF V 1 o = nI g from hg, if_pos (by first | exact Or.inl (ge24q hn24 h13) | exact Or.inr (Or.inl (by assumption)) | exact Or.inr (Or.inr (b2i_d (by assumption))))])) (Nat.le_of_ble_eq_true rfl) (Nat.le_of_ble_eq_true rfl)
set_option maxRecDepth 100000 in
set_option maxHeartbeats 4000000 in
theorem c_X3_refusal {l : Launch} {V : VV} {L : LL} {N : NN} {I : List Nat} (hI : PI I) {n : Nat} (hn : V 20 7 = nI n) (hn24 : n ≤ 24) {g o : Nat} (hk : V 5 0 = 2 → V 5 6 = nI o ∧ o < n) (hg : V 5 1 = nI g) (hg6 : g < 6) : Runs l 4 0 0 yX3_refusal (Cond.code yX3_refusal cX3_refusal 3 (some .int)) [aR 20, aR 5] V L N I (Is (some (aI (refS (CF V) (V 21) (V 22 g + V 23 g) n (V 5 0) (nI g) (V 5 2) (V 5 3) (V 5 4) (V 5 5) o))) (V) (L) N I) := by
  refine run_of RX3 (by decide +kernel) rfl (Nat.le_of_ble_eq_true rfl) (fun E hE C hQ hN => ?_)
  subst hE
  refine x_aload_n (pc := 0) C dX3_refusal_0 rfl ?_
  refine x_getI (pc := 1) (o := 5) C f_X3_93 dX3_refusal_1 (hI 5 rfl) ⟨rfl, rfl, rfl⟩ ?_
  refine x_iconst (pc := 4) C (2) dX3_refusal_4 (by decide) ?_
  refine x_icmp_ne (pc := 5) (tgt := 23) C dX3_refusal_5 (by decide) (fun h5 => ?_) (fun h5 => ?_)
  · refine x_iconst (pc := 23) C (0) dX3_refusal_23 (by decide) ?_
    refine y_istore_n (pc := 24) C dX3_refusal_24 (by decide) rfl ?_
    refine x_aload_n (pc := 25) C dX3_refusal_25 rfl ?_
    refine x_getI (pc := 26) (o := 20) C f_X3_67 dX3_refusal_26 (hI 20 rfl) ⟨rfl, rfl, rfl⟩ ?_
    refine x_topi (nI n) hn ?_
    refine x_bipush (pc := 29) C (24) dX3_refusal_29 (by decide) ?_
    refine x_icmp_lt (pc := 31) (tgt := 36) C dX3_refusal_31 (by decide) (fun h31 => ?_) (fun h31 => ?_)
    · refine x_iload_n (pc := 36) C dX3_refusal_36 rfl ?_
      refine x_if_eq (pc := 37) (tgt := 55) C dX3_refusal_37 (by decide) (fun h37 => ?_) (fun h37 => absurd (by decide) h37)
      refine x_aload_n (pc := 55) C dX3_refusal_55 rfl ?_
      refine x_getI (pc := 56) (o := 5) C f_X3_96 dX3_refusal_56 (hI 5 rfl) ⟨rfl, rfl, rfl⟩ ?_
      refine x_aload_n (pc := 59) C dX3_refusal_59 rfl ?_
      refine x_getR (pc := 60) (o := 20) (j := 21) C f_X3_9 dX3_refusal_60 (hI 20 rfl) ⟨rfl, rfl⟩ ?_
      refine x_iconst (pc := 63) C (0) dX3_refusal_63 (by decide) ?_
      refine x_topi (nI 0) (by decide) ?_
      refine x_iald (pc := 64) (o := 21) C dX3_refusal_64 (hI 21 rfl) ⟨rfl, rfl⟩ (show _ < 8 by decide) (by decide) ?_
      refine x_icmp_lt (pc := 65) (tgt := 86) C dX3_refusal_65 (by decide) (fun h65 => ?_) (fun h65 => ?_)
      · refine x_iconst (pc := 86) C (3) dX3_refusal_86 (by decide) ?_
        exact x_iret (pc := 87) C hQ dX3_refusal_87 (is_i (by rw [refS, if_neg (lt24 h31), if_neg (by first | exact fun q => h5 q.1 | exact fun q => h50 q.2), if_pos (by first | exact Or.inl h65 | exact Or.inr (Int32.not_le.mp h83))])) (Nat.le_of_ble_eq_true rfl) (Nat.le_of_ble_eq_true rfl)
      · refine x_aload_n (pc := 68) C dX3_refusal_68 rfl ?_
        refine x_getI (pc := 69) (o := 5) C f_X3_96 dX3_refusal_69 (hI 5 rfl) ⟨rfl, rfl, rfl⟩ ?_
        refine x_aload_n (pc := 72) C dX3_refusal_72 rfl ?_
        refine x_getI (pc := 73) (o := 5) C f_X3_90 dX3_refusal_73 (hI 5 rfl) ⟨rfl, rfl, rfl⟩ ?_
        refine x_iadd (pc := 76) C dX3_refusal_76 ?_
        refine x_aload_n (pc := 77) C dX3_refusal_77 rfl ?_
        refine x_getR (pc := 78) (o := 20) (j := 21) C f_X3_9 dX3_refusal_78 (hI 20 rfl) ⟨rfl, rfl⟩ ?_
        refine x_iconst (pc := 81) C (1) dX3_refusal_81 (by decide) ?_
        refine x_topi (nI 1) (by decide) ?_
        refine x_iald (pc := 82) (o := 21) C dX3_refusal_82 (hI 21 rfl) ⟨rfl, rfl⟩ (show _ < 8 by decide) (by decide) ?_
        refine x_icmp_le (pc := 83) (tgt := 88) C dX3_refusal_83 (by decide) (fun h83 => ?_) (fun h83 => ?_)
        · refine x_aload_n (pc := 88) C dX3_refusal_88 rfl ?_
          refine x_aload_n (pc := 89) C dX3_refusal_89 rfl ?_
          refine x_getI (pc := 90) (o := 5) C f_X3_99 dX3_refusal_90 (hI 5 rfl) ⟨rfl, rfl, rfl⟩ ?_
          refine x_aload_n (pc := 93) C dX3_refusal_93 rfl ?_
          refine x_getI (pc := 94) (o := 5) C f_X3_96 dX3_refusal_94 (hI 5 rfl) ⟨rfl, rfl, rfl⟩ ?_
          refine x_aload_n (pc := 97) C dX3_refusal_97 rfl ?_
          refine x_getI (pc := 98) (o := 5) C f_X3_90 dX3_refusal_98 (hI 5 rfl) ⟨rfl, rfl, rfl⟩ ?_
          refine x_cV3 (pc := 101) (o := 20) C v_X3_102 dX3_refusal_101 (c_X3_showInTheWay hI hn hn24 _ _ _) (hI 20 rfl) rfl (by decide) rfl ⟨Nat.le_refl _, Nat.le_refl _⟩ ?_
          refine x_iconst (pc := 104) C (-1) dX3_refusal_104 (by decide) ?_
          refine x_icmp_eq (pc := 105) (tgt := 110) C dX3_refusal_105 (by decide) (fun h105 => ?_) (fun h105 => ?_)
          · refine x_iload_n (pc := 110) C dX3_refusal_110 rfl ?_
            refine x_if_eq (pc := 111) (tgt := 140) C dX3_refusal_111 (by decide) (fun h111 => ?_) (fun h111 => absurd (by decide) h111)
            refine x_aload_n (pc := 140) C dX3_refusal_140 rfl ?_
            refine x_aload_n (pc := 141) C dX3_refusal_141 rfl ?_
            refine x_getI (pc := 142) (o := 5) C f_X3_87 dX3_refusal_142 (hI 5 rfl) ⟨rfl, rfl, rfl⟩ ?_
            refine x_topi (nI g) hg ?_
            refine x_aload_n (pc := 145) C dX3_refusal_145 rfl ?_
            refine x_aload_n (pc := 146) C dX3_refusal_146 rfl ?_
            refine x_getI (pc := 147) (o := 5) C f_X3_93 dX3_refusal_147 (hI 5 rfl) ⟨rfl, rfl, rfl⟩ ?_
            refine x_aload_n (pc := 150) C dX3_refusal_150 rfl ?_
            refine x_getI (pc := 151) (o := 5) C f_X3_90 dX3_refusal_151 (hI 5 rfl) ⟨rfl, rfl, rfl⟩ ?_
            refine x_cV2 (pc := 154) (o := 20) C v_X3_70 dX3_refusal_154 (c_X3_worth hI _ _) (hI 20 rfl) rfl (by decide) rfl ⟨Nat.le_refl _, Nat.le_refl _⟩ ?_
            refine x_cV2 (pc := 157) (o := 20) C v_X3_109 dX3_refusal_157 (c_X3_exceedsAllowance hI hn hn24 g hg6 _) (hI 20 rfl) rfl (by decide) rfl ⟨Nat.le_refl _, Nat.le_refl _⟩ ?_
            refine x_if_eq (pc := 160) (tgt := 166) C dX3_refusal_160 (by decide) (fun h160 => ?_) (fun h160 => ?_)
            · refine x_aload_n (pc := 166) C dX3_refusal_166 rfl ?_
              refine x_aload_n (pc := 167) C dX3_refusal_167 rfl ?_
              refine x_getI (pc := 168) (o := 5) C f_X3_99 dX3_refusal_168 (hI 5 rfl) ⟨rfl, rfl, rfl⟩ ?_
              refine x_aload_n (pc := 171) C dX3_refusal_171 rfl ?_
              refine x_getI (pc := 172) (o := 5) C f_X3_96 dX3_refusal_172 (hI 5 rfl) ⟨rfl, rfl, rfl⟩ ?_
              refine x_aload_n (pc := 175) C dX3_refusal_175 rfl ?_
              refine x_getI (pc := 176) (o := 5) C f_X3_113 dX3_refusal_176 (hI 5 rfl) ⟨rfl, rfl, rfl⟩ ?_
              refine x_cV3 (pc := 179) (o := 20) C v_X3_115 dX3_refusal_179 (c_X3_exceedsSponsorLimit hI hn hn24 _ _ _) (hI 20 rfl) rfl (by decide) rfl ⟨Nat.le_refl _, Nat.le_refl _⟩ ?_
              refine x_if_eq (pc := 182) (tgt := 190) C dX3_refusal_182 (by decide) (fun h182 => ?_) (fun h182 => ?_)
              · refine x_iconst (pc := 190) C (0) dX3_refusal_190 (by decide) ?_
                exact x_iret (pc := 191) C hQ dX3_refusal_191 (is_i (by rw [refS, if_neg (lt24 h31), if_neg (by first | exact fun q => h5 q.1 | exact fun q => h50 q.2), if_neg (not_or.mpr ⟨h65, Int32.not_lt.mpr h83⟩), if_neg (o2i_ns (by omega) h105), if_neg (by first | exact fun q => h5 q.1 | exact fun q => absurd q.2 (Int32.not_lt.mpr h135)), if_neg (b2i_nd h160)]; first | rw [if_pos (b2i_t h182)] | rw [if_neg (b2i_n h182)])) (Nat.le_of_ble_eq_true rfl) (Nat.le_of_ble_eq_true rfl)
              · refine x_bipush (pc := 185) C (7) dX3_refusal_185 (by decide) ?_
                refine x_goto (pc := 187) (tgt := 191) C dX3_refusal_187 (by decide) ?_
                exact x_iret (pc := 191) C hQ dX3_refusal_191 (is_i (by rw [refS, if_neg (lt24 h31), if_neg (by first | exact fun q => h5 q.1 | exact fun q => h50 q.2), if_neg (not_or.mpr ⟨h65, Int32.not_lt.mpr h83⟩), if_neg (o2i_ns (by omega) h105), if_neg (by first | exact fun q => h5 q.1 | exact fun q => absurd q.2 (Int32.not_lt.mpr h135)), if_neg (b2i_nd h160)]; first | rw [if_pos (b2i_t h182)] | rw [if_neg (b2i_n h182)])) (Nat.le_of_ble_eq_true rfl) (Nat.le_of_ble_eq_true rfl)
            · refine x_bipush (pc := 163) C (6) dX3_refusal_163 (by decide) ?_
              exact x_iret (pc := 165) C hQ dX3_refusal_165 (is_i (by rw [refS, if_neg (lt24 h31), if_neg (by first | exact fun q => h5 q.1 | exact fun q => h50 q.2), if_neg (not_or.mpr ⟨h65, Int32.not_lt.mpr h83⟩), if_neg (o2i_ns (by omega) h105), if_neg (by first | exact fun q => h5 q.1 | exact fun q => absurd q.2 (Int32.not_lt.mpr h135)), if_pos (b2i_d h160)])) (Nat.le_of_ble_eq_true rfl) (Nat.le_of_ble_eq_true rfl)
          · refine x_iconst (pc := 108) C (4) dX3_refusal_108 (by decide) ?_
            exact x_iret (pc := 109) C hQ dX3_refusal_109 (is_i (by rw [refS, if_neg (lt24 h31), if_neg (by first | exact fun q => h5 q.1 | exact fun q => h50 q.2), if_neg (not_or.mpr ⟨h65, Int32.not_lt.mpr h83⟩), if_pos (o2i_is h105)])) (Nat.le_of_ble_eq_true rfl) (Nat.le_of_ble_eq_true rfl)
        · refine x_iconst (pc := 86) C (3) dX3_refusal_86 (by decide) ?_
          exact x_iret (pc := 87) C hQ dX3_refusal_87 (is_i (by rw [refS, if_neg (lt24 h31), if_neg (by first | exact fun q => h5 q.1 | exact fun q => h50 q.2), if_pos (by first | exact Or.inl h65 | exact Or.inr (Int32.not_le.mp h83))])) (Nat.le_of_ble_eq_true rfl) (Nat.le_of_ble_eq_true rfl)
    · refine x_iconst (pc := 34) C (1) dX3_refusal_34 (by decide) ?_
      exact x_iret (pc := 35) C hQ dX3_refusal_35 (is_i (by rw [refS, if_pos (ge24 hn24 h31)])) (Nat.le_of_ble_eq_true rfl) (Nat.le_of_ble_eq_true rfl)
  · have hko := (hk h5).1
    have hkl := (hk h5).2
    refine x_aload_n (pc := 8) C dX3_refusal_8 rfl ?_
    refine x_aload_n (pc := 9) C dX3_refusal_9 rfl ?_
    refine x_getI (pc := 10) (o := 5) C f_X3_78 dX3_refusal_10 (hI 5 rfl) ⟨rfl, rfl, rfl⟩ ?_
    refine x_topi (nI o) hko ?_
    refine x_cV1 (pc := 13) (o := 20) C v_X3_83 dX3_refusal_13 (c_X3_hasShow hI hn hn24 _) (hI 20 rfl) rfl (by decide) rfl ⟨Nat.le_refl _, Nat.le_refl _⟩ ?_
    refine x_if_eq (pc := 16) (tgt := 23) C dX3_refusal_16 (by decide) (fun h16 => absurd h16 (by rw [b2i_c ⟨nI_pos (by omega), nI_lt hkl (by omega)⟩]; decide)) (fun h16 => ?_)
    refine x_iconst (pc := 19) C (1) dX3_refusal_19 (by decide) ?_
    refine x_goto (pc := 20) (tgt := 24) C dX3_refusal_20 (by decide) ?_
    refine y_istore_n (pc := 24) C dX3_refusal_24 (by decide) rfl ?_
    refine x_aload_n (pc := 25) C dX3_refusal_25 rfl ?_
    refine x_getI (pc := 26) (o := 20) C f_X3_67 dX3_refusal_26 (hI 20 rfl) ⟨rfl, rfl, rfl⟩ ?_
    refine x_topi (nI n) hn ?_
    refine x_bipush (pc := 29) C (24) dX3_refusal_29 (by decide) ?_
    refine x_icmp_lt (pc := 31) (tgt := 36) C dX3_refusal_31 (by decide) (fun h31 => ?_) (fun h31 => ?_)
    · refine x_iload_n (pc := 36) C dX3_refusal_36 rfl ?_
      refine x_if_eq (pc := 37) (tgt := 55) C dX3_refusal_37 (by decide) (fun h37 => absurd h37 (by decide)) (fun h37 => ?_)
      refine x_aload_n (pc := 40) C dX3_refusal_40 rfl ?_
      refine x_getR (pc := 41) (o := 20) (j := 29) C f_X3_30 dX3_refusal_41 (hI 20 rfl) ⟨rfl, rfl⟩ ?_
      refine x_aload_n (pc := 44) C dX3_refusal_44 rfl ?_
      refine x_getI (pc := 45) (o := 5) C f_X3_78 dX3_refusal_45 (hI 5 rfl) ⟨rfl, rfl, rfl⟩ ?_
      refine x_topi (nI o) hko ?_
      refine x_iald (pc := 48) (o := 29) C dX3_refusal_48 (hI 29 rfl) ⟨rfl, rfl⟩ (show _ < 24 by omega) (by decide) ?_
      refine x_iconst (pc := 49) C (2) dX3_refusal_49 (by decide) ?_
      refine x_icmp_ne (pc := 50) (tgt := 55) C dX3_refusal_50 (by decide) (fun h50 => ?_) (fun h50 => ?_)
      · refine x_aload_n (pc := 55) C dX3_refusal_55 rfl ?_
        refine x_getI (pc := 56) (o := 5) C f_X3_96 dX3_refusal_56 (hI 5 rfl) ⟨rfl, rfl, rfl⟩ ?_
        refine x_aload_n (pc := 59) C dX3_refusal_59 rfl ?_
        refine x_getR (pc := 60) (o := 20) (j := 21) C f_X3_9 dX3_refusal_60 (hI 20 rfl) ⟨rfl, rfl⟩ ?_
        refine x_iconst (pc := 63) C (0) dX3_refusal_63 (by decide) ?_
        refine x_topi (nI 0) (by decide) ?_
        refine x_iald (pc := 64) (o := 21) C dX3_refusal_64 (hI 21 rfl) ⟨rfl, rfl⟩ (show _ < 8 by decide) (by decide) ?_
        refine x_icmp_lt (pc := 65) (tgt := 86) C dX3_refusal_65 (by decide) (fun h65 => ?_) (fun h65 => ?_)
        · refine x_iconst (pc := 86) C (3) dX3_refusal_86 (by decide) ?_
          exact x_iret (pc := 87) C hQ dX3_refusal_87 (is_i (by rw [refS, if_neg (lt24 h31), if_neg (by first | exact fun q => h5 q.1 | exact fun q => h50 q.2), if_pos (by first | exact Or.inl h65 | exact Or.inr (Int32.not_le.mp h83))])) (Nat.le_of_ble_eq_true rfl) (Nat.le_of_ble_eq_true rfl)
        · refine x_aload_n (pc := 68) C dX3_refusal_68 rfl ?_
          refine x_getI (pc := 69) (o := 5) C f_X3_96 dX3_refusal_69 (hI 5 rfl) ⟨rfl, rfl, rfl⟩ ?_
          refine x_aload_n (pc := 72) C dX3_refusal_72 rfl ?_
          refine x_getI (pc := 73) (o := 5) C f_X3_90 dX3_refusal_73 (hI 5 rfl) ⟨rfl, rfl, rfl⟩ ?_
          refine x_iadd (pc := 76) C dX3_refusal_76 ?_
          refine x_aload_n (pc := 77) C dX3_refusal_77 rfl ?_
          refine x_getR (pc := 78) (o := 20) (j := 21) C f_X3_9 dX3_refusal_78 (hI 20 rfl) ⟨rfl, rfl⟩ ?_
          refine x_iconst (pc := 81) C (1) dX3_refusal_81 (by decide) ?_
          refine x_topi (nI 1) (by decide) ?_
          refine x_iald (pc := 82) (o := 21) C dX3_refusal_82 (hI 21 rfl) ⟨rfl, rfl⟩ (show _ < 8 by decide) (by decide) ?_
          refine x_icmp_le (pc := 83) (tgt := 88) C dX3_refusal_83 (by decide) (fun h83 => ?_) (fun h83 => ?_)
          · refine x_aload_n (pc := 88) C dX3_refusal_88 rfl ?_
            refine x_aload_n (pc := 89) C dX3_refusal_89 rfl ?_
            refine x_getI (pc := 90) (o := 5) C f_X3_99 dX3_refusal_90 (hI 5 rfl) ⟨rfl, rfl, rfl⟩ ?_
            refine x_aload_n (pc := 93) C dX3_refusal_93 rfl ?_
            refine x_getI (pc := 94) (o := 5) C f_X3_96 dX3_refusal_94 (hI 5 rfl) ⟨rfl, rfl, rfl⟩ ?_
            refine x_aload_n (pc := 97) C dX3_refusal_97 rfl ?_
            refine x_getI (pc := 98) (o := 5) C f_X3_90 dX3_refusal_98 (hI 5 rfl) ⟨rfl, rfl, rfl⟩ ?_
            refine x_cV3 (pc := 101) (o := 20) C v_X3_102 dX3_refusal_101 (c_X3_showInTheWay hI hn hn24 _ _ _) (hI 20 rfl) rfl (by decide) rfl ⟨Nat.le_refl _, Nat.le_refl _⟩ ?_
            refine x_iconst (pc := 104) C (-1) dX3_refusal_104 (by decide) ?_
            refine x_icmp_eq (pc := 105) (tgt := 110) C dX3_refusal_105 (by decide) (fun h105 => ?_) (fun h105 => ?_)
            · refine x_iload_n (pc := 110) C dX3_refusal_110 rfl ?_
              refine x_if_eq (pc := 111) (tgt := 140) C dX3_refusal_111 (by decide) (fun h111 => absurd h111 (by decide)) (fun h111 => ?_)
              refine x_sipush (pc := 114) C (1440) dX3_refusal_114 (by decide) ?_
              refine x_aload_n (pc := 117) C dX3_refusal_117 rfl ?_
              refine x_getI (pc := 118) (o := 5) C f_X3_99 dX3_refusal_118 (hI 5 rfl) ⟨rfl, rfl, rfl⟩ ?_
              refine x_imul (pc := 121) C dX3_refusal_121 ?_
              refine x_aload_n (pc := 122) C dX3_refusal_122 rfl ?_
              refine x_getI (pc := 123) (o := 5) C f_X3_96 dX3_refusal_123 (hI 5 rfl) ⟨rfl, rfl, rfl⟩ ?_
              refine x_iadd (pc := 126) C dX3_refusal_126 ?_
              refine x_aload_n (pc := 127) C dX3_refusal_127 rfl ?_
              refine x_aload_n (pc := 128) C dX3_refusal_128 rfl ?_
              refine x_getI (pc := 129) (o := 5) C f_X3_78 dX3_refusal_129 (hI 5 rfl) ⟨rfl, rfl, rfl⟩ ?_
              refine x_topi (nI o) hko ?_
              refine x_cV1 (pc := 132) (o := 20) C v_X3_105 dX3_refusal_132 (c_X3_earliestRepeat hI o (by omega)) (hI 20 rfl) rfl (by decide) rfl ⟨Nat.le_refl _, Nat.le_refl _⟩ ?_
              refine x_icmp_ge (pc := 135) (tgt := 140) C dX3_refusal_135 (by decide) (fun h135 => ?_) (fun h135 => ?_)
              · refine x_aload_n (pc := 140) C dX3_refusal_140 rfl ?_
                refine x_aload_n (pc := 141) C dX3_refusal_141 rfl ?_
                refine x_getI (pc := 142) (o := 5) C f_X3_87 dX3_refusal_142 (hI 5 rfl) ⟨rfl, rfl, rfl⟩ ?_
                refine x_topi (nI g) hg ?_
                refine x_aload_n (pc := 145) C dX3_refusal_145 rfl ?_
                refine x_aload_n (pc := 146) C dX3_refusal_146 rfl ?_
                refine x_getI (pc := 147) (o := 5) C f_X3_93 dX3_refusal_147 (hI 5 rfl) ⟨rfl, rfl, rfl⟩ ?_
                refine x_aload_n (pc := 150) C dX3_refusal_150 rfl ?_
                refine x_getI (pc := 151) (o := 5) C f_X3_90 dX3_refusal_151 (hI 5 rfl) ⟨rfl, rfl, rfl⟩ ?_
                refine x_cV2 (pc := 154) (o := 20) C v_X3_70 dX3_refusal_154 (c_X3_worth hI _ _) (hI 20 rfl) rfl (by decide) rfl ⟨Nat.le_refl _, Nat.le_refl _⟩ ?_
                refine x_cV2 (pc := 157) (o := 20) C v_X3_109 dX3_refusal_157 (c_X3_exceedsAllowance hI hn hn24 g hg6 _) (hI 20 rfl) rfl (by decide) rfl ⟨Nat.le_refl _, Nat.le_refl _⟩ ?_
                refine x_if_eq (pc := 160) (tgt := 166) C dX3_refusal_160 (by decide) (fun h160 => ?_) (fun h160 => ?_)
                · refine x_aload_n (pc := 166) C dX3_refusal_166 rfl ?_
                  refine x_aload_n (pc := 167) C dX3_refusal_167 rfl ?_
                  refine x_getI (pc := 168) (o := 5) C f_X3_99 dX3_refusal_168 (hI 5 rfl) ⟨rfl, rfl, rfl⟩ ?_
                  refine x_aload_n (pc := 171) C dX3_refusal_171 rfl ?_
                  refine x_getI (pc := 172) (o := 5) C f_X3_96 dX3_refusal_172 (hI 5 rfl) ⟨rfl, rfl, rfl⟩ ?_
                  refine x_aload_n (pc := 175) C dX3_refusal_175 rfl ?_
                  refine x_getI (pc := 176) (o := 5) C f_X3_113 dX3_refusal_176 (hI 5 rfl) ⟨rfl, rfl, rfl⟩ ?_
                  refine x_cV3 (pc := 179) (o := 20) C v_X3_115 dX3_refusal_179 (c_X3_exceedsSponsorLimit hI hn hn24 _ _ _) (hI 20 rfl) rfl (by decide) rfl ⟨Nat.le_refl _, Nat.le_refl _⟩ ?_
                  refine x_if_eq (pc := 182) (tgt := 190) C dX3_refusal_182 (by decide) (fun h182 => ?_) (fun h182 => ?_)
                  · refine x_iconst (pc := 190) C (0) dX3_refusal_190 (by decide) ?_
                    exact x_iret (pc := 191) C hQ dX3_refusal_191 (is_i (by rw [refS, if_neg (lt24 h31), if_neg (by first | exact fun q => h5 q.1 | exact fun q => h50 q.2), if_neg (not_or.mpr ⟨h65, Int32.not_lt.mpr h83⟩), if_neg (o2i_ns (by omega) h105), if_neg (by first | exact fun q => h5 q.1 | exact fun q => absurd q.2 (Int32.not_lt.mpr h135)), if_neg (b2i_nd h160)]; first | rw [if_pos (b2i_t h182)] | rw [if_neg (b2i_n h182)])) (Nat.le_of_ble_eq_true rfl) (Nat.le_of_ble_eq_true rfl)
                  · refine x_bipush (pc := 185) C (7) dX3_refusal_185 (by decide) ?_
                    refine x_goto (pc := 187) (tgt := 191) C dX3_refusal_187 (by decide) ?_
                    exact x_iret (pc := 191) C hQ dX3_refusal_191 (is_i (by rw [refS, if_neg (lt24 h31), if_neg (by first | exact fun q => h5 q.1 | exact fun q => h50 q.2), if_neg (not_or.mpr ⟨h65, Int32.not_lt.mpr h83⟩), if_neg (o2i_ns (by omega) h105), if_neg (by first | exact fun q => h5 q.1 | exact fun q => absurd q.2 (Int32.not_lt.mpr h135)), if_neg (b2i_nd h160)]; first | rw [if_pos (b2i_t h182)] | rw [if_neg (b2i_n h182)])) (Nat.le_of_ble_eq_true rfl) (Nat.le_of_ble_eq_true rfl)
                · refine x_bipush (pc := 163) C (6) dX3_refusal_163 (by decide) ?_
                  exact x_iret (pc := 165) C hQ dX3_refusal_165 (is_i (by rw [refS, if_neg (lt24 h31), if_neg (by first | exact fun q => h5 q.1 | exact fun q => h50 q.2), if_neg (not_or.mpr ⟨h65, Int32.not_lt.mpr h83⟩), if_neg (o2i_ns (by omega) h105), if_neg (by first | exact fun q => h5 q.1 | exact fun q => absurd q.2 (Int32.not_lt.mpr h135)), if_pos (b2i_d h160)])) (Nat.le_of_ble_eq_true rfl) (Nat.le_of_ble_eq_true rfl)
              · refine x_iconst (pc := 138) C (5) dX3_refusal_138 (by decide) ?_
                exact x_iret (pc := 139) C hQ dX3_refusal_139 (is_i (by rw [refS, if_neg (lt24 h31), if_neg (by first | exact fun q => h5 q.1 | exact fun q => h50 q.2), if_neg (not_or.mpr ⟨h65, Int32.not_lt.mpr h83⟩), if_neg (o2i_ns (by omega) h105), if_pos ⟨h5, Int32.not_le.mp h135⟩])) (Nat.le_of_ble_eq_true rfl) (Nat.le_of_ble_eq_true rfl)
            · refine x_iconst (pc := 108) C (4) dX3_refusal_108 (by decide) ?_
              exact x_iret (pc := 109) C hQ dX3_refusal_109 (is_i (by rw [refS, if_neg (lt24 h31), if_neg (by first | exact fun q => h5 q.1 | exact fun q => h50 q.2), if_neg (not_or.mpr ⟨h65, Int32.not_lt.mpr h83⟩), if_pos (o2i_is h105)])) (Nat.le_of_ble_eq_true rfl) (Nat.le_of_ble_eq_true rfl)
          · refine x_iconst (pc := 86) C (3) dX3_refusal_86 (by decide) ?_
            exact x_iret (pc := 87) C hQ dX3_refusal_87 (is_i (by rw [refS, if_neg (lt24 h31), if_neg (by first | exact fun q => h5 q.1 | exact fun q => h50 q.2), if_pos (by first | exact Or.inl h65 | exact Or.inr (Int32.not_le.mp h83))])) (Nat.le_of_ble_eq_true rfl) (Nat.le_of_ble_eq_true rfl)
      · refine x_iconst (pc := 53) C (2) dX3_refusal_53 (by decide) ?_
        exact x_iret (pc := 54) C hQ dX3_refusal_54 (is_i (by rw [refS, if_neg (lt24 h31), if_pos ⟨h5, h50⟩])) (Nat.le_of_ble_eq_true rfl) (Nat.le_of_ble_eq_true rfl)
    · refine x_iconst (pc := 34) C (1) dX3_refusal_34 (by decide) ?_
      exact x_iret (pc := 35) C hQ dX3_refusal_35 (is_i (by rw [refS, if_pos (ge24 hn24 h31)])) (Nat.le_of_ble_eq_true rfl) (Nat.le_of_ble_eq_true rfl)
set_option maxRecDepth 100000 in
set_option maxHeartbeats 4000000 in
theorem c_X3_numberFor {l : Launch} {V : VV} {L : LL} {N : NN} {I : List Nat} (hI : PI I) {n : Nat} (hn : V 20 7 = nI n) (hn24 : n ≤ 24) (d st : Int32) : Runs l 1 0 0 yX3_numberFor (Cond.code yX3_numberFor cX3_numberFor 5 (some .int)) [aR 20, aI d, aI st] V L N I (Is (some (aI (nI (cntN (befS (CF V) d st) n)))) (V) (L) N I) := by
  refine run_of RX3 (by decide +kernel) rfl (Nat.le_of_ble_eq_true rfl) (fun E hE C hQ hN => ?_)
  subst hE
  refine x_iconst (pc := 0) C (0) dX3_numberFor_0 (by decide) ?_
  refine y_istore_n (pc := 1) C dX3_numberFor_1 (by decide) rfl ?_
  refine x_iconst (pc := 2) C (0) dX3_numberFor_2 (by decide) ?_
  refine y_istore (pc := 3) C dX3_numberFor_3 (by decide) rfl ?_
  suffices key : ∀ (k i : Nat) (j : Nat), k + i = n → (j = cntN (befS (CF V) d st) i) → Wx E 5 [some (aR 20), some (aI d), some (aI st), some (aI (nI j)), some (aI (nI i))] [] V L N I 0 0 by
    exact key (n) 0 0 (by omega) (rfl)
  intro k
  induction k with
  | zero =>
    intro i j hk hinv
    refine x_iload (pc := 5) C dX3_numberFor_5 rfl ?_
    refine x_aload_n (pc := 7) C dX3_numberFor_7 rfl ?_
    refine x_getI (pc := 8) (o := 20) C f_X3_67 dX3_numberFor_8 (hI 20 rfl) ⟨rfl, rfl, rfl⟩ ?_
    refine x_topi (nI n) hn ?_
    refine x_icmp_ge (pc := 11) (tgt := 56) C dX3_numberFor_11 (by decide) (fun h11 => ?_) (fun h11 => absurd (by exact nI_le (by omega) (by omega)) h11)
    refine x_iload_n (pc := 56) C dX3_numberFor_56 rfl ?_
    exact x_iret (pc := 57) C hQ dX3_numberFor_57 (is_i (by rw [hinv]; congr 2; omega)) (Nat.le_of_ble_eq_true rfl) (Nat.le_of_ble_eq_true rfl)
  | succ k ih =>
    intro i j hk hinv
    refine x_iload (pc := 5) C dX3_numberFor_5 rfl ?_
    refine x_aload_n (pc := 7) C dX3_numberFor_7 rfl ?_
    refine x_getI (pc := 8) (o := 20) C f_X3_67 dX3_numberFor_8 (hI 20 rfl) ⟨rfl, rfl, rfl⟩ ?_
    refine x_topi (nI n) hn ?_
    refine x_icmp_ge (pc := 11) (tgt := 56) C dX3_numberFor_11 (by decide) (fun h11 => absurd h11 (by exact nI_ge (by omega) (by omega))) (fun h11 => ?_)
    refine x_aload_n (pc := 14) C dX3_numberFor_14 rfl ?_
    refine x_getR (pc := 15) (o := 20) (j := 31) C f_X3_36 dX3_numberFor_15 (hI 20 rfl) ⟨rfl, rfl⟩ ?_
    refine x_iload (pc := 18) C dX3_numberFor_18 rfl ?_
    refine x_iald (pc := 20) (o := 31) C dX3_numberFor_20 (hI 31 rfl) ⟨rfl, rfl⟩ (show _ < 24 by omega) (by decide) ?_
    refine x_iload_n (pc := 21) C dX3_numberFor_21 rfl ?_
    refine x_icmp_lt (pc := 22) (tgt := 47) C dX3_numberFor_22 (by decide) (fun h22 => ?_) (fun h22 => ?_)
    · refine y_iinc (pc := 47) C (nI (j + 1)) dX3_numberFor_47 rfl (by exact nI_1 j) (by decide) rfl ?_
      refine y_iinc (pc := 50) C (nI (i + 1)) dX3_numberFor_50 rfl (by exact nI_1 i) (by decide) rfl ?_
      refine x_goto (pc := 53) (tgt := 5) C dX3_numberFor_53 (by decide) ?_
      exact ih (i + 1) _ (by omega) (by first | rw [cntN, if_pos (by first | exact bef_1 (F := CF V) h22 | exact bef_2 (F := CF V) h33 h44), ← hinv] | rw [cntN, if_neg (by first | exact bef_3 (F := CF V) h22 h33 | exact bef_4 (F := CF V) h22 h44), ← hinv])
    · refine x_aload_n (pc := 25) C dX3_numberFor_25 rfl ?_
      refine x_getR (pc := 26) (o := 20) (j := 31) C f_X3_36 dX3_numberFor_26 (hI 20 rfl) ⟨rfl, rfl⟩ ?_
      refine x_iload (pc := 29) C dX3_numberFor_29 rfl ?_
      refine x_iald (pc := 31) (o := 31) C dX3_numberFor_31 (hI 31 rfl) ⟨rfl, rfl⟩ (show _ < 24 by omega) (by decide) ?_
      refine x_iload_n (pc := 32) C dX3_numberFor_32 rfl ?_
      refine x_icmp_ne (pc := 33) (tgt := 50) C dX3_numberFor_33 (by decide) (fun h33 => ?_) (fun h33 => ?_)
      · refine y_iinc (pc := 50) C (nI (i + 1)) dX3_numberFor_50 rfl (by exact nI_1 i) (by decide) rfl ?_
        refine x_goto (pc := 53) (tgt := 5) C dX3_numberFor_53 (by decide) ?_
        exact ih (i + 1) _ (by omega) (by first | rw [cntN, if_pos (by first | exact bef_1 (F := CF V) h22 | exact bef_2 (F := CF V) h33 h44), ← hinv] | rw [cntN, if_neg (by first | exact bef_3 (F := CF V) h22 h33 | exact bef_4 (F := CF V) h22 h44), ← hinv])
      · refine x_aload_n (pc := 36) C dX3_numberFor_36 rfl ?_
        refine x_getR (pc := 37) (o := 20) (j := 32) C f_X3_39 dX3_numberFor_37 (hI 20 rfl) ⟨rfl, rfl⟩ ?_
        refine x_iload (pc := 40) C dX3_numberFor_40 rfl ?_
        refine x_iald (pc := 42) (o := 32) C dX3_numberFor_42 (hI 32 rfl) ⟨rfl, rfl⟩ (show _ < 24 by omega) (by decide) ?_
        refine x_iload_n (pc := 43) C dX3_numberFor_43 rfl ?_
        refine x_icmp_ge (pc := 44) (tgt := 50) C dX3_numberFor_44 (by decide) (fun h44 => ?_) (fun h44 => ?_)
        · refine y_iinc (pc := 50) C (nI (i + 1)) dX3_numberFor_50 rfl (by exact nI_1 i) (by decide) rfl ?_
          refine x_goto (pc := 53) (tgt := 5) C dX3_numberFor_53 (by decide) ?_
          exact ih (i + 1) _ (by omega) (by first | rw [cntN, if_pos (by first | exact bef_1 (F := CF V) h22 | exact bef_2 (F := CF V) h33 h44), ← hinv] | rw [cntN, if_neg (by first | exact bef_3 (F := CF V) h22 h33 | exact bef_4 (F := CF V) h22 h44), ← hinv])
        · refine y_iinc (pc := 47) C (nI (j + 1)) dX3_numberFor_47 rfl (by exact nI_1 j) (by decide) rfl ?_
          refine y_iinc (pc := 50) C (nI (i + 1)) dX3_numberFor_50 rfl (by exact nI_1 i) (by decide) rfl ?_
          refine x_goto (pc := 53) (tgt := 5) C dX3_numberFor_53 (by decide) ?_
          exact ih (i + 1) _ (by omega) (by first | rw [cntN, if_pos (by first | exact bef_1 (F := CF V) h22 | exact bef_2 (F := CF V) h33 h44), ← hinv] | rw [cntN, if_neg (by first | exact bef_3 (F := CF V) h22 h33 | exact bef_4 (F := CF V) h22 h44), ← hinv])
set_option maxRecDepth 100000 in
set_option maxHeartbeats 4000000 in
theorem c_X4_become {l : Launch} {V : VV} {L : LL} {N : NN} {I : List Nat} (hI : PI I) (k g d s l2 sp : Int32) : Runs l 1 0 0 yX4_become (Cond.code yX4_become cX4_become 7 none) [aR 5, aI k, aI g, aI d, aI s, aI l2, aI sp] V L N I (Is none (becomeV V k g d s l2 sp (-1)) (L) N I) := by
  refine run_of RX4 (by decide +kernel) rfl (Nat.le_of_ble_eq_true rfl) (fun E hE C hQ hN => ?_)
  subst hE
  refine x_aload_n (pc := 0) C dX4_become_0 rfl ?_
  refine x_iload_n (pc := 1) C dX4_become_1 rfl ?_
  refine x_putI (pc := 2) (o := 5) C p_X4_9 dX4_become_2 (hI 5 rfl) ⟨rfl, rfl, rfl⟩ ?_
  refine x_aload_n (pc := 5) C dX4_become_5 rfl ?_
  refine x_iload_n (pc := 6) C dX4_become_6 rfl ?_
  refine x_putI (pc := 7) (o := 5) C p_X4_15 dX4_become_7 (hI 5 rfl) ⟨rfl, rfl, rfl⟩ ?_
  refine x_aload_n (pc := 10) C dX4_become_10 rfl ?_
  refine x_iload_n (pc := 11) C dX4_become_11 rfl ?_
  refine x_putI (pc := 12) (o := 5) C p_X4_18 dX4_become_12 (hI 5 rfl) ⟨rfl, rfl, rfl⟩ ?_
  refine x_aload_n (pc := 15) C dX4_become_15 rfl ?_
  refine x_iload (pc := 16) C dX4_become_16 rfl ?_
  refine x_putI (pc := 18) (o := 5) C p_X4_21 dX4_become_18 (hI 5 rfl) ⟨rfl, rfl, rfl⟩ ?_
  refine x_aload_n (pc := 21) C dX4_become_21 rfl ?_
  refine x_iload (pc := 22) C dX4_become_22 rfl ?_
  refine x_putI (pc := 24) (o := 5) C p_X4_24 dX4_become_24 (hI 5 rfl) ⟨rfl, rfl, rfl⟩ ?_
  refine x_aload_n (pc := 27) C dX4_become_27 rfl ?_
  refine x_iload (pc := 28) C dX4_become_28 rfl ?_
  refine x_putI (pc := 30) (o := 5) C p_X4_27 dX4_become_30 (hI 5 rfl) ⟨rfl, rfl, rfl⟩ ?_
  refine x_aload_n (pc := 33) C dX4_become_33 rfl ?_
  refine x_iconst (pc := 34) C (-1) dX4_become_34 (by decide) ?_
  refine x_putI (pc := 35) (o := 5) C p_X4_30 dX4_become_35 (hI 5 rfl) ⟨rfl, rfl, rfl⟩ ?_
  exact x_vret (pc := 38) C hQ dX4_become_38 (is_v rfl) (Nat.le_of_ble_eq_true rfl) (Nat.le_of_ble_eq_true rfl)
set_option maxRecDepth 100000 in
set_option maxHeartbeats 4000000 in
theorem c_X4_becomeRepeat {l : Launch} {V : VV} {L : LL} {N : NN} {I : List Nat} (hI : PI I) (o d s : Int32) : Runs l 2 0 0 yX4_becomeRepeat (Cond.code yX4_becomeRepeat cX4_becomeRepeat 4 none) [aR 5, aI o, aI d, aI s] V L N I (Is none (becomeV V 2 0 d s 0 0 o) (L) N I) := by
  refine run_of RX4 (by decide +kernel) rfl (Nat.le_of_ble_eq_true rfl) (fun E hE C hQ hN => ?_)
  subst hE
  refine x_aload_n (pc := 0) C dX4_becomeRepeat_0 rfl ?_
  refine x_iconst (pc := 1) C (2) dX4_becomeRepeat_1 (by decide) ?_
  refine x_iconst (pc := 2) C (0) dX4_becomeRepeat_2 (by decide) ?_
  refine x_iload_n (pc := 3) C dX4_becomeRepeat_3 rfl ?_
  refine x_iload_n (pc := 4) C dX4_becomeRepeat_4 rfl ?_
  refine x_iconst (pc := 5) C (0) dX4_becomeRepeat_5 (by decide) ?_
  refine x_iconst (pc := 6) C (0) dX4_becomeRepeat_6 (by decide) ?_
  refine x_cV6 (pc := 7) (o := 5) C v_X4_33 dX4_becomeRepeat_7 (c_X4_become hI _ _ _ _ _ _) (hI 5 rfl) rfl (by decide) rfl ⟨Nat.le_refl _, Nat.le_refl _⟩ ?_
  refine x_aload_n (pc := 10) C dX4_becomeRepeat_10 rfl ?_
  refine x_iload_n (pc := 11) C dX4_becomeRepeat_11 rfl ?_
  refine x_putI (pc := 12) (o := 5) C p_X4_30 dX4_becomeRepeat_12 (hI 5 rfl) ⟨rfl, rfl, rfl⟩ ?_
  exact x_vret (pc := 15) C hQ dX4_becomeRepeat_15 (is_v (by unfold becomeV; exact up_up)) (Nat.le_of_ble_eq_true rfl) (Nat.le_of_ble_eq_true rfl)
set_option maxRecDepth 100000 in
set_option maxHeartbeats 4000000 in
theorem c_X4_isInRange {l : Launch} {V : VV} {L : LL} {N : NN} {I : List Nat} (hI : PI I) : Runs l 2 0 0 yX4_isInRange (Cond.code yX4_isInRange cX4_isInRange 1 (some .boolean)) [aR 5] V L N I (Is (some (aI (b2i (rangeB (V 5 1) (V 5 2) (V 5 3) (V 5 4) (V 5 5))))) (V) (L) N I) := by
  refine run_of RX4 (by decide +kernel) rfl (Nat.le_of_ble_eq_true rfl) (fun E hE C hQ hN => ?_)
  subst hE
  refine x_aload_n (pc := 0) C dX4_isInRange_0 rfl ?_
  refine x_getI (pc := 1) (o := 5) C f_X4_15 dX4_isInRange_1 (hI 5 rfl) ⟨rfl, rfl, rfl⟩ ?_
  refine x_iconst (pc := 4) C (0) dX4_isInRange_4 (by decide) ?_
  refine x_iconst (pc := 5) C (5) dX4_isInRange_5 (by decide) ?_
  refine x_cN3 (pc := 6) C n_X4_37 dX4_isInRange_6 (c_X6_isWithin _ _ _) (by decide) rfl ⟨Nat.le_refl _, Nat.le_refl _⟩ ?_
  refine x_if_eq (pc := 9) (tgt := 77) C dX4_isInRange_9 (by decide) (fun h9 => ?_) (fun h9 => ?_)
  · refine x_iconst (pc := 77) C (0) dX4_isInRange_77 (by decide) ?_
    exact x_zret (pc := 78) C hQ dX4_isInRange_78 (by decide) (is_i (by simp_all [b2i, rangeB, minF])) (Nat.le_of_ble_eq_true rfl) (Nat.le_of_ble_eq_true rfl)
  · refine x_aload_n (pc := 12) C dX4_isInRange_12 rfl ?_
    refine x_getI (pc := 13) (o := 5) C f_X4_18 dX4_isInRange_13 (hI 5 rfl) ⟨rfl, rfl, rfl⟩ ?_
    refine x_iconst (pc := 16) C (0) dX4_isInRange_16 (by decide) ?_
    refine x_bipush (pc := 17) C (6) dX4_isInRange_17 (by decide) ?_
    refine x_cN3 (pc := 19) C n_X4_37 dX4_isInRange_19 (c_X6_isWithin _ _ _) (by decide) rfl ⟨Nat.le_refl _, Nat.le_refl _⟩ ?_
    refine x_if_eq (pc := 22) (tgt := 77) C dX4_isInRange_22 (by decide) (fun h22 => ?_) (fun h22 => ?_)
    · refine x_iconst (pc := 77) C (0) dX4_isInRange_77 (by decide) ?_
      exact x_zret (pc := 78) C hQ dX4_isInRange_78 (by decide) (is_i (by simp_all [b2i, rangeB, minF])) (Nat.le_of_ble_eq_true rfl) (Nat.le_of_ble_eq_true rfl)
    · refine x_aload_n (pc := 25) C dX4_isInRange_25 rfl ?_
      refine x_getI (pc := 26) (o := 5) C f_X4_21 dX4_isInRange_26 (hI 5 rfl) ⟨rfl, rfl, rfl⟩ ?_
      refine x_iconst (pc := 29) C (0) dX4_isInRange_29 (by decide) ?_
      refine x_sipush (pc := 30) C (1439) dX4_isInRange_30 (by decide) ?_
      refine x_cN3 (pc := 33) C n_X4_37 dX4_isInRange_33 (c_X6_isWithin _ _ _) (by decide) rfl ⟨Nat.le_refl _, Nat.le_refl _⟩ ?_
      refine x_if_eq (pc := 36) (tgt := 77) C dX4_isInRange_36 (by decide) (fun h36 => ?_) (fun h36 => ?_)
      · refine x_iconst (pc := 77) C (0) dX4_isInRange_77 (by decide) ?_
        exact x_zret (pc := 78) C hQ dX4_isInRange_78 (by decide) (is_i (by simp_all [b2i, rangeB, minF])) (Nat.le_of_ble_eq_true rfl) (Nat.le_of_ble_eq_true rfl)
      · refine x_aload_n (pc := 39) C dX4_isInRange_39 rfl ?_
        refine x_getI (pc := 40) (o := 5) C f_X4_24 dX4_isInRange_40 (hI 5 rfl) ⟨rfl, rfl, rfl⟩ ?_
        refine x_iconst (pc := 43) C (5) dX4_isInRange_43 (by decide) ?_
        refine x_sipush (pc := 44) C (240) dX4_isInRange_44 (by decide) ?_
        refine x_cN3 (pc := 47) C n_X4_37 dX4_isInRange_47 (c_X6_isWithin _ _ _) (by decide) rfl ⟨Nat.le_refl _, Nat.le_refl _⟩ ?_
        refine x_if_eq (pc := 50) (tgt := 77) C dX4_isInRange_50 (by decide) (fun h50 => ?_) (fun h50 => ?_)
        · refine x_iconst (pc := 77) C (0) dX4_isInRange_77 (by decide) ?_
          exact x_zret (pc := 78) C hQ dX4_isInRange_78 (by decide) (is_i (by simp_all [b2i, rangeB, minF])) (Nat.le_of_ble_eq_true rfl) (Nat.le_of_ble_eq_true rfl)
        · refine x_aload_n (pc := 53) C dX4_isInRange_53 rfl ?_
          refine x_getI (pc := 54) (o := 5) C f_X4_27 dX4_isInRange_54 (hI 5 rfl) ⟨rfl, rfl, rfl⟩ ?_
          refine x_iconst (pc := 57) C (0) dX4_isInRange_57 (by decide) ?_
          refine x_bipush (pc := 58) C (30) dX4_isInRange_58 (by decide) ?_
          refine x_aload_n (pc := 60) C dX4_isInRange_60 rfl ?_
          refine x_getI (pc := 61) (o := 5) C f_X4_24 dX4_isInRange_61 (hI 5 rfl) ⟨rfl, rfl, rfl⟩ ?_
          refine x_mmin (pc := 64) C q_X4_41 dX4_isInRange_64 (by decide) (Nat.le_of_ble_eq_true rfl) ⟨Nat.le_refl _, Nat.le_refl _⟩ ?_ mm_min.1 mm_min.2.1 mm_min.2.2
          refine x_cN3 (pc := 67) C n_X4_37 dX4_isInRange_67 (c_X6_isWithin _ _ _) (by decide) rfl ⟨Nat.le_refl _, Nat.le_refl _⟩ ?_
          refine x_if_eq (pc := 70) (tgt := 77) C dX4_isInRange_70 (by decide) (fun h70 => ?_) (fun h70 => ?_)
          · refine x_iconst (pc := 77) C (0) dX4_isInRange_77 (by decide) ?_
            exact x_zret (pc := 78) C hQ dX4_isInRange_78 (by decide) (is_i (by simp_all [b2i, rangeB, minF])) (Nat.le_of_ble_eq_true rfl) (Nat.le_of_ble_eq_true rfl)
          · refine x_iconst (pc := 73) C (1) dX4_isInRange_73 (by decide) ?_
            refine x_goto (pc := 74) (tgt := 78) C dX4_isInRange_74 (by decide) ?_
            exact x_zret (pc := 78) C hQ dX4_isInRange_78 (by decide) (is_i (by simp_all [b2i, rangeB, minF])) (Nat.le_of_ble_eq_true rfl) (Nat.le_of_ble_eq_true rfl)
set_option maxRecDepth 100000 in
set_option maxHeartbeats 4000000 in
theorem c_X3_inheritFromOriginal {l : Launch} {V : VV} {L : LL} {N : NN} {I : List Nat} (hI : PI I) {n : Nat} (hn : V 20 7 = nI n) (hn24 : n ≤ 24) : Runs l 2 0 0 yX3_inheritFromOriginal (Cond.code yX3_inheritFromOriginal cX3_inheritFromOriginal 2 (some .boolean)) [aR 20, aR 5] V L N I (Is (some (aI (b2i (decide (¬ V 5 6 < 0 ∧ V 5 6 < nI n))))) (if ¬ V 5 6 < 0 ∧ V 5 6 < nI n then up (up V 5 1 (V 30 (V 5 6).toNatClampNeg)) 5 4 (V 33 (V 5 6).toNatClampNeg) else V) (L) N I) := by
  refine run_of RX3 (by decide +kernel) rfl (Nat.le_of_ble_eq_true rfl) (fun E hE C hQ hN => ?_)
  subst hE
  refine x_aload_n (pc := 0) C dX3_inheritFromOriginal_0 rfl ?_
  refine x_aload_n (pc := 1) C dX3_inheritFromOriginal_1 rfl ?_
  refine x_getI (pc := 2) (o := 5) C f_X3_78 dX3_inheritFromOriginal_2 (hI 5 rfl) ⟨rfl, rfl, rfl⟩ ?_
  refine x_cV1 (pc := 5) (o := 20) C v_X3_83 dX3_inheritFromOriginal_5 (c_X3_hasShow hI hn hn24 _) (hI 20 rfl) rfl (by decide) rfl ⟨Nat.le_refl _, Nat.le_refl _⟩ ?_
  refine x_if_ne (pc := 8) (tgt := 13) C dX3_inheritFromOriginal_8 (by decide) (fun h8 => ?_) (fun h8 => ?_)
  · have hy := b2i_y h8
    obtain ⟨o, ho1, ho2⟩ := nI_in_of hy.1 hy.2 hn24
    refine x_aload_n (pc := 13) C dX3_inheritFromOriginal_13 rfl ?_
    refine x_aload_n (pc := 14) C dX3_inheritFromOriginal_14 rfl ?_
    refine x_getR (pc := 15) (o := 20) (j := 30) C f_X3_33 dX3_inheritFromOriginal_15 (hI 20 rfl) ⟨rfl, rfl⟩ ?_
    refine x_aload_n (pc := 18) C dX3_inheritFromOriginal_18 rfl ?_
    refine x_getI (pc := 19) (o := 5) C f_X3_78 dX3_inheritFromOriginal_19 (hI 5 rfl) ⟨rfl, rfl, rfl⟩ ?_
    refine x_topi (nI o) ho1 ?_
    refine x_iald (pc := 22) (o := 30) C dX3_inheritFromOriginal_22 (hI 30 rfl) ⟨rfl, rfl⟩ (show _ < 24 by omega) (by decide) ?_
    refine x_putI (pc := 23) (o := 5) C p_X3_87 dX3_inheritFromOriginal_23 (hI 5 rfl) ⟨rfl, rfl, rfl⟩ ?_
    refine x_aload_n (pc := 26) C dX3_inheritFromOriginal_26 rfl ?_
    refine x_aload_n (pc := 27) C dX3_inheritFromOriginal_27 rfl ?_
    refine x_getR (pc := 28) (o := 20) (j := 33) C f_X3_42 dX3_inheritFromOriginal_28 (hI 20 rfl) ⟨rfl, rfl⟩ ?_
    refine x_aload_n (pc := 31) C dX3_inheritFromOriginal_31 rfl ?_
    refine x_getI (pc := 32) (o := 5) C f_X3_78 dX3_inheritFromOriginal_32 (hI 5 rfl) ⟨rfl, rfl, rfl⟩ ?_
    refine x_topi (nI o) ho1 ?_
    refine x_iald (pc := 35) (o := 33) C dX3_inheritFromOriginal_35 (hI 33 rfl) ⟨rfl, rfl⟩ (show _ < 24 by omega) (by decide) ?_
    refine x_putI (pc := 36) (o := 5) C p_X3_90 dX3_inheritFromOriginal_36 (hI 5 rfl) ⟨rfl, rfl, rfl⟩ ?_
    refine x_iconst (pc := 39) C (1) dX3_inheritFromOriginal_39 (by decide) ?_
    exact x_zret (pc := 40) C hQ dX3_inheritFromOriginal_40 (by decide) (is_iv (by rw [b2i_c hy]) (by rw [if_pos hy, ho1, nI_clamp (by omega)]; rfl)) (Nat.le_of_ble_eq_true rfl) (Nat.le_of_ble_eq_true rfl)
  · refine x_iconst (pc := 11) C (0) dX3_inheritFromOriginal_11 (by decide) ?_
    exact x_zret (pc := 12) C hQ dX3_inheritFromOriginal_12 (by decide) (is_iv h8.symm (by rw [if_neg (b2i_nd h8)])) (Nat.le_of_ble_eq_true rfl) (Nat.le_of_ble_eq_true rfl)
