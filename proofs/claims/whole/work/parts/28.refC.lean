set_option maxRecDepth 100000 in
set_option maxHeartbeats 4000000 in
theorem c_X7_dayNow {l : Launch} {V : VV} {L : LL} {N : NN} {I : List Nat} (hI : PI I) {n : Nat} (hn : V 201 39 = nI n) (hn24 : n ≤ 24) (d : Int32) (w : Nat) (hw : w < 8) : Runs l 4 0 0 yX7_dayNow (Cond.code yX7_dayNow cX7_dayNow 5 (some .int)) [aR 200, aI d, aI (nI w)] V L N I (Pm (some (aI (dN V n d w))) (fun V1 => LayI V V1 d n) L N I) := by
  refine run_of RX7 (by decide +kernel) rfl (Nat.le_of_ble_eq_true rfl) (fun E hE C hQ hN => ?_)
  subst hE
  refine x_aload_n (pc := 0) C dX7_dayNow_0 rfl ?_
  refine x_iload_n (pc := 1) C dX7_dayNow_1 rfl ?_
  refine x_pV1 (pc := 2) (o := 200) C v_X7_91 dX7_dayNow_2 (c_X7_layDay hI hn hn24 _) (hI 200 rfl) rfl (by decide) rfl ⟨Nat.le_refl _, Nat.le_refl _⟩ (fun V1 hV1 => ?_)
  refine x_iload_n (pc := 5) C dX7_dayNow_5 rfl ?_
  refine x_bipush (pc := 6) C (6) dX7_dayNow_6 (by decide) ?_
  refine x_icmp_ne (pc := 8) (tgt := 16) C dX7_dayNow_8 (by decide) (fun h8 => ?_) (fun h8 => ?_)
  · have hn1 : V1 201 39 = nI n := by rw [hV1.1.z]; exact hn
    have J65 : ∀ x, Wx E 65 [some (aR 200), some (aI d), some (aI (nI w)), some (aI (if w = 7 then hrsR (RF V1) (LF V1) (V1 201 6) n d else 0)), x] [] V1 L N I 0 0 := by
      intro x
      refine x_iconst (pc := 65) C (0) dX7_dayNow_65 (by decide) ?_
      refine y_istore (pc := 66) C dX7_dayNow_66 (by decide) rfl ?_
      suffices key : ∀ (k i : Nat) (s : Int32), k + i = n → (s = dayR.sumTo2 (if w = 7 then hrsR (RF V1) (LF V1) (V1 201 6) n d else 0) (fun s => if RF V1 2 s = d then partR (RF V1) (LF V1) w s else 0) i) → Wx E 68 [some (aR 200), some (aI d), some (aI (nI w)), some (aI s), some (aI (nI i))] [] V1 L N I 0 0 by
        exact key (n) 0 _ (by omega) (rfl)
      intro k
      induction k with
      | zero =>
        intro i s hk hinv
        refine x_iload (pc := 68) C dX7_dayNow_68 rfl ?_
        refine x_aload_n (pc := 70) C dX7_dayNow_70 rfl ?_
        refine x_getR (pc := 71) (o := 200) (j := 201) C f_X7_7 dX7_dayNow_71 (hI 200 rfl) ⟨rfl, rfl⟩ ?_
        refine x_bipush (pc := 74) C (39) dX7_dayNow_74 (by decide) ?_
        refine x_topi (nI 39) (by decide) ?_
        refine x_iald (pc := 76) (o := 201) C dX7_dayNow_76 (hI 201 rfl) ⟨rfl, rfl⟩ (show _ < 232 by decide) (by decide) ?_
        refine x_topi (nI n) hn1 ?_
        refine x_icmp_ge (pc := 77) (tgt := 111) C dX7_dayNow_77 (by decide) (fun h77 => ?_) (fun h77 => absurd (by exact nI_le (by omega) (by omega)) h77)
        refine x_iload_n (pc := 111) C dX7_dayNow_111 rfl ?_
        exact x_iret (pc := 112) C hQ dX7_dayNow_112 (pm_i (by rw [hinv, ← dN_of hV1, show i = n by omega]; unfold dayR; rw [if_neg (nI_wn (k := 6) h8)]) hV1) (Nat.le_of_ble_eq_true rfl) (Nat.le_of_ble_eq_true rfl)
      | succ k ih =>
        intro i s hk hinv
        refine x_iload (pc := 68) C dX7_dayNow_68 rfl ?_
        refine x_aload_n (pc := 70) C dX7_dayNow_70 rfl ?_
        refine x_getR (pc := 71) (o := 200) (j := 201) C f_X7_7 dX7_dayNow_71 (hI 200 rfl) ⟨rfl, rfl⟩ ?_
        refine x_bipush (pc := 74) C (39) dX7_dayNow_74 (by decide) ?_
        refine x_topi (nI 39) (by decide) ?_
        refine x_iald (pc := 76) (o := 201) C dX7_dayNow_76 (hI 201 rfl) ⟨rfl, rfl⟩ (show _ < 232 by decide) (by decide) ?_
        refine x_topi (nI n) hn1 ?_
        refine x_icmp_ge (pc := 77) (tgt := 111) C dX7_dayNow_77 (by decide) (fun h77 => absurd h77 (by exact nI_ge (by omega) (by omega))) (fun h77 => ?_)
        refine x_iload_n (pc := 80) C dX7_dayNow_80 rfl ?_
        refine x_aload_n (pc := 81) C dX7_dayNow_81 rfl ?_
        refine x_iload (pc := 82) C dX7_dayNow_82 rfl ?_
        refine x_iconst (pc := 84) C (2) dX7_dayNow_84 (by decide) ?_
        refine x_cV2 (pc := 85) (o := 200) C v_X7_45 dX7_dayNow_85 (c_X7_of hI (i) (2) (by omega)) (hI 200 rfl) rfl (by decide) rfl ⟨Nat.le_refl _, Nat.le_refl _⟩ ?_
        refine x_iload_n (pc := 88) C dX7_dayNow_88 rfl ?_
        refine x_icmp_ne (pc := 89) (tgt := 102) C dX7_dayNow_89 (by decide) (fun h89 => ?_) (fun h89 => ?_)
        · refine x_iconst (pc := 102) C (0) dX7_dayNow_102 (by decide) ?_
          refine x_iadd (pc := 103) C dX7_dayNow_103 ?_
          refine y_istore_n (pc := 104) C dX7_dayNow_104 (by decide) rfl ?_
          refine y_iinc (pc := 105) C (nI (i + 1)) dX7_dayNow_105 rfl (by exact nI_1 i) (by decide) rfl ?_
          refine x_goto (pc := 108) (tgt := 68) C dX7_dayNow_108 (by decide) ?_
          exact ih (i + 1) _ (by omega) (by rw [dayR.sumTo2, ← hinv, Int32.add_zero]; exact sum_f h89)
        · refine x_aload_n (pc := 92) C dX7_dayNow_92 rfl ?_
          refine x_iload (pc := 93) C dX7_dayNow_93 rfl ?_
          refine x_iload_n (pc := 95) C dX7_dayNow_95 rfl ?_
          refine x_cV2 (pc := 96) (o := 200) C v_X7_97 dX7_dayNow_96 (c_X7_showPart (V := V1) hI i w (by omega) hw) (hI 200 rfl) rfl (by decide) rfl ⟨Nat.le_refl _, Nat.le_refl _⟩ ?_
          refine x_goto (pc := 99) (tgt := 103) C dX7_dayNow_99 (by decide) ?_
          refine x_iadd (pc := 103) C dX7_dayNow_103 ?_
          refine y_istore_n (pc := 104) C dX7_dayNow_104 (by decide) rfl ?_
          refine y_iinc (pc := 105) C (nI (i + 1)) dX7_dayNow_105 rfl (by exact nI_1 i) (by decide) rfl ?_
          refine x_goto (pc := 108) (tgt := 68) C dX7_dayNow_108 (by decide) ?_
          exact ih (i + 1) _ (by omega) (by rw [dayR.sumTo2, ← hinv]; exact sum_t h89)
    by_cases h7 : w = 7
    · subst h7
      refine x_iconst (pc := 16) C (0) dX7_dayNow_16 (by decide) ?_
      refine y_istore_n (pc := 17) C dX7_dayNow_17 (by decide) rfl ?_
      refine x_iconst (pc := 18) C (0) dX7_dayNow_18 (by decide) ?_
      refine y_istore (pc := 19) C dX7_dayNow_19 (by decide) rfl ?_
      suffices key : ∀ (k i : Nat) (s : Int32), k + i = 24 → (s = sumTo (fun h => if V1 201 6 < airedR (RF V1) (LF V1) n d (nI h) then 1 else 0) i) → Wx E 21 [some (aR 200), some (aI d), some (aI (nI 7)), some (aI s), some (aI (nI i))] [] V1 L N I 0 0 by
        exact key (24) 0 0 (by omega) (rfl)
      intro k
      induction k with
      | zero =>
        intro i s hk hinv
        refine x_iload (pc := 21) C dX7_dayNow_21 rfl ?_
        refine x_bipush (pc := 23) C (24) dX7_dayNow_23 (by decide) ?_
        refine x_icmp_ge (pc := 25) (tgt := 65) C dX7_dayNow_25 (by decide) (fun h25 => ?_) (fun h25 => absurd (by exact nI_le (a := 24) (b := i) (by omega) (by omega)) h25)
        refine x_loc ?_ (J65 (some (aI (nI i))))
        rw [hinv, show i = 24 by omega]; rfl
      | succ k ih =>
        intro i s hk hinv
        refine x_iload (pc := 21) C dX7_dayNow_21 rfl ?_
        refine x_bipush (pc := 23) C (24) dX7_dayNow_23 (by decide) ?_
        refine x_icmp_ge (pc := 25) (tgt := 65) C dX7_dayNow_25 (by decide) (fun h25 => absurd h25 (by exact nI_ge (a := i) (b := 24) (by omega) (by omega))) (fun h25 => ?_)
        refine x_iload_n (pc := 28) C dX7_dayNow_28 rfl ?_
        refine x_bipush (pc := 29) C (7) dX7_dayNow_29 (by decide) ?_
        refine x_icmp_ne (pc := 31) (tgt := 65) C dX7_dayNow_31 (by decide) (fun h31 => absurd h31 (by exact fun q => q rfl)) (fun h31 => ?_)
        refine x_iload_n (pc := 34) C dX7_dayNow_34 rfl ?_
        refine x_aload_n (pc := 35) C dX7_dayNow_35 rfl ?_
        refine x_iload_n (pc := 36) C dX7_dayNow_36 rfl ?_
        refine x_iload (pc := 37) C dX7_dayNow_37 rfl ?_
        refine x_cV2 (pc := 39) (o := 200) C v_X7_94 dX7_dayNow_39 (c_X7_aired (V := V1) hI hn1 hn24 _ _) (hI 200 rfl) rfl (by decide) rfl ⟨Nat.le_refl _, Nat.le_refl _⟩ ?_
        refine x_aload_n (pc := 42) C dX7_dayNow_42 rfl ?_
        refine x_getR (pc := 43) (o := 200) (j := 201) C f_X7_7 dX7_dayNow_43 (hI 200 rfl) ⟨rfl, rfl⟩ ?_
        refine x_bipush (pc := 46) C (6) dX7_dayNow_46 (by decide) ?_
        refine x_topi (nI 6) (by decide) ?_
        refine x_iald (pc := 48) (o := 201) C dX7_dayNow_48 (hI 201 rfl) ⟨rfl, rfl⟩ (show _ < 232 by decide) (by decide) ?_
        refine x_icmp_le (pc := 49) (tgt := 56) C dX7_dayNow_49 (by decide) (fun h49 => ?_) (fun h49 => ?_)
        · refine x_iconst (pc := 56) C (0) dX7_dayNow_56 (by decide) ?_
          refine x_iadd (pc := 57) C dX7_dayNow_57 ?_
          refine y_istore_n (pc := 58) C dX7_dayNow_58 (by decide) rfl ?_
          refine y_iinc (pc := 59) C (nI (i + 1)) dX7_dayNow_59 rfl (by exact nI_1 i) (by decide) rfl ?_
          refine x_goto (pc := 62) (tgt := 21) C dX7_dayNow_62 (by decide) ?_
          exact ih (i + 1) _ (by omega) (by rw [sumTo, ← hinv, Int32.add_zero]; exact sum_f (Int32.not_lt.mpr h49))
        · refine x_iconst (pc := 52) C (1) dX7_dayNow_52 (by decide) ?_
          refine x_goto (pc := 53) (tgt := 57) C dX7_dayNow_53 (by decide) ?_
          refine x_iadd (pc := 57) C dX7_dayNow_57 ?_
          refine y_istore_n (pc := 58) C dX7_dayNow_58 (by decide) rfl ?_
          refine y_iinc (pc := 59) C (nI (i + 1)) dX7_dayNow_59 rfl (by exact nI_1 i) (by decide) rfl ?_
          refine x_goto (pc := 62) (tgt := 21) C dX7_dayNow_62 (by decide) ?_
          exact ih (i + 1) _ (by omega) (by rw [sumTo, ← hinv]; exact sum_t (Int32.not_le.mp h49))
    · have J := J65 (some (aI 0))
      rw [if_neg h7] at J
      refine x_iconst (pc := 16) C (0) dX7_dayNow_16 (by decide) ?_
      refine y_istore_n (pc := 17) C dX7_dayNow_17 (by decide) rfl ?_
      refine x_iconst (pc := 18) C (0) dX7_dayNow_18 (by decide) ?_
      refine y_istore (pc := 19) C dX7_dayNow_19 (by decide) rfl ?_
      refine x_iload (pc := 21) C dX7_dayNow_21 rfl ?_
      refine x_bipush (pc := 23) C (24) dX7_dayNow_23 (by decide) ?_
      refine x_icmp_ge (pc := 25) (tgt := 65) C dX7_dayNow_25 (by decide) (fun h25 => absurd h25 (by decide)) (fun h25 => ?_)
      refine x_iload_n (pc := 28) C dX7_dayNow_28 rfl ?_
      refine x_bipush (pc := 29) C (7) dX7_dayNow_29 (by decide) ?_
      refine x_icmp_ne (pc := 31) (tgt := 65) C dX7_dayNow_31 (by decide) (fun h31 => ?_) (fun h31 => absurd h31 (by exact nI_wne h7 hw))
      exact J
  · refine x_aload_n (pc := 11) C dX7_dayNow_11 rfl ?_
    refine x_getI (pc := 12) (o := 200) C f_X7_84 dX7_dayNow_12 (hI 200 rfl) ⟨rfl, rfl, rfl⟩ ?_
    exact x_iret (pc := 15) C hQ dX7_dayNow_15 (pm_i (by rw [← dN_of hV1]; unfold dayR; rw [if_pos (nI_w (k := 6) hw (by decide) h8)]) hV1) (Nat.le_of_ble_eq_true rfl) (Nat.le_of_ble_eq_true rfl)
set_option maxRecDepth 100000 in
set_option maxHeartbeats 4000000 in
theorem c_X7_inWeek {l : Launch} {V : VV} {L : LL} {N : NN} {I : List Nat} (hI : PI I) {n : Nat} (hn : V 201 39 = nI n) (hn24 : n ≤ 24) (w : Nat) (hw : w < 8) : Runs l 5 0 0 yX7_inWeek (Cond.code yX7_inWeek cX7_inWeek 4 (some .int)) [aR 200, aI (nI w)] V L N I (Pm (some (aI (wkN V n w 7))) (fun V1 => SmL V V1) L N I) := by
  refine run_of RX7 (by decide +kernel) rfl (Nat.le_of_ble_eq_true rfl) (fun E hE C hQ hN => ?_)
  subst hE
  refine x_iconst (pc := 0) C (0) dX7_inWeek_0 (by decide) ?_
  refine y_istore_n (pc := 1) C dX7_inWeek_1 (by decide) rfl ?_
  refine x_iconst (pc := 2) C (0) dX7_inWeek_2 (by decide) ?_
  refine y_istore_n (pc := 3) C dX7_inWeek_3 (by decide) rfl ?_
  suffices key : ∀ (k i : Nat) (s : Int32) (V1 : VV), k + i = 7 → (s = wkN V n w i ∧ SmL V V1) → Wx E 4 [some (aR 200), some (aI (nI w)), some (aI s), some (aI (nI i))] [] V1 L N I 0 0 by
    exact key (7) 0 0 V (by omega) (⟨rfl, fun _ _ _ _ => rfl⟩)
  intro k
  induction k with
  | zero =>
    intro i s V1 hk hinv
    refine x_iload_n (pc := 4) C dX7_inWeek_4 rfl ?_
    refine x_bipush (pc := 5) C (7) dX7_inWeek_5 (by decide) ?_
    refine x_icmp_ge (pc := 7) (tgt := 25) C dX7_inWeek_7 (by decide) (fun h7 => ?_) (fun h7 => absurd (by exact nI_le (a := 7) (b := i) (by omega) (by omega)) h7)
    refine x_iload_n (pc := 25) C dX7_inWeek_25 rfl ?_
    exact x_iret (pc := 26) C hQ dX7_inWeek_26 (pm_i (by rw [hinv.1, show i = 7 by omega]) hinv.2) (Nat.le_of_ble_eq_true rfl) (Nat.le_of_ble_eq_true rfl)
  | succ k ih =>
    intro i s V1 hk hinv
    refine x_iload_n (pc := 4) C dX7_inWeek_4 rfl ?_
    refine x_bipush (pc := 5) C (7) dX7_inWeek_5 (by decide) ?_
    refine x_icmp_ge (pc := 7) (tgt := 25) C dX7_inWeek_7 (by decide) (fun h7 => absurd h7 (by exact nI_ge (a := i) (b := 7) (by omega) (by omega))) (fun h7 => ?_)
    refine x_iload_n (pc := 10) C dX7_inWeek_10 rfl ?_
    refine x_aload_n (pc := 11) C dX7_inWeek_11 rfl ?_
    refine x_iload_n (pc := 12) C dX7_inWeek_12 rfl ?_
    refine x_iload_n (pc := 13) C dX7_inWeek_13 rfl ?_
    refine x_pV2 (pc := 14) (o := 200) C v_X7_100 dX7_inWeek_14 (c_X7_dayNow (V := V1) hI (by rw [hinv.2.z]; exact hn) hn24 (nI i) w hw) (hI 200 rfl) rfl (by decide) rfl ⟨Nat.le_refl _, Nat.le_refl _⟩ (fun V2 hV2 => ?_)
    refine x_topi (dN V n (nI i) w) (dN_sm hinv.2.z) ?_
    refine x_iadd (pc := 17) C dX7_inWeek_17 ?_
    refine y_istore_n (pc := 18) C dX7_inWeek_18 (by decide) rfl ?_
    refine y_iinc (pc := 19) C (nI (i + 1)) dX7_inWeek_19 rfl (by exact nI_1 i) (by decide) rfl ?_
    refine x_goto (pc := 22) (tgt := 4) C dX7_inWeek_22 (by decide) ?_
    exact ih (i + 1) _ _ (by omega) (⟨by rw [wkN, sumTo, hinv.1]; rfl, hinv.2.t hV2.1⟩)
set_option maxRecDepth 100000 in
set_option maxHeartbeats 4000000 in
theorem c_X7_airWorth {l : Launch} {V : VV} {L : LL} {N : NN} {I : List Nat} (hI : PI I) {n : Nat} (hn : V 201 39 = nI n) (hn24 : n ≤ 24) (hdy : ∀ s, s < n → ∃ d, d < 7 ∧ RF V 2 s = nI d) (g : Int32) : Runs l 5 0 0 yX7_airWorth (Cond.code yX7_airWorth cX7_airWorth 4 (some .int)) [aR 200, aI g] V L N I (Pm (some (aI (awS V n g))) (fun V1 => SmL V V1) L N I) := by
  refine run_of RX7 (by decide +kernel) rfl (Nat.le_of_ble_eq_true rfl) (fun E hE C hQ hN => ?_)
  subst hE
  refine x_aload_n (pc := 0) C dX7_airWorth_0 rfl ?_
  refine x_pV0 (pc := 1) (o := 200) C v_X7_103 dX7_airWorth_1 (c_X7_layAll hI hn hn24) (hI 200 rfl) rfl (by decide) rfl ⟨Nat.le_refl _, Nat.le_refl _⟩ (fun V1 hV1 => ?_)
  refine x_iconst (pc := 4) C (0) dX7_airWorth_4 (by decide) ?_
  refine y_istore_n (pc := 5) C dX7_airWorth_5 (by decide) rfl ?_
  refine x_iconst (pc := 6) C (0) dX7_airWorth_6 (by decide) ?_
  refine y_istore_n (pc := 7) C dX7_airWorth_7 (by decide) rfl ?_
  have hn1 : V1 201 39 = nI n := by rw [hV1.1.z]; exact hn
  have hair : ∀ s, s < n → V1 206 s = airR (RF V) (V 201) 1 s := fun s hs => by obtain ⟨d, hd, hsd⟩ := hdy s hs; exact hV1.2 s hs d hd hsd 1 (by decide)
  suffices key : ∀ (k i : Nat) (s : Int32), k + i = n → (s = sumTo (fun s => if RF V 1 s = g then worthF (V 201 5) (RF V 0 s) (airR (RF V) (V 201) 1 s) else 0) i) → Wx E 8 [some (aR 200), some (aI g), some (aI s), some (aI (nI i))] [] V1 L N I 0 0 by
    exact key (n) 0 0 (by omega) (rfl)
  intro k
  induction k with
  | zero =>
    intro i s hk hinv
    refine x_iload_n (pc := 8) C dX7_airWorth_8 rfl ?_
    refine x_aload_n (pc := 9) C dX7_airWorth_9 rfl ?_
    refine x_getR (pc := 10) (o := 200) (j := 201) C f_X7_7 dX7_airWorth_10 (hI 200 rfl) ⟨rfl, rfl⟩ ?_
    refine x_bipush (pc := 13) C (39) dX7_airWorth_13 (by decide) ?_
    refine x_topi (nI 39) (by decide) ?_
    refine x_iald (pc := 15) (o := 201) C dX7_airWorth_15 (hI 201 rfl) ⟨rfl, rfl⟩ (show _ < 232 by decide) (by decide) ?_
    refine x_topi (nI n) hn1 ?_
    refine x_icmp_ge (pc := 16) (tgt := 58) C dX7_airWorth_16 (by decide) (fun h16 => ?_) (fun h16 => absurd (by exact nI_le (by omega) (by omega)) h16)
    refine x_iload_n (pc := 58) C dX7_airWorth_58 rfl ?_
    exact x_iret (pc := 59) C hQ dX7_airWorth_59 (pm_i (by rw [hinv, show i = n by omega]; rfl) hV1.1) (Nat.le_of_ble_eq_true rfl) (Nat.le_of_ble_eq_true rfl)
  | succ k ih =>
    intro i s hk hinv
    refine x_iload_n (pc := 8) C dX7_airWorth_8 rfl ?_
    refine x_aload_n (pc := 9) C dX7_airWorth_9 rfl ?_
    refine x_getR (pc := 10) (o := 200) (j := 201) C f_X7_7 dX7_airWorth_10 (hI 200 rfl) ⟨rfl, rfl⟩ ?_
    refine x_bipush (pc := 13) C (39) dX7_airWorth_13 (by decide) ?_
    refine x_topi (nI 39) (by decide) ?_
    refine x_iald (pc := 15) (o := 201) C dX7_airWorth_15 (hI 201 rfl) ⟨rfl, rfl⟩ (show _ < 232 by decide) (by decide) ?_
    refine x_topi (nI n) hn1 ?_
    refine x_icmp_ge (pc := 16) (tgt := 58) C dX7_airWorth_16 (by decide) (fun h16 => absurd h16 (by exact nI_ge (by omega) (by omega))) (fun h16 => ?_)
    refine x_iload_n (pc := 19) C dX7_airWorth_19 rfl ?_
    refine x_aload_n (pc := 20) C dX7_airWorth_20 rfl ?_
    refine x_iload_n (pc := 21) C dX7_airWorth_21 rfl ?_
    refine x_iconst (pc := 22) C (1) dX7_airWorth_22 (by decide) ?_
    refine x_cV2 (pc := 23) (o := 200) C v_X7_45 dX7_airWorth_23 (c_X7_of hI (i) (1) (by omega)) (hI 200 rfl) rfl (by decide) rfl ⟨Nat.le_refl _, Nat.le_refl _⟩ ?_
    refine x_topi (RF V 1 i) (by rw [hV1.1.z]; rfl) ?_
    refine x_iload_n (pc := 26) C dX7_airWorth_26 rfl ?_
    refine x_icmp_ne (pc := 27) (tgt := 49) C dX7_airWorth_27 (by decide) (fun h27 => ?_) (fun h27 => ?_)
    · refine x_iconst (pc := 49) C (0) dX7_airWorth_49 (by decide) ?_
      refine x_iadd (pc := 50) C dX7_airWorth_50 ?_
      refine y_istore_n (pc := 51) C dX7_airWorth_51 (by decide) rfl ?_
      refine y_iinc (pc := 52) C (nI (i + 1)) dX7_airWorth_52 rfl (by exact nI_1 i) (by decide) rfl ?_
      refine x_goto (pc := 55) (tgt := 8) C dX7_airWorth_55 (by decide) ?_
      exact ih (i + 1) _ (by omega) (by rw [sumTo, ← hinv, Int32.add_zero]; exact sum_f h27)
    · refine x_aload_n (pc := 30) C dX7_airWorth_30 rfl ?_
      refine x_aload_n (pc := 31) C dX7_airWorth_31 rfl ?_
      refine x_iload_n (pc := 32) C dX7_airWorth_32 rfl ?_
      refine x_iconst (pc := 33) C (0) dX7_airWorth_33 (by decide) ?_
      refine x_cV2 (pc := 34) (o := 200) C v_X7_45 dX7_airWorth_34 (c_X7_of hI (i) (0) (by omega)) (hI 200 rfl) rfl (by decide) rfl ⟨Nat.le_refl _, Nat.le_refl _⟩ ?_
      refine x_topi (RF V 0 i) (by rw [hV1.1.z]; rfl) ?_
      refine x_aload_n (pc := 37) C dX7_airWorth_37 rfl ?_
      refine x_getR (pc := 38) (o := 200) (j := 206) C f_X7_25 dX7_airWorth_38 (hI 200 rfl) ⟨rfl, rfl⟩ ?_
      refine x_iload_n (pc := 41) C dX7_airWorth_41 rfl ?_
      refine x_iald (pc := 42) (o := 206) C dX7_airWorth_42 (hI 206 rfl) ⟨rfl, rfl⟩ (show _ < 24 by omega) (by decide) ?_
      refine x_topi (airR (RF V) (V 201) 1 i) (hair i (by omega)) ?_
      refine x_cV2 (pc := 43) (o := 200) C v_X7_53 dX7_airWorth_43 (c_X7_worth (V := V1) hI _ _) (hI 200 rfl) rfl (by decide) rfl ⟨Nat.le_refl _, Nat.le_refl _⟩ ?_
      refine x_topi (worthF (V 201 5) (RF V 0 i) (airR (RF V) (V 201) 1 i)) (by rw [hV1.1.z]) ?_
      refine x_goto (pc := 46) (tgt := 50) C dX7_airWorth_46 (by decide) ?_
      refine x_iadd (pc := 50) C dX7_airWorth_50 ?_
      refine y_istore_n (pc := 51) C dX7_airWorth_51 (by decide) rfl ?_
      refine y_iinc (pc := 52) C (nI (i + 1)) dX7_airWorth_52 rfl (by exact nI_1 i) (by decide) rfl ?_
      refine x_goto (pc := 55) (tgt := 8) C dX7_airWorth_55 (by decide) ?_
      exact ih (i + 1) _ (by omega) (by rw [sumTo, ← hinv]; exact sum_t h27)
