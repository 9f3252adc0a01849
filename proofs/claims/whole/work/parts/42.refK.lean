set_option maxRecDepth 100000 in
set_option maxHeartbeats 4000000 in
theorem c_X7_closeWeek {l : Launch} {V : VV} {L : LL} {N : NN} {I : List Nat} (hI : PI I) {n : Nat} (hn : V 201 39 = nI n) (hn24 : n ≤ 24) {m : Nat} (hm : V 200 2 = nI m) (hm6 : m ≤ 6) (hdy : ∀ s, s < n → ∃ d, d < 7 ∧ RF V 2 s = nI d) : Runs l 7 0 0 yX7_closeWeek (Cond.code yX7_closeWeek cX7_closeWeek 2 (some .int)) [aR 200] V L N I (Pm (some (aI (if th1 (decide (V 201 38 < 1000)) = 0 then V 201 38 + 1 else 0))) (fun V1 => SmL (if th1 (decide (V 201 38 < 1000)) = 0 then cwR (svR (up V 200 0 0) m) n else up V 200 0 1) V1) L N I) := by
  refine run_of RX7 (by decide +kernel) rfl (Nat.le_of_ble_eq_true rfl) (fun E hE C hQ hN => ?_)
  subst hE
  refine x_aload_n (pc := 0) C dX7_closeWeek_0 rfl ?_
  refine x_aload_n (pc := 1) C dX7_closeWeek_1 rfl ?_
  refine x_getR (pc := 2) (o := 200) (j := 201) C f_X7_7 dX7_closeWeek_2 (hI 200 rfl) ⟨rfl, rfl⟩ ?_
  refine x_bipush (pc := 5) C (38) dX7_closeWeek_5 (by decide) ?_
  refine x_topi (nI 38) (by decide) ?_
  refine x_iald (pc := 7) (o := 201) C dX7_closeWeek_7 (hI 201 rfl) ⟨rfl, rfl⟩ (show _ < 232 by decide) (by decide) ?_
  refine x_sipush (pc := 8) C (1000) dX7_closeWeek_8 (by decide) ?_
  refine x_icmp_ge (pc := 11) (tgt := 18) C dX7_closeWeek_11 (by decide) (fun h11 => ?_) (fun h11 => ?_)
  · refine x_iconst (pc := 18) C (1) dX7_closeWeek_18 (by decide) ?_
    refine x_putI (pc := 19) (o := 200) C p_X7_37 dX7_closeWeek_19 (hI 200 rfl) ⟨rfl, rfl, rfl⟩ ?_
    refine x_aload_n (pc := 22) C dX7_closeWeek_22 rfl ?_
    refine x_getI (pc := 23) (o := 200) C f_X7_37 dX7_closeWeek_23 (hI 200 rfl) ⟨rfl, rfl, rfl⟩ ?_
    refine x_topi 1 up_ss ?_
    refine x_if_le (pc := 26) (tgt := 31) C dX7_closeWeek_26 (by decide) (fun h26 => absurd h26 (by decide)) (fun h26 => ?_)
    refine x_iconst (pc := 29) C (0) dX7_closeWeek_29 (by decide) ?_
    exact x_iret (pc := 30) C hQ dX7_closeWeek_30 (pm_i (if0_1 (th1_1 (decide_eq_false (Int32.not_lt.mpr h11)))).symm (by rw [if0_1 (th1_1 (decide_eq_false (Int32.not_lt.mpr h11)))]; exact fun _ _ _ _ => rfl)) (Nat.le_of_ble_eq_true rfl) (Nat.le_of_ble_eq_true rfl)
  · have hth : th1 (decide (V 201 38 < 1000)) = 0 := th1_0 (decide_eq_true (Int32.not_le.mp h11))
    refine x_iconst (pc := 14) C (0) dX7_closeWeek_14 (by decide) ?_
    refine x_goto (pc := 15) (tgt := 19) C dX7_closeWeek_15 (by decide) ?_
    refine x_putI (pc := 19) (o := 200) C p_X7_37 dX7_closeWeek_19 (hI 200 rfl) ⟨rfl, rfl, rfl⟩ ?_
    refine x_aload_n (pc := 22) C dX7_closeWeek_22 rfl ?_
    refine x_getI (pc := 23) (o := 200) C f_X7_37 dX7_closeWeek_23 (hI 200 rfl) ⟨rfl, rfl, rfl⟩ ?_
    refine x_topi 0 up_ss ?_
    refine x_if_le (pc := 26) (tgt := 31) C dX7_closeWeek_26 (by decide) (fun h26 => ?_) (fun h26 => absurd (by decide) h26)
    refine x_aload_n (pc := 31) C dX7_closeWeek_31 rfl ?_
    refine x_cV0 (pc := 32) (o := 200) C v_X7_109 dX7_closeWeek_32 (c_X7_save (V := up V 200 0 0) hI hm hm6) (hI 200 rfl) rfl (by decide) rfl ⟨Nat.le_refl _, Nat.le_refl _⟩ ?_
    refine x_iconst (pc := 35) C (0) dX7_closeWeek_35 (by decide) ?_
    refine y_istore_n (pc := 36) C dX7_closeWeek_36 (by decide) rfl ?_
    have hz0 : (svR (up V 200 0 0) m) 201 = V 201 := svR_z
    have J54 : ∀ (V1 : VV) (x : Option AV), SmL (cgN (svR (up V 200 0 0) m) n 6) V1 → Wx E 54 [some (aR 200), x] [] V1 L N I 0 0 := by
      intro V1 x h1
      refine x_iconst (pc := 54) C (0) dX7_closeWeek_54 (by decide) ?_
      refine y_istore_n (pc := 55) C dX7_closeWeek_55 (by decide) rfl ?_
      suffices key : ∀ (k i : Nat) (V2 : VV), k + i = n → (V2 = zrR V1 i) → Wx E 56 [some (aR 200), some (aI (nI i))] [] V2 L N I 0 0 by
        exact key (n) 0 V1 (by omega) (zrR_0.symm)
      intro k
      induction k with
      | zero =>
        intro i V2 hk hinv
        refine x_iload_n (pc := 56) C dX7_closeWeek_56 rfl ?_
        refine x_aload_n (pc := 57) C dX7_closeWeek_57 rfl ?_
        refine x_getR (pc := 58) (o := 200) (j := 201) C f_X7_7 dX7_closeWeek_58 (hI 200 rfl) ⟨rfl, rfl⟩ ?_
        refine x_bipush (pc := 61) C (39) dX7_closeWeek_61 (by decide) ?_
        refine x_topi (nI 39) (by decide) ?_
        refine x_iald (pc := 63) (o := 201) C dX7_closeWeek_63 (hI 201 rfl) ⟨rfl, rfl⟩ (show _ < 232 by decide) (by decide) ?_
        refine x_topi (nI n) (by rw [hinv, zrR_lo (by decide), h1.z, cgN_hi (Or.inl (by decide)) (by decide), hz0]; exact hn) ?_
        refine x_icmp_ge (pc := 64) (tgt := 81) C dX7_closeWeek_64 (by decide) (fun h64 => ?_) (fun h64 => absurd (by exact nI_le (by omega) (by omega)) h64)
        refine x_aload_n (pc := 81) C dX7_closeWeek_81 rfl ?_
        refine x_getR (pc := 82) (o := 200) (j := 201) C f_X7_7 dX7_closeWeek_82 (hI 200 rfl) ⟨rfl, rfl⟩ ?_
        refine x_bipush (pc := 85) C (38) dX7_closeWeek_85 (by decide) ?_
        refine x_dup2 (pc := 87) C dX7_closeWeek_87 rfl rfl ?_
        refine x_topi (nI 38) (by decide) ?_
        refine x_iald (pc := 88) (o := 201) C dX7_closeWeek_88 (hI 201 rfl) ⟨rfl, rfl⟩ (show _ < 232 by decide) (by decide) ?_
        refine x_topi (V 201 38) (by rw [hinv, zrR_lo (by decide), h1.z, cgN_hi (Or.inl (by decide)) (by decide), hz0]) ?_
        refine x_iconst (pc := 89) C (1) dX7_closeWeek_89 (by decide) ?_
        refine x_iadd (pc := 90) C dX7_closeWeek_90 ?_
        refine x_top2i (nI 38) (by decide) ?_
        refine x_iast (pc := 91) (o := 201) C dX7_closeWeek_91 (hI 201 rfl) ⟨rfl, rfl⟩ (show _ < 232 by decide) (by decide) ?_
        refine x_aload_n (pc := 92) C dX7_closeWeek_92 rfl ?_
        refine x_getR (pc := 93) (o := 200) (j := 201) C f_X7_7 dX7_closeWeek_93 (hI 200 rfl) ⟨rfl, rfl⟩ ?_
        refine x_bipush (pc := 96) C (38) dX7_closeWeek_96 (by decide) ?_
        refine x_topi (nI 38) (by decide) ?_
        refine x_iald (pc := 98) (o := 201) C dX7_closeWeek_98 (hI 201 rfl) ⟨rfl, rfl⟩ (show _ < 232 by decide) (by decide) ?_
        refine x_topi (V 201 38 + 1) up_ss ?_
        exact x_iret (pc := 99) C hQ dX7_closeWeek_99 (pm_i (by rw [if_pos hth]) (by rw [if_pos hth, hinv, show i = n by omega]; unfold cwR; rw [hz0]; exact up_sm (zrR_sm h1))) (Nat.le_of_ble_eq_true rfl) (Nat.le_of_ble_eq_true rfl)
      | succ k ih =>
        intro i V2 hk hinv
        refine x_iload_n (pc := 56) C dX7_closeWeek_56 rfl ?_
        refine x_aload_n (pc := 57) C dX7_closeWeek_57 rfl ?_
        refine x_getR (pc := 58) (o := 200) (j := 201) C f_X7_7 dX7_closeWeek_58 (hI 200 rfl) ⟨rfl, rfl⟩ ?_
        refine x_bipush (pc := 61) C (39) dX7_closeWeek_61 (by decide) ?_
        refine x_topi (nI 39) (by decide) ?_
        refine x_iald (pc := 63) (o := 201) C dX7_closeWeek_63 (hI 201 rfl) ⟨rfl, rfl⟩ (show _ < 232 by decide) (by decide) ?_
        refine x_topi (nI n) (by rw [hinv, zrR_lo (by decide), h1.z, cgN_hi (Or.inl (by decide)) (by decide), hz0]; exact hn) ?_
        refine x_icmp_ge (pc := 64) (tgt := 81) C dX7_closeWeek_64 (by decide) (fun h64 => absurd h64 (by exact nI_ge (by omega) (by omega))) (fun h64 => ?_)
        refine x_aload_n (pc := 67) C dX7_closeWeek_67 rfl ?_
        refine x_iload_n (pc := 68) C dX7_closeWeek_68 rfl ?_
        refine x_bipush (pc := 69) C (6) dX7_closeWeek_69 (by decide) ?_
        refine x_iconst (pc := 71) C (0) dX7_closeWeek_71 (by decide) ?_
        refine x_cV3 (pc := 72) (o := 200) C v_X7_80 dX7_closeWeek_72 (c_X7_put (V := V2) hI i 6 0 (by omega)) (hI 200 rfl) rfl (by decide) rfl ⟨Nat.le_refl _, Nat.le_refl _⟩ ?_
        refine y_iinc (pc := 75) C (nI (i + 1)) dX7_closeWeek_75 rfl (by exact nI_1 i) (by decide) rfl ?_
        refine x_goto (pc := 78) (tgt := 56) C dX7_closeWeek_78 (by decide) ?_
        exact ih (i + 1) _ (by omega) (by rw [hinv]; exact zrR_s)
    suffices key : ∀ (k i : Nat) (V1 : VV), k + i = 6 → (SmL (cgN (svR (up V 200 0 0) m) n i) V1) → Wx E 37 [some (aR 200), some (aI (nI i))] [] V1 L N I 0 0 by
      exact key (6) 0 (svR (up V 200 0 0) m) (by omega) (fun _ _ _ _ => rfl)
    intro k
    induction k with
    | zero =>
      intro i V1 hk hinv
      refine x_iload_n (pc := 37) C dX7_closeWeek_37 rfl ?_
      refine x_bipush (pc := 38) C (6) dX7_closeWeek_38 (by decide) ?_
      refine x_icmp_ge (pc := 40) (tgt := 54) C dX7_closeWeek_40 (by decide) (fun h40 => ?_) (fun h40 => absurd (by exact nI_le (a := 6) (b := i) (by omega) (by omega)) h40)
      exact J54 V1 _ (by rw [show 6 = i by omega]; exact hinv)
    | succ k ih =>
      intro i V1 hk hinv
      refine x_iload_n (pc := 37) C dX7_closeWeek_37 rfl ?_
      refine x_bipush (pc := 38) C (6) dX7_closeWeek_38 (by decide) ?_
      refine x_icmp_ge (pc := 40) (tgt := 54) C dX7_closeWeek_40 (by decide) (fun h40 => absurd h40 (by exact nI_ge (a := i) (b := 6) (by omega) (by omega))) (fun h40 => ?_)
      refine x_aload_n (pc := 43) C dX7_closeWeek_43 rfl ?_
      refine x_iload_n (pc := 44) C dX7_closeWeek_44 rfl ?_
      refine x_pV1 (pc := 45) (o := 200) C v_X7_170 dX7_closeWeek_45 (c_X7_closeGroup (V := V1) hI (by rw [hinv.z, cgN_hi (Or.inl (by decide)) (by omega), hz0]; exact hn) hn24 (by rw [RF_z hinv.z, cgN_rf (by omega), RF_z hz0]; exact hdy) i (by omega)) (hI 200 rfl) rfl (by decide) rfl ⟨Nat.le_refl _, Nat.le_refl _⟩ (fun V2 hV2 => ?_)
      have hV2 := cgN_step hinv hV2
      refine y_iinc (pc := 48) C (nI (i + 1)) dX7_closeWeek_48 rfl (by exact nI_1 i) (by decide) rfl ?_
      refine x_goto (pc := 51) (tgt := 37) C dX7_closeWeek_51 (by decide) ?_
      exact ih (i + 1) _ (by omega) (hV2)
set_option maxRecDepth 100000 in
set_option maxHeartbeats 4000000 in
theorem c_X7_append {l : Launch} {V : VV} {L : LL} {N : NN} {I : List Nat} (hI : PI I) {l0 : Nat} (hl0 : V 200 5 = nI l0) (hl60 : l0 ≤ 60) (x : Int32) : Runs l 2 0 0 yX7_append (Cond.code yX7_append cX7_append 2 (some .int)) [aR 200, aI x] V L N I (Is (some (aI (if th2 (withinB x 33 126) (decide (¬ l0 = 60)) = 0 then nI (l0 + 1) else 0))) (if th2 (withinB x 33 126) (decide (¬ l0 = 60)) = 0 then up (up (up V 200 0 0) 203 l0 x) 200 5 (nI (l0 + 1)) else up V 200 0 (th2 (withinB x 33 126) (decide (¬ l0 = 60)))) (L) N I) := by
  refine run_of RX7 (by decide +kernel) rfl (Nat.le_of_ble_eq_true rfl) (fun E hE C hQ hN => ?_)
  subst hE
  refine x_aload_n (pc := 0) C dX7_append_0 rfl ?_
  refine x_iload_n (pc := 1) C dX7_append_1 rfl ?_
  refine x_bipush (pc := 2) C (33) dX7_append_2 (by decide) ?_
  refine x_bipush (pc := 4) C (126) dX7_append_4 (by decide) ?_
  refine x_cS3 (pc := 6) C s_X7_41 dX7_append_6 (c_X7_within _ _ _) (by decide) rfl ⟨Nat.le_refl _, Nat.le_refl _⟩ ?_
  refine x_if_ne (pc := 9) (tgt := 16) C dX7_append_9 (by decide) (fun h9 => ?_) (fun h9 => ?_)
  · refine x_aload_n (pc := 16) C dX7_append_16 rfl ?_
    refine x_getI (pc := 17) (o := 200) C f_X7_173 dX7_append_17 (hI 200 rfl) ⟨rfl, rfl, rfl⟩ ?_
    refine x_topi (nI l0) hl0 ?_
    refine x_bipush (pc := 20) C (60) dX7_append_20 (by decide) ?_
    refine x_icmp_ne (pc := 22) (tgt := 29) C dX7_append_22 (by decide) (fun h22 => ?_) (fun h22 => ?_)
    · have h60 : ¬ l0 = 60 := fun q => h22 (congrArg nI q)
      have hth := th2_0 (c := decide (¬ l0 = 60)) (b2i_t h9) (decide_eq_true h60)
      refine x_iconst (pc := 29) C (0) dX7_append_29 (by decide) ?_
      refine x_putI (pc := 30) (o := 200) C p_X7_37 dX7_append_30 (hI 200 rfl) ⟨rfl, rfl, rfl⟩ ?_
      refine x_aload_n (pc := 33) C dX7_append_33 rfl ?_
      refine x_getI (pc := 34) (o := 200) C f_X7_37 dX7_append_34 (hI 200 rfl) ⟨rfl, rfl, rfl⟩ ?_
      refine x_topi 0 up_ss ?_
      refine x_if_le (pc := 37) (tgt := 42) C dX7_append_37 (by decide) (fun h37 => ?_) (fun h37 => absurd (by decide) h37)
      refine x_aload_n (pc := 42) C dX7_append_42 rfl ?_
      refine x_getR (pc := 43) (o := 200) (j := 203) C f_X7_16 dX7_append_43 (hI 200 rfl) ⟨rfl, rfl⟩ ?_
      refine x_aload_n (pc := 46) C dX7_append_46 rfl ?_
      refine x_getI (pc := 47) (o := 200) C f_X7_173 dX7_append_47 (hI 200 rfl) ⟨rfl, rfl, rfl⟩ ?_
      refine x_topi (nI l0) (by rw [up_nk (by decide)]; exact hl0) ?_
      refine x_iload_n (pc := 50) C dX7_append_50 rfl ?_
      refine x_iast (pc := 51) (o := 203) C dX7_append_51 (hI 203 rfl) ⟨rfl, rfl⟩ (show _ < 60 by omega) (by decide) ?_
      refine x_aload_n (pc := 52) C dX7_append_52 rfl ?_
      refine x_dup (pc := 53) C dX7_append_53 rfl ?_
      refine x_getI (pc := 54) (o := 200) C f_X7_173 dX7_append_54 (hI 200 rfl) ⟨rfl, rfl, rfl⟩ ?_
      refine x_topi (nI l0) (by rw [up_no (by decide), up_nk (by decide)]; exact hl0) ?_
      refine x_iconst (pc := 57) C (1) dX7_append_57 (by decide) ?_
      refine x_iadd (pc := 58) C dX7_append_58 ?_
      refine x_topi (nI (l0 + 1)) (nI_1 l0) ?_
      refine x_putI (pc := 59) (o := 200) C p_X7_173 dX7_append_59 (hI 200 rfl) ⟨rfl, rfl, rfl⟩ ?_
      refine x_aload_n (pc := 62) C dX7_append_62 rfl ?_
      refine x_getI (pc := 63) (o := 200) C f_X7_173 dX7_append_63 (hI 200 rfl) ⟨rfl, rfl, rfl⟩ ?_
      refine x_topi (nI (l0 + 1)) up_ss ?_
      exact x_iret (pc := 66) C hQ dX7_append_66 (is_iv (by rw [if_pos hth]) (by rw [if_pos hth])) (Nat.le_of_ble_eq_true rfl) (Nat.le_of_ble_eq_true rfl)
    · have h60 : l0 = 60 := (nI_eq (b := 60) (by omega) (by decide)).mp h22
      refine x_iconst (pc := 25) C (2) dX7_append_25 (by decide) ?_
      refine x_goto (pc := 26) (tgt := 30) C dX7_append_26 (by decide) ?_
      refine x_putI (pc := 30) (o := 200) C p_X7_37 dX7_append_30 (hI 200 rfl) ⟨rfl, rfl, rfl⟩ ?_
      refine x_aload_n (pc := 33) C dX7_append_33 rfl ?_
      refine x_getI (pc := 34) (o := 200) C f_X7_37 dX7_append_34 (hI 200 rfl) ⟨rfl, rfl, rfl⟩ ?_
      refine x_topi 2 up_ss ?_
      refine x_if_le (pc := 37) (tgt := 42) C dX7_append_37 (by decide) (fun h37 => absurd h37 (by decide)) (fun h37 => ?_)
      refine x_iconst (pc := 40) C (0) dX7_append_40 (by decide) ?_
      exact x_iret (pc := 41) C hQ dX7_append_41 (is_iv (if0_2 (th2_2 (b2i_t h9) (decide_eq_false (fun q => q h60)))).symm (by rw [if0_2 (th2_2 (b2i_t h9) (decide_eq_false (fun q => q h60))), th2_2 (b2i_t h9) (decide_eq_false (fun q => q h60))])) (Nat.le_of_ble_eq_true rfl) (Nat.le_of_ble_eq_true rfl)
  · refine x_iconst (pc := 12) C (1) dX7_append_12 (by decide) ?_
    refine x_goto (pc := 13) (tgt := 30) C dX7_append_13 (by decide) ?_
    refine x_putI (pc := 30) (o := 200) C p_X7_37 dX7_append_30 (hI 200 rfl) ⟨rfl, rfl, rfl⟩ ?_
    refine x_aload_n (pc := 33) C dX7_append_33 rfl ?_
    refine x_getI (pc := 34) (o := 200) C f_X7_37 dX7_append_34 (hI 200 rfl) ⟨rfl, rfl, rfl⟩ ?_
    refine x_topi 1 up_ss ?_
    refine x_if_le (pc := 37) (tgt := 42) C dX7_append_37 (by decide) (fun h37 => absurd h37 (by decide)) (fun h37 => ?_)
    refine x_iconst (pc := 40) C (0) dX7_append_40 (by decide) ?_
    exact x_iret (pc := 41) C hQ dX7_append_41 (is_iv (if0_1 (th2_1 (b2i_f h9))).symm (by rw [if0_1 (th2_1 (b2i_f h9)), th2_1 (b2i_f h9)])) (Nat.le_of_ble_eq_true rfl) (Nat.le_of_ble_eq_true rfl)
set_option maxRecDepth 100000 in
set_option maxHeartbeats 4000000 in
theorem c_X7_clearBuffer {l : Launch} {V : VV} {L : LL} {N : NN} {I : List Nat} (hI : PI I) : Runs l 1 0 0 yX7_clearBuffer (Cond.code yX7_clearBuffer cX7_clearBuffer 2 (some .int)) [aR 200] V L N I (Is (some (aI (V 200 5))) (up (up V 200 0 0) 200 5 0) (L) N I) := by
  refine run_of RX7 (by decide +kernel) rfl (Nat.le_of_ble_eq_true rfl) (fun E hE C hQ hN => ?_)
  subst hE
  refine x_aload_n (pc := 0) C dX7_clearBuffer_0 rfl ?_
  refine x_iconst (pc := 1) C (0) dX7_clearBuffer_1 (by decide) ?_
  refine x_putI (pc := 2) (o := 200) C p_X7_37 dX7_clearBuffer_2 (hI 200 rfl) ⟨rfl, rfl, rfl⟩ ?_
  refine x_aload_n (pc := 5) C dX7_clearBuffer_5 rfl ?_
  refine x_getI (pc := 6) (o := 200) C f_X7_173 dX7_clearBuffer_6 (hI 200 rfl) ⟨rfl, rfl, rfl⟩ ?_
  refine x_topi (V 200 5) (by rw [up_nk (by decide)]) ?_
  refine y_istore_n (pc := 9) C dX7_clearBuffer_9 (by decide) rfl ?_
  refine x_aload_n (pc := 10) C dX7_clearBuffer_10 rfl ?_
  refine x_iconst (pc := 11) C (0) dX7_clearBuffer_11 (by decide) ?_
  refine x_putI (pc := 12) (o := 200) C p_X7_173 dX7_clearBuffer_12 (hI 200 rfl) ⟨rfl, rfl, rfl⟩ ?_
  refine x_iload_n (pc := 15) C dX7_clearBuffer_15 rfl ?_
  exact x_iret (pc := 16) C hQ dX7_clearBuffer_16 (is_iv rfl rfl) (Nat.le_of_ble_eq_true rfl) (Nat.le_of_ble_eq_true rfl)
