set_option maxRecDepth 100000 in
set_option maxHeartbeats 4000000 in
theorem c_X7_reason {l : Launch} {V : VV} {L : LL} {N : NN} {I : List Nat} (hI : PI I) : Runs l 1 0 0 yX7_reason (Cond.code yX7_reason cX7_reason 1 (some .int)) [aR 200] V L N I (Is (some (aI (V 200 4))) (up V 200 0 0) (L) N I) := by
  refine run_of RX7 (by decide +kernel) rfl (Nat.le_of_ble_eq_true rfl) (fun E hE C hQ hN => ?_)
  subst hE
  refine x_aload_n (pc := 0) C dX7_reason_0 rfl ?_
  refine x_iconst (pc := 1) C (0) dX7_reason_1 (by decide) ?_
  refine x_putI (pc := 2) (o := 200) C p_X7_37 dX7_reason_2 (hI 200 rfl) ⟨rfl, rfl, rfl⟩ ?_
  refine x_aload_n (pc := 5) C dX7_reason_5 rfl ?_
  refine x_getI (pc := 6) (o := 200) C f_X7_139 dX7_reason_6 (hI 200 rfl) ⟨rfl, rfl, rfl⟩ ?_
  exact x_iret (pc := 9) C hQ dX7_reason_9 (is_iv rfl rfl) (Nat.le_of_ble_eq_true rfl) (Nat.le_of_ble_eq_true rfl)
set_option maxRecDepth 100000 in
set_option maxHeartbeats 4000000 in
theorem c_X7_showNow {l : Launch} {V : VV} {L : LL} {N : NN} {I : List Nat} (hI : PI I) {n : Nat} (hn : V 201 39 = nI n) (hn24 : n ≤ 24) (s w : Nat) (hs : s < n) (hw : w < 12) : Runs l 4 0 0 yX7_showNow (Cond.code yX7_showNow cX7_showNow 3 (some .int)) [aR 200, aI (nI s), aI (nI w)] V L N I (Pm (some (aI (showN V s w))) (fun V1 => SmL V V1) L N I) := by
  refine run_of RX7 (by decide +kernel) rfl (Nat.le_of_ble_eq_true rfl) (fun E hE C hQ hN => ?_)
  subst hE
  refine x_iload_n (pc := 0) C dX7_showNow_0 rfl ?_
  refine x_bipush (pc := 1) C (8) dX7_showNow_1 (by decide) ?_
  refine x_icmp_ge (pc := 3) (tgt := 13) C dX7_showNow_3 (by decide) (fun h3w => ?_) (fun h3w => ?_)
  · refine x_aload_n (pc := 13) C dX7_showNow_13 rfl ?_
    refine x_aload_n (pc := 14) C dX7_showNow_14 rfl ?_
    refine x_iload_n (pc := 15) C dX7_showNow_15 rfl ?_
    refine x_iconst (pc := 16) C (2) dX7_showNow_16 (by decide) ?_
    refine x_cV2 (pc := 17) (o := 200) C v_X7_45 dX7_showNow_17 (c_X7_of hI (s) (2) (by omega)) (hI 200 rfl) rfl (by decide) rfl ⟨Nat.le_refl _, Nat.le_refl _⟩ ?_
    refine x_topi (RF V 2 s) rfl ?_
    refine x_pV1 (pc := 20) (o := 200) C v_X7_91 dX7_showNow_20 (c_X7_layDay hI hn hn24 _) (hI 200 rfl) rfl (by decide) rfl ⟨Nat.le_refl _, Nat.le_refl _⟩ (fun V1 hV1 => ?_)
    refine x_iload_n (pc := 23) C dX7_showNow_23 rfl ?_
    refine x_bipush (pc := 24) C (8) dX7_showNow_24 (by decide) ?_
    refine x_icmp_ne (pc := 26) (tgt := 38) C dX7_showNow_26 (by decide) (fun h26 => ?_) (fun h26 => ?_)
    · refine x_iload_n (pc := 38) C dX7_showNow_38 rfl ?_
      refine x_bipush (pc := 39) C (9) dX7_showNow_39 (by decide) ?_
      refine x_icmp_ne (pc := 41) (tgt := 53) C dX7_showNow_41 (by decide) (fun h41 => ?_) (fun h41 => ?_)
      · refine x_iload_n (pc := 53) C dX7_showNow_53 rfl ?_
        refine x_bipush (pc := 54) C (10) dX7_showNow_54 (by decide) ?_
        refine x_icmp_ne (pc := 56) (tgt := 68) C dX7_showNow_56 (by decide) (fun h56 => ?_) (fun h56 => ?_)
        · refine x_aload_n (pc := 68) C dX7_showNow_68 rfl ?_
          refine x_getR (pc := 69) (o := 200) (j := 208) C f_X7_31 dX7_showNow_69 (hI 200 rfl) ⟨rfl, rfl⟩ ?_
          refine x_iload_n (pc := 72) C dX7_showNow_72 rfl ?_
          refine x_iald (pc := 73) (o := 208) C dX7_showNow_73 (hI 208 rfl) ⟨rfl, rfl⟩ (show _ < 24 by omega) (by decide) ?_
          refine x_topi (airR (RF V) (V 201) 3 s) (hV1.2.2.1 s hs rfl 3 (by decide)) ?_
          exact x_iret (pc := 74) C hQ dX7_showNow_74 (pm_i (showN_hi 3 (by have h1 := nI_wn (k := 8) h26; have h2 := nI_wn (k := 9) h41; have h3 := nI_wn (k := 10) h56; have h4 := ge8 h3w; omega)).symm hV1.1) (Nat.le_of_ble_eq_true rfl) (Nat.le_of_ble_eq_true rfl)
        · refine x_aload_n (pc := 59) C dX7_showNow_59 rfl ?_
          refine x_getR (pc := 60) (o := 200) (j := 207) C f_X7_28 dX7_showNow_60 (hI 200 rfl) ⟨rfl, rfl⟩ ?_
          refine x_iload_n (pc := 63) C dX7_showNow_63 rfl ?_
          refine x_iald (pc := 64) (o := 207) C dX7_showNow_64 (hI 207 rfl) ⟨rfl, rfl⟩ (show _ < 24 by omega) (by decide) ?_
          refine x_topi (airR (RF V) (V 201) 2 s) (hV1.2.2.1 s hs rfl 2 (by decide)) ?_
          refine x_goto (pc := 65) (tgt := 74) C dX7_showNow_65 (by decide) ?_
          exact x_iret (pc := 74) C hQ dX7_showNow_74 (pm_i (showN_hi 2 (e12 (k := 10) h56)).symm hV1.1) (Nat.le_of_ble_eq_true rfl) (Nat.le_of_ble_eq_true rfl)
      · refine x_aload_n (pc := 44) C dX7_showNow_44 rfl ?_
        refine x_getR (pc := 45) (o := 200) (j := 206) C f_X7_25 dX7_showNow_45 (hI 200 rfl) ⟨rfl, rfl⟩ ?_
        refine x_iload_n (pc := 48) C dX7_showNow_48 rfl ?_
        refine x_iald (pc := 49) (o := 206) C dX7_showNow_49 (hI 206 rfl) ⟨rfl, rfl⟩ (show _ < 24 by omega) (by decide) ?_
        refine x_topi (airR (RF V) (V 201) 1 s) (hV1.2.2.1 s hs rfl 1 (by decide)) ?_
        refine x_goto (pc := 50) (tgt := 74) C dX7_showNow_50 (by decide) ?_
        exact x_iret (pc := 74) C hQ dX7_showNow_74 (pm_i (showN_hi 1 (e12 (k := 9) h41)).symm hV1.1) (Nat.le_of_ble_eq_true rfl) (Nat.le_of_ble_eq_true rfl)
    · refine x_aload_n (pc := 29) C dX7_showNow_29 rfl ?_
      refine x_getR (pc := 30) (o := 200) (j := 205) C f_X7_22 dX7_showNow_30 (hI 200 rfl) ⟨rfl, rfl⟩ ?_
      refine x_iload_n (pc := 33) C dX7_showNow_33 rfl ?_
      refine x_iald (pc := 34) (o := 205) C dX7_showNow_34 (hI 205 rfl) ⟨rfl, rfl⟩ (show _ < 24 by omega) (by decide) ?_
      refine x_topi (airR (RF V) (V 201) 0 s) (hV1.2.2.1 s hs rfl 0 (by decide)) ?_
      refine x_goto (pc := 35) (tgt := 74) C dX7_showNow_35 (by decide) ?_
      exact x_iret (pc := 74) C hQ dX7_showNow_74 (pm_i (showN_hi 0 (e12 (k := 8) h26)).symm hV1.1) (Nat.le_of_ble_eq_true rfl) (Nat.le_of_ble_eq_true rfl)
  · refine x_aload_n (pc := 6) C dX7_showNow_6 rfl ?_
    refine x_iload_n (pc := 7) C dX7_showNow_7 rfl ?_
    refine x_iload_n (pc := 8) C dX7_showNow_8 rfl ?_
    refine x_cV2 (pc := 9) (o := 200) C v_X7_45 dX7_showNow_9 (c_X7_of hI s w (by have := lt8 (by omega) h3w; omega)) (hI 200 rfl) rfl (by decide) rfl ⟨Nat.le_refl _, Nat.le_refl _⟩ ?_
    exact x_iret (pc := 12) C hQ dX7_showNow_12 (pm_i (by unfold showN; rw [if_pos (lt8 (by omega) h3w)]; rfl) (fun _ _ _ _ => rfl)) (Nat.le_of_ble_eq_true rfl) (Nat.le_of_ble_eq_true rfl)
set_option maxRecDepth 100000 in
set_option maxHeartbeats 4000000 in
theorem c_X7_show {l : Launch} {V : VV} {L : LL} {N : NN} {I : List Nat} (hI : PI I) {n : Nat} (hn : V 201 39 = nI n) (hn24 : n ≤ 24) (x v : Int32) : Runs l 5 0 0 yX7_show (Cond.code yX7_show cX7_show 3 (some .int)) [aR 200, aI x, aI v] V L N I (Pm (some (aI (if th2 (withinB x 0 (nI n - 1)) (withinB v 0 11) = 0 then showN V x.toNatClampNeg v.toNatClampNeg else 0))) (fun V1 => SmR V V1 (th2 (withinB x 0 (nI n - 1)) (withinB v 0 11))) L N I) := by
  refine run_of RX7 (by decide +kernel) rfl (Nat.le_of_ble_eq_true rfl) (fun E hE C hQ hN => ?_)
  subst hE
  refine x_aload_n (pc := 0) C dX7_show_0 rfl ?_
  refine x_aload_n (pc := 1) C dX7_show_1 rfl ?_
  refine x_iload_n (pc := 2) C dX7_show_2 rfl ?_
  refine x_cV1 (pc := 3) (o := 200) C v_X7_152 dX7_show_3 (c_X7_isShow hI hn hn24 _) (hI 200 rfl) rfl (by decide) rfl ⟨Nat.le_refl _, Nat.le_refl _⟩ ?_
  refine x_if_ne (pc := 6) (tgt := 13) C dX7_show_6 (by decide) (fun h6 => ?_) (fun h6 => ?_)
  · obtain ⟨o, ho, rfl⟩ := shNat hn24 (b2i_t h6)
    have hcl : (nI o).toNatClampNeg = o := nI_clamp (by omega)
    refine x_iload_n (pc := 13) C dX7_show_13 rfl ?_
    refine x_iconst (pc := 14) C (0) dX7_show_14 (by decide) ?_
    refine x_bipush (pc := 15) C (11) dX7_show_15 (by decide) ?_
    refine x_cS3 (pc := 17) C s_X7_41 dX7_show_17 (c_X7_within _ _ _) (by decide) rfl ⟨Nat.le_refl _, Nat.le_refl _⟩ ?_
    refine x_if_eq (pc := 20) (tgt := 27) C dX7_show_20 (by decide) (fun h20 => ?_) (fun h20 => ?_)
    · refine x_iconst (pc := 27) C (2) dX7_show_27 (by decide) ?_
      refine x_putI (pc := 28) (o := 200) C p_X7_37 dX7_show_28 (hI 200 rfl) ⟨rfl, rfl, rfl⟩ ?_
      refine x_aload_n (pc := 31) C dX7_show_31 rfl ?_
      refine x_getI (pc := 32) (o := 200) C f_X7_37 dX7_show_32 (hI 200 rfl) ⟨rfl, rfl, rfl⟩ ?_
      refine x_topi 2 up_ss ?_
      refine x_if_le (pc := 35) (tgt := 42) C dX7_show_35 (by decide) (fun h35 => absurd h35 (by decide)) (fun h35 => ?_)
      refine x_iconst (pc := 38) C (0) dX7_show_38 (by decide) ?_
      refine x_goto (pc := 39) (tgt := 48) C dX7_show_39 (by decide) ?_
      exact x_iret (pc := 48) C hQ dX7_show_48 (pm_i (if0_2 (th2_2 (b2i_t h6) (b2i_f h20))).symm (by rw [th2_2 (b2i_t h6) (b2i_f h20)]; exact smR_0)) (Nat.le_of_ble_eq_true rfl) (Nat.le_of_ble_eq_true rfl)
    · obtain ⟨w, hw, rfl⟩ := win_of (k := 11) (by decide) (b2i_t h20)
      have hcw : (nI w).toNatClampNeg = w := nI_clamp (by omega)
      refine x_iconst (pc := 23) C (0) dX7_show_23 (by decide) ?_
      refine x_goto (pc := 24) (tgt := 28) C dX7_show_24 (by decide) ?_
      refine x_putI (pc := 28) (o := 200) C p_X7_37 dX7_show_28 (hI 200 rfl) ⟨rfl, rfl, rfl⟩ ?_
      refine x_aload_n (pc := 31) C dX7_show_31 rfl ?_
      refine x_getI (pc := 32) (o := 200) C f_X7_37 dX7_show_32 (hI 200 rfl) ⟨rfl, rfl, rfl⟩ ?_
      refine x_topi 0 up_ss ?_
      refine x_if_le (pc := 35) (tgt := 42) C dX7_show_35 (by decide) (fun h35 => ?_) (fun h35 => absurd (by decide) h35)
      refine x_aload_n (pc := 42) C dX7_show_42 rfl ?_
      refine x_iload_n (pc := 43) C dX7_show_43 rfl ?_
      refine x_iload_n (pc := 44) C dX7_show_44 rfl ?_
      refine x_pV2 (pc := 45) (o := 200) C v_X7_224 dX7_show_45 (c_X7_showNow (V := up V 200 0 0) hI hn hn24 o w ho hw) (hI 200 rfl) rfl (by decide) rfl ⟨Nat.le_refl _, Nat.le_refl _⟩ (fun V1 hV1 => ?_)
      exact x_iret (pc := 48) C hQ dX7_show_48 (pm_i (by rw [if0_t (th2_0 (b2i_t h6) (b2i_t h20))]; exact by rw [hcl, hcw]; rfl) (by rw [th2_0 (b2i_t h6) (b2i_t h20)]; exact smR_0.l hV1)) (Nat.le_of_ble_eq_true rfl) (Nat.le_of_ble_eq_true rfl)
  · refine x_iconst (pc := 9) C (1) dX7_show_9 (by decide) ?_
    refine x_goto (pc := 10) (tgt := 28) C dX7_show_10 (by decide) ?_
    refine x_putI (pc := 28) (o := 200) C p_X7_37 dX7_show_28 (hI 200 rfl) ⟨rfl, rfl, rfl⟩ ?_
    refine x_aload_n (pc := 31) C dX7_show_31 rfl ?_
    refine x_getI (pc := 32) (o := 200) C f_X7_37 dX7_show_32 (hI 200 rfl) ⟨rfl, rfl, rfl⟩ ?_
    refine x_topi 1 up_ss ?_
    refine x_if_le (pc := 35) (tgt := 42) C dX7_show_35 (by decide) (fun h35 => absurd h35 (by decide)) (fun h35 => ?_)
    refine x_iconst (pc := 38) C (0) dX7_show_38 (by decide) ?_
    refine x_goto (pc := 39) (tgt := 48) C dX7_show_39 (by decide) ?_
    exact x_iret (pc := 48) C hQ dX7_show_48 (pm_i (if0_1 (th2_1 (b2i_f h6))).symm (by rw [th2_1 (b2i_f h6)]; exact smR_0)) (Nat.le_of_ble_eq_true rfl) (Nat.le_of_ble_eq_true rfl)
set_option maxRecDepth 100000 in
set_option maxHeartbeats 4000000 in
theorem c_X7_showsOf {l : Launch} {V : VV} {L : LL} {N : NN} {I : List Nat} (hI : PI I) {n : Nat} (hn : V 201 39 = nI n) (hn24 : n ≤ 24) (g : Int32) : Runs l 2 0 0 yX7_showsOf (Cond.code yX7_showsOf cX7_showsOf 4 (some .int)) [aR 200, aI g] V L N I (Is (some (aI (cntS (RF V) 1 n g))) (V) (L) N I) := by
  refine run_of RX7 (by decide +kernel) rfl (Nat.le_of_ble_eq_true rfl) (fun E hE C hQ hN => ?_)
  subst hE
  refine x_iconst (pc := 0) C (0) dX7_showsOf_0 (by decide) ?_
  refine y_istore_n (pc := 1) C dX7_showsOf_1 (by decide) rfl ?_
  refine x_iconst (pc := 2) C (0) dX7_showsOf_2 (by decide) ?_
  refine y_istore_n (pc := 3) C dX7_showsOf_3 (by decide) rfl ?_
  suffices key : ∀ (k i : Nat) (s : Int32), k + i = n → (s = sumTo (fun s => if RF V 1 s = g then 1 else 0) i) → Wx E 4 [some (aR 200), some (aI g), some (aI s), some (aI (nI i))] [] V L N I 0 0 by
    exact key (n) 0 0 (by omega) (rfl)
  intro k
  induction k with
  | zero =>
    intro i s hk hinv
    refine x_iload_n (pc := 4) C dX7_showsOf_4 rfl ?_
    refine x_aload_n (pc := 5) C dX7_showsOf_5 rfl ?_
    refine x_getR (pc := 6) (o := 200) (j := 201) C f_X7_7 dX7_showsOf_6 (hI 200 rfl) ⟨rfl, rfl⟩ ?_
    refine x_bipush (pc := 9) C (39) dX7_showsOf_9 (by decide) ?_
    refine x_topi (nI 39) (by decide) ?_
    refine x_iald (pc := 11) (o := 201) C dX7_showsOf_11 (hI 201 rfl) ⟨rfl, rfl⟩ (show _ < 232 by decide) (by decide) ?_
    refine x_topi (nI n) hn ?_
    refine x_icmp_ge (pc := 12) (tgt := 39) C dX7_showsOf_12 (by decide) (fun h12 => ?_) (fun h12 => absurd (by exact nI_le (by omega) (by omega)) h12)
    refine x_iload_n (pc := 39) C dX7_showsOf_39 rfl ?_
    exact x_iret (pc := 40) C hQ dX7_showsOf_40 (is_i (by rw [hinv, show i = n by omega]; rfl)) (Nat.le_of_ble_eq_true rfl) (Nat.le_of_ble_eq_true rfl)
  | succ k ih =>
    intro i s hk hinv
    refine x_iload_n (pc := 4) C dX7_showsOf_4 rfl ?_
    refine x_aload_n (pc := 5) C dX7_showsOf_5 rfl ?_
    refine x_getR (pc := 6) (o := 200) (j := 201) C f_X7_7 dX7_showsOf_6 (hI 200 rfl) ⟨rfl, rfl⟩ ?_
    refine x_bipush (pc := 9) C (39) dX7_showsOf_9 (by decide) ?_
    refine x_topi (nI 39) (by decide) ?_
    refine x_iald (pc := 11) (o := 201) C dX7_showsOf_11 (hI 201 rfl) ⟨rfl, rfl⟩ (show _ < 232 by decide) (by decide) ?_
    refine x_topi (nI n) hn ?_
    refine x_icmp_ge (pc := 12) (tgt := 39) C dX7_showsOf_12 (by decide) (fun h12 => absurd h12 (by exact nI_ge (by omega) (by omega))) (fun h12 => ?_)
    refine x_iload_n (pc := 15) C dX7_showsOf_15 rfl ?_
    refine x_aload_n (pc := 16) C dX7_showsOf_16 rfl ?_
    refine x_iload_n (pc := 17) C dX7_showsOf_17 rfl ?_
    refine x_iconst (pc := 18) C (1) dX7_showsOf_18 (by decide) ?_
    refine x_cV2 (pc := 19) (o := 200) C v_X7_45 dX7_showsOf_19 (c_X7_of hI (i) (1) (by omega)) (hI 200 rfl) rfl (by decide) rfl ⟨Nat.le_refl _, Nat.le_refl _⟩ ?_
    refine x_iload_n (pc := 22) C dX7_showsOf_22 rfl ?_
    refine x_icmp_ne (pc := 23) (tgt := 30) C dX7_showsOf_23 (by decide) (fun h23 => ?_) (fun h23 => ?_)
    · refine x_iconst (pc := 30) C (0) dX7_showsOf_30 (by decide) ?_
      refine x_iadd (pc := 31) C dX7_showsOf_31 ?_
      refine y_istore_n (pc := 32) C dX7_showsOf_32 (by decide) rfl ?_
      refine y_iinc (pc := 33) C (nI (i + 1)) dX7_showsOf_33 rfl (by exact nI_1 i) (by decide) rfl ?_
      refine x_goto (pc := 36) (tgt := 4) C dX7_showsOf_36 (by decide) ?_
      exact ih (i + 1) _ (by omega) (by rw [sumTo, ← hinv, Int32.add_zero]; exact sum_f h23)
    · refine x_iconst (pc := 26) C (1) dX7_showsOf_26 (by decide) ?_
      refine x_goto (pc := 27) (tgt := 31) C dX7_showsOf_27 (by decide) ?_
      refine x_iadd (pc := 31) C dX7_showsOf_31 ?_
      refine y_istore_n (pc := 32) C dX7_showsOf_32 (by decide) rfl ?_
      refine y_iinc (pc := 33) C (nI (i + 1)) dX7_showsOf_33 rfl (by exact nI_1 i) (by decide) rfl ?_
      refine x_goto (pc := 36) (tgt := 4) C dX7_showsOf_36 (by decide) ?_
      exact ih (i + 1) _ (by omega) (by rw [sumTo, ← hinv]; exact sum_t h23)
set_option maxRecDepth 100000 in
set_option maxHeartbeats 4000000 in
theorem c_X7_ofKind {l : Launch} {V : VV} {L : LL} {N : NN} {I : List Nat} (hI : PI I) {n : Nat} (hn : V 201 39 = nI n) (hn24 : n ≤ 24) (g : Int32) : Runs l 2 0 0 yX7_ofKind (Cond.code yX7_ofKind cX7_ofKind 4 (some .int)) [aR 200, aI g] V L N I (Is (some (aI (cntS (RF V) 0 n g))) (V) (L) N I) := by
  refine run_of RX7 (by decide +kernel) rfl (Nat.le_of_ble_eq_true rfl) (fun E hE C hQ hN => ?_)
  subst hE
  refine x_iconst (pc := 0) C (0) dX7_ofKind_0 (by decide) ?_
  refine y_istore_n (pc := 1) C dX7_ofKind_1 (by decide) rfl ?_
  refine x_iconst (pc := 2) C (0) dX7_ofKind_2 (by decide) ?_
  refine y_istore_n (pc := 3) C dX7_ofKind_3 (by decide) rfl ?_
  suffices key : ∀ (k i : Nat) (s : Int32), k + i = n → (s = sumTo (fun s => if RF V 0 s = g then 1 else 0) i) → Wx E 4 [some (aR 200), some (aI g), some (aI s), some (aI (nI i))] [] V L N I 0 0 by
    exact key (n) 0 0 (by omega) (rfl)
  intro k
  induction k with
  | zero =>
    intro i s hk hinv
    refine x_iload_n (pc := 4) C dX7_ofKind_4 rfl ?_
    refine x_aload_n (pc := 5) C dX7_ofKind_5 rfl ?_
    refine x_getR (pc := 6) (o := 200) (j := 201) C f_X7_7 dX7_ofKind_6 (hI 200 rfl) ⟨rfl, rfl⟩ ?_
    refine x_bipush (pc := 9) C (39) dX7_ofKind_9 (by decide) ?_
    refine x_topi (nI 39) (by decide) ?_
    refine x_iald (pc := 11) (o := 201) C dX7_ofKind_11 (hI 201 rfl) ⟨rfl, rfl⟩ (show _ < 232 by decide) (by decide) ?_
    refine x_topi (nI n) hn ?_
    refine x_icmp_ge (pc := 12) (tgt := 39) C dX7_ofKind_12 (by decide) (fun h12 => ?_) (fun h12 => absurd (by exact nI_le (by omega) (by omega)) h12)
    refine x_iload_n (pc := 39) C dX7_ofKind_39 rfl ?_
    exact x_iret (pc := 40) C hQ dX7_ofKind_40 (is_i (by rw [hinv, show i = n by omega]; rfl)) (Nat.le_of_ble_eq_true rfl) (Nat.le_of_ble_eq_true rfl)
  | succ k ih =>
    intro i s hk hinv
    refine x_iload_n (pc := 4) C dX7_ofKind_4 rfl ?_
    refine x_aload_n (pc := 5) C dX7_ofKind_5 rfl ?_
    refine x_getR (pc := 6) (o := 200) (j := 201) C f_X7_7 dX7_ofKind_6 (hI 200 rfl) ⟨rfl, rfl⟩ ?_
    refine x_bipush (pc := 9) C (39) dX7_ofKind_9 (by decide) ?_
    refine x_topi (nI 39) (by decide) ?_
    refine x_iald (pc := 11) (o := 201) C dX7_ofKind_11 (hI 201 rfl) ⟨rfl, rfl⟩ (show _ < 232 by decide) (by decide) ?_
    refine x_topi (nI n) hn ?_
    refine x_icmp_ge (pc := 12) (tgt := 39) C dX7_ofKind_12 (by decide) (fun h12 => absurd h12 (by exact nI_ge (by omega) (by omega))) (fun h12 => ?_)
    refine x_iload_n (pc := 15) C dX7_ofKind_15 rfl ?_
    refine x_aload_n (pc := 16) C dX7_ofKind_16 rfl ?_
    refine x_iload_n (pc := 17) C dX7_ofKind_17 rfl ?_
    refine x_iconst (pc := 18) C (0) dX7_ofKind_18 (by decide) ?_
    refine x_cV2 (pc := 19) (o := 200) C v_X7_45 dX7_ofKind_19 (c_X7_of hI (i) (0) (by omega)) (hI 200 rfl) rfl (by decide) rfl ⟨Nat.le_refl _, Nat.le_refl _⟩ ?_
    refine x_iload_n (pc := 22) C dX7_ofKind_22 rfl ?_
    refine x_icmp_ne (pc := 23) (tgt := 30) C dX7_ofKind_23 (by decide) (fun h23 => ?_) (fun h23 => ?_)
    · refine x_iconst (pc := 30) C (0) dX7_ofKind_30 (by decide) ?_
      refine x_iadd (pc := 31) C dX7_ofKind_31 ?_
      refine y_istore_n (pc := 32) C dX7_ofKind_32 (by decide) rfl ?_
      refine y_iinc (pc := 33) C (nI (i + 1)) dX7_ofKind_33 rfl (by exact nI_1 i) (by decide) rfl ?_
      refine x_goto (pc := 36) (tgt := 4) C dX7_ofKind_36 (by decide) ?_
      exact ih (i + 1) _ (by omega) (by rw [sumTo, ← hinv, Int32.add_zero]; exact sum_f h23)
    · refine x_iconst (pc := 26) C (1) dX7_ofKind_26 (by decide) ?_
      refine x_goto (pc := 27) (tgt := 31) C dX7_ofKind_27 (by decide) ?_
      refine x_iadd (pc := 31) C dX7_ofKind_31 ?_
      refine y_istore_n (pc := 32) C dX7_ofKind_32 (by decide) rfl ?_
      refine y_iinc (pc := 33) C (nI (i + 1)) dX7_ofKind_33 rfl (by exact nI_1 i) (by decide) rfl ?_
      refine x_goto (pc := 36) (tgt := 4) C dX7_ofKind_36 (by decide) ?_
      exact ih (i + 1) _ (by omega) (by rw [sumTo, ← hinv]; exact sum_t h23)
set_option maxRecDepth 100000 in
set_option maxHeartbeats 4000000 in
theorem c_X7_groupNow {l : Launch} {V : VV} {L : LL} {N : NN} {I : List Nat} (hI : PI I) {n : Nat} (hn : V 201 39 = nI n) (hn24 : n ≤ 24) (hdy : ∀ s, s < n → ∃ d, d < 7 ∧ RF V 2 s = nI d) (g w : Nat) (hg : g < 6) (hw : w < 9) : Runs l 6 0 0 yX7_groupNow (Cond.code yX7_groupNow cX7_groupNow 4 (some .int)) [aR 200, aI (nI g), aI (nI w)] V L N I (Pm (some (aI (grpN V n g w))) (fun V1 => SmL V V1) L N I) := by
  refine run_of RX7 (by decide +kernel) rfl (Nat.le_of_ble_eq_true rfl) (fun E hE C hQ hN => ?_)
  subst hE
  refine x_bipush (pc := 0) C (8) dX7_groupNow_0 (by decide) ?_
  refine x_iconst (pc := 2) C (5) dX7_groupNow_2 (by decide) ?_
  refine x_iload_n (pc := 3) C dX7_groupNow_3 rfl ?_
  refine x_imul (pc := 4) C dX7_groupNow_4 ?_
  refine x_iadd (pc := 5) C dX7_groupNow_5 ?_
  refine x_topi (nI (8 + 5 * g)) (z_ix2 (a := 8) (b := 5)) ?_
  refine y_istore_n (pc := 6) C dX7_groupNow_6 (by decide) rfl ?_
  refine x_iload_n (pc := 7) C dX7_groupNow_7 rfl ?_
  rcases (show w = 0 ∨ w = 1 ∨ w = 2 ∨ w = 3 ∨ w = 4 ∨ w = 5 ∨ 5 < w by omega) with rfl | rfl | rfl | rfl | rfl | rfl | hsw8
  · refine x_tableInN (pc := 8) (c := 0) (tgt := 48) C dX7_groupNow_8 (by decide) (by decide) (by decide) rfl (by decide) ?_
    refine x_aload_n (pc := 48) C dX7_groupNow_48 rfl ?_
    refine x_getR (pc := 49) (o := 200) (j := 201) C f_X7_7 dX7_groupNow_49 (hI 200 rfl) ⟨rfl, rfl⟩ ?_
    refine x_iload_n (pc := 52) C dX7_groupNow_52 rfl ?_
    refine x_iload_n (pc := 53) C dX7_groupNow_53 rfl ?_
    refine x_iadd (pc := 54) C dX7_groupNow_54 ?_
    refine x_topi (nI (8 + 5 * g + 0)) (nI_add _ _) ?_
    refine x_iald (pc := 55) (o := 201) C dX7_groupNow_55 (hI 201 rfl) ⟨rfl, rfl⟩ (show _ < 232 by omega) (by decide) ?_
    exact x_iret (pc := 56) C hQ dX7_groupNow_56 (pm_i rfl (fun _ _ _ _ => rfl)) (Nat.le_of_ble_eq_true rfl) (Nat.le_of_ble_eq_true rfl)
  · refine x_tableInN (pc := 8) (c := 1) (tgt := 48) C dX7_groupNow_8 (by decide) (by decide) (by decide) rfl (by decide) ?_
    refine x_aload_n (pc := 48) C dX7_groupNow_48 rfl ?_
    refine x_getR (pc := 49) (o := 200) (j := 201) C f_X7_7 dX7_groupNow_49 (hI 200 rfl) ⟨rfl, rfl⟩ ?_
    refine x_iload_n (pc := 52) C dX7_groupNow_52 rfl ?_
    refine x_iload_n (pc := 53) C dX7_groupNow_53 rfl ?_
    refine x_iadd (pc := 54) C dX7_groupNow_54 ?_
    refine x_topi (nI (8 + 5 * g + 1)) (nI_add _ _) ?_
    refine x_iald (pc := 55) (o := 201) C dX7_groupNow_55 (hI 201 rfl) ⟨rfl, rfl⟩ (show _ < 232 by omega) (by decide) ?_
    exact x_iret (pc := 56) C hQ dX7_groupNow_56 (pm_i rfl (fun _ _ _ _ => rfl)) (Nat.le_of_ble_eq_true rfl) (Nat.le_of_ble_eq_true rfl)
  · refine x_tableInN (pc := 8) (c := 2) (tgt := 57) C dX7_groupNow_8 (by decide) (by decide) (by decide) rfl (by decide) ?_
    refine x_aload_n (pc := 57) C dX7_groupNow_57 rfl ?_
    refine x_iload_n (pc := 58) C dX7_groupNow_58 rfl ?_
    refine x_cV1 (pc := 59) (o := 200) C v_X7_74 dX7_groupNow_59 (c_X7_allowance hI g hg) (hI 200 rfl) rfl (by decide) rfl ⟨Nat.le_refl _, Nat.le_refl _⟩ ?_
    exact x_iret (pc := 62) C hQ dX7_groupNow_62 (pm_i rfl (fun _ _ _ _ => rfl)) (Nat.le_of_ble_eq_true rfl) (Nat.le_of_ble_eq_true rfl)
  · refine x_tableInN (pc := 8) (c := 3) (tgt := 63) C dX7_groupNow_8 (by decide) (by decide) (by decide) rfl (by decide) ?_
    refine x_aload_n (pc := 63) C dX7_groupNow_63 rfl ?_
    refine x_iload_n (pc := 64) C dX7_groupNow_64 rfl ?_
    refine x_cV1 (pc := 65) (o := 200) C v_X7_70 dX7_groupNow_65 (c_X7_plannedWorth hI hn hn24 _) (hI 200 rfl) rfl (by decide) rfl ⟨Nat.le_refl _, Nat.le_refl _⟩ ?_
    exact x_iret (pc := 68) C hQ dX7_groupNow_68 (pm_i rfl (fun _ _ _ _ => rfl)) (Nat.le_of_ble_eq_true rfl) (Nat.le_of_ble_eq_true rfl)
  · refine x_tableInN (pc := 8) (c := 4) (tgt := 69) C dX7_groupNow_8 (by decide) (by decide) (by decide) rfl (by decide) ?_
    refine x_aload_n (pc := 69) C dX7_groupNow_69 rfl ?_
    refine x_iload_n (pc := 70) C dX7_groupNow_70 rfl ?_
    refine x_pV1 (pc := 71) (o := 200) C v_X7_167 dX7_groupNow_71 (c_X7_airWorth hI hn hn24 hdy _) (hI 200 rfl) rfl (by decide) rfl ⟨Nat.le_refl _, Nat.le_refl _⟩ (fun V1 hV1 => ?_)
    exact x_iret (pc := 74) C hQ dX7_groupNow_74 (pm_i rfl hV1) (Nat.le_of_ble_eq_true rfl) (Nat.le_of_ble_eq_true rfl)
  · refine x_tableInN (pc := 8) (c := 5) (tgt := 75) C dX7_groupNow_8 (by decide) (by decide) (by decide) rfl (by decide) ?_
    refine x_aload_n (pc := 75) C dX7_groupNow_75 rfl ?_
    refine x_iload_n (pc := 76) C dX7_groupNow_76 rfl ?_
    refine x_cV1 (pc := 77) (o := 200) C v_X7_227 dX7_groupNow_77 (c_X7_showsOf hI hn hn24 _) (hI 200 rfl) rfl (by decide) rfl ⟨Nat.le_refl _, Nat.le_refl _⟩ ?_
    exact x_iret (pc := 80) C hQ dX7_groupNow_80 (pm_i rfl (fun _ _ _ _ => rfl)) (Nat.le_of_ble_eq_true rfl) (Nat.le_of_ble_eq_true rfl)
  · refine x_tableOut (pc := 8) (tgt := 81) C dX7_groupNow_8 (Or.inr (by rw [nI_toInt (by omega)]; omega)) (by decide) ?_
    refine x_aload_n (pc := 81) C dX7_groupNow_81 rfl ?_
    refine x_getR (pc := 82) (o := 200) (j := 201) C f_X7_7 dX7_groupNow_82 (hI 200 rfl) ⟨rfl, rfl⟩ ?_
    refine x_iload_n (pc := 85) C dX7_groupNow_85 rfl ?_
    refine x_iload_n (pc := 86) C dX7_groupNow_86 rfl ?_
    refine x_iadd (pc := 87) C dX7_groupNow_87 ?_
    refine x_iconst (pc := 88) C (4) dX7_groupNow_88 (by decide) ?_
    refine x_isub (pc := 89) C dX7_groupNow_89 ?_
    refine x_topi (nI (8 + 5 * g + (w - 4))) (by rw [nI_add, show (4 : Int32) = nI 4 from rfl, pk_sub (by omega), show 8 + 5 * g + w - 4 = 8 + 5 * g + (w - 4) by omega]) ?_
    refine x_iald (pc := 90) (o := 201) C dX7_groupNow_90 (hI 201 rfl) ⟨rfl, rfl⟩ (show _ < 232 by omega) (by decide) ?_
    exact x_iret (pc := 91) C hQ dX7_groupNow_91 (pm_i (by unfold grpN; rw [if_neg (by omega), if_neg (by omega), if_neg (by omega), if_neg (by omega), if_neg (by omega)]) (fun _ _ _ _ => rfl)) (Nat.le_of_ble_eq_true rfl) (Nat.le_of_ble_eq_true rfl)
set_option maxRecDepth 100000 in
set_option maxHeartbeats 4000000 in
theorem c_X7_group {l : Launch} {V : VV} {L : LL} {N : NN} {I : List Nat} (hI : PI I) {n : Nat} (hn : V 201 39 = nI n) (hn24 : n ≤ 24) (hdy : ∀ s, s < n → ∃ d, d < 7 ∧ RF V 2 s = nI d) (x v : Int32) : Runs l 7 0 0 yX7_group (Cond.code yX7_group cX7_group 3 (some .int)) [aR 200, aI x, aI v] V L N I (Pm (some (aI (if th2 (withinB x 0 5) (withinB v 0 8) = 0 then grpN V n x.toNatClampNeg v.toNatClampNeg else 0))) (fun V1 => SmR V V1 (th2 (withinB x 0 5) (withinB v 0 8))) L N I) := by
  refine run_of RX7 (by decide +kernel) rfl (Nat.le_of_ble_eq_true rfl) (fun E hE C hQ hN => ?_)
  subst hE
  refine x_aload_n (pc := 0) C dX7_group_0 rfl ?_
  refine x_iload_n (pc := 1) C dX7_group_1 rfl ?_
  refine x_cS1 (pc := 2) C s_X7_123 dX7_group_2 (c_X7_isGroup _) (by decide) rfl ⟨Nat.le_refl _, Nat.le_refl _⟩ ?_
  refine x_if_ne (pc := 5) (tgt := 12) C dX7_group_5 (by decide) (fun h5 => ?_) (fun h5 => ?_)
  · obtain ⟨o, ho, rfl⟩ := win_of (k := 5) (by decide) (b2i_t h5)
    have hcl : (nI o).toNatClampNeg = o := nI_clamp (by omega)
    refine x_iload_n (pc := 12) C dX7_group_12 rfl ?_
    refine x_iconst (pc := 13) C (0) dX7_group_13 (by decide) ?_
    refine x_bipush (pc := 14) C (8) dX7_group_14 (by decide) ?_
    refine x_cS3 (pc := 16) C s_X7_41 dX7_group_16 (c_X7_within _ _ _) (by decide) rfl ⟨Nat.le_refl _, Nat.le_refl _⟩ ?_
    refine x_if_eq (pc := 19) (tgt := 26) C dX7_group_19 (by decide) (fun h19 => ?_) (fun h19 => ?_)
    · refine x_iconst (pc := 26) C (2) dX7_group_26 (by decide) ?_
      refine x_putI (pc := 27) (o := 200) C p_X7_37 dX7_group_27 (hI 200 rfl) ⟨rfl, rfl, rfl⟩ ?_
      refine x_aload_n (pc := 30) C dX7_group_30 rfl ?_
      refine x_getI (pc := 31) (o := 200) C f_X7_37 dX7_group_31 (hI 200 rfl) ⟨rfl, rfl, rfl⟩ ?_
      refine x_topi 2 up_ss ?_
      refine x_if_le (pc := 34) (tgt := 41) C dX7_group_34 (by decide) (fun h34 => absurd h34 (by decide)) (fun h34 => ?_)
      refine x_iconst (pc := 37) C (0) dX7_group_37 (by decide) ?_
      refine x_goto (pc := 38) (tgt := 47) C dX7_group_38 (by decide) ?_
      exact x_iret (pc := 47) C hQ dX7_group_47 (pm_i (if0_2 (th2_2 (b2i_t h5) (b2i_f h19))).symm (by rw [th2_2 (b2i_t h5) (b2i_f h19)]; exact smR_0)) (Nat.le_of_ble_eq_true rfl) (Nat.le_of_ble_eq_true rfl)
    · obtain ⟨w, hw, rfl⟩ := win_of (k := 8) (by decide) (b2i_t h19)
      have hcw : (nI w).toNatClampNeg = w := nI_clamp (by omega)
      refine x_iconst (pc := 22) C (0) dX7_group_22 (by decide) ?_
      refine x_goto (pc := 23) (tgt := 27) C dX7_group_23 (by decide) ?_
      refine x_putI (pc := 27) (o := 200) C p_X7_37 dX7_group_27 (hI 200 rfl) ⟨rfl, rfl, rfl⟩ ?_
      refine x_aload_n (pc := 30) C dX7_group_30 rfl ?_
      refine x_getI (pc := 31) (o := 200) C f_X7_37 dX7_group_31 (hI 200 rfl) ⟨rfl, rfl, rfl⟩ ?_
      refine x_topi 0 up_ss ?_
      refine x_if_le (pc := 34) (tgt := 41) C dX7_group_34 (by decide) (fun h34 => ?_) (fun h34 => absurd (by decide) h34)
      refine x_aload_n (pc := 41) C dX7_group_41 rfl ?_
      refine x_iload_n (pc := 42) C dX7_group_42 rfl ?_
      refine x_iload_n (pc := 43) C dX7_group_43 rfl ?_
      refine x_pV2 (pc := 44) (o := 200) C v_X7_230 dX7_group_44 (c_X7_groupNow (V := up V 200 0 0) hI hn hn24 hdy o w ho hw) (hI 200 rfl) rfl (by decide) rfl ⟨Nat.le_refl _, Nat.le_refl _⟩ (fun V1 hV1 => ?_)
      exact x_iret (pc := 47) C hQ dX7_group_47 (pm_i (by rw [if0_t (th2_0 (b2i_t h5) (b2i_t h19))]; exact by rw [hcl, hcw]; rfl) (by rw [th2_0 (b2i_t h5) (b2i_t h19)]; exact smR_0.l hV1)) (Nat.le_of_ble_eq_true rfl) (Nat.le_of_ble_eq_true rfl)
  · refine x_iconst (pc := 8) C (1) dX7_group_8 (by decide) ?_
    refine x_goto (pc := 9) (tgt := 27) C dX7_group_9 (by decide) ?_
    refine x_putI (pc := 27) (o := 200) C p_X7_37 dX7_group_27 (hI 200 rfl) ⟨rfl, rfl, rfl⟩ ?_
    refine x_aload_n (pc := 30) C dX7_group_30 rfl ?_
    refine x_getI (pc := 31) (o := 200) C f_X7_37 dX7_group_31 (hI 200 rfl) ⟨rfl, rfl, rfl⟩ ?_
    refine x_topi 1 up_ss ?_
    refine x_if_le (pc := 34) (tgt := 41) C dX7_group_34 (by decide) (fun h34 => absurd h34 (by decide)) (fun h34 => ?_)
    refine x_iconst (pc := 37) C (0) dX7_group_37 (by decide) ?_
    refine x_goto (pc := 38) (tgt := 47) C dX7_group_38 (by decide) ?_
    exact x_iret (pc := 47) C hQ dX7_group_47 (pm_i (if0_1 (th2_1 (b2i_f h5))).symm (by rw [th2_1 (b2i_f h5)]; exact smR_0)) (Nat.le_of_ble_eq_true rfl) (Nat.le_of_ble_eq_true rfl)
