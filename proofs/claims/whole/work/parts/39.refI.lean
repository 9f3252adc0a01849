set_option maxRecDepth 100000 in
set_option maxHeartbeats 4000000 in
theorem c_X7_dayWith {l : Launch} {V : VV} {L : LL} {N : NN} {I : List Nat} (hI : PI I) {n : Nat} (hn : V 201 39 = nI n) (hn24 : n ≤ 24) (s w : Nat) (hs : s < n) (hw : w < 8) (b : Int32) : Runs l 5 0 0 yX7_dayWith (Cond.code yX7_dayWith cX7_dayWith 6 (some .int)) [aR 200, aI (nI s), aI b, aI (nI w)] V L N I (Pm (some (aI (dN (ovR V s b) n (RF V 2 s) w))) (OvP V s b) L N I) := by
  refine run_of RX7 (by decide +kernel) rfl (Nat.le_of_ble_eq_true rfl) (fun E hE C hQ hN => ?_)
  subst hE
  refine x_aload_n (pc := 0) C dX7_dayWith_0 rfl ?_
  refine x_iload_n (pc := 1) C dX7_dayWith_1 rfl ?_
  refine x_bipush (pc := 2) C (6) dX7_dayWith_2 (by decide) ?_
  refine x_cV2 (pc := 4) (o := 200) C v_X7_45 dX7_dayWith_4 (c_X7_of hI s 6 (by omega)) (hI 200 rfl) rfl (by decide) rfl ⟨Nat.le_refl _, Nat.le_refl _⟩ ?_
  refine y_istore (pc := 7) C dX7_dayWith_7 (by decide) rfl ?_
  refine x_aload_n (pc := 9) C dX7_dayWith_9 rfl ?_
  refine x_iload_n (pc := 10) C dX7_dayWith_10 rfl ?_
  refine x_bipush (pc := 11) C (6) dX7_dayWith_11 (by decide) ?_
  refine x_iload_n (pc := 13) C dX7_dayWith_13 rfl ?_
  refine x_cV3 (pc := 14) (o := 200) C v_X7_80 dX7_dayWith_14 (c_X7_put hI s 6 b (by omega)) (hI 200 rfl) rfl (by decide) rfl ⟨Nat.le_refl _, Nat.le_refl _⟩ ?_
  refine x_aload_n (pc := 17) C dX7_dayWith_17 rfl ?_
  refine x_aload_n (pc := 18) C dX7_dayWith_18 rfl ?_
  refine x_iload_n (pc := 19) C dX7_dayWith_19 rfl ?_
  refine x_iconst (pc := 20) C (2) dX7_dayWith_20 (by decide) ?_
  refine x_cV2 (pc := 21) (o := 200) C v_X7_45 dX7_dayWith_21 (c_X7_of (V := ovR V s b) hI s 2 (by omega)) (hI 200 rfl) rfl (by decide) rfl ⟨Nat.le_refl _, Nat.le_refl _⟩ ?_
  refine x_topi (RF V 2 s) (RF_ov (by decide) (by omega)) ?_
  refine x_iload_n (pc := 24) C dX7_dayWith_24 rfl ?_
  refine x_pV2 (pc := 25) (o := 200) C v_X7_100 dX7_dayWith_25 (c_X7_dayNow (V := ovR V s b) hI (by show up V 201 _ _ 201 39 = _; rw [up_nk (by omega)]; exact hn) hn24 _ w hw) (hI 200 rfl) rfl (by decide) rfl ⟨Nat.le_refl _, Nat.le_refl _⟩ (fun V1 hV1 => ?_)
  have hz : V1 208 s = airR (RF (ovR V s b)) ((ovR V s b) 201) 3 s := hV1.2.2.1 s (by omega) (RF_ov (by decide) (by omega)) 3 (by decide)
  refine y_istore (pc := 28) C dX7_dayWith_28 (by decide) rfl ?_
  refine x_aload_n (pc := 30) C dX7_dayWith_30 rfl ?_
  refine x_iload_n (pc := 31) C dX7_dayWith_31 rfl ?_
  refine x_bipush (pc := 32) C (6) dX7_dayWith_32 (by decide) ?_
  refine x_iload (pc := 34) C dX7_dayWith_34 rfl ?_
  refine x_cV3 (pc := 36) (o := 200) C v_X7_80 dX7_dayWith_36 (c_X7_put (V := V1) hI s 6 (V 201 (40 + 8 * s + 6)) (by omega)) (hI 200 rfl) rfl (by decide) rfl ⟨Nat.le_refl _, Nat.le_refl _⟩ ?_
  refine x_iload (pc := 39) C dX7_dayWith_39 rfl ?_
  exact x_iret (pc := 41) C hQ dX7_dayWith_41 (pm_i rfl ⟨ovR_back hV1.1, by rw [up_no (by decide)]; exact hz⟩) (Nat.le_of_ble_eq_true rfl) (Nat.le_of_ble_eq_true rfl)
set_option maxRecDepth 100000 in
set_option maxHeartbeats 4000000 in
theorem c_X7_ifOverrun {l : Launch} {V : VV} {L : LL} {N : NN} {I : List Nat} (hI : PI I) {n : Nat} (hn : V 201 39 = nI n) (hn24 : n ≤ 24) (x b v : Int32) : Runs l 6 0 0 yX7_ifOverrun (Cond.code yX7_ifOverrun cX7_ifOverrun 4 (some .int)) [aR 200, aI x, aI b, aI v] V L N I (Pm (some (aI (if th3 (withinB x 0 (nI n - 1)) (withinB b (-60) 120 && withinB v 0 7) (decide (RF V 0 x.toNatClampNeg = 0)) = 0 then dN (ovR V x.toNatClampNeg b) n (RF V 2 x.toNatClampNeg) v.toNatClampNeg else 0))) (fun V1 => SmR V V1 (th3 (withinB x 0 (nI n - 1)) (withinB b (-60) 120 && withinB v 0 7) (decide (RF V 0 x.toNatClampNeg = 0)))) L N I) := by
  refine run_of RX7 (by decide +kernel) rfl (Nat.le_of_ble_eq_true rfl) (fun E hE C hQ hN => ?_)
  subst hE
  refine x_aload_n (pc := 0) C dX7_ifOverrun_0 rfl ?_
  refine x_aload_n (pc := 1) C dX7_ifOverrun_1 rfl ?_
  refine x_iload_n (pc := 2) C dX7_ifOverrun_2 rfl ?_
  refine x_cV1 (pc := 3) (o := 200) C v_X7_152 dX7_ifOverrun_3 (c_X7_isShow hI hn hn24 _) (hI 200 rfl) rfl (by decide) rfl ⟨Nat.le_refl _, Nat.le_refl _⟩ ?_
  refine x_if_ne (pc := 6) (tgt := 13) C dX7_ifOverrun_6 (by decide) (fun h6 => ?_) (fun h6 => ?_)
  · obtain ⟨o, ho, rfl⟩ := shNat hn24 (b2i_t h6)
    have hcl : (nI o).toNatClampNeg = o := nI_clamp (by omega)
    refine x_iload_n (pc := 13) C dX7_ifOverrun_13 rfl ?_
    refine x_cS1 (pc := 14) C s_X7_161 dX7_ifOverrun_14 (c_X7_isOverrun _) (by decide) rfl ⟨Nat.le_refl _, Nat.le_refl _⟩ ?_
    refine x_if_eq (pc := 17) (tgt := 30) C dX7_ifOverrun_17 (by decide) (fun h17 => ?_) (fun h17 => ?_)
    · refine x_iconst (pc := 30) C (2) dX7_ifOverrun_30 (by decide) ?_
      refine x_goto (pc := 31) (tgt := 47) C dX7_ifOverrun_31 (by decide) ?_
      refine x_putI (pc := 47) (o := 200) C p_X7_37 dX7_ifOverrun_47 (hI 200 rfl) ⟨rfl, rfl, rfl⟩ ?_
      refine x_aload_n (pc := 50) C dX7_ifOverrun_50 rfl ?_
      refine x_getI (pc := 51) (o := 200) C f_X7_37 dX7_ifOverrun_51 (hI 200 rfl) ⟨rfl, rfl, rfl⟩ ?_
      refine x_topi 2 up_ss ?_
      refine x_if_le (pc := 54) (tgt := 61) C dX7_ifOverrun_54 (by decide) (fun h54 => absurd h54 (by decide)) (fun h54 => ?_)
      refine x_iconst (pc := 57) C (0) dX7_ifOverrun_57 (by decide) ?_
      refine x_goto (pc := 58) (tgt := 68) C dX7_ifOverrun_58 (by decide) ?_
      exact x_iret (pc := 68) C hQ dX7_ifOverrun_68 (pm_i (if0_2 (th3_2 (b2i_t h6) (by rw [b2i_f h17]; rfl))).symm (by rw [th3_2 (b2i_t h6) (by rw [b2i_f h17]; rfl)]; exact smR_0)) (Nat.le_of_ble_eq_true rfl) (Nat.le_of_ble_eq_true rfl)
    · refine x_iload_n (pc := 20) C dX7_ifOverrun_20 rfl ?_
      refine x_iconst (pc := 21) C (0) dX7_ifOverrun_21 (by decide) ?_
      refine x_bipush (pc := 22) C (7) dX7_ifOverrun_22 (by decide) ?_
      refine x_cS3 (pc := 24) C s_X7_41 dX7_ifOverrun_24 (c_X7_within _ _ _) (by decide) rfl ⟨Nat.le_refl _, Nat.le_refl _⟩ ?_
      refine x_if_ne (pc := 27) (tgt := 34) C dX7_ifOverrun_27 (by decide) (fun h27 => ?_) (fun h27 => ?_)
      · obtain ⟨w, hw, rfl⟩ := win_of (k := 7) (by decide) (b2i_t h27)
        have hcw : (nI w).toNatClampNeg = w := nI_clamp (by omega)
        refine x_aload_n (pc := 34) C dX7_ifOverrun_34 rfl ?_
        refine x_iload_n (pc := 35) C dX7_ifOverrun_35 rfl ?_
        refine x_cV1 (pc := 36) (o := 200) C v_X7_164 dX7_ifOverrun_36 (c_X7_isLive hI o (by omega)) (hI 200 rfl) rfl (by decide) rfl ⟨Nat.le_refl _, Nat.le_refl _⟩ ?_
        refine x_if_eq (pc := 39) (tgt := 46) C dX7_ifOverrun_39 (by decide) (fun h39 => ?_) (fun h39 => ?_)
        · refine x_iconst (pc := 46) C (3) dX7_ifOverrun_46 (by decide) ?_
          refine x_putI (pc := 47) (o := 200) C p_X7_37 dX7_ifOverrun_47 (hI 200 rfl) ⟨rfl, rfl, rfl⟩ ?_
          refine x_aload_n (pc := 50) C dX7_ifOverrun_50 rfl ?_
          refine x_getI (pc := 51) (o := 200) C f_X7_37 dX7_ifOverrun_51 (hI 200 rfl) ⟨rfl, rfl, rfl⟩ ?_
          refine x_topi 3 up_ss ?_
          refine x_if_le (pc := 54) (tgt := 61) C dX7_ifOverrun_54 (by decide) (fun h54 => absurd h54 (by decide)) (fun h54 => ?_)
          refine x_iconst (pc := 57) C (0) dX7_ifOverrun_57 (by decide) ?_
          refine x_goto (pc := 58) (tgt := 68) C dX7_ifOverrun_58 (by decide) ?_
          exact x_iret (pc := 68) C hQ dX7_ifOverrun_68 (pm_i (if0_3 (th3_3 (b2i_t h6) (by rw [b2i_t h17, b2i_t h27]; rfl) (by rw [hcl]; exact b2i_f h39))).symm (by rw [th3_3 (b2i_t h6) (by rw [b2i_t h17, b2i_t h27]; rfl) (by rw [hcl]; exact b2i_f h39)]; exact smR_0)) (Nat.le_of_ble_eq_true rfl) (Nat.le_of_ble_eq_true rfl)
        · refine x_iconst (pc := 42) C (0) dX7_ifOverrun_42 (by decide) ?_
          refine x_goto (pc := 43) (tgt := 47) C dX7_ifOverrun_43 (by decide) ?_
          refine x_putI (pc := 47) (o := 200) C p_X7_37 dX7_ifOverrun_47 (hI 200 rfl) ⟨rfl, rfl, rfl⟩ ?_
          refine x_aload_n (pc := 50) C dX7_ifOverrun_50 rfl ?_
          refine x_getI (pc := 51) (o := 200) C f_X7_37 dX7_ifOverrun_51 (hI 200 rfl) ⟨rfl, rfl, rfl⟩ ?_
          refine x_topi 0 up_ss ?_
          refine x_if_le (pc := 54) (tgt := 61) C dX7_ifOverrun_54 (by decide) (fun h54 => ?_) (fun h54 => absurd (by decide) h54)
          refine x_aload_n (pc := 61) C dX7_ifOverrun_61 rfl ?_
          refine x_iload_n (pc := 62) C dX7_ifOverrun_62 rfl ?_
          refine x_iload_n (pc := 63) C dX7_ifOverrun_63 rfl ?_
          refine x_iload_n (pc := 64) C dX7_ifOverrun_64 rfl ?_
          refine x_pV3 (pc := 65) (o := 200) C v_X7_256 dX7_ifOverrun_65 (c_X7_dayWith (V := up V 200 0 0) hI hn hn24 o w ho hw b) (hI 200 rfl) rfl (by decide) rfl ⟨Nat.le_refl _, Nat.le_refl _⟩ (fun V1 hV1 => ?_)
          exact x_iret (pc := 68) C hQ dX7_ifOverrun_68 (pm_i (by rw [if0_t (th3_0 (b2i_t h6) (by rw [b2i_t h17, b2i_t h27]; rfl) (by rw [hcl]; exact b2i_t h39))]; exact by rw [hcl, hcw]; exact dN_sm (ov_z rfl)) (by rw [th3_0 (b2i_t h6) (by rw [b2i_t h17, b2i_t h27]; rfl) (by rw [hcl]; exact b2i_t h39)]; exact smR_0.l hV1.1)) (Nat.le_of_ble_eq_true rfl) (Nat.le_of_ble_eq_true rfl)
      · refine x_iconst (pc := 30) C (2) dX7_ifOverrun_30 (by decide) ?_
        refine x_goto (pc := 31) (tgt := 47) C dX7_ifOverrun_31 (by decide) ?_
        refine x_putI (pc := 47) (o := 200) C p_X7_37 dX7_ifOverrun_47 (hI 200 rfl) ⟨rfl, rfl, rfl⟩ ?_
        refine x_aload_n (pc := 50) C dX7_ifOverrun_50 rfl ?_
        refine x_getI (pc := 51) (o := 200) C f_X7_37 dX7_ifOverrun_51 (hI 200 rfl) ⟨rfl, rfl, rfl⟩ ?_
        refine x_topi 2 up_ss ?_
        refine x_if_le (pc := 54) (tgt := 61) C dX7_ifOverrun_54 (by decide) (fun h54 => absurd h54 (by decide)) (fun h54 => ?_)
        refine x_iconst (pc := 57) C (0) dX7_ifOverrun_57 (by decide) ?_
        refine x_goto (pc := 58) (tgt := 68) C dX7_ifOverrun_58 (by decide) ?_
        exact x_iret (pc := 68) C hQ dX7_ifOverrun_68 (pm_i (if0_2 (th3_2 (b2i_t h6) (by rw [b2i_f h27, Bool.and_false]))).symm (by rw [th3_2 (b2i_t h6) (by rw [b2i_f h27, Bool.and_false])]; exact smR_0)) (Nat.le_of_ble_eq_true rfl) (Nat.le_of_ble_eq_true rfl)
  · refine x_iconst (pc := 9) C (1) dX7_ifOverrun_9 (by decide) ?_
    refine x_goto (pc := 10) (tgt := 47) C dX7_ifOverrun_10 (by decide) ?_
    refine x_putI (pc := 47) (o := 200) C p_X7_37 dX7_ifOverrun_47 (hI 200 rfl) ⟨rfl, rfl, rfl⟩ ?_
    refine x_aload_n (pc := 50) C dX7_ifOverrun_50 rfl ?_
    refine x_getI (pc := 51) (o := 200) C f_X7_37 dX7_ifOverrun_51 (hI 200 rfl) ⟨rfl, rfl, rfl⟩ ?_
    refine x_topi 1 up_ss ?_
    refine x_if_le (pc := 54) (tgt := 61) C dX7_ifOverrun_54 (by decide) (fun h54 => absurd h54 (by decide)) (fun h54 => ?_)
    refine x_iconst (pc := 57) C (0) dX7_ifOverrun_57 (by decide) ?_
    refine x_goto (pc := 58) (tgt := 68) C dX7_ifOverrun_58 (by decide) ?_
    exact x_iret (pc := 68) C hQ dX7_ifOverrun_68 (pm_i (if0_1 (th3_1 (b2i_f h6))).symm (by rw [th3_1 (b2i_f h6)]; exact smR_0)) (Nat.le_of_ble_eq_true rfl) (Nat.le_of_ble_eq_true rfl)
set_option maxRecDepth 100000 in
set_option maxHeartbeats 4000000 in
theorem c_X7_mostOverrun {l : Launch} {V : VV} {L : LL} {N : NN} {I : List Nat} (hI : PI I) {n : Nat} (hn : V 201 39 = nI n) (hn24 : n ≤ 24) (s : Nat) (hs : s < n) : Runs l 6 0 0 yX7_mostOverrun (Cond.code yX7_mostOverrun cX7_mostOverrun 4 (some .int)) [aR 200, aI (nI s)] V L N I (Pm (some (aI (mosS V n s 181))) (fun V1 => SmL V V1) L N I) := by
  refine run_of RX7 (by decide +kernel) rfl (Nat.le_of_ble_eq_true rfl) (fun E hE C hQ hN => ?_)
  subst hE
  refine x_bipush (pc := 0) C (120) dX7_mostOverrun_0 (by decide) ?_
  refine y_istore_n (pc := 2) C dX7_mostOverrun_2 (by decide) rfl ?_
  suffices key : ∀ (k : Nat) (V1 : VV), k ≤ 181 → (SmL V V1 ∧ mosS V n s 181 = mosS V n s k) → Wx E 3 [some (aR 200), some (aI (nI s)), some (aI (nI k - 61)), none] [] V1 L N I 0 0 by
    exact key 181 V (by decide) ⟨fun _ _ _ _ => rfl, rfl⟩
  intro k
  induction k with
  | zero =>
    intro V1 hk hinv
    refine x_iload_n (pc := 3) C dX7_mostOverrun_3 rfl ?_
    refine x_bipush (pc := 4) C (-60) dX7_mostOverrun_4 (by decide) ?_
    refine x_icmp_lt (pc := 6) (tgt := 45) C dX7_mostOverrun_6 (by decide) (fun h6 => ?_) (fun h6 => absurd (by decide) h6)
    refine x_bipush (pc := 45) C (-101) dX7_mostOverrun_45 (by decide) ?_
    exact x_iret (pc := 47) C hQ dX7_mostOverrun_47 (pm_i (by rw [hinv.2]; rfl) hinv.1) (Nat.le_of_ble_eq_true rfl) (Nat.le_of_ble_eq_true rfl)
  | succ k ih =>
    intro V1 hk hinv
    refine x_iload_n (pc := 3) C dX7_mostOverrun_3 rfl ?_
    refine x_bipush (pc := 4) C (-60) dX7_mostOverrun_4 (by decide) ?_
    refine x_icmp_lt (pc := 6) (tgt := 45) C dX7_mostOverrun_6 (by decide) (fun h6 => absurd h6 (by exact mo_ge (by omega))) (fun h6 => ?_)
    refine x_aload_n (pc := 9) C dX7_mostOverrun_9 rfl ?_
    refine x_iload_n (pc := 10) C dX7_mostOverrun_10 rfl ?_
    refine x_iload_n (pc := 11) C dX7_mostOverrun_11 rfl ?_
    refine x_iconst (pc := 12) C (4) dX7_mostOverrun_12 (by decide) ?_
    refine x_pV3 (pc := 13) (o := 200) C v_X7_256 dX7_mostOverrun_13 (c_X7_dayWith (V := V1) hI (by rw [hinv.1.z]; exact hn) hn24 s 4 hs (by decide) _) (hI 200 rfl) rfl (by decide) rfl ⟨Nat.le_refl _, Nat.le_refl _⟩ (fun V2 hV2 => ?_)
    refine x_topi (dN (ovR V s (nI (k + 1) - 61)) n (RF V 2 s) 4) (by rw [dN_sm (ov_z hinv.1.z), RF_z hinv.1.z]) ?_
    refine y_istore_n (pc := 16) C dX7_mostOverrun_16 (by decide) rfl ?_
    refine x_iload_n (pc := 17) C dX7_mostOverrun_17 rfl ?_
    refine x_aload_n (pc := 18) C dX7_mostOverrun_18 rfl ?_
    refine x_getR (pc := 19) (o := 200) (j := 208) C f_X7_31 dX7_mostOverrun_19 (hI 200 rfl) ⟨rfl, rfl⟩ ?_
    refine x_iload_n (pc := 22) C dX7_mostOverrun_22 rfl ?_
    refine x_iald (pc := 23) (o := 208) C dX7_mostOverrun_23 (hI 208 rfl) ⟨rfl, rfl⟩ (show _ < 24 by omega) (by decide) ?_
    refine x_topi (airR (RF (ovR V s (nI (k + 1) - 61))) ((ovR V s (nI (k + 1) - 61)) 201) 3 s) (by rw [hV2.2, RF_z (ov_z hinv.1.z), ov_z hinv.1.z]) ?_
    refine x_iconst (pc := 24) C (2) dX7_mostOverrun_24 (by decide) ?_
    have J33 : Wx E 33 [some (aR 200), some (aI (nI s)), some (aI (nI (k + 1) - 61)), some (aI (dN (ovR V s (nI (k + 1) - 61)) n (RF V 2 s) 4))] [aI (b2i (decide ((airR (RF (ovR V s (nI (k + 1) - 61))) ((ovR V s (nI (k + 1) - 61)) 201) 3 s) = 2))), aI (dN (ovR V s (nI (k + 1) - 61)) n (RF V 2 s) 4)] V2 L N I 0 0 := by
      refine x_isub (pc := 33) C dX7_mostOverrun_33 ?_
      refine x_if_ne (pc := 34) (tgt := 39) C dX7_mostOverrun_34 (by decide) (fun h34 => ?_) (fun h34 => ?_)
      · refine y_iinc (pc := 39) C (nI k - 61) dX7_mostOverrun_39 rfl (by exact mo_pred k) (by decide) rfl ?_
        refine x_goto (pc := 42) (tgt := 3) C dX7_mostOverrun_42 (by decide) ?_
        refine x_fgt 3 ?_
        exact ih _ (by omega) ⟨hinv.1.t hV2.1, by rw [hinv.2, mosS, if_neg h34]⟩
      · refine x_iload_n (pc := 37) C dX7_mostOverrun_37 rfl ?_
        exact x_iret (pc := 38) C hQ dX7_mostOverrun_38 (pm_i (by rw [hinv.2, mosS, if_pos h34]) (hinv.1.t hV2.1)) (Nat.le_of_ble_eq_true rfl) (Nat.le_of_ble_eq_true rfl)
    refine x_icmp_ne (pc := 25) (tgt := 32) C dX7_mostOverrun_25 (by decide) (fun h25 => ?_) (fun h25 => ?_)
    · refine x_iconst (pc := 32) C (0) dX7_mostOverrun_32 (by decide) ?_
      refine x_topi (b2i (decide ((airR (RF (ovR V s (nI (k + 1) - 61))) ((ovR V s (nI (k + 1) - 61)) 201) 3 s) = 2))) (b2i_cn h25).symm ?_
      exact J33
    · refine x_iconst (pc := 28) C (1) dX7_mostOverrun_28 (by decide) ?_
      refine x_goto (pc := 29) (tgt := 33) C dX7_mostOverrun_29 (by decide) ?_
      refine x_topi (b2i (decide ((airR (RF (ovR V s (nI (k + 1) - 61))) ((ovR V s (nI (k + 1) - 61)) 201) 3 s) = 2))) (b2i_c h25).symm ?_
      exact J33
set_option maxRecDepth 100000 in
set_option maxHeartbeats 4000000 in
theorem c_X7_greatestOverrun {l : Launch} {V : VV} {L : LL} {N : NN} {I : List Nat} (hI : PI I) {n : Nat} (hn : V 201 39 = nI n) (hn24 : n ≤ 24) (x : Int32) : Runs l 7 0 0 yX7_greatestOverrun (Cond.code yX7_greatestOverrun cX7_greatestOverrun 2 (some .int)) [aR 200, aI x] V L N I (Pm (some (aI (if th2 (withinB x 0 (nI n - 1)) (decide (RF V 0 x.toNatClampNeg = 0)) = 0 then mosS V n x.toNatClampNeg 181 else 0))) (fun V1 => SmR V V1 (th2 (withinB x 0 (nI n - 1)) (decide (RF V 0 x.toNatClampNeg = 0)))) L N I) := by
  refine run_of RX7 (by decide +kernel) rfl (Nat.le_of_ble_eq_true rfl) (fun E hE C hQ hN => ?_)
  subst hE
  refine x_aload_n (pc := 0) C dX7_greatestOverrun_0 rfl ?_
  refine x_aload_n (pc := 1) C dX7_greatestOverrun_1 rfl ?_
  refine x_iload_n (pc := 2) C dX7_greatestOverrun_2 rfl ?_
  refine x_cV1 (pc := 3) (o := 200) C v_X7_152 dX7_greatestOverrun_3 (c_X7_isShow hI hn hn24 _) (hI 200 rfl) rfl (by decide) rfl ⟨Nat.le_refl _, Nat.le_refl _⟩ ?_
  refine x_if_ne (pc := 6) (tgt := 13) C dX7_greatestOverrun_6 (by decide) (fun h6 => ?_) (fun h6 => ?_)
  · obtain ⟨o, ho, rfl⟩ := shNat hn24 (b2i_t h6)
    have hcl : (nI o).toNatClampNeg = o := nI_clamp (by omega)
    refine x_aload_n (pc := 13) C dX7_greatestOverrun_13 rfl ?_
    refine x_iload_n (pc := 14) C dX7_greatestOverrun_14 rfl ?_
    refine x_cV1 (pc := 15) (o := 200) C v_X7_164 dX7_greatestOverrun_15 (c_X7_isLive hI o (by omega)) (hI 200 rfl) rfl (by decide) rfl ⟨Nat.le_refl _, Nat.le_refl _⟩ ?_
    refine x_if_eq (pc := 18) (tgt := 25) C dX7_greatestOverrun_18 (by decide) (fun h18 => ?_) (fun h18 => ?_)
    · refine x_iconst (pc := 25) C (2) dX7_greatestOverrun_25 (by decide) ?_
      refine x_putI (pc := 26) (o := 200) C p_X7_37 dX7_greatestOverrun_26 (hI 200 rfl) ⟨rfl, rfl, rfl⟩ ?_
      refine x_aload_n (pc := 29) C dX7_greatestOverrun_29 rfl ?_
      refine x_getI (pc := 30) (o := 200) C f_X7_37 dX7_greatestOverrun_30 (hI 200 rfl) ⟨rfl, rfl, rfl⟩ ?_
      refine x_topi 2 up_ss ?_
      refine x_if_le (pc := 33) (tgt := 40) C dX7_greatestOverrun_33 (by decide) (fun h33 => absurd h33 (by decide)) (fun h33 => ?_)
      refine x_iconst (pc := 36) C (0) dX7_greatestOverrun_36 (by decide) ?_
      refine x_goto (pc := 37) (tgt := 45) C dX7_greatestOverrun_37 (by decide) ?_
      exact x_iret (pc := 45) C hQ dX7_greatestOverrun_45 (pm_i (if0_2 (th2_2 (b2i_t h6) (by rw [hcl]; exact b2i_f h18))).symm (by rw [th2_2 (b2i_t h6) (by rw [hcl]; exact b2i_f h18)]; exact smR_0)) (Nat.le_of_ble_eq_true rfl) (Nat.le_of_ble_eq_true rfl)
    · refine x_iconst (pc := 21) C (0) dX7_greatestOverrun_21 (by decide) ?_
      refine x_goto (pc := 22) (tgt := 26) C dX7_greatestOverrun_22 (by decide) ?_
      refine x_putI (pc := 26) (o := 200) C p_X7_37 dX7_greatestOverrun_26 (hI 200 rfl) ⟨rfl, rfl, rfl⟩ ?_
      refine x_aload_n (pc := 29) C dX7_greatestOverrun_29 rfl ?_
      refine x_getI (pc := 30) (o := 200) C f_X7_37 dX7_greatestOverrun_30 (hI 200 rfl) ⟨rfl, rfl, rfl⟩ ?_
      refine x_topi 0 up_ss ?_
      refine x_if_le (pc := 33) (tgt := 40) C dX7_greatestOverrun_33 (by decide) (fun h33 => ?_) (fun h33 => absurd (by decide) h33)
      refine x_aload_n (pc := 40) C dX7_greatestOverrun_40 rfl ?_
      refine x_iload_n (pc := 41) C dX7_greatestOverrun_41 rfl ?_
      refine x_pV1 (pc := 42) (o := 200) C v_X7_259 dX7_greatestOverrun_42 (c_X7_mostOverrun (V := up V 200 0 0) hI hn hn24 o ho) (hI 200 rfl) rfl (by decide) rfl ⟨Nat.le_refl _, Nat.le_refl _⟩ (fun V1 hV1 => ?_)
      exact x_iret (pc := 45) C hQ dX7_greatestOverrun_45 (pm_i (by rw [if0_t (th2_0 (b2i_t h6) (by rw [hcl]; exact b2i_t h18))]; exact by rw [hcl]; exact mosS_sm rfl) (by rw [th2_0 (b2i_t h6) (by rw [hcl]; exact b2i_t h18)]; exact smR_0.l hV1)) (Nat.le_of_ble_eq_true rfl) (Nat.le_of_ble_eq_true rfl)
  · refine x_iconst (pc := 9) C (1) dX7_greatestOverrun_9 (by decide) ?_
    refine x_goto (pc := 10) (tgt := 26) C dX7_greatestOverrun_10 (by decide) ?_
    refine x_putI (pc := 26) (o := 200) C p_X7_37 dX7_greatestOverrun_26 (hI 200 rfl) ⟨rfl, rfl, rfl⟩ ?_
    refine x_aload_n (pc := 29) C dX7_greatestOverrun_29 rfl ?_
    refine x_getI (pc := 30) (o := 200) C f_X7_37 dX7_greatestOverrun_30 (hI 200 rfl) ⟨rfl, rfl, rfl⟩ ?_
    refine x_topi 1 up_ss ?_
    refine x_if_le (pc := 33) (tgt := 40) C dX7_greatestOverrun_33 (by decide) (fun h33 => absurd h33 (by decide)) (fun h33 => ?_)
    refine x_iconst (pc := 36) C (0) dX7_greatestOverrun_36 (by decide) ?_
    refine x_goto (pc := 37) (tgt := 45) C dX7_greatestOverrun_37 (by decide) ?_
    exact x_iret (pc := 45) C hQ dX7_greatestOverrun_45 (pm_i (if0_1 (th2_1 (b2i_f h6))).symm (by rw [th2_1 (b2i_f h6)]; exact smR_0)) (Nat.le_of_ble_eq_true rfl) (Nat.le_of_ble_eq_true rfl)
