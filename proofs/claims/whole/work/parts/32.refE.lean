set_option maxRecDepth 100000 in
set_option maxHeartbeats 4000000 in
theorem c_X7_isSetting {l : Launch} {V : VV} {L : LL} {N : NN} {I : List Nat} (v : Int32) : Runs l 2 0 0 yX7_isSetting (Cond.code yX7_isSetting cX7_isSetting 1 (some .boolean)) [aI v] V L N I (Is (some (aI (b2i (withinB v 0 7)))) (V) (L) N I) := by
  refine run_of RX7 (by decide +kernel) rfl (Nat.le_of_ble_eq_true rfl) (fun E hE C hQ hN => ?_)
  subst hE
  refine x_iload_n (pc := 0) C dX7_isSetting_0 rfl ?_
  refine x_iconst (pc := 1) C (0) dX7_isSetting_1 (by decide) ?_
  refine x_bipush (pc := 2) C (7) dX7_isSetting_2 (by decide) ?_
  refine x_cS3 (pc := 4) C s_X7_41 dX7_isSetting_4 (c_X7_within _ _ _) (by decide) rfl ⟨Nat.le_refl _, Nat.le_refl _⟩ ?_
  exact x_zret (pc := 7) C hQ dX7_isSetting_7 (b2i_01 _) (is_i rfl) (Nat.le_of_ble_eq_true rfl) (Nat.le_of_ble_eq_true rfl)
set_option maxRecDepth 100000 in
set_option maxHeartbeats 4000000 in
theorem c_X7_isOverrun {l : Launch} {V : VV} {L : LL} {N : NN} {I : List Nat} (v : Int32) : Runs l 2 0 0 yX7_isOverrun (Cond.code yX7_isOverrun cX7_isOverrun 1 (some .boolean)) [aI v] V L N I (Is (some (aI (b2i (withinB v (-60) 120)))) (V) (L) N I) := by
  refine run_of RX7 (by decide +kernel) rfl (Nat.le_of_ble_eq_true rfl) (fun E hE C hQ hN => ?_)
  subst hE
  refine x_iload_n (pc := 0) C dX7_isOverrun_0 rfl ?_
  refine x_bipush (pc := 1) C (-60) dX7_isOverrun_1 (by decide) ?_
  refine x_bipush (pc := 3) C (120) dX7_isOverrun_3 (by decide) ?_
  refine x_cS3 (pc := 5) C s_X7_41 dX7_isOverrun_5 (c_X7_within _ _ _) (by decide) rfl ⟨Nat.le_refl _, Nat.le_refl _⟩ ?_
  exact x_zret (pc := 8) C hQ dX7_isOverrun_8 (b2i_01 _) (is_i rfl) (Nat.le_of_ble_eq_true rfl) (Nat.le_of_ble_eq_true rfl)
set_option maxRecDepth 100000 in
set_option maxHeartbeats 4000000 in
theorem c_X7_isLive {l : Launch} {V : VV} {L : LL} {N : NN} {I : List Nat} (hI : PI I) (s : Nat) (hs : s < 24) : Runs l 2 0 0 yX7_isLive (Cond.code yX7_isLive cX7_isLive 2 (some .boolean)) [aR 200, aI (nI s)] V L N I (Is (some (aI (b2i (decide (RF V 0 s = 0))))) (V) (L) N I) := by
  refine run_of RX7 (by decide +kernel) rfl (Nat.le_of_ble_eq_true rfl) (fun E hE C hQ hN => ?_)
  subst hE
  refine x_aload_n (pc := 0) C dX7_isLive_0 rfl ?_
  refine x_iload_n (pc := 1) C dX7_isLive_1 rfl ?_
  refine x_iconst (pc := 2) C (0) dX7_isLive_2 (by decide) ?_
  refine x_cV2 (pc := 3) (o := 200) C v_X7_45 dX7_isLive_3 (c_X7_of hI (s) (0) (by omega)) (hI 200 rfl) rfl (by decide) rfl ⟨Nat.le_refl _, Nat.le_refl _⟩ ?_
  refine x_if_ne (pc := 6) (tgt := 13) C dX7_isLive_6 (by decide) (fun h6 => ?_) (fun h6 => ?_)
  · refine x_iconst (pc := 13) C (0) dX7_isLive_13 (by decide) ?_
    exact x_zret (pc := 14) C hQ dX7_isLive_14 (by decide) (is_i (b2i_cn h6).symm) (Nat.le_of_ble_eq_true rfl) (Nat.le_of_ble_eq_true rfl)
  · refine x_iconst (pc := 9) C (1) dX7_isLive_9 (by decide) ?_
    refine x_goto (pc := 10) (tgt := 14) C dX7_isLive_10 (by decide) ?_
    exact x_zret (pc := 14) C hQ dX7_isLive_14 (by decide) (is_i (b2i_c h6).symm) (Nat.le_of_ble_eq_true rfl) (Nat.le_of_ble_eq_true rfl)
set_option maxRecDepth 100000 in
set_option maxHeartbeats 4000000 in
theorem c_X7_isValue {l : Launch} {V : VV} {L : LL} {N : NN} {I : List Nat} (s : Nat) (hs : s < 8) (v : Int32) : Runs l 2 0 0 yX7_isValue (Cond.code yX7_isValue cX7_isValue 2 (some .boolean)) [aI (nI s), aI v] V L N I (Is (some (aI (b2i (isValB s v)))) (V) (L) N I) := by
  refine run_of RX7 (by decide +kernel) rfl (Nat.le_of_ble_eq_true rfl) (fun E hE C hQ hN => ?_)
  subst hE
  refine x_iload_n (pc := 0) C dX7_isValue_0 rfl ?_
  rcases (show s = 0 ∨ s = 1 ∨ s = 2 ∨ s = 3 ∨ s = 4 ∨ s = 5 ∨ s = 6 ∨ 6 < s by omega) with rfl | rfl | rfl | rfl | rfl | rfl | rfl | hsw1
  · refine x_tableInN (pc := 1) (c := 0) (tgt := 44) C dX7_isValue_1 (by decide) (by decide) (by decide) rfl (by decide) ?_
    refine x_iload_n (pc := 44) C dX7_isValue_44 rfl ?_
    refine x_iconst (pc := 45) C (0) dX7_isValue_45 (by decide) ?_
    refine x_sipush (pc := 46) C (720) dX7_isValue_46 (by decide) ?_
    refine x_cS3 (pc := 49) C s_X7_41 dX7_isValue_49 (c_X7_within _ _ _) (by decide) rfl ⟨Nat.le_refl _, Nat.le_refl _⟩ ?_
    exact x_zret (pc := 52) C hQ dX7_isValue_52 (b2i_01 _) (is_i rfl) (Nat.le_of_ble_eq_true rfl) (Nat.le_of_ble_eq_true rfl)
  · refine x_tableInN (pc := 1) (c := 1) (tgt := 53) C dX7_isValue_1 (by decide) (by decide) (by decide) rfl (by decide) ?_
    refine x_iload_n (pc := 53) C dX7_isValue_53 rfl ?_
    refine x_sipush (pc := 54) C (721) dX7_isValue_54 (by decide) ?_
    refine x_sipush (pc := 57) C (1440) dX7_isValue_57 (by decide) ?_
    refine x_cS3 (pc := 60) C s_X7_41 dX7_isValue_60 (c_X7_within _ _ _) (by decide) rfl ⟨Nat.le_refl _, Nat.le_refl _⟩ ?_
    exact x_zret (pc := 63) C hQ dX7_isValue_63 (b2i_01 _) (is_i rfl) (Nat.le_of_ble_eq_true rfl) (Nat.le_of_ble_eq_true rfl)
  · refine x_tableInN (pc := 1) (c := 2) (tgt := 64) C dX7_isValue_1 (by decide) (by decide) (by decide) rfl (by decide) ?_
    refine x_iload_n (pc := 64) C dX7_isValue_64 rfl ?_
    refine x_iconst (pc := 65) C (0) dX7_isValue_65 (by decide) ?_
    refine x_bipush (pc := 66) C (120) dX7_isValue_66 (by decide) ?_
    refine x_cS3 (pc := 68) C s_X7_41 dX7_isValue_68 (c_X7_within _ _ _) (by decide) rfl ⟨Nat.le_refl _, Nat.le_refl _⟩ ?_
    exact x_zret (pc := 71) C hQ dX7_isValue_71 (b2i_01 _) (is_i rfl) (Nat.le_of_ble_eq_true rfl) (Nat.le_of_ble_eq_true rfl)
  · refine x_tableInN (pc := 1) (c := 3) (tgt := 72) C dX7_isValue_1 (by decide) (by decide) (by decide) rfl (by decide) ?_
    refine x_iload_n (pc := 72) C dX7_isValue_72 rfl ?_
    refine x_iconst (pc := 73) C (0) dX7_isValue_73 (by decide) ?_
    refine x_sipush (pc := 74) C (240) dX7_isValue_74 (by decide) ?_
    refine x_cS3 (pc := 77) C s_X7_41 dX7_isValue_77 (c_X7_within _ _ _) (by decide) rfl ⟨Nat.le_refl _, Nat.le_refl _⟩ ?_
    exact x_zret (pc := 80) C hQ dX7_isValue_80 (b2i_01 _) (is_i rfl) (Nat.le_of_ble_eq_true rfl) (Nat.le_of_ble_eq_true rfl)
  · refine x_tableInN (pc := 1) (c := 4) (tgt := 81) C dX7_isValue_1 (by decide) (by decide) (by decide) rfl (by decide) ?_
    refine x_iload_n (pc := 81) C dX7_isValue_81 rfl ?_
    refine x_iconst (pc := 82) C (1) dX7_isValue_82 (by decide) ?_
    refine x_bipush (pc := 83) C (100) dX7_isValue_83 (by decide) ?_
    refine x_cS3 (pc := 85) C s_X7_41 dX7_isValue_85 (c_X7_within _ _ _) (by decide) rfl ⟨Nat.le_refl _, Nat.le_refl _⟩ ?_
    exact x_zret (pc := 88) C hQ dX7_isValue_88 (b2i_01 _) (is_i rfl) (Nat.le_of_ble_eq_true rfl) (Nat.le_of_ble_eq_true rfl)
  · refine x_tableInN (pc := 1) (c := 5) (tgt := 89) C dX7_isValue_1 (by decide) (by decide) (by decide) rfl (by decide) ?_
    refine x_iload_n (pc := 89) C dX7_isValue_89 rfl ?_
    refine x_iconst (pc := 90) C (0) dX7_isValue_90 (by decide) ?_
    refine x_bipush (pc := 91) C (100) dX7_isValue_91 (by decide) ?_
    refine x_cS3 (pc := 93) C s_X7_41 dX7_isValue_93 (c_X7_within _ _ _) (by decide) rfl ⟨Nat.le_refl _, Nat.le_refl _⟩ ?_
    exact x_zret (pc := 96) C hQ dX7_isValue_96 (b2i_01 _) (is_i rfl) (Nat.le_of_ble_eq_true rfl) (Nat.le_of_ble_eq_true rfl)
  · refine x_tableInN (pc := 1) (c := 6) (tgt := 97) C dX7_isValue_1 (by decide) (by decide) (by decide) rfl (by decide) ?_
    refine x_iload_n (pc := 97) C dX7_isValue_97 rfl ?_
    refine x_iconst (pc := 98) C (0) dX7_isValue_98 (by decide) ?_
    refine x_bipush (pc := 99) C (30) dX7_isValue_99 (by decide) ?_
    refine x_cS3 (pc := 101) C s_X7_41 dX7_isValue_101 (c_X7_within _ _ _) (by decide) rfl ⟨Nat.le_refl _, Nat.le_refl _⟩ ?_
    exact x_zret (pc := 104) C hQ dX7_isValue_104 (b2i_01 _) (is_i rfl) (Nat.le_of_ble_eq_true rfl) (Nat.le_of_ble_eq_true rfl)
  · refine x_tableOut (pc := 1) (tgt := 105) C dX7_isValue_1 (Or.inr (by rw [nI_toInt (by omega)]; omega)) (by decide) ?_
    refine x_iload_n (pc := 105) C dX7_isValue_105 rfl ?_
    refine x_iconst (pc := 106) C (0) dX7_isValue_106 (by decide) ?_
    refine x_sipush (pc := 107) C (600) dX7_isValue_107 (by decide) ?_
    refine x_cS3 (pc := 110) C s_X7_41 dX7_isValue_110 (c_X7_within _ _ _) (by decide) rfl ⟨Nat.le_refl _, Nat.le_refl _⟩ ?_
    exact x_zret (pc := 113) C hQ dX7_isValue_113 (b2i_01 _) (is_i (by rw [show s = 7 by omega]; rfl)) (Nat.le_of_ble_eq_true rfl) (Nat.le_of_ble_eq_true rfl)
set_option maxRecDepth 100000 in
set_option maxHeartbeats 4000000 in
theorem c_X7_replaced {l : Launch} {V : VV} {L : LL} {N : NN} {I : List Nat} (hI : PI I) {m : Nat} (hm : V 200 2 = nI m) (hm6 : m ≤ 6) (p : Nat) (hp : p < 232) (v : Int32) : Runs l 2 0 0 yX7_replaced (Cond.code yX7_replaced cX7_replaced 4 (some .int)) [aR 200, aI (nI p), aI v] V L N I (Is (some (aI (V 201 p))) (up (svR V m) 201 p v) (L) N I) := by
  refine run_of RX7 (by decide +kernel) rfl (Nat.le_of_ble_eq_true rfl) (fun E hE C hQ hN => ?_)
  subst hE
  refine x_aload_n (pc := 0) C dX7_replaced_0 rfl ?_
  refine x_cV0 (pc := 1) (o := 200) C v_X7_109 dX7_replaced_1 (c_X7_save hI hm hm6) (hI 200 rfl) rfl (by decide) rfl ⟨Nat.le_refl _, Nat.le_refl _⟩ ?_
  refine x_aload_n (pc := 4) C dX7_replaced_4 rfl ?_
  refine x_getR (pc := 5) (o := 200) (j := 201) C f_X7_7 dX7_replaced_5 (hI 200 rfl) ⟨rfl, rfl⟩ ?_
  refine x_iload_n (pc := 8) C dX7_replaced_8 rfl ?_
  refine x_iald (pc := 9) (o := 201) C dX7_replaced_9 (hI 201 rfl) ⟨rfl, rfl⟩ (show _ < 232 by omega) (by decide) ?_
  refine x_topi (V 201 p) (svR_no ⟨by decide, by omega⟩) ?_
  refine y_istore_n (pc := 10) C dX7_replaced_10 (by decide) rfl ?_
  refine x_aload_n (pc := 11) C dX7_replaced_11 rfl ?_
  refine x_getR (pc := 12) (o := 200) (j := 201) C f_X7_7 dX7_replaced_12 (hI 200 rfl) ⟨rfl, rfl⟩ ?_
  refine x_iload_n (pc := 15) C dX7_replaced_15 rfl ?_
  refine x_iload_n (pc := 16) C dX7_replaced_16 rfl ?_
  refine x_iast (pc := 17) (o := 201) C dX7_replaced_17 (hI 201 rfl) ⟨rfl, rfl⟩ (show _ < 232 by omega) (by decide) ?_
  refine x_iload_n (pc := 18) C dX7_replaced_18 rfl ?_
  exact x_iret (pc := 19) C hQ dX7_replaced_19 (is_iv rfl rfl) (Nat.le_of_ble_eq_true rfl) (Nat.le_of_ble_eq_true rfl)
set_option maxRecDepth 100000 in
set_option maxHeartbeats 4000000 in
theorem c_X7_set {l : Launch} {V : VV} {L : LL} {N : NN} {I : List Nat} (hI : PI I) {m : Nat} (hm : V 200 2 = nI m) (hm6 : m ≤ 6) (x v : Int32) : Runs l 3 0 0 yX7_set (Cond.code yX7_set cX7_set 3 (some .int)) [aR 200, aI x, aI v] V L N I (Is (some (aI (if th2 (withinB x 0 7) (isValB x.toNatClampNeg v) = 0 then V 201 x.toNatClampNeg else 0))) (if th2 (withinB x 0 7) (isValB x.toNatClampNeg v) = 0 then up (svR (up V 200 0 0) m) 201 x.toNatClampNeg v else up V 200 0 (th2 (withinB x 0 7) (isValB x.toNatClampNeg v))) (L) N I) := by
  refine run_of RX7 (by decide +kernel) rfl (Nat.le_of_ble_eq_true rfl) (fun E hE C hQ hN => ?_)
  subst hE
  refine x_aload_n (pc := 0) C dX7_set_0 rfl ?_
  refine x_iload_n (pc := 1) C dX7_set_1 rfl ?_
  refine x_cS1 (pc := 2) C s_X7_112 dX7_set_2 (c_X7_isSetting _) (by decide) rfl ⟨Nat.le_refl _, Nat.le_refl _⟩ ?_
  refine x_if_ne (pc := 5) (tgt := 12) C dX7_set_5 (by decide) (fun h5 => ?_) (fun h5 => ?_)
  · obtain ⟨s, hs, rfl⟩ := win_of (k := 7) (by decide) (b2i_t h5)
    have hcl : (nI s).toNatClampNeg = s := nI_clamp (by omega)
    refine x_iload_n (pc := 12) C dX7_set_12 rfl ?_
    refine x_iload_n (pc := 13) C dX7_set_13 rfl ?_
    refine x_cS2 (pc := 14) C s_X7_116 dX7_set_14 (c_X7_isValue s hs _) (by decide) rfl ⟨Nat.le_refl _, Nat.le_refl _⟩ ?_
    refine x_if_eq (pc := 17) (tgt := 24) C dX7_set_17 (by decide) (fun h17 => ?_) (fun h17 => ?_)
    · refine x_iconst (pc := 24) C (2) dX7_set_24 (by decide) ?_
      refine x_putI (pc := 25) (o := 200) C p_X7_37 dX7_set_25 (hI 200 rfl) ⟨rfl, rfl, rfl⟩ ?_
      refine x_aload_n (pc := 28) C dX7_set_28 rfl ?_
      refine x_getI (pc := 29) (o := 200) C f_X7_37 dX7_set_29 (hI 200 rfl) ⟨rfl, rfl, rfl⟩ ?_
      refine x_topi 2 up_ss ?_
      refine x_if_le (pc := 32) (tgt := 39) C dX7_set_32 (by decide) (fun h32 => absurd h32 (by decide)) (fun h32 => ?_)
      refine x_iconst (pc := 35) C (0) dX7_set_35 (by decide) ?_
      refine x_goto (pc := 36) (tgt := 45) C dX7_set_36 (by decide) ?_
      exact x_iret (pc := 45) C hQ dX7_set_45 (is_iv (if0_2 (th2_2 (b2i_t h5) (by rw [hcl]; exact b2i_f h17))).symm (by rw [if0_2 (th2_2 (b2i_t h5) (by rw [hcl]; exact b2i_f h17)), th2_2 (b2i_t h5) (by rw [hcl]; exact b2i_f h17)])) (Nat.le_of_ble_eq_true rfl) (Nat.le_of_ble_eq_true rfl)
    · refine x_iconst (pc := 20) C (0) dX7_set_20 (by decide) ?_
      refine x_goto (pc := 21) (tgt := 25) C dX7_set_21 (by decide) ?_
      refine x_putI (pc := 25) (o := 200) C p_X7_37 dX7_set_25 (hI 200 rfl) ⟨rfl, rfl, rfl⟩ ?_
      refine x_aload_n (pc := 28) C dX7_set_28 rfl ?_
      refine x_getI (pc := 29) (o := 200) C f_X7_37 dX7_set_29 (hI 200 rfl) ⟨rfl, rfl, rfl⟩ ?_
      refine x_topi 0 up_ss ?_
      refine x_if_le (pc := 32) (tgt := 39) C dX7_set_32 (by decide) (fun h32 => ?_) (fun h32 => absurd (by decide) h32)
      refine x_aload_n (pc := 39) C dX7_set_39 rfl ?_
      refine x_iload_n (pc := 40) C dX7_set_40 rfl ?_
      refine x_iload_n (pc := 41) C dX7_set_41 rfl ?_
      refine x_cV2 (pc := 42) (o := 200) C v_X7_120 dX7_set_42 (c_X7_replaced (V := up V 200 0 0) hI hm hm6 s (by omega) v) (hI 200 rfl) rfl (by decide) rfl ⟨Nat.le_refl _, Nat.le_refl _⟩ ?_
      exact x_iret (pc := 45) C hQ dX7_set_45 (is_iv (by rw [if0_t (th2_0 (b2i_t h5) (by rw [hcl]; exact b2i_t h17)), hcl]; rfl) (by rw [if0_t (th2_0 (b2i_t h5) (by rw [hcl]; exact b2i_t h17)), hcl])) (Nat.le_of_ble_eq_true rfl) (Nat.le_of_ble_eq_true rfl)
  · refine x_iconst (pc := 8) C (1) dX7_set_8 (by decide) ?_
    refine x_goto (pc := 9) (tgt := 25) C dX7_set_9 (by decide) ?_
    refine x_putI (pc := 25) (o := 200) C p_X7_37 dX7_set_25 (hI 200 rfl) ⟨rfl, rfl, rfl⟩ ?_
    refine x_aload_n (pc := 28) C dX7_set_28 rfl ?_
    refine x_getI (pc := 29) (o := 200) C f_X7_37 dX7_set_29 (hI 200 rfl) ⟨rfl, rfl, rfl⟩ ?_
    refine x_topi 1 up_ss ?_
    refine x_if_le (pc := 32) (tgt := 39) C dX7_set_32 (by decide) (fun h32 => absurd h32 (by decide)) (fun h32 => ?_)
    refine x_iconst (pc := 35) C (0) dX7_set_35 (by decide) ?_
    refine x_goto (pc := 36) (tgt := 45) C dX7_set_36 (by decide) ?_
    exact x_iret (pc := 45) C hQ dX7_set_45 (is_iv (if0_1 (th2_1 (b2i_f h5))).symm (by rw [if0_1 (th2_1 (b2i_f h5)), th2_1 (b2i_f h5)])) (Nat.le_of_ble_eq_true rfl) (Nat.le_of_ble_eq_true rfl)
set_option maxRecDepth 100000 in
set_option maxHeartbeats 4000000 in
theorem c_X7_setQuota {l : Launch} {V : VV} {L : LL} {N : NN} {I : List Nat} (hI : PI I) {m : Nat} (hm : V 200 2 = nI m) (hm6 : m ≤ 6) (x v : Int32) : Runs l 3 0 0 yX7_setQuota (Cond.code yX7_setQuota cX7_setQuota 3 (some .int)) [aR 200, aI x, aI v] V L N I (Is (some (aI (if th2 (withinB x 0 5) (withinB v 0 2000) = 0 then V 201 (8 + 5 * x.toNatClampNeg) else 0))) (if th2 (withinB x 0 5) (withinB v 0 2000) = 0 then up (svR (up V 200 0 0) m) 201 (8 + 5 * x.toNatClampNeg) v else up V 200 0 (th2 (withinB x 0 5) (withinB v 0 2000))) (L) N I) := by
  refine run_of RX7 (by decide +kernel) rfl (Nat.le_of_ble_eq_true rfl) (fun E hE C hQ hN => ?_)
  subst hE
  refine x_aload_n (pc := 0) C dX7_setQuota_0 rfl ?_
  refine x_iload_n (pc := 1) C dX7_setQuota_1 rfl ?_
  refine x_cS1 (pc := 2) C s_X7_123 dX7_setQuota_2 (c_X7_isGroup _) (by decide) rfl ⟨Nat.le_refl _, Nat.le_refl _⟩ ?_
  refine x_if_ne (pc := 5) (tgt := 12) C dX7_setQuota_5 (by decide) (fun h5 => ?_) (fun h5 => ?_)
  · obtain ⟨s, hs, rfl⟩ := win_of (k := 5) (by decide) (b2i_t h5)
    have hcl : (nI s).toNatClampNeg = s := nI_clamp (by omega)
    refine x_iload_n (pc := 12) C dX7_setQuota_12 rfl ?_
    refine x_iconst (pc := 13) C (0) dX7_setQuota_13 (by decide) ?_
    refine x_sipush (pc := 14) C (2000) dX7_setQuota_14 (by decide) ?_
    refine x_cS3 (pc := 17) C s_X7_41 dX7_setQuota_17 (c_X7_within _ _ _) (by decide) rfl ⟨Nat.le_refl _, Nat.le_refl _⟩ ?_
    refine x_if_eq (pc := 20) (tgt := 27) C dX7_setQuota_20 (by decide) (fun h20 => ?_) (fun h20 => ?_)
    · refine x_iconst (pc := 27) C (2) dX7_setQuota_27 (by decide) ?_
      refine x_putI (pc := 28) (o := 200) C p_X7_37 dX7_setQuota_28 (hI 200 rfl) ⟨rfl, rfl, rfl⟩ ?_
      refine x_aload_n (pc := 31) C dX7_setQuota_31 rfl ?_
      refine x_getI (pc := 32) (o := 200) C f_X7_37 dX7_setQuota_32 (hI 200 rfl) ⟨rfl, rfl, rfl⟩ ?_
      refine x_topi 2 up_ss ?_
      refine x_if_le (pc := 35) (tgt := 42) C dX7_setQuota_35 (by decide) (fun h35 => absurd h35 (by decide)) (fun h35 => ?_)
      refine x_iconst (pc := 38) C (0) dX7_setQuota_38 (by decide) ?_
      refine x_goto (pc := 39) (tgt := 53) C dX7_setQuota_39 (by decide) ?_
      exact x_iret (pc := 53) C hQ dX7_setQuota_53 (is_iv (if0_2 (th2_2 (b2i_t h5) (b2i_f h20))).symm (by rw [if0_2 (th2_2 (b2i_t h5) (b2i_f h20)), th2_2 (b2i_t h5) (b2i_f h20)])) (Nat.le_of_ble_eq_true rfl) (Nat.le_of_ble_eq_true rfl)
    · refine x_iconst (pc := 23) C (0) dX7_setQuota_23 (by decide) ?_
      refine x_goto (pc := 24) (tgt := 28) C dX7_setQuota_24 (by decide) ?_
      refine x_putI (pc := 28) (o := 200) C p_X7_37 dX7_setQuota_28 (hI 200 rfl) ⟨rfl, rfl, rfl⟩ ?_
      refine x_aload_n (pc := 31) C dX7_setQuota_31 rfl ?_
      refine x_getI (pc := 32) (o := 200) C f_X7_37 dX7_setQuota_32 (hI 200 rfl) ⟨rfl, rfl, rfl⟩ ?_
      refine x_topi 0 up_ss ?_
      refine x_if_le (pc := 35) (tgt := 42) C dX7_setQuota_35 (by decide) (fun h35 => ?_) (fun h35 => absurd (by decide) h35)
      refine x_aload_n (pc := 42) C dX7_setQuota_42 rfl ?_
      refine x_bipush (pc := 43) C (8) dX7_setQuota_43 (by decide) ?_
      refine x_iconst (pc := 45) C (5) dX7_setQuota_45 (by decide) ?_
      refine x_iload_n (pc := 46) C dX7_setQuota_46 rfl ?_
      refine x_imul (pc := 47) C dX7_setQuota_47 ?_
      refine x_iadd (pc := 48) C dX7_setQuota_48 ?_
      refine x_topi (nI (8 + 5 * s)) (z_ix2 (a := 8) (b := 5)) ?_
      refine x_iload_n (pc := 49) C dX7_setQuota_49 rfl ?_
      refine x_cV2 (pc := 50) (o := 200) C v_X7_120 dX7_setQuota_50 (c_X7_replaced (V := up V 200 0 0) hI hm hm6 (8 + 5 * s) (by omega) v) (hI 200 rfl) rfl (by decide) rfl ⟨Nat.le_refl _, Nat.le_refl _⟩ ?_
      exact x_iret (pc := 53) C hQ dX7_setQuota_53 (is_iv (by rw [if0_t (th2_0 (b2i_t h5) (b2i_t h20)), hcl]; rfl) (by rw [if0_t (th2_0 (b2i_t h5) (b2i_t h20)), hcl])) (Nat.le_of_ble_eq_true rfl) (Nat.le_of_ble_eq_true rfl)
  · refine x_iconst (pc := 8) C (1) dX7_setQuota_8 (by decide) ?_
    refine x_goto (pc := 9) (tgt := 28) C dX7_setQuota_9 (by decide) ?_
    refine x_putI (pc := 28) (o := 200) C p_X7_37 dX7_setQuota_28 (hI 200 rfl) ⟨rfl, rfl, rfl⟩ ?_
    refine x_aload_n (pc := 31) C dX7_setQuota_31 rfl ?_
    refine x_getI (pc := 32) (o := 200) C f_X7_37 dX7_setQuota_32 (hI 200 rfl) ⟨rfl, rfl, rfl⟩ ?_
    refine x_topi 1 up_ss ?_
    refine x_if_le (pc := 35) (tgt := 42) C dX7_setQuota_35 (by decide) (fun h35 => absurd h35 (by decide)) (fun h35 => ?_)
    refine x_iconst (pc := 38) C (0) dX7_setQuota_38 (by decide) ?_
    refine x_goto (pc := 39) (tgt := 53) C dX7_setQuota_39 (by decide) ?_
    exact x_iret (pc := 53) C hQ dX7_setQuota_53 (is_iv (if0_1 (th2_1 (b2i_f h5))).symm (by rw [if0_1 (th2_1 (b2i_f h5)), th2_1 (b2i_f h5)])) (Nat.le_of_ble_eq_true rfl) (Nat.le_of_ble_eq_true rfl)
set_option maxRecDepth 100000 in
set_option maxHeartbeats 4000000 in
theorem c_X7_areRight {l : Launch} {V : VV} {L : LL} {N : NN} {I : List Nat} (g d s l2 sp : Int32) : Runs l 3 0 0 yX7_areRight (Cond.code yX7_areRight cX7_areRight 5 (some .boolean)) [aI g, aI d, aI s, aI l2, aI sp] V L N I (Is (some (aI (b2i (rightB g d s l2 sp)))) (V) (L) N I) := by
  refine run_of RX7 (by decide +kernel) rfl (Nat.le_of_ble_eq_true rfl) (fun E hE C hQ hN => ?_)
  subst hE
  refine x_iload_n (pc := 0) C dX7_areRight_0 rfl ?_
  refine x_cS1 (pc := 1) C s_X7_123 dX7_areRight_1 (c_X7_isGroup _) (by decide) rfl ⟨Nat.le_refl _, Nat.le_refl _⟩ ?_
  refine x_if_eq (pc := 4) (tgt := 49) C dX7_areRight_4 (by decide) (fun h4 => ?_) (fun h4 => ?_)
  · refine x_iconst (pc := 49) C (0) dX7_areRight_49 (by decide) ?_
    exact x_zret (pc := 50) C hQ dX7_areRight_50 (by decide) (is_i (by simp [rightB, b2i, b2i_f h4])) (Nat.le_of_ble_eq_true rfl) (Nat.le_of_ble_eq_true rfl)
  · refine x_iload_n (pc := 7) C dX7_areRight_7 rfl ?_
    refine x_cS1 (pc := 8) C s_X7_126 dX7_areRight_8 (c_X7_isDay _) (by decide) rfl ⟨Nat.le_refl _, Nat.le_refl _⟩ ?_
    refine x_if_eq (pc := 11) (tgt := 49) C dX7_areRight_11 (by decide) (fun h11 => ?_) (fun h11 => ?_)
    · refine x_iconst (pc := 49) C (0) dX7_areRight_49 (by decide) ?_
      exact x_zret (pc := 50) C hQ dX7_areRight_50 (by decide) (is_i (by simp [rightB, b2i, b2i_f h11])) (Nat.le_of_ble_eq_true rfl) (Nat.le_of_ble_eq_true rfl)
    · refine x_iload_n (pc := 14) C dX7_areRight_14 rfl ?_
      refine x_cS1 (pc := 15) C s_X7_129 dX7_areRight_15 (c_X7_isStart _) (by decide) rfl ⟨Nat.le_refl _, Nat.le_refl _⟩ ?_
      refine x_if_eq (pc := 18) (tgt := 49) C dX7_areRight_18 (by decide) (fun h18 => ?_) (fun h18 => ?_)
      · refine x_iconst (pc := 49) C (0) dX7_areRight_49 (by decide) ?_
        exact x_zret (pc := 50) C hQ dX7_areRight_50 (by decide) (is_i (by simp [rightB, b2i, b2i_f h18])) (Nat.le_of_ble_eq_true rfl) (Nat.le_of_ble_eq_true rfl)
      · refine x_iload_n (pc := 21) C dX7_areRight_21 rfl ?_
        refine x_cS1 (pc := 22) C s_X7_132 dX7_areRight_22 (c_X7_isLength _) (by decide) rfl ⟨Nat.le_refl _, Nat.le_refl _⟩ ?_
        refine x_if_eq (pc := 25) (tgt := 49) C dX7_areRight_25 (by decide) (fun h25 => ?_) (fun h25 => ?_)
        · refine x_iconst (pc := 49) C (0) dX7_areRight_49 (by decide) ?_
          exact x_zret (pc := 50) C hQ dX7_areRight_50 (by decide) (is_i (by simp [rightB, b2i, b2i_f h25])) (Nat.le_of_ble_eq_true rfl) (Nat.le_of_ble_eq_true rfl)
        · refine x_iload (pc := 28) C dX7_areRight_28 rfl ?_
          refine x_iconst (pc := 30) C (0) dX7_areRight_30 (by decide) ?_
          refine x_bipush (pc := 31) C (30) dX7_areRight_31 (by decide) ?_
          refine x_cS3 (pc := 33) C s_X7_41 dX7_areRight_33 (c_X7_within _ _ _) (by decide) rfl ⟨Nat.le_refl _, Nat.le_refl _⟩ ?_
          refine x_if_eq (pc := 36) (tgt := 49) C dX7_areRight_36 (by decide) (fun h36 => ?_) (fun h36 => ?_)
          · refine x_iconst (pc := 49) C (0) dX7_areRight_49 (by decide) ?_
            exact x_zret (pc := 50) C hQ dX7_areRight_50 (by decide) (is_i (by simp [rightB, b2i, b2i_f h36])) (Nat.le_of_ble_eq_true rfl) (Nat.le_of_ble_eq_true rfl)
          · refine x_iload (pc := 39) C dX7_areRight_39 rfl ?_
            refine x_iload_n (pc := 41) C dX7_areRight_41 rfl ?_
            refine x_icmp_gt (pc := 42) (tgt := 49) C dX7_areRight_42 (by decide) (fun h42 => ?_) (fun h42 => ?_)
            · refine x_iconst (pc := 49) C (0) dX7_areRight_49 (by decide) ?_
              exact x_zret (pc := 50) C hQ dX7_areRight_50 (by decide) (is_i (by simp [rightB, b2i, Int32.not_le.mpr h42])) (Nat.le_of_ble_eq_true rfl) (Nat.le_of_ble_eq_true rfl)
            · refine x_iconst (pc := 45) C (1) dX7_areRight_45 (by decide) ?_
              refine x_goto (pc := 46) (tgt := 50) C dX7_areRight_46 (by decide) ?_
              exact x_zret (pc := 50) C hQ dX7_areRight_50 (by decide) (is_i (by simp [rightB, b2i, b2i_t h4, b2i_t h11, b2i_t h18, b2i_t h25, b2i_t h36, Int32.not_lt.mp h42])) (Nat.le_of_ble_eq_true rfl) (Nat.le_of_ble_eq_true rfl)
