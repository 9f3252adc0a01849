set_option maxRecDepth 100000 in
set_option maxHeartbeats 4000000 in
theorem c_Jxe99ae_isNaN_b9ae7 {l : Launch} {V : VV} {L : LL} {N : NN} {I : List Nat} (v : UInt64) (hv : Op.cmpValue (FP.dcmp v v) .l = 0) : Runs l 1 0 0 yJxe99ae_isNaN_b9ae7 (Cond.code yJxe99ae_isNaN_b9ae7 cJxe99ae_isNaN_b9ae7 2 (some .boolean)) [aD v] V L N I (Is (some (aI 0)) (V) (L) N I) := by
  refine run_of RJxe99ae (by decide +kernel) rfl (Nat.le_of_ble_eq_true rfl) (fun E hE C hQ hN => ?_)
  subst hE
  refine x_dload_n (pc := 0) C dJxe99ae_isNaN_b9ae7_0 rfl ?_
  refine x_dload_n (pc := 1) C dJxe99ae_isNaN_b9ae7_1 rfl ?_
  refine x_dcmp (pc := 2) C dJxe99ae_isNaN_b9ae7_2 ?_
  refine x_if_eq (pc := 3) (tgt := 10) C dJxe99ae_isNaN_b9ae7_3 (by decide) (fun h3 => ?_) (fun h3 => absurd (by exact hv) h3)
  refine x_iconst (pc := 10) C (0) dJxe99ae_isNaN_b9ae7_10 (by decide) ?_
  exact x_zret (pc := 11) C hQ dJxe99ae_isNaN_b9ae7_11 (by decide) (is_i rfl) (Nat.le_of_ble_eq_true rfl) (Nat.le_of_ble_eq_true rfl)
set_option maxRecDepth 100000 in
set_option maxHeartbeats 4000000 in
theorem c_Jxe99ae_doubleToLongBits_ccdee {l : Launch} {V : VV} {L : LL} {N : NN} {I : List Nat} (v : UInt64) (hv : Op.cmpValue (FP.dcmp v v) .l = 0) : Runs l 2 0 0 yJxe99ae_doubleToLongBits_ccdee (Cond.code yJxe99ae_doubleToLongBits_ccdee cJxe99ae_doubleToLongBits_ccdee 2 (some .long)) [aD v] V L N I (Is (some (aL v.toInt64)) (V) (L) N I) := by
  refine run_of RJxe99ae (by decide +kernel) rfl (Nat.le_of_ble_eq_true rfl) (fun E hE C hQ hN => ?_)
  subst hE
  refine x_dload_n (pc := 0) C dJxe99ae_doubleToLongBits_ccdee_0 rfl ?_
  refine x_cS1 (pc := 1) C s_Jxe99ae_122 dJxe99ae_doubleToLongBits_ccdee_1 (c_Jxe99ae_isNaN_b9ae7 v hv) (by decide) rfl ⟨Nat.le_refl _, Nat.le_refl _⟩ ?_
  refine x_if_ne (pc := 4) (tgt := 12) C dJxe99ae_doubleToLongBits_ccdee_4 (by decide) (fun h4 => absurd h4 (by exact fun q => q rfl)) (fun h4 => ?_)
  refine x_dload_n (pc := 7) C dJxe99ae_doubleToLongBits_ccdee_7 rfl ?_
  refine x_raw (pc := 8) C q_Jxe99ae_134 dJxe99ae_doubleToLongBits_ccdee_8 (by decide) (Nat.le_of_ble_eq_true rfl) ?_
  exact x_lret (pc := 11) C hQ dJxe99ae_doubleToLongBits_ccdee_11 (is_r rfl rfl) (Nat.le_of_ble_eq_true rfl) (Nat.le_of_ble_eq_true rfl)
