set_option maxRecDepth 100000 in
set_option maxHeartbeats 4000000 in
theorem c_X6_setting {l : Launch} {V : VV} {L : LL} {N : NN} {I : List Nat} (hI : PI I) (x : Int32) : Runs l 6 1 6 yX6_setting (Cond.code yX6_setting cX6_setting 2 (some .int)) [aR 0, aI x] V L N I (Ei (withinB x 0 7) "java/lang/IndexOutOfBoundsException" (Is (some (aI (V 21 x.toNatClampNeg))) V L N I) V L N I) := by
  refine run_of RX6 (by decide +kernel) rfl (Nat.le_of_ble_eq_true rfl) (fun E hE C hQ hN => ?_)
  subst hE
  refine x_iload_n (pc := 0) C dX6_setting_0 rfl ?_
  refine x_iconst (pc := 1) C (0) dX6_setting_1 (by decide) ?_
  refine x_bipush (pc := 2) C (7) dX6_setting_2 (by decide) ?_
  refine x_cS3 (pc := 4) C s_X6_51 dX6_setting_4 (c_X6_isWithin _ _ _) (by decide) rfl ⟨by decide, by decide⟩ ?_
  refine x_if_ne (pc := 7) (tgt := 20) C dX6_setting_7 (by decide) (fun h7 => ?_) (fun h7 => ?_)
  · have hw := b2i_t h7
    obtain ⟨s, hs, rfl⟩ := win_of (k := 7) (by decide) hw
    have hcl : (nI s).toNatClampNeg = s := nI_clamp (by omega)
    refine x_aload_n (pc := 20) C dX6_setting_20 rfl ?_
    refine x_getR (pc := 21) (o := 0) (j := 20) C f_X6_10 dX6_setting_21 (hI 0 rfl) ⟨rfl, rfl⟩ ?_
    refine x_getR (pc := 24) (o := 20) (j := 21) C f_X6_78 dX6_setting_24 (hI 20 rfl) ⟨rfl, rfl⟩ ?_
    refine x_iload_n (pc := 27) C dX6_setting_27 rfl ?_
    refine x_iald (pc := 28) (o := 21) C dX6_setting_28 (hI 21 rfl) ⟨rfl, rfl⟩ (show _ < 8 by omega) (by decide) ?_
    exact x_iret (pc := 29) C hQ dX6_setting_29 (ei_t hw (is_i (by rw [hcl]))) (Nat.le_of_ble_eq_true rfl) (Nat.le_of_ble_eq_true rfl)
  · exact x_throw (pc := 10) C hQ hN t_X6_55_57_59 dX6_setting_10 dX6_setting_13 dX6_setting_14 dX6_setting_16 dX6_setting_19 (by decide) rfl ⟨by decide, by decide, by decide, by decide⟩ (ei_f (b2i_f h7))
