set_option maxRecDepth 100000 in
set_option maxHeartbeats 4000000 in
theorem c_X6_day {l : Launch} {V : VV} {L : LL} {N : NN} {I : List Nat} (hI : PI I) {n : Nat} (hn : V 20 7 = nI n) (hn24 : n ≤ 24) (hdy : ∀ s, s < n → ∃ d, d < 7 ∧ V 31 s = nI d) (x y : Int32) : Runs l 6 1 6 yX6_day (Cond.code yX6_day cX6_day 3 (some .int)) [aR 0, aI x, aI y] V L N I (Ei (withinB x 0 6) "java/lang/IndexOutOfBoundsException" (Ei (withinB y 0 7) "java/lang/IllegalArgumentException" (Pl (fun V1 => dayS (CF V1) (AF 6 V1) (V1 21 6) n x.toNatClampNeg y.toNatClampNeg) n V L N I) V L N I) V L N I) := by
  refine run_of RX6 (by decide +kernel) rfl (Nat.le_of_ble_eq_true rfl) (fun E hE C hQ hN => ?_)
  subst hE
  refine x_iload_n (pc := 0) C dX6_day_0 rfl ?_
  refine x_iconst (pc := 1) C (0) dX6_day_1 (by decide) ?_
  refine x_bipush (pc := 2) C (6) dX6_day_2 (by decide) ?_
  refine x_cS3 (pc := 4) C s_X6_51 dX6_day_4 (c_X6_isWithin _ _ _) (by decide) rfl ⟨by decide, by decide⟩ ?_
  refine x_if_ne (pc := 7) (tgt := 20) C dX6_day_7 (by decide) (fun h7 => ?_) (fun h7 => ?_)
  · have hw := b2i_t h7
    refine x_iload_n (pc := 20) C dX6_day_20 rfl ?_
    refine x_iconst (pc := 21) C (0) dX6_day_21 (by decide) ?_
    refine x_bipush (pc := 22) C (7) dX6_day_22 (by decide) ?_
    refine x_cS3 (pc := 24) C s_X6_51 dX6_day_24 (c_X6_isWithin _ _ _) (by decide) rfl ⟨by decide, by decide⟩ ?_
    refine x_if_ne (pc := 27) (tgt := 40) C dX6_day_27 (by decide) (fun h27 => ?_) (fun h27 => ?_)
    · have hw2 := b2i_t h27
      obtain ⟨d, hd, rfl⟩ := win_of (k := 6) (by decide) hw
      have hcl : (nI d).toNatClampNeg = d := nI_clamp (by omega)
      obtain ⟨w, hwl, rfl⟩ := win_of (k := 7) (by decide) hw2
      have hcl2 : (nI w).toNatClampNeg = w := nI_clamp (by omega)
      refine x_aload_n (pc := 40) C dX6_day_40 rfl ?_
      refine x_getR (pc := 41) (o := 0) (j := 6) C f_X6_40 dX6_day_41 (hI 0 rfl) ⟨rfl, rfl⟩ ?_
      refine x_aload_n (pc := 44) C dX6_day_44 rfl ?_
      refine x_getR (pc := 45) (o := 0) (j := 20) C f_X6_10 dX6_day_45 (hI 0 rfl) ⟨rfl, rfl⟩ ?_
      refine x_pV1 (pc := 48) (o := 6) C v_X6_140 dX6_day_48 (c_X0_play hI hn hn24 hdy) (hI 6 rfl) rfl (by decide) rfl ⟨by decide, by decide⟩ (fun V1 hV1 => ?_)
      have hn1 : V1 20 7 = nI n := (congrFun (airI_20 hV1) 7).trans hn
      refine x_aload_n (pc := 51) C dX6_day_51 rfl ?_
      refine x_getR (pc := 52) (o := 0) (j := 6) C f_X6_40 dX6_day_52 (hI 0 rfl) ⟨rfl, rfl⟩ ?_
      refine x_aload_n (pc := 55) C dX6_day_55 rfl ?_
      refine x_getR (pc := 56) (o := 0) (j := 20) C f_X6_10 dX6_day_56 (hI 0 rfl) ⟨rfl, rfl⟩ ?_
      refine x_iload_n (pc := 59) C dX6_day_59 rfl ?_
      refine x_iload_n (pc := 60) C dX6_day_60 rfl ?_
      refine x_cV3 (pc := 61) (o := 6) C v_X6_218 dX6_day_61 (c_X0_dayProperty (V := V1) hI hn1 hn24 d w (by omega) (by omega)) (hI 6 rfl) rfl (by decide) rfl ⟨by decide, by decide⟩ ?_
      exact x_iret (pc := 64) C hQ dX6_day_64 (ei_t hw (ei_t hw2 ⟨by rw [hcl, hcl2], hV1, rfl, rfl, rfl⟩)) (Nat.le_of_ble_eq_true rfl) (Nat.le_of_ble_eq_true rfl)
    · exact x_throw (pc := 30) C hQ hN t_X6_69_216_73 dX6_day_30 dX6_day_33 dX6_day_34 dX6_day_36 dX6_day_39 (by decide) rfl ⟨by decide, by decide, by decide, by decide⟩ (ei_t hw (ei_f (b2i_f h27)))
  · exact x_throw (pc := 10) C hQ hN t_X6_55_214_59 dX6_day_10 dX6_day_13 dX6_day_14 dX6_day_16 dX6_day_19 (by decide) rfl ⟨by decide, by decide, by decide, by decide⟩ (ei_f (b2i_f h7))
set_option maxRecDepth 100000 in
set_option maxHeartbeats 4000000 in
theorem c_X6_sponsors {l : Launch} {V : VV} {L : LL} {N : NN} {I : List Nat} (hI : PI I) {n : Nat} (hn : V 20 7 = nI n) (hn24 : n ≤ 24) (hdy : ∀ s, s < n → ∃ d, d < 7 ∧ V 31 s = nI d) (x y z : Int32) : Runs l 6 1 6 yX6_sponsors (Cond.code yX6_sponsors cX6_sponsors 4 (some .int)) [aR 0, aI x, aI y, aI z] V L N I (Ei (withinB x 0 6 && withinB y 0 23) "java/lang/IndexOutOfBoundsException" (fun r1 V1 L1 N1 I1 => if z = 0 then Is (some (aI (planS (CF V) n x y))) V L N I r1 V1 L1 N1 I1 else Pl (fun V1 => spS (CF V1) (AF 6 V1) n x y) n V L N I r1 V1 L1 N1 I1) V L N I) := by
  refine run_of RX6 (by decide +kernel) rfl (Nat.le_of_ble_eq_true rfl) (fun E hE C hQ hN => ?_)
  subst hE
  refine x_iload_n (pc := 0) C dX6_sponsors_0 rfl ?_
  refine x_iconst (pc := 1) C (0) dX6_sponsors_1 (by decide) ?_
  refine x_bipush (pc := 2) C (6) dX6_sponsors_2 (by decide) ?_
  refine x_cS3 (pc := 4) C s_X6_51 dX6_sponsors_4 (c_X6_isWithin _ _ _) (by decide) rfl ⟨by decide, by decide⟩ ?_
  refine x_if_eq (pc := 7) (tgt := 20) C dX6_sponsors_7 (by decide) (fun h7 => ?_) (fun h7 => ?_)
  · have hw := b2i_f h7
    exact x_throw (pc := 20) C hQ hN t_X6_55_205_59 dX6_sponsors_20 dX6_sponsors_23 dX6_sponsors_24 dX6_sponsors_26 dX6_sponsors_29 (by decide) rfl ⟨by decide, by decide, by decide, by decide⟩ (ei_f (by rw [hw]; rfl))
  · have hw := b2i_t h7
    refine x_iload_n (pc := 10) C dX6_sponsors_10 rfl ?_
    refine x_iconst (pc := 11) C (0) dX6_sponsors_11 (by decide) ?_
    refine x_bipush (pc := 12) C (23) dX6_sponsors_12 (by decide) ?_
    refine x_cS3 (pc := 14) C s_X6_51 dX6_sponsors_14 (c_X6_isWithin _ _ _) (by decide) rfl ⟨by decide, by decide⟩ ?_
    refine x_if_ne (pc := 17) (tgt := 30) C dX6_sponsors_17 (by decide) (fun h17 => ?_) (fun h17 => ?_)
    · have hw2 : (withinB x 0 6 && withinB y 0 23) = true := by rw [hw, b2i_t h17]; rfl
      refine x_iload_n (pc := 30) C dX6_sponsors_30 rfl ?_
      refine x_if_ne (pc := 31) (tgt := 44) C dX6_sponsors_31 (by decide) (fun h31 => ?_) (fun h31 => ?_)
      · refine x_aload_n (pc := 44) C dX6_sponsors_44 rfl ?_
        refine x_getR (pc := 45) (o := 0) (j := 6) C f_X6_40 dX6_sponsors_45 (hI 0 rfl) ⟨rfl, rfl⟩ ?_
        refine x_aload_n (pc := 48) C dX6_sponsors_48 rfl ?_
        refine x_getR (pc := 49) (o := 0) (j := 20) C f_X6_10 dX6_sponsors_49 (hI 0 rfl) ⟨rfl, rfl⟩ ?_
        refine x_pV1 (pc := 52) (o := 6) C v_X6_140 dX6_sponsors_52 (c_X0_play hI hn hn24 hdy) (hI 6 rfl) rfl (by decide) rfl ⟨by decide, by decide⟩ (fun V1 hV1 => ?_)
        have hn1 : V1 20 7 = nI n := (congrFun (airI_20 hV1) 7).trans hn
        refine x_aload_n (pc := 55) C dX6_sponsors_55 rfl ?_
        refine x_getR (pc := 56) (o := 0) (j := 6) C f_X6_40 dX6_sponsors_56 (hI 0 rfl) ⟨rfl, rfl⟩ ?_
        refine x_aload_n (pc := 59) C dX6_sponsors_59 rfl ?_
        refine x_getR (pc := 60) (o := 0) (j := 20) C f_X6_10 dX6_sponsors_60 (hI 0 rfl) ⟨rfl, rfl⟩ ?_
        refine x_iload_n (pc := 63) C dX6_sponsors_63 rfl ?_
        refine x_iload_n (pc := 64) C dX6_sponsors_64 rfl ?_
        refine x_cV3 (pc := 65) (o := 6) C v_X6_210 dX6_sponsors_65 (c_X0_sponsorsInHour (V := V1) hI hn1 hn24 x y) (hI 6 rfl) rfl (by decide) rfl ⟨by decide, by decide⟩ ?_
        exact x_iret (pc := 68) C hQ dX6_sponsors_68 (ei_t hw2 (by rw [if_neg h31]; exact ⟨rfl, hV1, rfl, rfl, rfl⟩)) (Nat.le_of_ble_eq_true rfl) (Nat.le_of_ble_eq_true rfl)
      · refine x_aload_n (pc := 34) C dX6_sponsors_34 rfl ?_
        refine x_getR (pc := 35) (o := 0) (j := 20) C f_X6_10 dX6_sponsors_35 (hI 0 rfl) ⟨rfl, rfl⟩ ?_
        refine x_iload_n (pc := 38) C dX6_sponsors_38 rfl ?_
        refine x_iload_n (pc := 39) C dX6_sponsors_39 rfl ?_
        refine x_cV2 (pc := 40) (o := 20) C v_X6_207 dX6_sponsors_40 (c_X3_plannedSponsors hI hn hn24 x y) (hI 20 rfl) rfl (by decide) rfl ⟨by decide, by decide⟩ ?_
        exact x_iret (pc := 43) C hQ dX6_sponsors_43 (ei_t hw2 (by rw [if_pos h31]; exact is_i rfl)) (Nat.le_of_ble_eq_true rfl) (Nat.le_of_ble_eq_true rfl)
    · exact x_throw (pc := 20) C hQ hN t_X6_55_205_59 dX6_sponsors_20 dX6_sponsors_23 dX6_sponsors_24 dX6_sponsors_26 dX6_sponsors_29 (by decide) rfl ⟨by decide, by decide, by decide, by decide⟩ (ei_f (by rw [hw, b2i_f h17]; rfl))
