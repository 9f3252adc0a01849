set_option maxRecDepth 100000 in
set_option maxHeartbeats 4000000 in
theorem c_X6_why {l : Launch} {V : VV} {L : LL} {N : NN} {I : List Nat} (hI : PI I) {n : Nat} (hn : V 20 7 = nI n) (hn24 : n ≤ 24) (g d s l2 : Int32) : Runs l 6 1 6 yX6_why (Cond.code yX6_why cX6_why 5 (some .int)) [aR 0, aI g, aI d, aI s, aI l2] V L N I (Ei (rangeB g d s l2 0) "java/lang/IllegalArgumentException" (Is (some (aI (rfS (becomeV V 1 g d s l2 0 (-1)) n g.toNatClampNeg 0))) (becomeV V 1 g d s l2 0 (-1)) L N I) (becomeV V 1 g d s l2 0 (-1)) L N I) := by
  refine run_of RX6 (by decide +kernel) rfl (Nat.le_of_ble_eq_true rfl) (fun E hE C hQ hN => ?_)
  subst hE
  refine x_aload_n (pc := 0) C dX6_why_0 rfl ?_
  refine x_getR (pc := 1) (o := 0) (j := 5) C f_X6_33 dX6_why_1 (hI 0 rfl) ⟨rfl, rfl⟩ ?_
  refine x_iconst (pc := 4) C (1) dX6_why_4 (by decide) ?_
  refine x_iload_n (pc := 5) C dX6_why_5 rfl ?_
  refine x_iload_n (pc := 6) C dX6_why_6 rfl ?_
  refine x_iload_n (pc := 7) C dX6_why_7 rfl ?_
  refine x_iload (pc := 8) C dX6_why_8 rfl ?_
  refine x_iconst (pc := 10) C (0) dX6_why_10 (by decide) ?_
  refine x_cV6 (pc := 11) (o := 5) C v_X6_88 dX6_why_11 (c_X4_become hI 1 g d s l2 0) (hI 5 rfl) rfl (by decide) rfl ⟨by decide, by decide⟩ ?_
  refine x_aload_n (pc := 14) C dX6_why_14 rfl ?_
  refine x_getR (pc := 15) (o := 0) (j := 5) C f_X6_33 dX6_why_15 (hI 0 rfl) ⟨rfl, rfl⟩ ?_
  refine x_cV0 (pc := 18) (o := 5) C v_X6_92 dX6_why_18 (c_X4_isInRange (V := (becomeV V 1 g d s l2 0 (-1))) hI) (hI 5 rfl) rfl (by decide) rfl ⟨by decide, by decide⟩ ?_
  refine x_topi (b2i (rangeB g d s l2 0)) (by simp [becomeV, up]) ?_
  refine x_if_ne (pc := 21) (tgt := 34) C dX6_why_21 (by decide) (fun h21 => ?_) (fun h21 => ?_)
  · have hw := b2i_t h21
    obtain ⟨g2, hg2, rfl⟩ := range_g hw
    have hcl : (nI g2).toNatClampNeg = g2 := nI_clamp (by omega)
    refine x_aload_n (pc := 34) C dX6_why_34 rfl ?_
    refine x_getR (pc := 35) (o := 0) (j := 20) C f_X6_10 dX6_why_35 (hI 0 rfl) ⟨rfl, rfl⟩ ?_
    refine x_aload_n (pc := 38) C dX6_why_38 rfl ?_
    refine x_getR (pc := 39) (o := 0) (j := 5) C f_X6_33 dX6_why_39 (hI 0 rfl) ⟨rfl, rfl⟩ ?_
    refine x_cV1 (pc := 42) (o := 20) C v_X6_224 dX6_why_42 (c_X3_refusal (V := (becomeV V 1 (nI g2) d s l2 0 (-1))) (g := g2) (o := 0) hI hn hn24 (fun h2 => absurd h2 (by show ¬ (1 : Int32) = 2; decide)) (by simp [becomeV, up]) hg2) (hI 20 rfl) rfl (by decide) rfl ⟨by decide, by decide⟩ ?_
    exact x_iret (pc := 45) C hQ dX6_why_45 (ei_t hw (by rw [hcl]; exact is_i rfl)) (Nat.le_of_ble_eq_true rfl) (Nat.le_of_ble_eq_true rfl)
  · exact x_throw (pc := 24) C hQ hN t_X6_69_96_73 dX6_why_24 dX6_why_27 dX6_why_28 dX6_why_30 dX6_why_33 (by decide) rfl ⟨by decide, by decide, by decide, by decide⟩ (ei_f (b2i_f h21))
set_option maxRecDepth 100000 in
set_option maxHeartbeats 4000000 in
theorem c_X6_firstTime {l : Launch} {V : VV} {L : LL} {N : NN} {I : List Nat} (hI : PI I) {n : Nat} (hn : V 20 7 = nI n) (hn24 : n ≤ 24) (g d l2 : Int32) : Runs l 6 1 6 yX6_firstTime (Cond.code yX6_firstTime cX6_firstTime 4 (some .int)) [aR 0, aI g, aI d, aI l2] V L N I (Ei (rangeB g d 0 l2 0) "java/lang/IllegalArgumentException" (Is (some (aI (tapeT (CF V) (V 21) (V 22 g.toNatClampNeg + V 23 g.toNatClampNeg) n g d l2))) (becomeV V 1 g d 0 l2 0 (-1)) L N I) (becomeV V 1 g d 0 l2 0 (-1)) L N I) := by
  refine run_of RX6 (by decide +kernel) rfl (Nat.le_of_ble_eq_true rfl) (fun E hE C hQ hN => ?_)
  subst hE
  refine x_aload_n (pc := 0) C dX6_firstTime_0 rfl ?_
  refine x_getR (pc := 1) (o := 0) (j := 5) C f_X6_33 dX6_firstTime_1 (hI 0 rfl) ⟨rfl, rfl⟩ ?_
  refine x_iconst (pc := 4) C (1) dX6_firstTime_4 (by decide) ?_
  refine x_iload_n (pc := 5) C dX6_firstTime_5 rfl ?_
  refine x_iload_n (pc := 6) C dX6_firstTime_6 rfl ?_
  refine x_iconst (pc := 7) C (0) dX6_firstTime_7 (by decide) ?_
  refine x_iload_n (pc := 8) C dX6_firstTime_8 rfl ?_
  refine x_iconst (pc := 9) C (0) dX6_firstTime_9 (by decide) ?_
  refine x_cV6 (pc := 10) (o := 5) C v_X6_88 dX6_firstTime_10 (c_X4_become hI 1 g d 0 l2 0) (hI 5 rfl) rfl (by decide) rfl ⟨by decide, by decide⟩ ?_
  refine x_aload_n (pc := 13) C dX6_firstTime_13 rfl ?_
  refine x_getR (pc := 14) (o := 0) (j := 5) C f_X6_33 dX6_firstTime_14 (hI 0 rfl) ⟨rfl, rfl⟩ ?_
  refine x_cV0 (pc := 17) (o := 5) C v_X6_92 dX6_firstTime_17 (c_X4_isInRange (V := (becomeV V 1 g d 0 l2 0 (-1))) hI) (hI 5 rfl) rfl (by decide) rfl ⟨by decide, by decide⟩ ?_
  refine x_topi (b2i (rangeB g d 0 l2 0)) (by simp [becomeV, up]) ?_
  refine x_if_ne (pc := 20) (tgt := 33) C dX6_firstTime_20 (by decide) (fun h20 => ?_) (fun h20 => ?_)
  · have hw := b2i_t h20
    obtain ⟨g2, hg2, rfl⟩ := range_g hw
    have hcl : (nI g2).toNatClampNeg = g2 := nI_clamp (by omega)
    refine x_aload_n (pc := 33) C dX6_firstTime_33 rfl ?_
    refine x_getR (pc := 34) (o := 0) (j := 20) C f_X6_10 dX6_firstTime_34 (hI 0 rfl) ⟨rfl, rfl⟩ ?_
    refine x_iload_n (pc := 37) C dX6_firstTime_37 rfl ?_
    refine x_iload_n (pc := 38) C dX6_firstTime_38 rfl ?_
    refine x_iload_n (pc := 39) C dX6_firstTime_39 rfl ?_
    refine x_cV3 (pc := 40) (o := 20) C v_X6_227 dX6_firstTime_40 (c_X3_firstTapeTime (V := (becomeV V 1 (nI g2) d 0 l2 0 (-1))) hI hn hn24 g2 hg2 d l2) (hI 20 rfl) rfl (by decide) rfl ⟨by decide, by decide⟩ ?_
    exact x_iret (pc := 43) C hQ dX6_firstTime_43 (ei_t hw (by rw [hcl]; exact is_i (by rw [cf_b, sm5_b5 21 (by decide), sm5_b5 22 (by decide), sm5_b5 23 (by decide)]))) (Nat.le_of_ble_eq_true rfl) (Nat.le_of_ble_eq_true rfl)
  · exact x_throw (pc := 23) C hQ hN t_X6_69_96_73 dX6_firstTime_23 dX6_firstTime_26 dX6_firstTime_27 dX6_firstTime_29 dX6_firstTime_32 (by decide) rfl ⟨by decide, by decide, by decide, by decide⟩ (ei_f (b2i_f h20))
set_option maxRecDepth 100000 in
set_option maxHeartbeats 4000000 in
theorem c_X6_firstRepeat {l : Launch} {V : VV} {L : LL} {N : NN} {I : List Nat} (hI : PI I) {n : Nat} (hn : V 20 7 = nI n) (hn24 : n ≤ 24) (hsg : ∀ s, s < n → ∃ g, g < 6 ∧ V 30 s = nI g) (x : Int32) : Runs l 6 1 6 yX6_firstRepeat (Cond.code yX6_firstRepeat cX6_firstRepeat 2 (some .int)) [aR 0, aI x] V L N I (Ei (decide (¬ x < 0 ∧ x < nI n)) "java/lang/IndexOutOfBoundsException" (Is (some (aI (repT (CF V) (V 21) (V 22 (V 30 x.toNatClampNeg).toNatClampNeg + V 23 (V 30 x.toNatClampNeg).toNatClampNeg) n x.toNatClampNeg))) V L N I) V L N I) := by
  refine run_of RX6 (by decide +kernel) rfl (Nat.le_of_ble_eq_true rfl) (fun E hE C hQ hN => ?_)
  subst hE
  refine x_aload_n (pc := 0) C dX6_firstRepeat_0 rfl ?_
  refine x_getR (pc := 1) (o := 0) (j := 20) C f_X6_10 dX6_firstRepeat_1 (hI 0 rfl) ⟨rfl, rfl⟩ ?_
  refine x_iload_n (pc := 4) C dX6_firstRepeat_4 rfl ?_
  refine x_cV1 (pc := 5) (o := 20) C v_X6_114 dX6_firstRepeat_5 (c_X3_hasShow hI hn hn24 _) (hI 20 rfl) rfl (by decide) rfl ⟨by decide, by decide⟩ ?_
  refine x_if_ne (pc := 8) (tgt := 21) C dX6_firstRepeat_8 (by decide) (fun h8 => ?_) (fun h8 => ?_)
  · have hw := b2i_t h8
    have hd := of_decide_eq_true hw
    obtain ⟨s, hs, hsl⟩ := nI_in_of hd.1 hd.2 hn24
    subst hs
    have hcl : (nI s).toNatClampNeg = s := nI_clamp (by omega)
    obtain ⟨g, hg6, hgs⟩ := hsg s hsl
    refine x_aload_n (pc := 21) C dX6_firstRepeat_21 rfl ?_
    refine x_getR (pc := 22) (o := 0) (j := 20) C f_X6_10 dX6_firstRepeat_22 (hI 0 rfl) ⟨rfl, rfl⟩ ?_
    refine x_iload_n (pc := 25) C dX6_firstRepeat_25 rfl ?_
    refine x_cV1 (pc := 26) (o := 20) C v_X6_231 dX6_firstRepeat_26 (c_X3_firstRepeatTime hI hn hn24 s hsl hgs hg6) (hI 20 rfl) rfl (by decide) rfl ⟨by decide, by decide⟩ ?_
    exact x_iret (pc := 29) C hQ dX6_firstRepeat_29 (ei_t hw (by rw [hcl, hgs, nI_clamp (show g < 2 ^ 31 by omega)]; exact is_i rfl)) (Nat.le_of_ble_eq_true rfl) (Nat.le_of_ble_eq_true rfl)
  · exact x_throw (pc := 11) C hQ hN t_X6_55_110_59 dX6_firstRepeat_11 dX6_firstRepeat_14 dX6_firstRepeat_15 dX6_firstRepeat_17 dX6_firstRepeat_20 (by decide) rfl ⟨by decide, by decide, by decide, by decide⟩ (ei_f (b2i_f h8))
set_option maxRecDepth 100000 in
set_option maxHeartbeats 4000000 in
theorem c_X6_ifOverrun {l : Launch} {V : VV} {L : LL} {N : NN} {I : List Nat} (hI : PI I) {n : Nat} (hn : V 20 7 = nI n) (hn24 : n ≤ 24) (hdy : ∀ s, s < n → ∃ d, d < 7 ∧ V 31 s = nI d) (x y w : Int32) : Runs l 6 1 6 yX6_ifOverrun (Cond.code yX6_ifOverrun cX6_ifOverrun 4 (some .int)) [aR 0, aI x, aI y, aI w] V L N I (Ei (decide (¬ x < 0 ∧ x < nI n)) "java/lang/IndexOutOfBoundsException" (Ei (withinB y (-60) 120 && withinB w 0 7) "java/lang/IllegalArgumentException" (Ei (decide (V 29 x.toNatClampNeg = 0)) "java/lang/IllegalStateException" (PlT (fun V1 => dayS (CF V1) (AF 12 V1) (V1 21 6) n (V 31 x.toNatClampNeg).toNatClampNeg w.toNatClampNeg) (fun t => if nI t = x then y else V 35 t) n V L N I) V L N I) V L N I) V L N I) := by
  refine run_of RX6 (by decide +kernel) rfl (Nat.le_of_ble_eq_true rfl) (fun E hE C hQ hN => ?_)
  subst hE
  refine x_aload_n (pc := 0) C dX6_ifOverrun_0 rfl ?_
  refine x_getR (pc := 1) (o := 0) (j := 20) C f_X6_10 dX6_ifOverrun_1 (hI 0 rfl) ⟨rfl, rfl⟩ ?_
  refine x_iload_n (pc := 4) C dX6_ifOverrun_4 rfl ?_
  refine x_cV1 (pc := 5) (o := 20) C v_X6_114 dX6_ifOverrun_5 (c_X3_hasShow hI hn hn24 _) (hI 20 rfl) rfl (by decide) rfl ⟨by decide, by decide⟩ ?_
  refine x_if_ne (pc := 8) (tgt := 21) C dX6_ifOverrun_8 (by decide) (fun h8 => ?_) (fun h8 => ?_)
  · have hw := b2i_t h8
    have hd := of_decide_eq_true hw
    obtain ⟨s, hs, hsl⟩ := nI_in_of hd.1 hd.2 hn24
    subst hs
    have hcl : (nI s).toNatClampNeg = s := nI_clamp (by omega)
    refine x_iload_n (pc := 21) C dX6_ifOverrun_21 rfl ?_
    refine x_bipush (pc := 22) C (-60) dX6_ifOverrun_22 (by decide) ?_
    refine x_bipush (pc := 24) C (120) dX6_ifOverrun_24 (by decide) ?_
    refine x_cS3 (pc := 26) C s_X6_51 dX6_ifOverrun_26 (c_X6_isWithin _ _ _) (by decide) rfl ⟨by decide, by decide⟩ ?_
    refine x_if_eq (pc := 29) (tgt := 42) C dX6_ifOverrun_29 (by decide) (fun h29 => ?_) (fun h29 => ?_)
    · have hq := b2i_f h29
      exact x_throw (pc := 42) C hQ hN t_X6_69_234_73 dX6_ifOverrun_42 dX6_ifOverrun_45 dX6_ifOverrun_46 dX6_ifOverrun_48 dX6_ifOverrun_51 (by decide) rfl ⟨by decide, by decide, by decide, by decide⟩ (ei_t hw (ei_f (by rw [hq]; rfl)))
    · have hq := b2i_t h29
      refine x_iload_n (pc := 32) C dX6_ifOverrun_32 rfl ?_
      refine x_iconst (pc := 33) C (0) dX6_ifOverrun_33 (by decide) ?_
      refine x_bipush (pc := 34) C (7) dX6_ifOverrun_34 (by decide) ?_
      refine x_cS3 (pc := 36) C s_X6_51 dX6_ifOverrun_36 (c_X6_isWithin _ _ _) (by decide) rfl ⟨by decide, by decide⟩ ?_
      refine x_if_ne (pc := 39) (tgt := 52) C dX6_ifOverrun_39 (by decide) (fun h39 => ?_) (fun h39 => ?_)
      · have hq2 := b2i_t h39
        have hw2 : (withinB y (-60) 120 && withinB w 0 7) = true := by rw [hq, hq2]; rfl
        obtain ⟨w2, hwl, rfl⟩ := win_of (k := 7) (by decide) hq2
        have hcl2 : (nI w2).toNatClampNeg = w2 := nI_clamp (by omega)
        refine x_aload_n (pc := 52) C dX6_ifOverrun_52 rfl ?_
        refine x_getR (pc := 53) (o := 0) (j := 20) C f_X6_10 dX6_ifOverrun_53 (hI 0 rfl) ⟨rfl, rfl⟩ ?_
        refine x_getR (pc := 56) (o := 20) (j := 29) C f_X6_124 dX6_ifOverrun_56 (hI 20 rfl) ⟨rfl, rfl⟩ ?_
        refine x_iload_n (pc := 59) C dX6_ifOverrun_59 rfl ?_
        refine x_iald (pc := 60) (o := 29) C dX6_ifOverrun_60 (hI 29 rfl) ⟨rfl, rfl⟩ (show _ < 24 by omega) (by decide) ?_
        refine x_if_eq (pc := 61) (tgt := 74) C dX6_ifOverrun_61 (by decide) (fun h61 => ?_) (fun h61 => ?_)
        · have hw3 : decide (V 29 (nI s).toNatClampNeg = 0) = true := decide_eq_true (by rw [hcl]; exact h61)
          obtain ⟨d, hd7, hday⟩ := hdy s hsl
          refine x_aload_n (pc := 74) C dX6_ifOverrun_74 rfl ?_
          refine x_getR (pc := 75) (o := 0) (j := 12) C f_X6_44 dX6_ifOverrun_75 (hI 0 rfl) ⟨rfl, rfl⟩ ?_
          refine x_aload_n (pc := 78) C dX6_ifOverrun_78 rfl ?_
          refine x_getR (pc := 79) (o := 0) (j := 20) C f_X6_10 dX6_ifOverrun_79 (hI 0 rfl) ⟨rfl, rfl⟩ ?_
          refine x_iload_n (pc := 82) C dX6_ifOverrun_82 rfl ?_
          refine x_iload_n (pc := 83) C dX6_ifOverrun_83 rfl ?_
          refine x_pV3 (pc := 84) (o := 12) C v_X6_236 dX6_ifOverrun_84 (u_X0_playWith hI hn hn24 hdy _ _) (hI 12 rfl) rfl (by decide) rfl ⟨by decide, by decide⟩ (fun V1 hV1 => ?_)
          have hn1 : V1 20 7 = nI n := (congrFun (hV1.1 20 (by decide)) 7).trans hn
          refine x_aload_n (pc := 87) C dX6_ifOverrun_87 rfl ?_
          refine x_getR (pc := 88) (o := 0) (j := 12) C f_X6_44 dX6_ifOverrun_88 (hI 0 rfl) ⟨rfl, rfl⟩ ?_
          refine x_aload_n (pc := 91) C dX6_ifOverrun_91 rfl ?_
          refine x_getR (pc := 92) (o := 0) (j := 20) C f_X6_10 dX6_ifOverrun_92 (hI 0 rfl) ⟨rfl, rfl⟩ ?_
          refine x_aload_n (pc := 95) C dX6_ifOverrun_95 rfl ?_
          refine x_getR (pc := 96) (o := 0) (j := 20) C f_X6_10 dX6_ifOverrun_96 (hI 0 rfl) ⟨rfl, rfl⟩ ?_
          refine x_getR (pc := 99) (o := 20) (j := 31) C f_X6_240 dX6_ifOverrun_99 (hI 20 rfl) ⟨rfl, rfl⟩ ?_
          refine x_iload_n (pc := 102) C dX6_ifOverrun_102 rfl ?_
          refine x_iald (pc := 103) (o := 31) C dX6_ifOverrun_103 (hI 31 rfl) ⟨rfl, rfl⟩ (show _ < 24 by omega) (by decide) ?_
          refine x_topi (nI d) ((congrFun (hV1.1 31 (by decide)) s).trans hday) ?_
          refine x_iload_n (pc := 104) C dX6_ifOverrun_104 rfl ?_
          refine x_cV3 (pc := 105) (o := 12) C v_X6_218 dX6_ifOverrun_105 (u_X0_dayProperty (V := V1) hI hn1 hn24 d w2 hd7 (by omega)) (hI 12 rfl) rfl (by decide) rfl ⟨by decide, by decide⟩ ?_
          exact x_iret (pc := 108) C hQ dX6_ifOverrun_108 (ei_t hw (ei_t hw2 (ei_t hw3 ⟨by rw [hcl, hcl2, hday, nI_clamp (show d < 2 ^ 31 by omega)], hV1, rfl, rfl, rfl⟩))) (Nat.le_of_ble_eq_true rfl) (Nat.le_of_ble_eq_true rfl)
        · exact x_throw (pc := 64) C hQ hN t_X6_127_129_131 dX6_ifOverrun_64 dX6_ifOverrun_67 dX6_ifOverrun_68 dX6_ifOverrun_70 dX6_ifOverrun_73 (by decide) rfl ⟨by decide, by decide, by decide, by decide⟩ (ei_t hw (ei_t hw2 (ei_f (decide_eq_false (by rw [hcl]; exact h61)))))
      · exact x_throw (pc := 42) C hQ hN t_X6_69_234_73 dX6_ifOverrun_42 dX6_ifOverrun_45 dX6_ifOverrun_46 dX6_ifOverrun_48 dX6_ifOverrun_51 (by decide) rfl ⟨by decide, by decide, by decide, by decide⟩ (ei_t hw (ei_f (by rw [hq, b2i_f h39]; rfl)))
  · exact x_throw (pc := 11) C hQ hN t_X6_55_110_59 dX6_ifOverrun_11 dX6_ifOverrun_14 dX6_ifOverrun_15 dX6_ifOverrun_17 dX6_ifOverrun_20 (by decide) rfl ⟨by decide, by decide, by decide, by decide⟩ (ei_f (b2i_f h8))
set_option maxRecDepth 100000 in
set_option maxHeartbeats 4000000 in
theorem c_X6_isHarmless {l : Launch} {V : VV} {L : LL} {N : NN} {I : List Nat} (hI : PI I) {n : Nat} (hn : V 20 7 = nI n) (hn24 : n ≤ 24) (hdy : ∀ s, s < n → ∃ d, d < 7 ∧ V 31 s = nI d) (s : Nat) (hs : s < n) (b : Int32) : Runs l 4 0 0 yX6_isHarmless (Cond.code yX6_isHarmless cX6_isHarmless 4 (some .boolean)) [aR 0, aI (nI s), aI b] V L N I (Pm (some (aI (b2i (hrmB V n s b)))) (fun V1 => SmA 12 V V1) L N I) := by
  refine run_of RX6 (by decide +kernel) rfl (Nat.le_of_ble_eq_true rfl) (fun E hE C hQ hN => ?_)
  subst hE
  refine x_aload_n (pc := 0) C dX6_isHarmless_0 rfl ?_
  refine x_getR (pc := 1) (o := 0) (j := 12) C f_X6_44 dX6_isHarmless_1 (hI 0 rfl) ⟨rfl, rfl⟩ ?_
  refine x_aload_n (pc := 4) C dX6_isHarmless_4 rfl ?_
  refine x_getR (pc := 5) (o := 0) (j := 20) C f_X6_10 dX6_isHarmless_5 (hI 0 rfl) ⟨rfl, rfl⟩ ?_
  refine x_iload_n (pc := 8) C dX6_isHarmless_8 rfl ?_
  refine x_iload_n (pc := 9) C dX6_isHarmless_9 rfl ?_
  refine x_pV3 (pc := 10) (o := 12) C v_X6_236 dX6_isHarmless_10 (u_X0_playWith hI hn hn24 hdy _ _) (hI 12 rfl) rfl (by decide) rfl ⟨Nat.le_refl _, Nat.le_refl _⟩ (fun V1 hV1 => ?_)
  refine x_iconst (pc := 13) C (0) dX6_isHarmless_13 (by decide) ?_
  refine y_istore_n (pc := 14) C dX6_isHarmless_14 (by decide) rfl ?_
  suffices key : ∀ (k i : Nat) , k + i = n → (orTo (badP V n s b) i = false) → Wx E 15 [some (aR 0), some (aI (nI s)), some (aI b), some (aI (nI i))] [] V1 L N I 0 0 by
    exact key (n) 0  (by omega) (rfl)
  intro k
  induction k with
  | zero =>
    intro i  hk hinv
    refine x_iload_n (pc := 15) C dX6_isHarmless_15 rfl ?_
    refine x_aload_n (pc := 16) C dX6_isHarmless_16 rfl ?_
    refine x_getR (pc := 17) (o := 0) (j := 20) C f_X6_10 dX6_isHarmless_17 (hI 0 rfl) ⟨rfl, rfl⟩ ?_
    refine x_getI (pc := 20) (o := 20) C f_X6_257 dX6_isHarmless_20 (hI 20 rfl) ⟨rfl, rfl, rfl⟩ ?_
    refine x_topi (nI n) ((congrFun (hV1.1 20 (by decide)) 7).trans hn) ?_
    refine x_icmp_ge (pc := 23) (tgt := 71) C dX6_isHarmless_23 (by decide) (fun h23 => ?_) (fun h23 => absurd (by exact nI_le (by omega) (by omega)) h23)
    refine x_iconst (pc := 71) C (1) dX6_isHarmless_71 (by decide) ?_
    exact x_zret (pc := 72) C hQ dX6_isHarmless_72 (by decide) (pm_i (hrm_t (by rw [show n = i by omega]; exact hinv)) hV1.1) (Nat.le_of_ble_eq_true rfl) (Nat.le_of_ble_eq_true rfl)
  | succ k ih =>
    intro i  hk hinv
    refine x_iload_n (pc := 15) C dX6_isHarmless_15 rfl ?_
    refine x_aload_n (pc := 16) C dX6_isHarmless_16 rfl ?_
    refine x_getR (pc := 17) (o := 0) (j := 20) C f_X6_10 dX6_isHarmless_17 (hI 0 rfl) ⟨rfl, rfl⟩ ?_
    refine x_getI (pc := 20) (o := 20) C f_X6_257 dX6_isHarmless_20 (hI 20 rfl) ⟨rfl, rfl, rfl⟩ ?_
    refine x_topi (nI n) ((congrFun (hV1.1 20 (by decide)) 7).trans hn) ?_
    refine x_icmp_ge (pc := 23) (tgt := 71) C dX6_isHarmless_23 (by decide) (fun h23 => absurd h23 (by exact nI_ge (by omega) (by omega))) (fun h23 => ?_)
    refine x_iload_n (pc := 26) C dX6_isHarmless_26 rfl ?_
    refine x_iload_n (pc := 27) C dX6_isHarmless_27 rfl ?_
    refine x_icmp_eq (pc := 28) (tgt := 65) C dX6_isHarmless_28 (by decide) (fun h28 => ?_) (fun h28 => ?_)
    · refine y_iinc (pc := 65) C (nI (i + 1)) dX6_isHarmless_65 rfl (by exact nI_1 i) (by decide) rfl ?_
      refine x_goto (pc := 68) (tgt := 15) C dX6_isHarmless_68 (by decide) ?_
      exact ih (i + 1)  (by omega) (or_s hinv (bad_1 h28))
    · refine x_aload_n (pc := 31) C dX6_isHarmless_31 rfl ?_
      refine x_getR (pc := 32) (o := 0) (j := 20) C f_X6_10 dX6_isHarmless_32 (hI 0 rfl) ⟨rfl, rfl⟩ ?_
      refine x_getR (pc := 35) (o := 20) (j := 31) C f_X6_240 dX6_isHarmless_35 (hI 20 rfl) ⟨rfl, rfl⟩ ?_
      refine x_iload_n (pc := 38) C dX6_isHarmless_38 rfl ?_
      refine x_iald (pc := 39) (o := 31) C dX6_isHarmless_39 (hI 31 rfl) ⟨rfl, rfl⟩ (show _ < 24 by omega) (by decide) ?_
      refine x_topi (V 31 i) (by rw [hV1.1 31 (by decide)]) ?_
      refine x_aload_n (pc := 40) C dX6_isHarmless_40 rfl ?_
      refine x_getR (pc := 41) (o := 0) (j := 20) C f_X6_10 dX6_isHarmless_41 (hI 0 rfl) ⟨rfl, rfl⟩ ?_
      refine x_getR (pc := 44) (o := 20) (j := 31) C f_X6_240 dX6_isHarmless_44 (hI 20 rfl) ⟨rfl, rfl⟩ ?_
      refine x_iload_n (pc := 47) C dX6_isHarmless_47 rfl ?_
      refine x_iald (pc := 48) (o := 31) C dX6_isHarmless_48 (hI 31 rfl) ⟨rfl, rfl⟩ (show _ < 24 by omega) (by decide) ?_
      refine x_topi (V 31 s) (by rw [hV1.1 31 (by decide)]) ?_
      refine x_icmp_ne (pc := 49) (tgt := 65) C dX6_isHarmless_49 (by decide) (fun h49 => ?_) (fun h49 => ?_)
      · refine y_iinc (pc := 65) C (nI (i + 1)) dX6_isHarmless_65 rfl (by exact nI_1 i) (by decide) rfl ?_
        refine x_goto (pc := 68) (tgt := 15) C dX6_isHarmless_68 (by decide) ?_
        exact ih (i + 1)  (by omega) (or_s hinv (bad_2 h49))
      · refine x_aload_n (pc := 52) C dX6_isHarmless_52 rfl ?_
        refine x_getR (pc := 53) (o := 0) (j := 12) C f_X6_44 dX6_isHarmless_53 (hI 0 rfl) ⟨rfl, rfl⟩ ?_
        refine x_iload_n (pc := 56) C dX6_isHarmless_56 rfl ?_
        refine x_cV1 (pc := 57) (o := 12) C v_X6_349 dX6_isHarmless_57 (u_X0_isDropped (V := V1) hI i (by omega)) (hI 12 rfl) rfl (by decide) rfl ⟨Nat.le_refl _, Nat.le_refl _⟩ ?_
        have hair : AF 12 V1 0 i = airS (CF V) (V 21) (fun x => if nI x = nI s then b else V 35 x) n 0 i := hV1.2.1 i (by omega) 0 (by decide)
        refine x_if_eq (pc := 60) (tgt := 65) C dX6_isHarmless_60 (by decide) (fun h60 => ?_) (fun h60 => ?_)
        · refine y_iinc (pc := 65) C (nI (i + 1)) dX6_isHarmless_65 rfl (by exact nI_1 i) (by decide) rfl ?_
          refine x_goto (pc := 68) (tgt := 15) C dX6_isHarmless_68 (by decide) ?_
          exact ih (i + 1)  (by omega) (or_s hinv (bad_3 (hair ▸ b2i_nd h60)))
        · refine x_iconst (pc := 63) C (0) dX6_isHarmless_63 (by decide) ?_
          exact x_zret (pc := 64) C hQ dX6_isHarmless_64 (by decide) (pm_i (hrm_f (show i < n by omega) (bad_0 h28 (by first | exact h49 | exact Decidable.not_not.mp h49) (hair ▸ b2i_d h60))) hV1.1) (Nat.le_of_ble_eq_true rfl) (Nat.le_of_ble_eq_true rfl)
