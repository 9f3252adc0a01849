set_option maxRecDepth 100000 in
set_option maxHeartbeats 4000000 in
theorem c_X6_shareOnAir {l : Launch} {V : VV} {L : LL} {N : NN} {I : List Nat} (hI : PI I) {n : Nat} (hn : V 20 7 = nI n) (hn24 : n ≤ 24) (hk : 0 < 7 * (V 21 1 - V 21 0)) (h2 : vf_n64 (FP.ddiv (FP.i2d (wkS (CF V) (AF 6 V) n 2)) (FP.i2d (7 * (V 21 1 - V 21 0))))) : Runs l 6 0 0 yX6_shareOnAir (Cond.code yX6_shareOnAir cX6_shareOnAir 2 (some .double)) [aR 0] V L N I (Is (some (aD (FP.ddiv (FP.i2d (wkS (CF V) (AF 6 V) n 2)) (FP.i2d (7 * (V 21 1 - V 21 0)))))) (V) (L) N I) := by
  refine run_of RX6 (by decide +kernel) rfl (Nat.le_of_ble_eq_true rfl) (fun E hE C hQ hN => ?_)
  subst hE
  refine x_bipush (pc := 0) C (7) dX6_shareOnAir_0 (by decide) ?_
  refine x_aload_n (pc := 2) C dX6_shareOnAir_2 rfl ?_
  refine x_getR (pc := 3) (o := 0) (j := 20) C f_X6_10 dX6_shareOnAir_3 (hI 0 rfl) ⟨rfl, rfl⟩ ?_
  refine x_getR (pc := 6) (o := 20) (j := 21) C f_X6_78 dX6_shareOnAir_6 (hI 20 rfl) ⟨rfl, rfl⟩ ?_
  refine x_iconst (pc := 9) C (1) dX6_shareOnAir_9 (by decide) ?_
  refine x_topi (nI 1) (by decide) ?_
  refine x_iald (pc := 10) (o := 21) C dX6_shareOnAir_10 (hI 21 rfl) ⟨rfl, rfl⟩ (show _ < 8 by decide) (by decide) ?_
  refine x_aload_n (pc := 11) C dX6_shareOnAir_11 rfl ?_
  refine x_getR (pc := 12) (o := 0) (j := 20) C f_X6_10 dX6_shareOnAir_12 (hI 0 rfl) ⟨rfl, rfl⟩ ?_
  refine x_getR (pc := 15) (o := 20) (j := 21) C f_X6_78 dX6_shareOnAir_15 (hI 20 rfl) ⟨rfl, rfl⟩ ?_
  refine x_iconst (pc := 18) C (0) dX6_shareOnAir_18 (by decide) ?_
  refine x_topi (nI 0) (by decide) ?_
  refine x_iald (pc := 19) (o := 21) C dX6_shareOnAir_19 (hI 21 rfl) ⟨rfl, rfl⟩ (show _ < 8 by decide) (by decide) ?_
  refine x_isub (pc := 20) C dX6_shareOnAir_20 ?_
  refine x_imul (pc := 21) C dX6_shareOnAir_21 ?_
  refine y_istore_n (pc := 22) C dX6_shareOnAir_22 (by decide) rfl ?_
  refine x_iload_n (pc := 23) C dX6_shareOnAir_23 rfl ?_
  refine x_if_le (pc := 24) (tgt := 45) C dX6_shareOnAir_24 (by decide) (fun h24 => absurd h24 (by exact Int32.not_le.mpr hk)) (fun h24 => ?_)
  refine x_aload_n (pc := 27) C dX6_shareOnAir_27 rfl ?_
  refine x_getR (pc := 28) (o := 0) (j := 6) C f_X6_40 dX6_shareOnAir_28 (hI 0 rfl) ⟨rfl, rfl⟩ ?_
  refine x_aload_n (pc := 31) C dX6_shareOnAir_31 rfl ?_
  refine x_getR (pc := 32) (o := 0) (j := 20) C f_X6_10 dX6_shareOnAir_32 (hI 0 rfl) ⟨rfl, rfl⟩ ?_
  refine x_cV1 (pc := 35) (o := 6) C v_X6_342 dX6_shareOnAir_35 (c_X0_minutesOfWeek hI hn hn24) (hI 6 rfl) rfl (by decide) rfl ⟨Nat.le_refl _, Nat.le_refl _⟩ ?_
  refine x_i2d (pc := 38) C dX6_shareOnAir_38 ?_
  refine x_iload_n (pc := 39) C dX6_shareOnAir_39 rfl ?_
  refine x_i2d (pc := 40) C dX6_shareOnAir_40 ?_
  refine x_ddiv (pc := 41) C dX6_shareOnAir_41 (h2) ?_
  refine x_goto (pc := 42) (tgt := 46) C dX6_shareOnAir_42 (by decide) ?_
  exact x_dret (pc := 46) C hQ dX6_shareOnAir_46 (is_r rfl rfl) (Nat.le_of_ble_eq_true rfl) (Nat.le_of_ble_eq_true rfl)
set_option maxRecDepth 100000 in
set_option maxHeartbeats 4000000 in
theorem c_X6_share {l : Launch} {V : VV} {L : LL} {N : NN} {I : List Nat} (hI : PI I) {n : Nat} (hn : V 20 7 = nI n) (hn24 : n ≤ 24) (hdy : ∀ s, s < n → ∃ d, d < 7 ∧ V 31 s = nI d) (hk : 0 < 7 * (V 21 1 - V 21 0)) (h2 : ∀ V1, AirI 6 V V1 (V 35) n → vf_n64 (FP.ddiv (FP.i2d (wkS (CF V1) (AF 6 V1) n 2)) (FP.i2d (7 * (V 21 1 - V 21 0))))) : Runs l 7 0 0 yX6_share (Cond.code yX6_share cX6_share 1 (some .double)) [aR 0] V L N I (fun r1 V1 L1 N1 I1 => r1 = .inl (some (aD (FP.ddiv (FP.i2d (wkS (CF V1) (AF 6 V1) n 2)) (FP.i2d (7 * (V 21 1 - V 21 0)))))) ∧ AirI 6 V V1 (V 35) n ∧ L1 = L ∧ N1 = N ∧ I1 = I) := by
  refine run_of RX6 (by decide +kernel) rfl (Nat.le_of_ble_eq_true rfl) (fun E hE C hQ hN => ?_)
  subst hE
  refine x_aload_n (pc := 0) C dX6_share_0 rfl ?_
  refine x_getR (pc := 1) (o := 0) (j := 6) C f_X6_40 dX6_share_1 (hI 0 rfl) ⟨rfl, rfl⟩ ?_
  refine x_aload_n (pc := 4) C dX6_share_4 rfl ?_
  refine x_getR (pc := 5) (o := 0) (j := 20) C f_X6_10 dX6_share_5 (hI 0 rfl) ⟨rfl, rfl⟩ ?_
  refine x_pV1 (pc := 8) (o := 6) C v_X6_140 dX6_share_8 (c_X0_play hI hn hn24 hdy) (hI 6 rfl) rfl (by decide) rfl ⟨by decide, by decide⟩ (fun V1 hV1 => ?_)
  have hn1 : V1 20 7 = nI n := (congrFun (airI_20 hV1) 7).trans hn
  have e21 : V1 21 = V 21 := hV1.1 21 (by decide)
  refine x_aload_n (pc := 11) C dX6_share_11 rfl ?_
  refine x_cV0 (pc := 12) (o := 0) C v_X6_246 dX6_share_12 (c_X6_shareOnAir (V := V1) hI hn1 hn24 (by rw [e21]; exact hk) (by rw [e21]; exact h2 V1 hV1)) (hI 0 rfl) rfl (by decide) rfl ⟨by decide, by decide⟩ ?_
  exact x_dret (pc := 15) C hQ dX6_share_15 (⟨by rw [e21], hV1, rfl, rfl, rfl⟩) (Nat.le_of_ble_eq_true rfl) (Nat.le_of_ble_eq_true rfl)
set_option maxRecDepth 100000 in
set_option maxHeartbeats 4000000 in
theorem c_X6_bitsOf {l : Launch} {V : VV} {L : LL} {N : NN} {I : List Nat} (x : UInt64) (hx : x = 0 ∨ ∃ c q, le1 c q ∧ x = dN64 c q) : Runs l 1 0 0 yX6_bitsOf (Cond.code yX6_bitsOf cX6_bitsOf 7 (some .long)) [aD x] V L N I (Is (some (aL x.toInt64)) V L N I) := by
  refine run_of RX6 (by decide +kernel) rfl (Nat.le_of_ble_eq_true rfl) (fun E hE C hQ hN => ?_)
  subst hE
  refine x_dload_n (pc := 0) C dX6_bitsOf_0 rfl ?_
  refine x_dconst0 (pc := 1) C dX6_bitsOf_1 ?_
  refine x_dcmp (pc := 2) C dX6_bitsOf_2 ?_
  rcases hx with rfl | ⟨c, q, hle, rfl⟩
  · refine x_topi 0 (by decide +kernel) ?_
    refine x_if_gt (pc := 3) (tgt := 8) C dX6_bitsOf_3 (by decide) (fun h3 => absurd h3 (by decide)) (fun h3 => ?_)
    refine x_lconst (pc := 6) C (0) dX6_bitsOf_6 (by decide) ?_
    exact x_lret (pc := 7) C hQ dX6_bitsOf_7 (is_r (by decide +kernel) rfl) (Nat.le_of_ble_eq_true rfl) (Nat.le_of_ble_eq_true rfl)
  · obtain ⟨hn, hlo, hhi⟩ := hle
    refine x_topi 1 (by rw [cmp_0 hn]; rfl) ?_
    refine x_if_gt (pc := 3) (tgt := 8) C dX6_bitsOf_3 (by decide) (fun h3 => ?_) (fun h3 => absurd (by decide) h3)
    refine x_dload_n (pc := 8) C dX6_bitsOf_8 rfl ?_
    refine x_dstore_n (pc := 9) C dX6_bitsOf_9 (by decide) ?_
    refine x_loc (ls2 := [some (aD (dN64 c q)), none, some (aD (dN64 c q)), none, none, none, none]) rfl ?_
    refine x_ldc2 (pc := 10) C dX6_bitsOf_10 (show Cond.constantLong RX6 352 1023 ∈ U0 from u0_in 565 (by decide +kernel) rfl) ?_
    refine x_lstore (pc := 13) C dX6_bitsOf_13 (by decide) ?_
    refine x_loc (ls2 := [some (aD (dN64 c q)), none, some (aD (dN64 c q)), none, some (aL 1023), none, none]) rfl ?_
    refine x_iconst (pc := 15) C (nI 0) dX6_bitsOf_15 (by decide) ?_
    refine y_istore (pc := 16) C dX6_bitsOf_16 (by decide) rfl ?_
    obtain ⟨t0, ht0⟩ : ∃ t0 : Nat, (t0 : Int) = -52 - q := ⟨(-52 - q).toNat, by omega⟩
    suffices key : ∀ (t i : Nat), t + i = t0 → Wx E 18 [some (aD (dN64 c q)), none, some (aD (dN64 c (q + (i : Int)))), none, some (aL (lN (1023 - i))), none, some (aI (nI i))] [] V L N I 0 0 by
      have := key t0 0 rfl
      rw [show q + ((0 : Nat) : Int) = q by omega] at this
      exact this
    intro t
    induction t with
    | zero =>
      intro i hi
      have hq : q + (i : Int) = -52 := by omega
      have hn2 : nrm c (-52) := ⟨hn.1, hn.2.1, by decide, by decide⟩
      rw [hq]
      refine x_iload (pc := 18) C dX6_bitsOf_18 rfl ?_
      refine x_sipush (pc := 20) C (nI 1022) dX6_bitsOf_20 (by decide) ?_
      refine x_icmp_ge (pc := 23) (tgt := 50) C dX6_bitsOf_23 (by decide) (fun h23 => absurd h23 (nI_ge (by omega) (by decide))) (fun h23 => ?_)
      refine x_dload_n (pc := 26) C dX6_bitsOf_26 rfl ?_
      refine x_dconst1 (pc := 27) C dX6_bitsOf_27 ?_
      refine x_dcmp (pc := 28) C dX6_bitsOf_28 ?_
      refine x_if_ge (pc := 29) (tgt := 50) C dX6_bitsOf_29 (by decide) (fun h29 => ?_) (fun h29 => absurd (by rcases cmp_2 hn2 with e | e <;> rw [e] <;> decide) h29)
      refine x_lload (pc := 50) C dX6_bitsOf_50 rfl ?_
      refine x_bipush (pc := 52) C (52) dX6_bitsOf_52 (by decide) ?_
      refine x_lshl (pc := 54) C dX6_bitsOf_54 ?_
      refine x_dload_n (pc := 55) C dX6_bitsOf_55 rfl ?_
      refine x_dconst1 (pc := 56) C dX6_bitsOf_56 ?_
      have hexp : 1023 - i = (q + 1075).toNat := by omega
      by_cases hc : c = T52
      · have hs := fp_sub hn2
        rw [if_pos hc] at hs
        refine x_dsub (pc := 57) C dX6_bitsOf_57 (by rw [hs]; exact n64_0) ?_
        rw [hs]
        refine x_ldc2d (pc := 58) C dX6_bitsOf_58 (show Cond.constantDouble RX6 356 4841369599423283200 ∈ U0 from u0_in 567 (by decide +kernel) rfl) ?_
        refine x_dmul (pc := 61) C dX6_bitsOf_61 (by rw [fp_0mul]; exact n64_0) ?_
        rw [fp_0mul]
        refine x_d2l (pc := 62) C dX6_bitsOf_62 ?_
        rw [fp_d2l0]
        refine x_ladd (pc := 63) C dX6_bitsOf_63 ?_
        refine x_lret (pc := 64) C hQ dX6_bitsOf_64 (is_r ?_ rfl) (Nat.le_of_ble_eq_true rfl) (Nat.le_of_ble_eq_true rfl)
        rw [← fp_bits hn, hexp, hc, Nat.sub_self]
        rfl
      · have hs := fp_sub hn2
        rw [if_neg hc] at hs
        have h1 := hn.1
        have h2 := hn.2.1
        obtain ⟨hm, -⟩ := rr_m (m := c - T52) (e := -52) (by omega) (by omega) (by decide) (by decide)
        obtain ⟨hm0, -⟩ := rr_m (m := c - T52) (e := 0) (by omega) (by omega) (by decide) (by decide)
        rw [show ((c - T52).log2 : Int) - 52 + -52 = ((c - T52).log2 : Int) - 104 by omega] at hm
        rw [show ((c - T52).log2 : Int) - 52 + 0 = ((c - T52).log2 : Int) - 52 by omega] at hm0
        refine x_dsub (pc := 57) C dX6_bitsOf_57 (by rw [hs]; exact n64_d hm) ?_
        rw [hs]
        refine x_ldc2d (pc := 58) C dX6_bitsOf_58 (show Cond.constantDouble RX6 356 4841369599423283200 ∈ U0 from u0_in 567 (by decide +kernel) rfl) ?_
        have hl53 : (c - T52).log2 < 53 := (Nat.log2_lt (by omega)).mpr (show c - T52 < 2 * T52 by omega)
        have hmm := fp_m52 hm (by omega)
        rw [show ((c - T52).log2 : Int) - 104 + 52 = ((c - T52).log2 : Int) - 52 by omega] at hmm
        refine x_dmul (pc := 61) C dX6_bitsOf_61 (by rw [hmm]; exact n64_d hm0) ?_
        rw [hmm]
        refine x_d2l (pc := 62) C dX6_bitsOf_62 ?_
        rw [fp_d2l (by omega) (by omega) hm0]
        refine x_ladd (pc := 63) C dX6_bitsOf_63 ?_
        refine x_lret (pc := 64) C hQ dX6_bitsOf_64 (is_r ?_ rfl) (Nat.le_of_ble_eq_true rfl) (Nat.le_of_ble_eq_true rfl)
        rw [← fp_bits hn, hexp]
    | succ t ih =>
      intro i hi
      have hq : q + (i : Int) ≤ -53 := by omega
      have hn2 : nrm c (q + (i : Int)) := ⟨hn.1, hn.2.1, by omega, by omega⟩
      have hn3 : nrm c (q + (i : Int) + 1) := ⟨hn.1, hn.2.1, by omega, by omega⟩
      refine x_iload (pc := 18) C dX6_bitsOf_18 rfl ?_
      refine x_sipush (pc := 20) C (nI 1022) dX6_bitsOf_20 (by decide) ?_
      refine x_icmp_ge (pc := 23) (tgt := 50) C dX6_bitsOf_23 (by decide) (fun h23 => absurd h23 (nI_ge (by omega) (by decide))) (fun h23 => ?_)
      refine x_dload_n (pc := 26) C dX6_bitsOf_26 rfl ?_
      refine x_dconst1 (pc := 27) C dX6_bitsOf_27 ?_
      refine x_dcmp (pc := 28) C dX6_bitsOf_28 ?_
      refine x_topi (-1) (by rw [cmp_1 hn2 hq]; rfl) ?_
      refine x_if_ge (pc := 29) (tgt := 50) C dX6_bitsOf_29 (by decide) (fun h29 => absurd h29 (by decide)) (fun h29 => ?_)
      refine x_dload_n (pc := 32) C dX6_bitsOf_32 rfl ?_
      refine x_ldc2d (pc := 33) C dX6_bitsOf_33 (show Cond.constantDouble RX6 354 4611686018427387904 ∈ U0 from u0_in 566 (by decide +kernel) rfl) ?_
      have hd := fp_dbl hn2 (by omega)
      refine x_dmul (pc := 36) C dX6_bitsOf_36 (by rw [hd]; exact n64_d hn3) ?_
      rw [hd]
      refine x_dstore_n (pc := 37) C dX6_bitsOf_37 (by decide) ?_
      refine x_loc (ls2 := [some (aD (dN64 c q)), none, some (aD (dN64 c (q + (i : Int) + 1))), none, some (aL (lN (1023 - i))), none, some (aI (nI i))]) rfl ?_
      refine x_lload (pc := 38) C dX6_bitsOf_38 rfl ?_
      refine x_lconst (pc := 40) C (1) dX6_bitsOf_40 (by decide) ?_
      refine x_lsub (pc := 41) C dX6_bitsOf_41 ?_
      refine x_topl (lN (1023 - (i + 1))) (show lN (1023 - i) - lN 1 = _ by rw [lN_sub (by omega)]; congr 1) ?_
      refine x_lstore (pc := 42) C dX6_bitsOf_42 (by decide) ?_
      refine x_loc (ls2 := [some (aD (dN64 c q)), none, some (aD (dN64 c (q + (i : Int) + 1))), none, some (aL (lN (1023 - (i + 1)))), none, some (aI (nI i))]) rfl ?_
      refine y_iinc (pc := 44) C (nI (i + 1)) dX6_bitsOf_44 rfl (nI_1 i) (by decide) rfl ?_
      refine x_goto (pc := 47) (tgt := 18) C dX6_bitsOf_47 (by decide) ?_
      have := ih (i + 1) (by omega)
      rw [show q + ((i + 1 : Nat) : Int) = q + (i : Int) + 1 by omega] at this
      exact this
