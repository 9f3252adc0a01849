set_option maxRecDepth 100000 in
set_option maxHeartbeats 4000000 in
theorem c_X5_readSign {l : Launch} {V : VV} {L : LL} {N : NN} {I : List Nat} (hI : PI I) {l0 : Nat} (hl0 : V 3 1 = nI l0) (hl60 : l0 ≤ 60) (a : Nat) (ha : a ≤ l0) (x s : Int32) : Runs l 1 0 0 yX5_readSign (Cond.code yX5_readSign cX5_readSign 2 (some .boolean)) [aR 3, aI s] (stT V a x) L N I (Is (some (aI (b2i (sgB V l0 a s)))) (stT V (if sgB V l0 a s = true then a + 1 else a) x) (L) N I) := by
  refine run_of RX5 (by decide +kernel) rfl (Nat.le_of_ble_eq_true rfl) (fun E hE C hQ hN => ?_)
  subst hE
  refine x_aload_n (pc := 0) C dX5_readSign_0 rfl ?_
  refine x_getI (pc := 1) (o := 3) C f_X5_15 dX5_readSign_1 (hI 3 rfl) ⟨rfl, rfl, rfl⟩ ?_
  refine x_topi (nI a) stT_2 ?_
  refine x_aload_n (pc := 4) C dX5_readSign_4 rfl ?_
  refine x_getI (pc := 5) (o := 3) C f_X5_27 dX5_readSign_5 (hI 3 rfl) ⟨rfl, rfl, rfl⟩ ?_
  refine x_topi (nI l0) (by rw [stT_1]; exact hl0) ?_
  refine x_icmp_ge (pc := 8) (tgt := 24) C dX5_readSign_8 (by decide) (fun h8 => ?_) (fun h8 => ?_)
  · refine x_iconst (pc := 24) C (0) dX5_readSign_24 (by decide) ?_
    exact x_zret (pc := 25) C hQ dX5_readSign_25 (by decide) (is_iv (by rw [sg_f1 (ltn h8)]; rfl) (by rw [tf_e (sg_f1 (ltn h8))])) (Nat.le_of_ble_eq_true rfl) (Nat.le_of_ble_eq_true rfl)
  · have hal : a < l0 := ltp (by omega) h8
    refine x_aload_n (pc := 11) C dX5_readSign_11 rfl ?_
    refine x_getR (pc := 12) (o := 3) (j := 4) C f_X5_9 dX5_readSign_12 (hI 3 rfl) ⟨rfl, rfl⟩ ?_
    refine x_aload_n (pc := 15) C dX5_readSign_15 rfl ?_
    refine x_getI (pc := 16) (o := 3) C f_X5_15 dX5_readSign_16 (hI 3 rfl) ⟨rfl, rfl, rfl⟩ ?_
    refine x_topi (nI a) stT_2 ?_
    refine x_iald (pc := 19) (o := 4) C dX5_readSign_19 (hI 4 rfl) ⟨rfl, rfl⟩ (show _ < 60 by omega) (by decide) ?_
    refine x_topi (V 4 a) rfl ?_
    refine x_iload_n (pc := 20) C dX5_readSign_20 rfl ?_
    refine x_icmp_eq (pc := 21) (tgt := 26) C dX5_readSign_21 (by decide) (fun h21 => ?_) (fun h21 => ?_)
    · refine x_aload_n (pc := 26) C dX5_readSign_26 rfl ?_
      refine x_dup (pc := 27) C dX5_readSign_27 rfl ?_
      refine x_getI (pc := 28) (o := 3) C f_X5_15 dX5_readSign_28 (hI 3 rfl) ⟨rfl, rfl, rfl⟩ ?_
      refine x_topi (nI a) stT_2 ?_
      refine x_iconst (pc := 31) C (1) dX5_readSign_31 (by decide) ?_
      refine x_iadd (pc := 32) C dX5_readSign_32 ?_
      refine x_topi (nI (a + 1)) (nI_1 a) ?_
      refine x_putI (pc := 33) (o := 3) C p_X5_15 dX5_readSign_33 (hI 3 rfl) ⟨rfl, rfl, rfl⟩ ?_
      refine x_iconst (pc := 36) C (1) dX5_readSign_36 (by decide) ?_
      exact x_zret (pc := 37) C hQ dX5_readSign_37 (by decide) (is_iv (by rw [sg_t hal h21]; rfl) (by rw [if_pos (sg_t hal h21), stT_p])) (Nat.le_of_ble_eq_true rfl) (Nat.le_of_ble_eq_true rfl)
    · refine x_iconst (pc := 24) C (0) dX5_readSign_24 (by decide) ?_
      exact x_zret (pc := 25) C hQ dX5_readSign_25 (by decide) (is_iv (by rw [sg_f2 h21]; rfl) (by rw [tf_e (sg_f2 h21)])) (Nat.le_of_ble_eq_true rfl) (Nat.le_of_ble_eq_true rfl)
set_option maxRecDepth 100000 in
set_option maxHeartbeats 4000000 in
theorem c_X5_readDigit {l : Launch} {V : VV} {L : LL} {N : NN} {I : List Nat} (hI : PI I) {l0 : Nat} (hl0 : V 3 1 = nI l0) (hl60 : l0 ≤ 60) (a : Nat) (ha : a ≤ l0) (x hi : Int32) : Runs l 2 0 0 yX5_readDigit (Cond.code yX5_readDigit cX5_readDigit 2 (some .boolean)) [aR 3, aI hi] (stT V a x) L N I (Is (some (aI (b2i (dgB V l0 a hi)))) (stT V (if dgB V l0 a hi = true then a + 1 else a) (if dgB V l0 a hi = true then V 4 a - 48 else x)) (L) N I) := by
  refine run_of RX5 (by decide +kernel) rfl (Nat.le_of_ble_eq_true rfl) (fun E hE C hQ hN => ?_)
  subst hE
  refine x_aload_n (pc := 0) C dX5_readDigit_0 rfl ?_
  refine x_getI (pc := 1) (o := 3) C f_X5_15 dX5_readDigit_1 (hI 3 rfl) ⟨rfl, rfl, rfl⟩ ?_
  refine x_topi (nI a) stT_2 ?_
  refine x_aload_n (pc := 4) C dX5_readDigit_4 rfl ?_
  refine x_getI (pc := 5) (o := 3) C f_X5_27 dX5_readDigit_5 (hI 3 rfl) ⟨rfl, rfl, rfl⟩ ?_
  refine x_topi (nI l0) (by rw [stT_1]; exact hl0) ?_
  refine x_icmp_ge (pc := 8) (tgt := 31) C dX5_readDigit_8 (by decide) (fun h8 => ?_) (fun h8 => ?_)
  · refine x_iconst (pc := 31) C (0) dX5_readDigit_31 (by decide) ?_
    exact x_zret (pc := 32) C hQ dX5_readDigit_32 (by decide) (is_iv (by rw [dg_f1 (ltn h8)]; rfl) (by rw [tf_e (dg_f1 (ltn h8)), tf_e (dg_f1 (ltn h8))])) (Nat.le_of_ble_eq_true rfl) (Nat.le_of_ble_eq_true rfl)
  · have hal : a < l0 := ltp (by omega) h8
    refine x_aload_n (pc := 11) C dX5_readDigit_11 rfl ?_
    refine x_getR (pc := 12) (o := 3) (j := 4) C f_X5_9 dX5_readDigit_12 (hI 3 rfl) ⟨rfl, rfl⟩ ?_
    refine x_aload_n (pc := 15) C dX5_readDigit_15 rfl ?_
    refine x_getI (pc := 16) (o := 3) C f_X5_15 dX5_readDigit_16 (hI 3 rfl) ⟨rfl, rfl, rfl⟩ ?_
    refine x_topi (nI a) stT_2 ?_
    refine x_iald (pc := 19) (o := 4) C dX5_readDigit_19 (hI 4 rfl) ⟨rfl, rfl⟩ (show _ < 60 by omega) (by decide) ?_
    refine x_topi (V 4 a) rfl ?_
    refine x_bipush (pc := 20) C (48) dX5_readDigit_20 (by decide) ?_
    refine x_isub (pc := 22) C dX5_readDigit_22 ?_
    refine x_iconst (pc := 23) C (0) dX5_readDigit_23 (by decide) ?_
    refine x_iload_n (pc := 24) C dX5_readDigit_24 rfl ?_
    refine x_cN3 (pc := 25) C n_X5_58 dX5_readDigit_25 (c_X6_isWithin _ _ _) (by decide) rfl ⟨Nat.le_refl _, Nat.le_refl _⟩ ?_
    refine x_if_ne (pc := 28) (tgt := 33) C dX5_readDigit_28 (by decide) (fun h28 => ?_) (fun h28 => ?_)
    · refine x_aload_n (pc := 33) C dX5_readDigit_33 rfl ?_
      refine x_aload_n (pc := 34) C dX5_readDigit_34 rfl ?_
      refine x_getR (pc := 35) (o := 3) (j := 4) C f_X5_9 dX5_readDigit_35 (hI 3 rfl) ⟨rfl, rfl⟩ ?_
      refine x_aload_n (pc := 38) C dX5_readDigit_38 rfl ?_
      refine x_getI (pc := 39) (o := 3) C f_X5_15 dX5_readDigit_39 (hI 3 rfl) ⟨rfl, rfl, rfl⟩ ?_
      refine x_topi (nI a) stT_2 ?_
      refine x_iald (pc := 42) (o := 4) C dX5_readDigit_42 (hI 4 rfl) ⟨rfl, rfl⟩ (show _ < 60 by omega) (by decide) ?_
      refine x_topi (V 4 a) rfl ?_
      refine x_bipush (pc := 43) C (48) dX5_readDigit_43 (by decide) ?_
      refine x_isub (pc := 45) C dX5_readDigit_45 ?_
      refine x_putI (pc := 46) (o := 3) C p_X5_41 dX5_readDigit_46 (hI 3 rfl) ⟨rfl, rfl, rfl⟩ ?_
      refine x_mem stT_n ?_
      refine x_aload_n (pc := 49) C dX5_readDigit_49 rfl ?_
      refine x_dup (pc := 50) C dX5_readDigit_50 rfl ?_
      refine x_getI (pc := 51) (o := 3) C f_X5_15 dX5_readDigit_51 (hI 3 rfl) ⟨rfl, rfl, rfl⟩ ?_
      refine x_topi (nI a) stT_2 ?_
      refine x_iconst (pc := 54) C (1) dX5_readDigit_54 (by decide) ?_
      refine x_iadd (pc := 55) C dX5_readDigit_55 ?_
      refine x_topi (nI (a + 1)) (nI_1 a) ?_
      refine x_putI (pc := 56) (o := 3) C p_X5_15 dX5_readDigit_56 (hI 3 rfl) ⟨rfl, rfl, rfl⟩ ?_
      refine x_iconst (pc := 59) C (1) dX5_readDigit_59 (by decide) ?_
      exact x_zret (pc := 60) C hQ dX5_readDigit_60 (by decide) (is_iv (by rw [dg_t hal (b2i_t h28)]; rfl) (by rw [if_pos (dg_t hal (b2i_t h28)), if_pos (dg_t hal (b2i_t h28)), stT_p])) (Nat.le_of_ble_eq_true rfl) (Nat.le_of_ble_eq_true rfl)
    · refine x_iconst (pc := 31) C (0) dX5_readDigit_31 (by decide) ?_
      exact x_zret (pc := 32) C hQ dX5_readDigit_32 (by decide) (is_iv (by rw [dg_f2 (b2i_f h28)]; rfl) (by rw [tf_e (dg_f2 (b2i_f h28)), tf_e (dg_f2 (b2i_f h28))])) (Nat.le_of_ble_eq_true rfl) (Nat.le_of_ble_eq_true rfl)
set_option maxRecDepth 100000 in
set_option maxHeartbeats 4000000 in
theorem c_X5_readNumber {l : Launch} {V : VV} {L : LL} {N : NN} {I : List Nat} (hI : PI I) {l0 : Nat} (hl0 : V 3 1 = nI l0) (hl60 : l0 ≤ 60) (a : Nat) (ha : a ≤ l0) (x : Int32) : Runs l 3 0 0 yX5_readNumber (Cond.code yX5_readNumber cX5_readNumber 3 (some .boolean)) [aR 3] (stT V a x) L N I (Is (some (aI (b2i (nmP V l0 a x).1))) (stT V (nmP V l0 a x).2.1 (nmP V l0 a x).2.2) (L) N I) := by
  refine run_of RX5 (by decide +kernel) rfl (Nat.le_of_ble_eq_true rfl) (fun E hE C hQ hN => ?_)
  subst hE
  refine x_aload_n (pc := 0) C dX5_readNumber_0 rfl ?_
  refine x_bipush (pc := 1) C (9) dX5_readNumber_1 (by decide) ?_
  refine x_cV1 (pc := 3) (o := 3) C v_X5_37 dX5_readNumber_3 (c_X5_readDigit hI hl0 hl60 a ha x _) (hI 3 rfl) rfl (by decide) rfl ⟨Nat.le_refl _, Nat.le_refl _⟩ ?_
  refine x_if_ne (pc := 6) (tgt := 11) C dX5_readNumber_6 (by decide) (fun h6 => ?_) (fun h6 => ?_)
  · have hd6 := b2i_t h6
    refine x_mem (by rw [if_pos hd6, if_pos hd6]) ?_
    refine x_aload_n (pc := 11) C dX5_readNumber_11 rfl ?_
    refine x_getI (pc := 12) (o := 3) C f_X5_41 dX5_readNumber_12 (hI 3 rfl) ⟨rfl, rfl, rfl⟩ ?_
    refine x_topi (V 4 a - 48) stT_3 ?_
    refine y_istore_n (pc := 15) C dX5_readNumber_15 (by decide) rfl ?_
    refine x_iconst (pc := 16) C (1) dX5_readNumber_16 (by decide) ?_
    refine y_istore_n (pc := 17) C dX5_readNumber_17 (by decide) rfl ?_
    suffices key : ∀ (k i : Nat) (v : Int32) (b : Nat) (y : Int32), k + i = 4 → b ≤ l0 → nmL V l0 3 (V 4 a - 48) (a + 1) = nmL V l0 k v b → Wx E 18 [some (aR 3), some (aI v), some (aI (nI i))] [] (stT V b y) L N I 0 0 by
      exact key 3 1 (V 4 a - 48) (a + 1) _ (by decide) (dg_lt hd6) rfl
    intro k
    induction k with
    | zero =>
      intro i v b y hk hb hr
      refine x_iload_n (pc := 18) C dX5_readNumber_18 rfl ?_
      refine x_iconst (pc := 19) C (4) dX5_readNumber_19 (by decide) ?_
      refine x_icmp_ge (pc := 20) (tgt := 52) C dX5_readNumber_20 (by decide) (fun h20 => ?_) (fun h20 => absurd (by exact nI_le (a := 4) (b := i) (by omega) (by omega)) h20)
      refine x_aload_n (pc := 52) C dX5_readNumber_52 rfl ?_
      refine x_iload_n (pc := 53) C dX5_readNumber_53 rfl ?_
      refine x_putI (pc := 54) (o := 3) C p_X5_41 dX5_readNumber_54 (hI 3 rfl) ⟨rfl, rfl, rfl⟩ ?_
      refine x_iconst (pc := 57) C (1) dX5_readNumber_57 (by decide) ?_
      exact x_zret (pc := 58) C hQ dX5_readNumber_58 (by decide) (is_iv (by rw [nmP_t hd6]; rfl) (by rw [nmP_t hd6, hr]; exact stT_n)) (Nat.le_of_ble_eq_true rfl) (Nat.le_of_ble_eq_true rfl)
    | succ k ih =>
      intro i v b y hk hb hr
      refine x_iload_n (pc := 18) C dX5_readNumber_18 rfl ?_
      refine x_iconst (pc := 19) C (4) dX5_readNumber_19 (by decide) ?_
      refine x_icmp_ge (pc := 20) (tgt := 52) C dX5_readNumber_20 (by decide) (fun h20 => absurd h20 (by exact nI_ge (a := i) (b := 4) (by omega) (by omega))) (fun h20 => ?_)
      refine x_iload_n (pc := 23) C dX5_readNumber_23 rfl ?_
      refine x_if_le (pc := 24) (tgt := 52) C dX5_readNumber_24 (by decide) (fun h24 => ?_) (fun h24 => ?_)
      · have hr2 : nmL V l0 3 (V 4 a - 48) (a + 1) = (v, b) := by rw [hr, nmL, if_neg (fun q => absurd q.1 (Int32.not_lt.mpr h24))]
        refine x_aload_n (pc := 52) C dX5_readNumber_52 rfl ?_
        refine x_iload_n (pc := 53) C dX5_readNumber_53 rfl ?_
        refine x_putI (pc := 54) (o := 3) C p_X5_41 dX5_readNumber_54 (hI 3 rfl) ⟨rfl, rfl, rfl⟩ ?_
        refine x_iconst (pc := 57) C (1) dX5_readNumber_57 (by decide) ?_
        exact x_zret (pc := 58) C hQ dX5_readNumber_58 (by decide) (is_iv (by rw [nmP_t hd6]; rfl) (by rw [nmP_t hd6, hr2]; exact stT_n)) (Nat.le_of_ble_eq_true rfl) (Nat.le_of_ble_eq_true rfl)
      · refine x_aload_n (pc := 27) C dX5_readNumber_27 rfl ?_
        refine x_bipush (pc := 28) C (9) dX5_readNumber_28 (by decide) ?_
        refine x_cV1 (pc := 30) (o := 3) C v_X5_37 dX5_readNumber_30 (c_X5_readDigit hI hl0 hl60 b hb y _) (hI 3 rfl) rfl (by decide) rfl ⟨Nat.le_refl _, Nat.le_refl _⟩ ?_
        refine x_if_eq (pc := 33) (tgt := 52) C dX5_readNumber_33 (by decide) (fun h33 => ?_) (fun h33 => ?_)
        · have hr2 : nmL V l0 3 (V 4 a - 48) (a + 1) = (v, b) := by rw [hr, nmL, if_neg (fun q => b2i_n h33 q.2)]
          refine x_mem (by rw [tf_e (b2i_f h33), tf_e (b2i_f h33)]) ?_
          refine x_aload_n (pc := 52) C dX5_readNumber_52 rfl ?_
          refine x_iload_n (pc := 53) C dX5_readNumber_53 rfl ?_
          refine x_putI (pc := 54) (o := 3) C p_X5_41 dX5_readNumber_54 (hI 3 rfl) ⟨rfl, rfl, rfl⟩ ?_
          refine x_iconst (pc := 57) C (1) dX5_readNumber_57 (by decide) ?_
          exact x_zret (pc := 58) C hQ dX5_readNumber_58 (by decide) (is_iv (by rw [nmP_t hd6]; rfl) (by rw [nmP_t hd6, hr2]; exact stT_n)) (Nat.le_of_ble_eq_true rfl) (Nat.le_of_ble_eq_true rfl)
        · have hd := b2i_t h33
          refine x_mem (by rw [if_pos hd, if_pos hd]) ?_
          refine x_bipush (pc := 36) C (10) dX5_readNumber_36 (by decide) ?_
          refine x_iload_n (pc := 38) C dX5_readNumber_38 rfl ?_
          refine x_imul (pc := 39) C dX5_readNumber_39 ?_
          refine x_aload_n (pc := 40) C dX5_readNumber_40 rfl ?_
          refine x_getI (pc := 41) (o := 3) C f_X5_41 dX5_readNumber_41 (hI 3 rfl) ⟨rfl, rfl, rfl⟩ ?_
          refine x_topi (V 4 b - 48) stT_3 ?_
          refine x_iadd (pc := 44) C dX5_readNumber_44 ?_
          refine y_istore_n (pc := 45) C dX5_readNumber_45 (by decide) rfl ?_
          refine y_iinc (pc := 46) C (nI (i + 1)) dX5_readNumber_46 rfl (by exact nI_1 i) (by decide) rfl ?_
          refine x_goto (pc := 49) (tgt := 18) C dX5_readNumber_49 (by decide) ?_
          exact ih (i + 1) _ (b + 1) _ (by omega) (dg_lt hd) (by rw [hr, nmL, if_pos ⟨Int32.not_le.mp h24, hd⟩])
  · refine x_mem (by rw [tf_e (b2i_f h6), tf_e (b2i_f h6)]) ?_
    refine x_iconst (pc := 9) C (0) dX5_readNumber_9 (by decide) ?_
    exact x_zret (pc := 10) C hQ dX5_readNumber_10 (by decide) (is_iv (by rw [nmP_f (b2i_f h6)]; rfl) (by rw [nmP_f (b2i_f h6)])) (Nat.le_of_ble_eq_true rfl) (Nat.le_of_ble_eq_true rfl)
set_option maxRecDepth 100000 in
set_option maxHeartbeats 4000000 in
theorem c_X5_readOwnShow {l : Launch} {V : VV} {L : LL} {N : NN} {I : List Nat} (hI : PI I) {l0 : Nat} (hl0 : V 3 1 = nI l0) (hl60 : l0 ≤ 60) (a : Nat) (ha : a ≤ l0) (x k : Int32) : Runs l 4 0 0 yX5_readOwnShow (Cond.code yX5_readOwnShow cX5_readOwnShow 7 (some .boolean)) [aR 3, aR 5, aI k] (stT V a x) L N I (Is (some (aI (b2i (ownT V l0 k a x).1))) (stT (ownT V l0 k a x).2.1 (ownT V l0 k a x).2.2.1 (ownT V l0 k a x).2.2.2) (L) N I) := by
  refine run_of RX5 (by decide +kernel) rfl (Nat.le_of_ble_eq_true rfl) (fun E hE C hQ hN => ?_)
  subst hE
  refine x_aload_n (pc := 0) C dX5_readOwnShow_0 rfl ?_
  refine x_iconst (pc := 1) C (5) dX5_readOwnShow_1 (by decide) ?_
  refine x_cV1 (pc := 2) (o := 3) C v_X5_37 dX5_readOwnShow_2 (c_X5_readDigit (V := V) hI hl0 hl60 (a) (ha) (x) _) (hI 3 rfl) rfl (by decide) rfl ⟨Nat.le_refl _, Nat.le_refl _⟩ ?_
  refine x_if_ne (pc := 5) (tgt := 10) C dX5_readOwnShow_5 (by decide) (fun h5 => ?_) (fun h5 => ?_)
  · refine x_mem (by rw [if_pos (b2i_t h5), if_pos (b2i_t h5)]) ?_
    have l5 := dg_lt (b2i_t h5)
    refine x_aload_n (pc := 10) C dX5_readOwnShow_10 rfl ?_
    refine x_getI (pc := 11) (o := 3) C f_X5_41 dX5_readOwnShow_11 (hI 3 rfl) ⟨rfl, rfl, rfl⟩ ?_
    refine x_topi ((V 4 a - 48)) stT_3 ?_
    refine y_istore_n (pc := 14) C dX5_readOwnShow_14 (by decide) rfl ?_
    refine x_aload_n (pc := 15) C dX5_readOwnShow_15 rfl ?_
    refine x_bipush (pc := 16) C (46) dX5_readOwnShow_16 (by decide) ?_
    refine x_cV1 (pc := 18) (o := 3) C v_X5_23 dX5_readOwnShow_18 (c_X5_readSign (V := V) hI hl0 hl60 (a + 1) (by omega) ((V 4 a - 48)) _) (hI 3 rfl) rfl (by decide) rfl ⟨Nat.le_refl _, Nat.le_refl _⟩ ?_
    refine x_if_eq (pc := 21) (tgt := 33) C dX5_readOwnShow_21 (by decide) (fun h21 => ?_) (fun h21 => ?_)
    · refine x_mem (by rw [tf_e (b2i_f h21)]) ?_
      refine x_iconst (pc := 33) C (0) dX5_readOwnShow_33 (by decide) ?_
      exact x_zret (pc := 34) C hQ dX5_readOwnShow_34 (by decide) (is_iv (by rw [ownT, if_neg (b2i_nf h5), if_pos (b2i_f h21)]; rfl) (by rw [ownT, if_neg (b2i_nf h5), if_pos (b2i_f h21)])) (Nat.le_of_ble_eq_true rfl) (Nat.le_of_ble_eq_true rfl)
    · refine x_mem (by rw [if_pos (b2i_t h21)]) ?_
      have l21 := sg_lt (b2i_t h21)
      refine x_aload_n (pc := 24) C dX5_readOwnShow_24 rfl ?_
      refine x_bipush (pc := 25) C (6) dX5_readOwnShow_25 (by decide) ?_
      refine x_cV1 (pc := 27) (o := 3) C v_X5_37 dX5_readOwnShow_27 (c_X5_readDigit (V := V) hI hl0 hl60 (a + 2) (by omega) ((V 4 a - 48)) _) (hI 3 rfl) rfl (by decide) rfl ⟨Nat.le_refl _, Nat.le_refl _⟩ ?_
      refine x_if_ne (pc := 30) (tgt := 35) C dX5_readOwnShow_30 (by decide) (fun h30 => ?_) (fun h30 => ?_)
      · refine x_mem (by rw [if_pos (b2i_t h30), if_pos (b2i_t h30)]) ?_
        have l30 := dg_lt (b2i_t h30)
        refine x_aload_n (pc := 35) C dX5_readOwnShow_35 rfl ?_
        refine x_getI (pc := 36) (o := 3) C f_X5_41 dX5_readOwnShow_36 (hI 3 rfl) ⟨rfl, rfl, rfl⟩ ?_
        refine x_topi ((V 4 (a + 2) - 48)) stT_3 ?_
        refine y_istore (pc := 39) C dX5_readOwnShow_39 (by decide) rfl ?_
        refine x_aload_n (pc := 41) C dX5_readOwnShow_41 rfl ?_
        refine x_bipush (pc := 42) C (64) dX5_readOwnShow_42 (by decide) ?_
        refine x_cV1 (pc := 44) (o := 3) C v_X5_23 dX5_readOwnShow_44 (c_X5_readSign (V := V) hI hl0 hl60 (a + 3) (by omega) ((V 4 (a + 2) - 48)) _) (hI 3 rfl) rfl (by decide) rfl ⟨Nat.le_refl _, Nat.le_refl _⟩ ?_
        refine x_if_eq (pc := 47) (tgt := 57) C dX5_readOwnShow_47 (by decide) (fun h47 => ?_) (fun h47 => ?_)
        · refine x_mem (by rw [tf_e (b2i_f h47)]) ?_
          refine x_iconst (pc := 57) C (0) dX5_readOwnShow_57 (by decide) ?_
          exact x_zret (pc := 58) C hQ dX5_readOwnShow_58 (by decide) (is_iv (by rw [ownT, if_neg (b2i_nf h5), if_neg (b2i_nf h21), if_neg (b2i_nf h30), if_pos (b2i_f h47)]; rfl) (by rw [ownT, if_neg (b2i_nf h5), if_neg (b2i_nf h21), if_neg (b2i_nf h30), if_pos (b2i_f h47)])) (Nat.le_of_ble_eq_true rfl) (Nat.le_of_ble_eq_true rfl)
        · refine x_mem (by rw [if_pos (b2i_t h47)]) ?_
          have l47 := sg_lt (b2i_t h47)
          refine x_aload_n (pc := 50) C dX5_readOwnShow_50 rfl ?_
          refine x_cV0 (pc := 51) (o := 3) C v_X5_44 dX5_readOwnShow_51 (c_X5_readNumber (V := V) hI hl0 hl60 (a + 4) (by omega) ((V 4 (a + 2) - 48))) (hI 3 rfl) rfl (by decide) rfl ⟨Nat.le_refl _, Nat.le_refl _⟩ ?_
          refine x_if_ne (pc := 54) (tgt := 59) C dX5_readOwnShow_54 (by decide) (fun h54 => ?_) (fun h54 => ?_)
          · have l54 : (nmP V l0 (a + 4) (V 4 (a + 2) - 48)).2.1 ≤ l0 := nmP_le (by omega)
            refine x_aload_n (pc := 59) C dX5_readOwnShow_59 rfl ?_
            refine x_getI (pc := 60) (o := 3) C f_X5_41 dX5_readOwnShow_60 (hI 3 rfl) ⟨rfl, rfl, rfl⟩ ?_
            refine x_topi ((nmP V l0 (a + 4) (V 4 (a + 2) - 48)).2.2) stT_3 ?_
            refine y_istore (pc := 63) C dX5_readOwnShow_63 (by decide) rfl ?_
            refine x_aload_n (pc := 65) C dX5_readOwnShow_65 rfl ?_
            refine x_bipush (pc := 66) C (43) dX5_readOwnShow_66 (by decide) ?_
            refine x_cV1 (pc := 68) (o := 3) C v_X5_23 dX5_readOwnShow_68 (c_X5_readSign (V := V) hI hl0 hl60 ((nmP V l0 (a + 4) (V 4 (a + 2) - 48)).2.1) (l54) ((nmP V l0 (a + 4) (V 4 (a + 2) - 48)).2.2) _) (hI 3 rfl) rfl (by decide) rfl ⟨Nat.le_refl _, Nat.le_refl _⟩ ?_
            refine x_if_eq (pc := 71) (tgt := 81) C dX5_readOwnShow_71 (by decide) (fun h71 => ?_) (fun h71 => ?_)
            · refine x_mem (by rw [tf_e (b2i_f h71)]) ?_
              refine x_iconst (pc := 81) C (0) dX5_readOwnShow_81 (by decide) ?_
              exact x_zret (pc := 82) C hQ dX5_readOwnShow_82 (by decide) (is_iv (by rw [ownT, if_neg (b2i_nf h5), if_neg (b2i_nf h21), if_neg (b2i_nf h30), if_neg (b2i_nf h47), if_neg (b2i_nf h54), if_pos (b2i_f h71)]; rfl) (by rw [ownT, if_neg (b2i_nf h5), if_neg (b2i_nf h21), if_neg (b2i_nf h30), if_neg (b2i_nf h47), if_neg (b2i_nf h54), if_pos (b2i_f h71)])) (Nat.le_of_ble_eq_true rfl) (Nat.le_of_ble_eq_true rfl)
            · refine x_mem (by rw [if_pos (b2i_t h71)]) ?_
              have l71 := sg_lt (b2i_t h71)
              refine x_aload_n (pc := 74) C dX5_readOwnShow_74 rfl ?_
              refine x_cV0 (pc := 75) (o := 3) C v_X5_44 dX5_readOwnShow_75 (c_X5_readNumber (V := V) hI hl0 hl60 ((nmP V l0 (a + 4) (V 4 (a + 2) - 48)).2.1 + 1) (by omega) ((nmP V l0 (a + 4) (V 4 (a + 2) - 48)).2.2)) (hI 3 rfl) rfl (by decide) rfl ⟨Nat.le_refl _, Nat.le_refl _⟩ ?_
              refine x_if_ne (pc := 78) (tgt := 83) C dX5_readOwnShow_78 (by decide) (fun h78 => ?_) (fun h78 => ?_)
              · have l78 : (nmP V l0 ((nmP V l0 (a + 4) (V 4 (a + 2) - 48)).2.1 + 1) (nmP V l0 (a + 4) (V 4 (a + 2) - 48)).2.2).2.1 ≤ l0 := nmP_le (by omega)
                refine x_aload_n (pc := 83) C dX5_readOwnShow_83 rfl ?_
                refine x_getI (pc := 84) (o := 3) C f_X5_41 dX5_readOwnShow_84 (hI 3 rfl) ⟨rfl, rfl, rfl⟩ ?_
                refine x_topi ((nmP V l0 ((nmP V l0 (a + 4) (V 4 (a + 2) - 48)).2.1 + 1) (nmP V l0 (a + 4) (V 4 (a + 2) - 48)).2.2).2.2) stT_3 ?_
                refine y_istore (pc := 87) C dX5_readOwnShow_87 (by decide) rfl ?_
                refine x_aload_n (pc := 89) C dX5_readOwnShow_89 rfl ?_
                refine x_bipush (pc := 90) C (58) dX5_readOwnShow_90 (by decide) ?_
                refine x_cV1 (pc := 92) (o := 3) C v_X5_23 dX5_readOwnShow_92 (c_X5_readSign (V := V) hI hl0 hl60 ((nmP V l0 ((nmP V l0 (a + 4) (V 4 (a + 2) - 48)).2.1 + 1) (nmP V l0 (a + 4) (V 4 (a + 2) - 48)).2.2).2.1) (l78) ((nmP V l0 ((nmP V l0 (a + 4) (V 4 (a + 2) - 48)).2.1 + 1) (nmP V l0 (a + 4) (V 4 (a + 2) - 48)).2.2).2.2) _) (hI 3 rfl) rfl (by decide) rfl ⟨Nat.le_refl _, Nat.le_refl _⟩ ?_
                refine x_if_ne (pc := 95) (tgt := 113) C dX5_readOwnShow_95 (by decide) (fun h95 => ?_) (fun h95 => ?_)
                · refine x_mem (by rw [if_pos (b2i_t h95)]) ?_
                  have l95 := sg_lt (b2i_t h95)
                  refine x_aload_n (pc := 113) C dX5_readOwnShow_113 rfl ?_
                  refine x_cV0 (pc := 114) (o := 3) C v_X5_44 dX5_readOwnShow_114 (c_X5_readNumber (V := V) hI hl0 hl60 ((nmP V l0 ((nmP V l0 (a + 4) (V 4 (a + 2) - 48)).2.1 + 1) (nmP V l0 (a + 4) (V 4 (a + 2) - 48)).2.2).2.1 + 1) (by omega) ((nmP V l0 ((nmP V l0 (a + 4) (V 4 (a + 2) - 48)).2.1 + 1) (nmP V l0 (a + 4) (V 4 (a + 2) - 48)).2.2).2.2)) (hI 3 rfl) rfl (by decide) rfl ⟨Nat.le_refl _, Nat.le_refl _⟩ ?_
                  refine x_if_ne (pc := 117) (tgt := 122) C dX5_readOwnShow_117 (by decide) (fun h117 => ?_) (fun h117 => ?_)
                  · refine x_aload_n (pc := 122) C dX5_readOwnShow_122 rfl ?_
                    refine x_iload_n (pc := 123) C dX5_readOwnShow_123 rfl ?_
                    refine x_iload_n (pc := 124) C dX5_readOwnShow_124 rfl ?_
                    refine x_iload (pc := 125) C dX5_readOwnShow_125 rfl ?_
                    refine x_iload (pc := 127) C dX5_readOwnShow_127 rfl ?_
                    refine x_iload (pc := 129) C dX5_readOwnShow_129 rfl ?_
                    refine x_aload_n (pc := 131) C dX5_readOwnShow_131 rfl ?_
                    refine x_getI (pc := 132) (o := 3) C f_X5_41 dX5_readOwnShow_132 (hI 3 rfl) ⟨rfl, rfl, rfl⟩ ?_
                    refine x_topi ((nmP V l0 ((nmP V l0 ((nmP V l0 (a + 4) (V 4 (a + 2) - 48)).2.1 + 1) (nmP V l0 (a + 4) (V 4 (a + 2) - 48)).2.2).2.1 + 1) (nmP V l0 ((nmP V l0 (a + 4) (V 4 (a + 2) - 48)).2.1 + 1) (nmP V l0 (a + 4) (V 4 (a + 2) - 48)).2.2).2.2).2.2) stT_3 ?_
                    refine x_cV6 (pc := 135) (o := 5) C v_X5_48 dX5_readOwnShow_135 (c_X4_become hI _ _ _ _ _ _) (hI 5 rfl) rfl (by decide) rfl ⟨Nat.le_refl _, Nat.le_refl _⟩ ?_
                    refine x_mem stT_c ?_
                    refine x_iconst (pc := 138) C (1) dX5_readOwnShow_138 (by decide) ?_
                    exact x_zret (pc := 139) C hQ dX5_readOwnShow_139 (by decide) (is_iv (by rw [ownT, if_neg (b2i_nf h5), if_neg (b2i_nf h21), if_neg (b2i_nf h30), if_neg (b2i_nf h47), if_neg (b2i_nf h54), if_neg (b2i_nf h71), if_neg (b2i_nf h78), if_neg (b2i_nf h95), if_neg (b2i_nf h117)]; rfl) (by rw [ownT, if_neg (b2i_nf h5), if_neg (b2i_nf h21), if_neg (b2i_nf h30), if_neg (b2i_nf h47), if_neg (b2i_nf h54), if_neg (b2i_nf h71), if_neg (b2i_nf h78), if_neg (b2i_nf h95), if_neg (b2i_nf h117)])) (Nat.le_of_ble_eq_true rfl) (Nat.le_of_ble_eq_true rfl)
                  · refine x_iconst (pc := 120) C (0) dX5_readOwnShow_120 (by decide) ?_
                    exact x_zret (pc := 121) C hQ dX5_readOwnShow_121 (by decide) (is_iv (by rw [ownT, if_neg (b2i_nf h5), if_neg (b2i_nf h21), if_neg (b2i_nf h30), if_neg (b2i_nf h47), if_neg (b2i_nf h54), if_neg (b2i_nf h71), if_neg (b2i_nf h78), if_neg (b2i_nf h95), if_pos (b2i_f h117)]; rfl) (by rw [ownT, if_neg (b2i_nf h5), if_neg (b2i_nf h21), if_neg (b2i_nf h30), if_neg (b2i_nf h47), if_neg (b2i_nf h54), if_neg (b2i_nf h71), if_neg (b2i_nf h78), if_neg (b2i_nf h95), if_pos (b2i_f h117)])) (Nat.le_of_ble_eq_true rfl) (Nat.le_of_ble_eq_true rfl)
                · refine x_mem (by rw [tf_e (b2i_f h95)]) ?_
                  refine x_aload_n (pc := 98) C dX5_readOwnShow_98 rfl ?_
                  refine x_iload_n (pc := 99) C dX5_readOwnShow_99 rfl ?_
                  refine x_iload_n (pc := 100) C dX5_readOwnShow_100 rfl ?_
                  refine x_iload (pc := 101) C dX5_readOwnShow_101 rfl ?_
                  refine x_iload (pc := 103) C dX5_readOwnShow_103 rfl ?_
                  refine x_iload (pc := 105) C dX5_readOwnShow_105 rfl ?_
                  refine x_iconst (pc := 107) C (0) dX5_readOwnShow_107 (by decide) ?_
                  refine x_cV6 (pc := 108) (o := 5) C v_X5_48 dX5_readOwnShow_108 (c_X4_become hI _ _ _ _ _ _) (hI 5 rfl) rfl (by decide) rfl ⟨Nat.le_refl _, Nat.le_refl _⟩ ?_
                  refine x_mem stT_c ?_
                  refine x_iconst (pc := 111) C (1) dX5_readOwnShow_111 (by decide) ?_
                  exact x_zret (pc := 112) C hQ dX5_readOwnShow_112 (by decide) (is_iv (by rw [ownT, if_neg (b2i_nf h5), if_neg (b2i_nf h21), if_neg (b2i_nf h30), if_neg (b2i_nf h47), if_neg (b2i_nf h54), if_neg (b2i_nf h71), if_neg (b2i_nf h78), if_pos (b2i_f h95)]; rfl) (by rw [ownT, if_neg (b2i_nf h5), if_neg (b2i_nf h21), if_neg (b2i_nf h30), if_neg (b2i_nf h47), if_neg (b2i_nf h54), if_neg (b2i_nf h71), if_neg (b2i_nf h78), if_pos (b2i_f h95)])) (Nat.le_of_ble_eq_true rfl) (Nat.le_of_ble_eq_true rfl)
              · refine x_iconst (pc := 81) C (0) dX5_readOwnShow_81 (by decide) ?_
                exact x_zret (pc := 82) C hQ dX5_readOwnShow_82 (by decide) (is_iv (by rw [ownT, if_neg (b2i_nf h5), if_neg (b2i_nf h21), if_neg (b2i_nf h30), if_neg (b2i_nf h47), if_neg (b2i_nf h54), if_neg (b2i_nf h71), if_pos (b2i_f h78)]; rfl) (by rw [ownT, if_neg (b2i_nf h5), if_neg (b2i_nf h21), if_neg (b2i_nf h30), if_neg (b2i_nf h47), if_neg (b2i_nf h54), if_neg (b2i_nf h71), if_pos (b2i_f h78)])) (Nat.le_of_ble_eq_true rfl) (Nat.le_of_ble_eq_true rfl)
          · refine x_iconst (pc := 57) C (0) dX5_readOwnShow_57 (by decide) ?_
            exact x_zret (pc := 58) C hQ dX5_readOwnShow_58 (by decide) (is_iv (by rw [ownT, if_neg (b2i_nf h5), if_neg (b2i_nf h21), if_neg (b2i_nf h30), if_neg (b2i_nf h47), if_pos (b2i_f h54)]; rfl) (by rw [ownT, if_neg (b2i_nf h5), if_neg (b2i_nf h21), if_neg (b2i_nf h30), if_neg (b2i_nf h47), if_pos (b2i_f h54)])) (Nat.le_of_ble_eq_true rfl) (Nat.le_of_ble_eq_true rfl)
      · refine x_mem (by rw [tf_e (b2i_f h30), tf_e (b2i_f h30)]) ?_
        refine x_iconst (pc := 33) C (0) dX5_readOwnShow_33 (by decide) ?_
        exact x_zret (pc := 34) C hQ dX5_readOwnShow_34 (by decide) (is_iv (by rw [ownT, if_neg (b2i_nf h5), if_neg (b2i_nf h21), if_pos (b2i_f h30)]; rfl) (by rw [ownT, if_neg (b2i_nf h5), if_neg (b2i_nf h21), if_pos (b2i_f h30)])) (Nat.le_of_ble_eq_true rfl) (Nat.le_of_ble_eq_true rfl)
  · refine x_mem (by rw [tf_e (b2i_f h5), tf_e (b2i_f h5)]) ?_
    refine x_iconst (pc := 8) C (0) dX5_readOwnShow_8 (by decide) ?_
    exact x_zret (pc := 9) C hQ dX5_readOwnShow_9 (by decide) (is_iv (by rw [ownT, if_pos (b2i_f h5)]; rfl) (by rw [ownT, if_pos (b2i_f h5)])) (Nat.le_of_ble_eq_true rfl) (Nat.le_of_ble_eq_true rfl)
set_option maxRecDepth 100000 in
set_option maxHeartbeats 4000000 in
theorem c_X5_readRepeat {l : Launch} {V : VV} {L : LL} {N : NN} {I : List Nat} (hI : PI I) {l0 : Nat} (hl0 : V 3 1 = nI l0) (hl60 : l0 ≤ 60) (a : Nat) (ha : a ≤ l0) (x : Int32) : Runs l 4 0 0 yX5_readRepeat (Cond.code yX5_readRepeat cX5_readRepeat 4 (some .boolean)) [aR 3, aR 5] (stT V a x) L N I (Is (some (aI (b2i (repTx V l0 a x).1))) (stT (repTx V l0 a x).2.1 (repTx V l0 a x).2.2.1 (repTx V l0 a x).2.2.2) (L) N I) := by
  refine run_of RX5 (by decide +kernel) rfl (Nat.le_of_ble_eq_true rfl) (fun E hE C hQ hN => ?_)
  subst hE
  refine x_aload_n (pc := 0) C dX5_readRepeat_0 rfl ?_
  refine x_cV0 (pc := 1) (o := 3) C v_X5_44 dX5_readRepeat_1 (c_X5_readNumber (V := V) hI hl0 hl60 (a) (ha) (x)) (hI 3 rfl) rfl (by decide) rfl ⟨Nat.le_refl _, Nat.le_refl _⟩ ?_
  refine x_if_ne (pc := 4) (tgt := 9) C dX5_readRepeat_4 (by decide) (fun h4 => ?_) (fun h4 => ?_)
  · have l4 : (nmP V l0 a x).2.1 ≤ l0 := nmP_le ha
    refine x_aload_n (pc := 9) C dX5_readRepeat_9 rfl ?_
    refine x_getI (pc := 10) (o := 3) C f_X5_41 dX5_readRepeat_10 (hI 3 rfl) ⟨rfl, rfl, rfl⟩ ?_
    refine x_topi ((nmP V l0 a x).2.2) stT_3 ?_
    refine y_istore_n (pc := 13) C dX5_readRepeat_13 (by decide) rfl ?_
    refine x_aload_n (pc := 14) C dX5_readRepeat_14 rfl ?_
    refine x_bipush (pc := 15) C (46) dX5_readRepeat_15 (by decide) ?_
    refine x_cV1 (pc := 17) (o := 3) C v_X5_23 dX5_readRepeat_17 (c_X5_readSign (V := V) hI hl0 hl60 ((nmP V l0 a x).2.1) (l4) ((nmP V l0 a x).2.2) _) (hI 3 rfl) rfl (by decide) rfl ⟨Nat.le_refl _, Nat.le_refl _⟩ ?_
    refine x_if_eq (pc := 20) (tgt := 32) C dX5_readRepeat_20 (by decide) (fun h20 => ?_) (fun h20 => ?_)
    · refine x_mem (by rw [tf_e (b2i_f h20)]) ?_
      refine x_iconst (pc := 32) C (0) dX5_readRepeat_32 (by decide) ?_
      exact x_zret (pc := 33) C hQ dX5_readRepeat_33 (by decide) (is_iv (by rw [repTx, if_neg (b2i_nf h4), if_pos (b2i_f h20)]; rfl) (by rw [repTx, if_neg (b2i_nf h4), if_pos (b2i_f h20)])) (Nat.le_of_ble_eq_true rfl) (Nat.le_of_ble_eq_true rfl)
    · refine x_mem (by rw [if_pos (b2i_t h20)]) ?_
      have l20 := sg_lt (b2i_t h20)
      refine x_aload_n (pc := 23) C dX5_readRepeat_23 rfl ?_
      refine x_bipush (pc := 24) C (6) dX5_readRepeat_24 (by decide) ?_
      refine x_cV1 (pc := 26) (o := 3) C v_X5_37 dX5_readRepeat_26 (c_X5_readDigit (V := V) hI hl0 hl60 ((nmP V l0 a x).2.1 + 1) (by omega) ((nmP V l0 a x).2.2) _) (hI 3 rfl) rfl (by decide) rfl ⟨Nat.le_refl _, Nat.le_refl _⟩ ?_
      refine x_if_ne (pc := 29) (tgt := 34) C dX5_readRepeat_29 (by decide) (fun h29 => ?_) (fun h29 => ?_)
      · refine x_mem (by rw [if_pos (b2i_t h29), if_pos (b2i_t h29)]) ?_
        have l29 := dg_lt (b2i_t h29)
        refine x_aload_n (pc := 34) C dX5_readRepeat_34 rfl ?_
        refine x_getI (pc := 35) (o := 3) C f_X5_41 dX5_readRepeat_35 (hI 3 rfl) ⟨rfl, rfl, rfl⟩ ?_
        refine x_topi ((V 4 ((nmP V l0 a x).2.1 + 1) - 48)) stT_3 ?_
        refine y_istore_n (pc := 38) C dX5_readRepeat_38 (by decide) rfl ?_
        refine x_aload_n (pc := 39) C dX5_readRepeat_39 rfl ?_
        refine x_bipush (pc := 40) C (64) dX5_readRepeat_40 (by decide) ?_
        refine x_cV1 (pc := 42) (o := 3) C v_X5_23 dX5_readRepeat_42 (c_X5_readSign (V := V) hI hl0 hl60 ((nmP V l0 a x).2.1 + 2) (by omega) ((V 4 ((nmP V l0 a x).2.1 + 1) - 48)) _) (hI 3 rfl) rfl (by decide) rfl ⟨Nat.le_refl _, Nat.le_refl _⟩ ?_
        refine x_if_eq (pc := 45) (tgt := 55) C dX5_readRepeat_45 (by decide) (fun h45 => ?_) (fun h45 => ?_)
        · refine x_mem (by rw [tf_e (b2i_f h45)]) ?_
          refine x_iconst (pc := 55) C (0) dX5_readRepeat_55 (by decide) ?_
          exact x_zret (pc := 56) C hQ dX5_readRepeat_56 (by decide) (is_iv (by rw [repTx, if_neg (b2i_nf h4), if_neg (b2i_nf h20), if_neg (b2i_nf h29), if_pos (b2i_f h45)]; rfl) (by rw [repTx, if_neg (b2i_nf h4), if_neg (b2i_nf h20), if_neg (b2i_nf h29), if_pos (b2i_f h45)])) (Nat.le_of_ble_eq_true rfl) (Nat.le_of_ble_eq_true rfl)
        · refine x_mem (by rw [if_pos (b2i_t h45)]) ?_
          have l45 := sg_lt (b2i_t h45)
          refine x_aload_n (pc := 48) C dX5_readRepeat_48 rfl ?_
          refine x_cV0 (pc := 49) (o := 3) C v_X5_44 dX5_readRepeat_49 (c_X5_readNumber (V := V) hI hl0 hl60 ((nmP V l0 a x).2.1 + 3) (by omega) ((V 4 ((nmP V l0 a x).2.1 + 1) - 48))) (hI 3 rfl) rfl (by decide) rfl ⟨Nat.le_refl _, Nat.le_refl _⟩ ?_
          refine x_if_ne (pc := 52) (tgt := 57) C dX5_readRepeat_52 (by decide) (fun h52 => ?_) (fun h52 => ?_)
          · refine x_aload_n (pc := 57) C dX5_readRepeat_57 rfl ?_
            refine x_iload_n (pc := 58) C dX5_readRepeat_58 rfl ?_
            refine x_iload_n (pc := 59) C dX5_readRepeat_59 rfl ?_
            refine x_aload_n (pc := 60) C dX5_readRepeat_60 rfl ?_
            refine x_getI (pc := 61) (o := 3) C f_X5_41 dX5_readRepeat_61 (hI 3 rfl) ⟨rfl, rfl, rfl⟩ ?_
            refine x_topi ((nmP V l0 ((nmP V l0 a x).2.1 + 3) (V 4 ((nmP V l0 a x).2.1 + 1) - 48)).2.2) stT_3 ?_
            refine x_cV3 (pc := 64) (o := 5) C v_X5_54 dX5_readRepeat_64 (c_X4_becomeRepeat hI _ _ _) (hI 5 rfl) rfl (by decide) rfl ⟨Nat.le_refl _, Nat.le_refl _⟩ ?_
            refine x_mem stT_c ?_
            refine x_iconst (pc := 67) C (1) dX5_readRepeat_67 (by decide) ?_
            exact x_zret (pc := 68) C hQ dX5_readRepeat_68 (by decide) (is_iv (by rw [repTx, if_neg (b2i_nf h4), if_neg (b2i_nf h20), if_neg (b2i_nf h29), if_neg (b2i_nf h45), if_neg (b2i_nf h52)]; rfl) (by rw [repTx, if_neg (b2i_nf h4), if_neg (b2i_nf h20), if_neg (b2i_nf h29), if_neg (b2i_nf h45), if_neg (b2i_nf h52)])) (Nat.le_of_ble_eq_true rfl) (Nat.le_of_ble_eq_true rfl)
          · refine x_iconst (pc := 55) C (0) dX5_readRepeat_55 (by decide) ?_
            exact x_zret (pc := 56) C hQ dX5_readRepeat_56 (by decide) (is_iv (by rw [repTx, if_neg (b2i_nf h4), if_neg (b2i_nf h20), if_neg (b2i_nf h29), if_neg (b2i_nf h45), if_pos (b2i_f h52)]; rfl) (by rw [repTx, if_neg (b2i_nf h4), if_neg (b2i_nf h20), if_neg (b2i_nf h29), if_neg (b2i_nf h45), if_pos (b2i_f h52)])) (Nat.le_of_ble_eq_true rfl) (Nat.le_of_ble_eq_true rfl)
      · refine x_mem (by rw [tf_e (b2i_f h29), tf_e (b2i_f h29)]) ?_
        refine x_iconst (pc := 32) C (0) dX5_readRepeat_32 (by decide) ?_
        exact x_zret (pc := 33) C hQ dX5_readRepeat_33 (by decide) (is_iv (by rw [repTx, if_neg (b2i_nf h4), if_neg (b2i_nf h20), if_pos (b2i_f h29)]; rfl) (by rw [repTx, if_neg (b2i_nf h4), if_neg (b2i_nf h20), if_pos (b2i_f h29)])) (Nat.le_of_ble_eq_true rfl) (Nat.le_of_ble_eq_true rfl)
  · refine x_iconst (pc := 7) C (0) dX5_readRepeat_7 (by decide) ?_
    exact x_zret (pc := 8) C hQ dX5_readRepeat_8 (by decide) (is_iv (by rw [repTx, if_pos (b2i_f h4)]; rfl) (by rw [repTx, if_pos (b2i_f h4)])) (Nat.le_of_ble_eq_true rfl) (Nat.le_of_ble_eq_true rfl)
set_option maxRecDepth 100000 in
set_option maxHeartbeats 4000000 in
theorem c_X5_readShow {l : Launch} {V : VV} {L : LL} {N : NN} {I : List Nat} (hI : PI I) {l0 : Nat} (hl0 : V 3 1 = nI l0) (hl60 : l0 ≤ 60) (a : Nat) (ha : a ≤ l0) (x : Int32) : Runs l 5 0 0 yX5_readShow (Cond.code yX5_readShow cX5_readShow 2 (some .boolean)) [aR 3, aR 5] (stT V a x) L N I (Is (some (aI (b2i (shT V l0 a x).1))) (stT (shT V l0 a x).2.1 (shT V l0 a x).2.2.1 (shT V l0 a x).2.2.2) (L) N I) := by
  refine run_of RX5 (by decide +kernel) rfl (Nat.le_of_ble_eq_true rfl) (fun E hE C hQ hN => ?_)
  subst hE
  refine x_aload_n (pc := 0) C dX5_readShow_0 rfl ?_
  refine x_bipush (pc := 1) C (76) dX5_readShow_1 (by decide) ?_
  refine x_cV1 (pc := 3) (o := 3) C v_X5_23 dX5_readShow_3 (c_X5_readSign (V := V) hI hl0 hl60 (a) (ha) (x) _) (hI 3 rfl) rfl (by decide) rfl ⟨Nat.le_refl _, Nat.le_refl _⟩ ?_
  refine x_if_eq (pc := 6) (tgt := 16) C dX5_readShow_6 (by decide) (fun h6 => ?_) (fun h6 => ?_)
  · refine x_mem (by rw [tf_e (b2i_f h6)]) ?_
    refine x_aload_n (pc := 16) C dX5_readShow_16 rfl ?_
    refine x_bipush (pc := 17) C (84) dX5_readShow_17 (by decide) ?_
    refine x_cV1 (pc := 19) (o := 3) C v_X5_23 dX5_readShow_19 (c_X5_readSign (V := V) hI hl0 hl60 (a) (ha) (x) _) (hI 3 rfl) rfl (by decide) rfl ⟨Nat.le_refl _, Nat.le_refl _⟩ ?_
    refine x_if_eq (pc := 22) (tgt := 32) C dX5_readShow_22 (by decide) (fun h22 => ?_) (fun h22 => ?_)
    · refine x_mem (by rw [tf_e (b2i_f h22)]) ?_
      refine x_aload_n (pc := 32) C dX5_readShow_32 rfl ?_
      refine x_bipush (pc := 33) C (82) dX5_readShow_33 (by decide) ?_
      refine x_cV1 (pc := 35) (o := 3) C v_X5_23 dX5_readShow_35 (c_X5_readSign (V := V) hI hl0 hl60 (a) (ha) (x) _) (hI 3 rfl) rfl (by decide) rfl ⟨Nat.le_refl _, Nat.le_refl _⟩ ?_
      refine x_if_eq (pc := 38) (tgt := 53) C dX5_readShow_38 (by decide) (fun h38 => ?_) (fun h38 => ?_)
      · refine x_mem (by rw [tf_e (b2i_f h38)]) ?_
        refine x_iconst (pc := 53) C (0) dX5_readShow_53 (by decide) ?_
        exact x_zret (pc := 54) C hQ dX5_readShow_54 (by decide) (is_iv (by rw [shT, tf_e (b2i_f h6), tf_e (b2i_f h22), tf_e (b2i_f h38)]; rfl) (by rw [shT, tf_e (b2i_f h6), tf_e (b2i_f h22), tf_e (b2i_f h38)])) (Nat.le_of_ble_eq_true rfl) (Nat.le_of_ble_eq_true rfl)
      · refine x_mem (by rw [if_pos (b2i_t h38)]) ?_
        have l38 := sg_lt (b2i_t h38)
        refine x_aload_n (pc := 41) C dX5_readShow_41 rfl ?_
        refine x_aload_n (pc := 42) C dX5_readShow_42 rfl ?_
        refine x_cV1 (pc := 43) (o := 3) C v_X5_34 dX5_readShow_43 (c_X5_readRepeat (V := V) hI hl0 hl60 (a + 1) (by omega) x) (hI 3 rfl) rfl (by decide) rfl ⟨Nat.le_refl _, Nat.le_refl _⟩ ?_
        refine x_if_eq (pc := 46) (tgt := 53) C dX5_readShow_46 (by decide) (fun h46 => ?_) (fun h46 => ?_)
        · refine x_iconst (pc := 53) C (0) dX5_readShow_53 (by decide) ?_
          exact x_zret (pc := 54) C hQ dX5_readShow_54 (by decide) (is_iv (by rw [shT, tf_e (b2i_f h6), tf_e (b2i_f h22), if_pos (b2i_t h38), b2i_f h46]; rfl) (by rw [shT, tf_e (b2i_f h6), tf_e (b2i_f h22), if_pos (b2i_t h38)])) (Nat.le_of_ble_eq_true rfl) (Nat.le_of_ble_eq_true rfl)
        · refine x_iconst (pc := 49) C (1) dX5_readShow_49 (by decide) ?_
          refine x_goto (pc := 50) (tgt := 54) C dX5_readShow_50 (by decide) ?_
          exact x_zret (pc := 54) C hQ dX5_readShow_54 (by decide) (is_iv (by rw [shT, tf_e (b2i_f h6), tf_e (b2i_f h22), if_pos (b2i_t h38), b2i_t h46]; rfl) (by rw [shT, tf_e (b2i_f h6), tf_e (b2i_f h22), if_pos (b2i_t h38)])) (Nat.le_of_ble_eq_true rfl) (Nat.le_of_ble_eq_true rfl)
    · refine x_mem (by rw [if_pos (b2i_t h22)]) ?_
      have l22 := sg_lt (b2i_t h22)
      refine x_aload_n (pc := 25) C dX5_readShow_25 rfl ?_
      refine x_aload_n (pc := 26) C dX5_readShow_26 rfl ?_
      refine x_iconst (pc := 27) C (1) dX5_readShow_27 (by decide) ?_
      refine x_cV2 (pc := 28) (o := 3) C v_X5_30 dX5_readShow_28 (c_X5_readOwnShow (V := V) hI hl0 hl60 (a + 1) (by omega) x 1) (hI 3 rfl) rfl (by decide) rfl ⟨Nat.le_refl _, Nat.le_refl _⟩ ?_
      exact x_zret (pc := 31) C hQ dX5_readShow_31 (b2i_01 _) (is_iv (by rw [shT, tf_e (b2i_f h6), if_pos (b2i_t h22)]) (by rw [shT, tf_e (b2i_f h6), if_pos (b2i_t h22)])) (Nat.le_of_ble_eq_true rfl) (Nat.le_of_ble_eq_true rfl)
  · refine x_mem (by rw [if_pos (b2i_t h6)]) ?_
    have l6 := sg_lt (b2i_t h6)
    refine x_aload_n (pc := 9) C dX5_readShow_9 rfl ?_
    refine x_aload_n (pc := 10) C dX5_readShow_10 rfl ?_
    refine x_iconst (pc := 11) C (0) dX5_readShow_11 (by decide) ?_
    refine x_cV2 (pc := 12) (o := 3) C v_X5_30 dX5_readShow_12 (c_X5_readOwnShow (V := V) hI hl0 hl60 (a + 1) (by omega) x 0) (hI 3 rfl) rfl (by decide) rfl ⟨Nat.le_refl _, Nat.le_refl _⟩ ?_
    exact x_zret (pc := 15) C hQ dX5_readShow_15 (b2i_01 _) (is_iv (by rw [shT, if_pos (b2i_t h6)]) (by rw [shT, if_pos (b2i_t h6)])) (Nat.le_of_ble_eq_true rfl) (Nat.le_of_ble_eq_true rfl)
set_option maxRecDepth 100000 in
set_option maxHeartbeats 4000000 in
theorem c_X5_readAll {l : Launch} {V : VV} {L : LL} {N : NN} {I : List Nat} (hI : PI I) {l0 : Nat} (hl0 : V 3 1 = nI l0) (hl60 : l0 ≤ 60) (a : Nat) (x : Int32) : Runs l 6 0 0 yX5_readAll (Cond.code yX5_readAll cX5_readAll 3 (some .boolean)) [aR 3, aR 5] (stT V a x) L N I (Is (some (aI (b2i (allT l0 60 V 0 x).1))) (stT (allT l0 60 V 0 x).2.1 (allT l0 60 V 0 x).2.2.1 (allT l0 60 V 0 x).2.2.2) (L) N I) := by
  refine run_of RX5 (by decide +kernel) rfl (Nat.le_of_ble_eq_true rfl) (fun E hE C hQ hN => ?_)
  subst hE
  refine x_aload_n (pc := 0) C dX5_readAll_0 rfl ?_
  refine x_iconst (pc := 1) C (0) dX5_readAll_1 (by decide) ?_
  refine x_putI (pc := 2) (o := 3) C p_X5_15 dX5_readAll_2 (hI 3 rfl) ⟨rfl, rfl, rfl⟩ ?_
  refine x_mem stT_p0 ?_
  refine x_iconst (pc := 5) C (0) dX5_readAll_5 (by decide) ?_
  refine y_istore_n (pc := 6) C dX5_readAll_6 (by decide) rfl ?_
  suffices key : ∀ (k i : Nat) (V1 : VV) (b : Nat) (y : Int32), k + i = 60 → b ≤ l0 → V1 3 1 = nI l0 → allT l0 60 V 0 x = allT l0 k V1 b y → Wx E 7 [some (aR 3), some (aR 5), some (aI (nI i))] [] (stT V1 b y) L N I 0 0 by
    exact key 60 0 V 0 x (by decide) (Nat.zero_le _) hl0 rfl
  intro k
  induction k with
  | zero =>
    intro i V1 b y hk hb hl1 hr
    refine x_iload_n (pc := 7) C dX5_readAll_7 rfl ?_
    refine x_bipush (pc := 8) C (60) dX5_readAll_8 (by decide) ?_
    refine x_icmp_ge (pc := 10) (tgt := 55) C dX5_readAll_10 (by decide) (fun h10 => ?_) (fun h10 => absurd (by exact nI_le (a := 60) (b := i) (by omega) (by omega)) h10)
    refine x_iconst (pc := 55) C (0) dX5_readAll_55 (by decide) ?_
    exact x_zret (pc := 56) C hQ dX5_readAll_56 (by decide) (is_iv (by rw [hr]; rfl) (by rw [hr]; rfl)) (Nat.le_of_ble_eq_true rfl) (Nat.le_of_ble_eq_true rfl)
  | succ k ih =>
    intro i V1 b y hk hb hl1 hr
    refine x_iload_n (pc := 7) C dX5_readAll_7 rfl ?_
    refine x_bipush (pc := 8) C (60) dX5_readAll_8 (by decide) ?_
    refine x_icmp_ge (pc := 10) (tgt := 55) C dX5_readAll_10 (by decide) (fun h10 => absurd h10 (by exact nI_ge (a := i) (b := 60) (by omega) (by omega))) (fun h10 => ?_)
    refine x_aload_n (pc := 13) C dX5_readAll_13 rfl ?_
    refine x_aload_n (pc := 14) C dX5_readAll_14 rfl ?_
    refine x_cV1 (pc := 15) (o := 3) C v_X5_19 dX5_readAll_15 (c_X5_readShow (V := V1) hI hl1 hl60 b hb y) (hI 3 rfl) rfl (by decide) rfl ⟨Nat.le_refl _, Nat.le_refl _⟩ ?_
    refine x_if_ne (pc := 18) (tgt := 23) C dX5_readAll_18 (by decide) (fun h18 => ?_) (fun h18 => ?_)
    · have hsh := sh_le (V := V1) (x := y) hb
      have hl2 : (shT V1 l0 b y).2.1 3 1 = nI l0 := by rw [hsh.2 3 1 (by decide)]; exact hl1
      refine x_aload_n (pc := 23) C dX5_readAll_23 rfl ?_
      refine x_bipush (pc := 24) C (59) dX5_readAll_24 (by decide) ?_
      refine x_cV1 (pc := 26) (o := 3) C v_X5_23 dX5_readAll_26 (c_X5_readSign (V := (shT V1 l0 b y).2.1) hI hl2 hl60 (shT V1 l0 b y).2.2.1 hsh.1 (shT V1 l0 b y).2.2.2 _) (hI 3 rfl) rfl (by decide) rfl ⟨Nat.le_refl _, Nat.le_refl _⟩ ?_
      refine x_if_ne (pc := 29) (tgt := 49) C dX5_readAll_29 (by decide) (fun h29 => ?_) (fun h29 => ?_)
      · have hlt := sg_lt (b2i_t h29)
        refine x_mem (by rw [if_pos (b2i_t h29)]) ?_
        refine y_iinc (pc := 49) C (nI (i + 1)) dX5_readAll_49 rfl (by exact nI_1 i) (by decide) rfl ?_
        refine x_goto (pc := 52) (tgt := 7) C dX5_readAll_52 (by decide) ?_
        exact ih (i + 1) _ _ _ (by omega) hlt hl2 (by rw [hr, allT, if_neg (b2i_nf h18), if_pos (b2i_t h29)])
      · refine x_mem (by rw [tf_e (b2i_f h29)]) ?_
        refine x_aload_n (pc := 32) C dX5_readAll_32 rfl ?_
        refine x_getI (pc := 33) (o := 3) C f_X5_15 dX5_readAll_33 (hI 3 rfl) ⟨rfl, rfl, rfl⟩ ?_
        refine x_topi (nI (shT V1 l0 b y).2.2.1) stT_2 ?_
        refine x_aload_n (pc := 36) C dX5_readAll_36 rfl ?_
        refine x_getI (pc := 37) (o := 3) C f_X5_27 dX5_readAll_37 (hI 3 rfl) ⟨rfl, rfl, rfl⟩ ?_
        refine x_topi (nI l0) (by rw [stT_1]; exact hl2) ?_
        refine x_icmp_ne (pc := 40) (tgt := 47) C dX5_readAll_40 (by decide) (fun h40 => ?_) (fun h40 => ?_)
        · refine x_iconst (pc := 47) C (0) dX5_readAll_47 (by decide) ?_
          exact x_zret (pc := 48) C hQ dX5_readAll_48 (by decide) (is_iv (by rw [hr, allT, if_neg (b2i_nf h18), tf_e (b2i_f h29)]; exact (b2i_cn (fun q => h40 (congrArg nI q))).symm) (by rw [hr, allT, if_neg (b2i_nf h18), tf_e (b2i_f h29)])) (Nat.le_of_ble_eq_true rfl) (Nat.le_of_ble_eq_true rfl)
        · refine x_iconst (pc := 43) C (1) dX5_readAll_43 (by decide) ?_
          refine x_goto (pc := 44) (tgt := 48) C dX5_readAll_44 (by decide) ?_
          exact x_zret (pc := 48) C hQ dX5_readAll_48 (by decide) (is_iv (by rw [hr, allT, if_neg (b2i_nf h18), tf_e (b2i_f h29)]; exact (b2i_c ((nI_eq (by omega) (by omega)).mp h40)).symm) (by rw [hr, allT, if_neg (b2i_nf h18), tf_e (b2i_f h29)])) (Nat.le_of_ble_eq_true rfl) (Nat.le_of_ble_eq_true rfl)
    · refine x_iconst (pc := 21) C (0) dX5_readAll_21 (by decide) ?_
      exact x_zret (pc := 22) C hQ dX5_readAll_22 (by decide) (is_iv (by rw [hr, allT, if_pos (b2i_f h18)]; rfl) (by rw [hr, allT, if_pos (b2i_f h18)])) (Nat.le_of_ble_eq_true rfl) (Nat.le_of_ble_eq_true rfl)
