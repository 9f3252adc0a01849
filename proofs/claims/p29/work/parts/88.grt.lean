def rpT (V : VV) (n s : Nat) : Int32 := repT (CF V) (V 21) (V 22 (V 30 s).toNatClampNeg + V 23 (V 30 s).toNatClampNeg) n s
set_option maxRecDepth 100000 in
set_option maxHeartbeats 4000000 in
theorem c_X6_greatestHarmlessOverrun {l : Launch} {V : VV} {L : LL} {N : NN} {I : List Nat} (hI : PI I) {n : Nat} (hn : V 20 7 = nI n) (hn24 : n ≤ 24) (hdy : ∀ s, s < n → ∃ d, d < 7 ∧ V 31 s = nI d) (s : Nat) (hs : s < n) : Runs l 5 0 0 yX6_greatestHarmlessOverrun (Cond.code yX6_greatestHarmlessOverrun cX6_greatestHarmlessOverrun 6 (some .int)) [aR 0, aI (nI s)] V L N I (Pm (some (aI (grtS V n s))) (fun V1 => SmA 12 V V1) L N I) := by
  refine run_of RX6 (by decide +kernel) rfl (Nat.le_of_ble_eq_true rfl) (fun E hE C hQ hN => ?_)
  subst hE
  refine x_aload_n (pc := 0) C dX6_greatestHarmlessOverrun_0 rfl ?_
  refine x_iload_n (pc := 1) C dX6_greatestHarmlessOverrun_1 rfl ?_
  refine x_bipush (pc := 2) C (-60) dX6_greatestHarmlessOverrun_2 (by decide) ?_
  refine x_pV2 (pc := 4) (o := 0) C v_X6_345 dX6_greatestHarmlessOverrun_4 (c_X6_isHarmless hI hn hn24 hdy s hs (-60)) (hI 0 rfl) rfl (by decide) rfl ⟨Nat.le_refl _, Nat.le_refl _⟩ (fun V1 hV1 => ?_)
  refine x_if_ne (pc := 7) (tgt := 13) C dX6_greatestHarmlessOverrun_7 (by decide) (fun h7 => ?_) (fun h7 => ?_)
  · have hm := b2i_t h7
    refine x_bipush (pc := 13) C (-60) dX6_greatestHarmlessOverrun_13 (by decide) ?_
    refine y_istore_n (pc := 15) C dX6_greatestHarmlessOverrun_15 (by decide) rfl ?_
    refine x_bipush (pc := 16) C (121) dX6_greatestHarmlessOverrun_16 (by decide) ?_
    refine y_istore_n (pc := 18) C dX6_greatestHarmlessOverrun_18 (by decide) rfl ?_
    refine x_iconst (pc := 19) C (0) dX6_greatestHarmlessOverrun_19 (by decide) ?_
    refine y_istore (pc := 20) C dX6_greatestHarmlessOverrun_20 (by decide) rfl ?_
    suffices key : ∀ (k i : Nat) (V1 : VV) (lo hi : Int32) (x : Option AV), k + i = 8 → (SmA 12 V V1 ∧ grtS V n s = bsS (hrmB V n s) k lo hi) → Wx E 22 [some (aR 0), some (aI (nI s)), some (aI lo), some (aI hi), some (aI (nI i)), x] [] V1 L N I 0 0 by
      exact key (8) 0 V1 _ _ none (by omega) (⟨hV1, by unfold grtS; rw [if_pos hm]⟩)
    intro k
    induction k with
    | zero =>
      intro i V1 lo hi x hk hinv
      refine x_iload (pc := 22) C dX6_greatestHarmlessOverrun_22 rfl ?_
      refine x_bipush (pc := 24) C (8) dX6_greatestHarmlessOverrun_24 (by decide) ?_
      refine x_icmp_ge (pc := 26) (tgt := 70) C dX6_greatestHarmlessOverrun_26 (by decide) (fun h26 => ?_) (fun h26 => absurd (by exact nI_le (a := 8) (b := i) (by omega) (by omega)) h26)
      refine x_iload_n (pc := 70) C dX6_greatestHarmlessOverrun_70 rfl ?_
      exact x_iret (pc := 71) C hQ dX6_greatestHarmlessOverrun_71 (pm_i (by rw [hinv.2]; rfl) hinv.1) (Nat.le_of_ble_eq_true rfl) (Nat.le_of_ble_eq_true rfl)
    | succ k ih =>
      intro i V1 lo hi x hk hinv
      refine x_iload (pc := 22) C dX6_greatestHarmlessOverrun_22 rfl ?_
      refine x_bipush (pc := 24) C (8) dX6_greatestHarmlessOverrun_24 (by decide) ?_
      refine x_icmp_ge (pc := 26) (tgt := 70) C dX6_greatestHarmlessOverrun_26 (by decide) (fun h26 => absurd h26 (by exact nI_ge (a := i) (b := 8) (by omega) (by omega))) (fun h26 => ?_)
      refine x_iload_n (pc := 29) C dX6_greatestHarmlessOverrun_29 rfl ?_
      refine x_iload_n (pc := 30) C dX6_greatestHarmlessOverrun_30 rfl ?_
      refine x_isub (pc := 31) C dX6_greatestHarmlessOverrun_31 ?_
      refine x_iconst (pc := 32) C (1) dX6_greatestHarmlessOverrun_32 (by decide) ?_
      refine x_icmp_le (pc := 33) (tgt := 70) C dX6_greatestHarmlessOverrun_33 (by decide) (fun h33 => ?_) (fun h33 => ?_)
      · refine x_iload_n (pc := 70) C dX6_greatestHarmlessOverrun_70 rfl ?_
        exact x_iret (pc := 71) C hQ dX6_greatestHarmlessOverrun_71 (pm_i (by rw [hinv.2, bs_1 h33]) hinv.1) (Nat.le_of_ble_eq_true rfl) (Nat.le_of_ble_eq_true rfl)
      · refine x_iload_n (pc := 36) C dX6_greatestHarmlessOverrun_36 rfl ?_
        refine x_iload_n (pc := 37) C dX6_greatestHarmlessOverrun_37 rfl ?_
        refine x_iload_n (pc := 38) C dX6_greatestHarmlessOverrun_38 rfl ?_
        refine x_isub (pc := 39) C dX6_greatestHarmlessOverrun_39 ?_
        refine x_iconst (pc := 40) C (2) dX6_greatestHarmlessOverrun_40 (by decide) ?_
        refine x_idiv (pc := 41) C dX6_greatestHarmlessOverrun_41 (by decide) ?_
        refine x_iadd (pc := 42) C dX6_greatestHarmlessOverrun_42 ?_
        refine y_istore (pc := 43) C dX6_greatestHarmlessOverrun_43 (by decide) rfl ?_
        refine x_aload_n (pc := 45) C dX6_greatestHarmlessOverrun_45 rfl ?_
        refine x_iload_n (pc := 46) C dX6_greatestHarmlessOverrun_46 rfl ?_
        refine x_iload (pc := 47) C dX6_greatestHarmlessOverrun_47 rfl ?_
        refine x_pV2 (pc := 49) (o := 0) C v_X6_345 dX6_greatestHarmlessOverrun_49 (c_X6_isHarmless (V := V1) hI (by rw [hinv.1 20 (by decide)]; exact hn) hn24 (by rw [hinv.1 31 (by decide)]; exact hdy) s hs _) (hI 0 rfl) rfl (by decide) rfl ⟨Nat.le_refl _, Nat.le_refl _⟩ (fun V2 hV2 => ?_)
        refine x_if_eq (pc := 52) (tgt := 61) C dX6_greatestHarmlessOverrun_52 (by decide) (fun h52 => ?_) (fun h52 => ?_)
        · refine x_iload (pc := 61) C dX6_greatestHarmlessOverrun_61 rfl ?_
          refine y_istore_n (pc := 63) C dX6_greatestHarmlessOverrun_63 (by decide) rfl ?_
          refine y_iinc (pc := 64) C (nI (i + 1)) dX6_greatestHarmlessOverrun_64 rfl (by exact nI_1 i) (by decide) rfl ?_
          refine x_goto (pc := 67) (tgt := 22) C dX6_greatestHarmlessOverrun_67 (by decide) ?_
          exact ih (i + 1) _ _ _ _ (by omega) (⟨sma_t hinv.1 hV2, by rw [hinv.2, bs_3 h33 (by rw [← hrm_sm hinv.1]; exact b2i_f h52)]⟩)
        · refine x_iload (pc := 55) C dX6_greatestHarmlessOverrun_55 rfl ?_
          refine y_istore_n (pc := 57) C dX6_greatestHarmlessOverrun_57 (by decide) rfl ?_
          refine x_goto (pc := 58) (tgt := 64) C dX6_greatestHarmlessOverrun_58 (by decide) ?_
          refine y_iinc (pc := 64) C (nI (i + 1)) dX6_greatestHarmlessOverrun_64 rfl (by exact nI_1 i) (by decide) rfl ?_
          refine x_goto (pc := 67) (tgt := 22) C dX6_greatestHarmlessOverrun_67 (by decide) ?_
          exact ih (i + 1) _ _ _ _ (by omega) (⟨sma_t hinv.1 hV2, by rw [hinv.2, bs_2 h33 (by rw [← hrm_sm hinv.1]; exact b2i_t h52)]⟩)
  · refine x_bipush (pc := 10) C (-101) dX6_greatestHarmlessOverrun_10 (by decide) ?_
    exact x_iret (pc := 12) C hQ dX6_greatestHarmlessOverrun_12 (pm_i (by unfold grtS; rw [if_neg (b2i_n h7)]) hV1) (Nat.le_of_ble_eq_true rfl) (Nat.le_of_ble_eq_true rfl)
set_option maxRecDepth 100000 in
set_option maxHeartbeats 4000000 in
theorem c_X6_greatestOverrun {l : Launch} {V : VV} {L : LL} {N : NN} {I : List Nat} (hI : PI I) {n : Nat} (hn : V 20 7 = nI n) (hn24 : n ≤ 24) (hdy : ∀ s, s < n → ∃ d, d < 7 ∧ V 31 s = nI d) (x : Int32) : Runs l 6 1 6 yX6_greatestOverrun (Cond.code yX6_greatestOverrun cX6_greatestOverrun 2 (some .int)) [aR 0, aI x] V L N I (Ei (decide (¬ x < 0 ∧ x < nI n)) "java/lang/IndexOutOfBoundsException" (Ei (decide (V 29 x.toNatClampNeg = 0)) "java/lang/IllegalStateException" (Pm (some (aI (grtS V n x.toNatClampNeg))) (fun V1 => SmA 12 V V1) L N I) V L N I) V L N I) := by
  refine run_of RX6 (by decide +kernel) rfl (Nat.le_of_ble_eq_true rfl) (fun E hE C hQ hN => ?_)
  subst hE
  refine x_aload_n (pc := 0) C dX6_greatestOverrun_0 rfl ?_
  refine x_getR (pc := 1) (o := 0) (j := 20) C f_X6_10 dX6_greatestOverrun_1 (hI 0 rfl) ⟨rfl, rfl⟩ ?_
  refine x_iload_n (pc := 4) C dX6_greatestOverrun_4 rfl ?_
  refine x_cV1 (pc := 5) (o := 20) C v_X6_114 dX6_greatestOverrun_5 (c_X3_hasShow hI hn hn24 _) (hI 20 rfl) rfl (by decide) rfl ⟨by decide, by decide⟩ ?_
  refine x_if_ne (pc := 8) (tgt := 21) C dX6_greatestOverrun_8 (by decide) (fun h8 => ?_) (fun h8 => ?_)
  · have hw := b2i_t h8
    have hd := of_decide_eq_true hw
    obtain ⟨s, hs, hsl⟩ := nI_in_of hd.1 hd.2 hn24
    subst hs
    have hcl : (nI s).toNatClampNeg = s := nI_clamp (by omega)
    refine x_aload_n (pc := 21) C dX6_greatestOverrun_21 rfl ?_
    refine x_getR (pc := 22) (o := 0) (j := 20) C f_X6_10 dX6_greatestOverrun_22 (hI 0 rfl) ⟨rfl, rfl⟩ ?_
    refine x_getR (pc := 25) (o := 20) (j := 29) C f_X6_124 dX6_greatestOverrun_25 (hI 20 rfl) ⟨rfl, rfl⟩ ?_
    refine x_iload_n (pc := 28) C dX6_greatestOverrun_28 rfl ?_
    refine x_iald (pc := 29) (o := 29) C dX6_greatestOverrun_29 (hI 29 rfl) ⟨rfl, rfl⟩ (show _ < 24 by omega) (by decide) ?_
    refine x_if_eq (pc := 30) (tgt := 43) C dX6_greatestOverrun_30 (by decide) (fun h30 => ?_) (fun h30 => ?_)
    · have hw3 : decide (V 29 (nI s).toNatClampNeg = 0) = true := decide_eq_true (by rw [hcl]; exact h30)
      refine x_aload_n (pc := 43) C dX6_greatestOverrun_43 rfl ?_
      refine x_iload_n (pc := 44) C dX6_greatestOverrun_44 rfl ?_
      refine x_pV1 (pc := 45) (o := 0) C v_X6_243 dX6_greatestOverrun_45 (c_X6_greatestHarmlessOverrun hI hn hn24 hdy s hsl) (hI 0 rfl) rfl (by decide) rfl ⟨by decide, by decide⟩ (fun V1 hV1 => ?_)
      exact x_iret (pc := 48) C hQ dX6_greatestOverrun_48 (ei_t hw (ei_t hw3 (pm_i (by rw [hcl]) hV1))) (Nat.le_of_ble_eq_true rfl) (Nat.le_of_ble_eq_true rfl)
    · exact x_throw (pc := 33) C hQ hN t_X6_127_129_131 dX6_greatestOverrun_33 dX6_greatestOverrun_36 dX6_greatestOverrun_37 dX6_greatestOverrun_39 dX6_greatestOverrun_42 (by decide) rfl ⟨by decide, by decide, by decide, by decide⟩ (ei_t hw (ei_f (decide_eq_false (by rw [hcl]; exact h30))))
  · exact x_throw (pc := 11) C hQ hN t_X6_55_110_59 dX6_greatestOverrun_11 dX6_greatestOverrun_14 dX6_greatestOverrun_15 dX6_greatestOverrun_17 dX6_greatestOverrun_20 (by decide) rfl ⟨by decide, by decide, by decide, by decide⟩ (ei_f (b2i_f h8))
