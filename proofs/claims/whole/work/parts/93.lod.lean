set_option maxRecDepth 100000 in
set_option maxHeartbeats 4000000 in
theorem c_X6_load {l : Launch} {V : VV} {L : LL} {N : NN} {I : List Nat} {o m : Nat} (hH : HH V N I o m) {n : Nat} (hn : V 20 7 = nI n) (hn24 : n ≤ 24) (hsg : ∀ s, s < n → ∃ g, g < 6 ∧ V 30 s = nI g) {l0 : Nat} (hl0 : V 3 1 = nI l0) (hl60 : l0 ≤ 60) {a : Nat} (ha : V 3 2 = nI a) : Runs l 7 15 246 yX6_load (Cond.code yX6_load cX6_load 3 (some .int)) [aR 0] V L N I (Ei (allT l0 60 V 0 (V 3 3)).1 "java/lang/IllegalArgumentException" (fun r1 V2 L2 N2 I2 => ∃ V1, SavP (alM V l0) N o m V1 N2 ∧ V2 = up (lcM l0 60 (up (up V1 0 6 0) 3 2 0) n 0 0).1 3 1 0 ∧ r1 = .inl (some (aI (nI (lcM l0 60 (up (up V1 0 6 0) 3 2 0) n 0 0).2))) ∧ L2 = L ∧ IN N2 I2) (alM V l0) L N I) := by
  refine run_of RX6 (by decide +kernel) rfl (Nat.le_of_ble_eq_true rfl) (fun E hE C hQ hN => ?_)
  subst hE
  have hI := hH.1.1
  refine x_aload_n (pc := 0) C dX6_load_0 rfl ?_
  refine x_getR (pc := 1) (o := 0) (j := 3) C f_X6_26 dX6_load_1 (hI 0 rfl) ⟨rfl, rfl⟩ ?_
  refine x_aload_n (pc := 4) C dX6_load_4 rfl ?_
  refine x_getR (pc := 5) (o := 0) (j := 5) C f_X6_33 dX6_load_5 (hI 0 rfl) ⟨rfl, rfl⟩ ?_
  refine x_mem (stT_id ha) ?_
  refine x_cV1 (pc := 8) (o := 3) C v_X6_164 dX6_load_8 (c_X5_readAll (V := V) hI hl0 hl60 a (V 3 3)) (hI 3 rfl) rfl (by decide) rfl ⟨by decide, by decide⟩ ?_
  refine x_if_ne (pc := 11) (tgt := 24) C dX6_load_11 (by decide) (fun h11 => ?_) (fun h11 => ?_)
  · have hw := b2i_t h11
    have hH : HH (alM V l0) N I o m := ⟨hH.1, by rw [alM_nf (by decide) (by decide)]; exact hH.2.1, hH.2.2.1, by rw [alM_nf (by decide) (by decide)]; exact hH.2.2.2.1, hH.2.2.2.2⟩
    refine x_mem (V2 := alM V l0) rfl ?_
    refine x_aload_n (pc := 24) C dX6_load_24 rfl ?_
    refine x_getR (pc := 25) (o := 0) (j := 1) C f_X6_19 dX6_load_25 (hI 0 rfl) ⟨rfl, rfl⟩ ?_
    refine x_aload_n (pc := 28) C dX6_load_28 rfl ?_
    refine x_getR (pc := 29) (o := 0) (j := 20) C f_X6_10 dX6_load_29 (hI 0 rfl) ⟨rfl, rfl⟩ ?_
    refine x_save (pc := 32) C dX6_load_32 v_X6_74 hH (by decide) rfl ⟨by decide, by decide⟩ (fun V1 N1 I1 hs hIN1 => ?_)
    have hI := hIN1.1
    have h1i : ∀ i, i ≠ 3 → i ≠ 5 → i < 40 → i ≠ 1 → V1 i = V i := fun i q1 q2 q3 q4 => by rw [hs.no (Or.inl q3) q4, alM_nf q1 q2]
    have h31 : V1 3 1 = nI l0 := by rw [hs.no (Or.inl (by decide)) (by decide), alM_31]; exact hl0
    have hLo : LoI (up (up V1 0 6 0) 3 2 0) l0 n 0 := ⟨by rw [up_no (by decide), up_no (by decide), h1i 20 (by decide) (by decide) (by decide) (by decide)]; exact hn, hn24, by rw [up_nk (by decide), up_no (by decide)]; exact h31, up_ss, Nat.zero_le _, by rw [up_nf (by decide), up_nf (by decide), h1i 30 (by decide) (by decide) (by decide) (by decide)]; exact hsg⟩
    refine x_iconst (pc := 35) C (0) dX6_load_35 (by decide) ?_
    refine x_topi (nI 0) rfl ?_
    refine y_istore_n (pc := 36) C dX6_load_36 (by decide) rfl ?_
    refine x_aload_n (pc := 37) C dX6_load_37 rfl ?_
    refine x_iconst (pc := 38) C (0) dX6_load_38 (by decide) ?_
    refine x_putI (pc := 39) (o := 0) C p_X6_47 dX6_load_39 (hI 0 rfl) ⟨rfl, rfl, rfl⟩ ?_
    refine x_aload_n (pc := 42) C dX6_load_42 rfl ?_
    refine x_getR (pc := 43) (o := 0) (j := 3) C f_X6_26 dX6_load_43 (hI 0 rfl) ⟨rfl, rfl⟩ ?_
    refine x_iconst (pc := 46) C (0) dX6_load_46 (by decide) ?_
    refine x_putI (pc := 47) (o := 3) C p_X6_167 dX6_load_47 (hI 3 rfl) ⟨rfl, rfl, rfl⟩ ?_
    refine x_iconst (pc := 50) C (0) dX6_load_50 (by decide) ?_
    refine y_istore_n (pc := 51) C dX6_load_51 (by decide) rfl ?_
    suffices key : ∀ (k i : Nat) (M : VV) (n2 a2 c : Nat), k + i = 60 → (LoI M l0 n2 a2 ∧ (lcM l0 60 (up (up V1 0 6 0) 3 2 0) n 0 0) = lcM l0 k M n2 a2 c) → Wx E 52 [some (aR 0), some (aI (nI c)), some (aI (nI i))] [] M L N1 I1 15 246 by
      exact key (60) 0 _ n 0 0 (by omega) (⟨hLo, rfl⟩)
    intro k
    induction k with
    | zero =>
      intro i M n2 a2 c hk hinv
      refine x_iload_n (pc := 52) C dX6_load_52 rfl ?_
      refine x_bipush (pc := 53) C (60) dX6_load_53 (by decide) ?_
      refine x_icmp_ge (pc := 55) (tgt := 140) C dX6_load_55 (by decide) (fun h55 => ?_) (fun h55 => absurd (by exact nI_le (a := 60) (b := i) (by omega) (by omega)) h55)
      refine x_aload_n (pc := 140) C dX6_load_140 rfl ?_
      refine x_getR (pc := 141) (o := 0) (j := 3) C f_X6_26 dX6_load_141 (hI 0 rfl) ⟨rfl, rfl⟩ ?_
      refine x_iconst (pc := 144) C (0) dX6_load_144 (by decide) ?_
      refine x_putI (pc := 145) (o := 3) C p_X6_156 dX6_load_145 (hI 3 rfl) ⟨rfl, rfl, rfl⟩ ?_
      refine x_iload_n (pc := 148) C dX6_load_148 rfl ?_
      exact x_iret (pc := 149) C hQ dX6_load_149 (ei_t hw ⟨V1, hs, by rw [hinv.2]; rfl, by rw [hinv.2]; rfl, rfl, hIN1⟩) (Nat.le_of_ble_eq_true rfl) (Nat.le_of_ble_eq_true rfl)
    | succ k ih =>
      intro i M n2 a2 c hk hinv
      refine x_iload_n (pc := 52) C dX6_load_52 rfl ?_
      refine x_bipush (pc := 53) C (60) dX6_load_53 (by decide) ?_
      refine x_icmp_ge (pc := 55) (tgt := 140) C dX6_load_55 (by decide) (fun h55 => absurd h55 (by exact nI_ge (a := i) (b := 60) (by omega) (by omega))) (fun h55 => ?_)
      refine x_aload_n (pc := 58) C dX6_load_58 rfl ?_
      refine x_getR (pc := 59) (o := 0) (j := 3) C f_X6_26 dX6_load_59 (hI 0 rfl) ⟨rfl, rfl⟩ ?_
      refine x_getI (pc := 62) (o := 3) C f_X6_167 dX6_load_62 (hI 3 rfl) ⟨rfl, rfl, rfl⟩ ?_
      refine x_topi (nI a2) hinv.1.2.2.2.1 ?_
      refine x_aload_n (pc := 65) C dX6_load_65 rfl ?_
      refine x_getR (pc := 66) (o := 0) (j := 3) C f_X6_26 dX6_load_66 (hI 0 rfl) ⟨rfl, rfl⟩ ?_
      refine x_getI (pc := 69) (o := 3) C f_X6_156 dX6_load_69 (hI 3 rfl) ⟨rfl, rfl, rfl⟩ ?_
      refine x_topi (nI l0) hinv.1.2.2.1 ?_
      refine x_icmp_ge (pc := 72) (tgt := 140) C dX6_load_72 (by decide) (fun h72 => ?_) (fun h72 => ?_)
      · have hq : ¬ a2 < l0 := ltn h72 (by have := hinv.1.2.2.2.2.1; omega)
        refine x_aload_n (pc := 140) C dX6_load_140 rfl ?_
        refine x_getR (pc := 141) (o := 0) (j := 3) C f_X6_26 dX6_load_141 (hI 0 rfl) ⟨rfl, rfl⟩ ?_
        refine x_iconst (pc := 144) C (0) dX6_load_144 (by decide) ?_
        refine x_putI (pc := 145) (o := 3) C p_X6_156 dX6_load_145 (hI 3 rfl) ⟨rfl, rfl, rfl⟩ ?_
        refine x_iload_n (pc := 148) C dX6_load_148 rfl ?_
        exact x_iret (pc := 149) C hQ dX6_load_149 (ei_t hw ⟨V1, hs, by rw [hinv.2, lcM_1 hq], by rw [hinv.2, lcM_1 hq], rfl, hIN1⟩) (Nat.le_of_ble_eq_true rfl) (Nat.le_of_ble_eq_true rfl)
      · have hq : a2 < l0 := ltp (by have := hinv.1.2.2.2.2.1; omega) h72
        refine x_aload_n (pc := 75) C dX6_load_75 rfl ?_
        refine x_getI (pc := 76) (o := 0) C f_X6_47 dX6_load_76 (hI 0 rfl) ⟨rfl, rfl, rfl⟩ ?_
        refine x_if_ne (pc := 79) (tgt := 140) C dX6_load_79 (by decide) (fun h79 => ?_) (fun h79 => ?_)
        · refine x_aload_n (pc := 140) C dX6_load_140 rfl ?_
          refine x_getR (pc := 141) (o := 0) (j := 3) C f_X6_26 dX6_load_141 (hI 0 rfl) ⟨rfl, rfl⟩ ?_
          refine x_iconst (pc := 144) C (0) dX6_load_144 (by decide) ?_
          refine x_putI (pc := 145) (o := 3) C p_X6_156 dX6_load_145 (hI 3 rfl) ⟨rfl, rfl, rfl⟩ ?_
          refine x_iload_n (pc := 148) C dX6_load_148 rfl ?_
          exact x_iret (pc := 149) C hQ dX6_load_149 (ei_t hw ⟨V1, hs, by rw [hinv.2, lcM_2 h79], by rw [hinv.2, lcM_2 h79], rfl, hIN1⟩) (Nat.le_of_ble_eq_true rfl) (Nat.le_of_ble_eq_true rfl)
        · have hz : M 0 6 = 0 := by first | exact h79 | exact Decidable.not_not.mp h79
          refine x_mem (stT_id hinv.1.2.2.2.1) ?_
          refine x_aload_n (pc := 82) C dX6_load_82 rfl ?_
          refine x_getR (pc := 83) (o := 0) (j := 3) C f_X6_26 dX6_load_83 (hI 0 rfl) ⟨rfl, rfl⟩ ?_
          refine x_aload_n (pc := 86) C dX6_load_86 rfl ?_
          refine x_getR (pc := 87) (o := 0) (j := 5) C f_X6_33 dX6_load_87 (hI 0 rfl) ⟨rfl, rfl⟩ ?_
          refine x_cV1 (pc := 90) (o := 3) C v_X6_172 dX6_load_90 (c_X5_readShow (V := M) hI hinv.1.2.2.1 hl60 a2 hinv.1.2.2.2.2.1 (M 3 3)) (hI 3 rfl) rfl (by decide) rfl ⟨by decide, by decide⟩ ?_
          refine x_pop (pc := 93) C dX6_load_93 rfl ?_
          refine x_aload_n (pc := 94) C dX6_load_94 rfl ?_
          refine x_getR (pc := 95) (o := 0) (j := 3) C f_X6_26 dX6_load_95 (hI 0 rfl) ⟨rfl, rfl⟩ ?_
          refine x_bipush (pc := 98) C (59) dX6_load_98 (by decide) ?_
          refine x_cV1 (pc := 100) (o := 3) C v_X6_175 dX6_load_100 (c_X5_readSign (V := (shT M l0 a2 (M 3 3)).2.1) hI (by rw [sm5_f (sh_le hinv.1.2.2.2.2.1).2 (by decide)]; exact hinv.1.2.2.1) hl60 (shT M l0 a2 (M 3 3)).2.2.1 (sh_le hinv.1.2.2.2.2.1).1 _ 59) (hI 3 rfl) rfl (by decide) rfl ⟨by decide, by decide⟩ ?_
          refine x_mem (V2 := lc3 M l0 a2) rfl ?_
          refine x_pop (pc := 103) C dX6_load_103 rfl ?_
          refine x_aload_n (pc := 104) C dX6_load_104 rfl ?_
          refine x_aload_n (pc := 105) C dX6_load_105 rfl ?_
          refine x_cV0 (pc := 106) (o := 0) C v_X6_179 dX6_load_106 (c_X6_refusalOfReadShow (V := lc3 M l0 a2) hI (by rw [lc3_nf hinv.1.2.2.2.2.1 (by decide) (by decide)]; exact hinv.1.1) hinv.1.2.1 (by rw [lc3_nf hinv.1.2.2.2.2.1 (by decide) (by decide)]; exact hinv.1.2.2.2.2.2)) (hI 0 rfl) rfl (by decide) rfl ⟨by decide, by decide⟩ ?_
          refine x_topi (lcC M l0 n2 a2) rfl ?_
          refine x_putI (pc := 109) (o := 0) C p_X6_47 dX6_load_109 (hI 0 rfl) ⟨rfl, rfl, rfl⟩ ?_
          refine x_mem (V2 := lcV M l0 n2 a2) rfl ?_
          refine x_aload_n (pc := 112) C dX6_load_112 rfl ?_
          refine x_getI (pc := 113) (o := 0) C f_X6_47 dX6_load_113 (hI 0 rfl) ⟨rfl, rfl, rfl⟩ ?_
          refine x_topi (lcC M l0 n2 a2) up_ss ?_
          refine x_if_ne (pc := 116) (tgt := 134) C dX6_load_116 (by decide) (fun h116 => ?_) (fun h116 => ?_)
          · refine y_iinc (pc := 134) C (nI (i + 1)) dX6_load_134 rfl (by exact nI_1 i) (by decide) rfl ?_
            refine x_goto (pc := 137) (tgt := 52) C dX6_load_137 (by decide) ?_
            exact ih (i + 1) _ _ _ _ (by omega) ⟨loI_f hinv.1, by rw [hinv.2, lcM_3 hq hz h116]⟩
          · have hc0 : lcC M l0 n2 a2 = 0 := by first | exact h116 | exact Decidable.not_not.mp h116
            refine x_aload_n (pc := 119) C dX6_load_119 rfl ?_
            refine x_getR (pc := 120) (o := 0) (j := 20) C f_X6_10 dX6_load_120 (hI 0 rfl) ⟨rfl, rfl⟩ ?_
            refine x_aload_n (pc := 123) C dX6_load_123 rfl ?_
            refine x_getR (pc := 124) (o := 0) (j := 5) C f_X6_33 dX6_load_124 (hI 0 rfl) ⟨rfl, rfl⟩ ?_
            refine x_cV1 (pc := 127) (o := 20) C v_X6_182 dX6_load_127 (c_X3_insert (V := lcV M l0 n2 a2) hI (loI_f hinv.1).1 hinv.1.2.1 (rrC_ok hinv.1.2.1 hc0).2) (hI 20 rfl) rfl (by decide) rfl ⟨by decide, by decide⟩ ?_
            refine x_pop (pc := 130) C dX6_load_130 rfl ?_
            refine y_iinc (pc := 131) C (nI (c + 1)) dX6_load_131 rfl (by exact nI_1 c) (by decide) rfl ?_
            refine y_iinc (pc := 134) C (nI (i + 1)) dX6_load_134 rfl (by exact nI_1 i) (by decide) rfl ?_
            refine x_goto (pc := 137) (tgt := 52) C dX6_load_137 (by decide) ?_
            exact ih (i + 1) _ (n2 + 1) _ (c + 1) (by omega) ⟨loI_t hinv.1 hc0 (cntN_le _ _), by rw [hinv.2, lcM_4 hq hz hc0]; rfl⟩
  · exact x_throw (pc := 14) C hQ hN t_X6_69_170_73 dX6_load_14 dX6_load_17 dX6_load_18 dX6_load_20 dX6_load_23 (by decide) rfl ⟨by decide, by decide, by decide, by decide⟩ (ei_f (b2i_f h11))
