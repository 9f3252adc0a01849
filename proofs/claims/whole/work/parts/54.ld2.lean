set_option maxRecDepth 100000 in
set_option maxHeartbeats 4000000 in
theorem c_X7_load {l : Launch} {V : VV} {L : LL} {N : NN} {I : List Nat} (hI : PI I) {n : Nat} (hn : V 201 39 = nI n) (hn24 : n ≤ 24) {m : Nat} (hm : V 200 2 = nI m) (hm6 : m ≤ 6) {l0 : Nat} (hl0 : V 200 5 = nI l0) (hl60 : l0 ≤ 60) (hsg : ∀ s, s < n → ∃ g, g < 6 ∧ RF V 1 s = nI g) : Runs l 7 0 0 yX7_load (Cond.code yX7_load cX7_load 3 (some .int)) [aR 200] V L N I (Is (some (aI (if ldB V l0 = true then nI (ldP (ldK V l0) (ld0 V l0 m) n 0).2 else 0))) (if ldB V l0 = true then up (ldP (ldK V l0) (ld0 V l0 m) n 0).1 200 5 0 else up (rtT V l0).2 200 0 1) (L) N I) := by
  refine run_of RX7 (by decide +kernel) rfl (Nat.le_of_ble_eq_true rfl) (fun E hE C hQ hN => ?_)
  subst hE
  have hS : Sau V (rtT V l0).2 := sau_t sau_0 sau_rt
  have hle : (rtT V l0).1 ≤ l0 := rt_le (k := 0)
  refine x_aload_n (pc := 0) C dX7_load_0 rfl ?_
  refine x_cV0 (pc := 1) (o := 200) C v_X7_215 dX7_load_1 (c_X7_readText hI hl0 hl60) (hI 200 rfl) rfl (by decide) rfl ⟨Nat.le_refl _, Nat.le_refl _⟩ ?_
  refine x_aload_n (pc := 4) C dX7_load_4 rfl ?_
  refine x_getI (pc := 5) (o := 200) C f_X7_173 dX7_load_5 (hI 200 rfl) ⟨rfl, rfl, rfl⟩ ?_
  refine x_topi (nI l0) ((hS.1 5 (by decide) (by decide) (by decide)).trans hl0) ?_
  refine x_icmp_ne (pc := 8) (tgt := 22) C dX7_load_8 (by decide) (fun h8 => ?_) (fun h8 => ?_)
  · have hb := ldB_1 (V := V) (l0 := l0) (fun q => h8 (congrArg nI q))
    refine x_iconst (pc := 22) C (0) dX7_load_22 (by decide) ?_
    refine y_istore_n (pc := 23) C dX7_load_23 (by decide) rfl ?_
    refine x_aload_n (pc := 24) C dX7_load_24 rfl ?_
    refine x_iload_n (pc := 25) C dX7_load_25 rfl ?_
    refine x_if_eq (pc := 26) (tgt := 33) C dX7_load_26 (by decide) (fun h26 => ?_) (fun h26 => absurd (by decide) h26)
    refine x_iconst (pc := 33) C (1) dX7_load_33 (by decide) ?_
    refine x_putI (pc := 34) (o := 200) C p_X7_37 dX7_load_34 (hI 200 rfl) ⟨rfl, rfl, rfl⟩ ?_
    refine x_aload_n (pc := 37) C dX7_load_37 rfl ?_
    refine x_getI (pc := 38) (o := 200) C f_X7_37 dX7_load_38 (hI 200 rfl) ⟨rfl, rfl, rfl⟩ ?_
    refine x_topi 1 up_ss ?_
    refine x_if_le (pc := 41) (tgt := 46) C dX7_load_41 (by decide) (fun h41 => absurd h41 (by decide)) (fun h41 => ?_)
    refine x_iconst (pc := 44) C (0) dX7_load_44 (by decide) ?_
    exact x_iret (pc := 45) C hQ dX7_load_45 (is_iv (by rw [hb]; rfl) (by rw [hb]; rfl)) (Nat.le_of_ble_eq_true rfl) (Nat.le_of_ble_eq_true rfl)
  · have he : (rtT V l0).1 = l0 := (nI_eq (by omega) (by omega)).mp h8
    have hA : Au (rtT V l0).2 (toN ((rtT V l0).2 200 15)) (toN ((rtT V l0).2 200 13)) l0 := by
      obtain ⟨t, s, hA⟩ := rt_au (V := rt0 V) (n := l0) au_0 (by omega) he
      have h4 := hA.2.2.2
      have h3 := hA.2.2.1
      unfold stR at h3
      have e1 : (toN ((rtT V l0).2 200 15)) = t := by rw [show (rtT V l0).2 200 15 = nI t from hA.1]; exact toN_nI (by omega)
      have e2 : (toN ((rtT V l0).2 200 13)) = s := by rw [show (rtT V l0).2 200 13 = nI s from hA.2.1]; exact toN_nI (by omega)
      rw [e1, e2]; exact hA
    have ht := hA.1
    have hs := hA.2.1
    have hr := hA.2.2.1
    have h4 := hA.2.2.2
    refine x_aload_n (pc := 11) C dX7_load_11 rfl ?_
    refine x_cV0 (pc := 12) (o := 200) C v_X7_218 dX7_load_12 (c_X7_isComplete (V := (rtT V l0).2) hI (t := (toN ((rtT V l0).2 200 15))) (s := (toN ((rtT V l0).2 200 13))) ht (by omega) hs hr) (hI 200 rfl) rfl (by decide) rfl ⟨Nat.le_refl _, Nat.le_refl _⟩ ?_
    refine x_if_eq (pc := 15) (tgt := 22) C dX7_load_15 (by decide) (fun h15 => ?_) (fun h15 => ?_)
    · have hb := ldB_2 (V := V) (l0 := l0) (b2i_f h15)
      refine x_iconst (pc := 22) C (0) dX7_load_22 (by decide) ?_
      refine y_istore_n (pc := 23) C dX7_load_23 (by decide) rfl ?_
      refine x_aload_n (pc := 24) C dX7_load_24 rfl ?_
      refine x_iload_n (pc := 25) C dX7_load_25 rfl ?_
      refine x_if_eq (pc := 26) (tgt := 33) C dX7_load_26 (by decide) (fun h26 => ?_) (fun h26 => absurd (by decide) h26)
      refine x_iconst (pc := 33) C (1) dX7_load_33 (by decide) ?_
      refine x_putI (pc := 34) (o := 200) C p_X7_37 dX7_load_34 (hI 200 rfl) ⟨rfl, rfl, rfl⟩ ?_
      refine x_aload_n (pc := 37) C dX7_load_37 rfl ?_
      refine x_getI (pc := 38) (o := 200) C f_X7_37 dX7_load_38 (hI 200 rfl) ⟨rfl, rfl, rfl⟩ ?_
      refine x_topi 1 up_ss ?_
      refine x_if_le (pc := 41) (tgt := 46) C dX7_load_41 (by decide) (fun h41 => absurd h41 (by decide)) (fun h41 => ?_)
      refine x_iconst (pc := 44) C (0) dX7_load_44 (by decide) ?_
      exact x_iret (pc := 45) C hQ dX7_load_45 (is_iv (by rw [hb]; rfl) (by rw [hb]; rfl)) (Nat.le_of_ble_eq_true rfl) (Nat.le_of_ble_eq_true rfl)
    · have hb := ldB_3 (V := V) (l0 := l0) he (b2i_t h15)
      refine x_iconst (pc := 18) C (1) dX7_load_18 (by decide) ?_
      refine x_goto (pc := 19) (tgt := 23) C dX7_load_19 (by decide) ?_
      refine y_istore_n (pc := 23) C dX7_load_23 (by decide) rfl ?_
      refine x_aload_n (pc := 24) C dX7_load_24 rfl ?_
      refine x_iload_n (pc := 25) C dX7_load_25 rfl ?_
      refine x_if_eq (pc := 26) (tgt := 33) C dX7_load_26 (by decide) (fun h26 => absurd h26 (by decide)) (fun h26 => ?_)
      refine x_iconst (pc := 29) C (0) dX7_load_29 (by decide) ?_
      refine x_goto (pc := 30) (tgt := 34) C dX7_load_30 (by decide) ?_
      refine x_putI (pc := 34) (o := 200) C p_X7_37 dX7_load_34 (hI 200 rfl) ⟨rfl, rfl, rfl⟩ ?_
      refine x_aload_n (pc := 37) C dX7_load_37 rfl ?_
      refine x_getI (pc := 38) (o := 200) C f_X7_37 dX7_load_38 (hI 200 rfl) ⟨rfl, rfl, rfl⟩ ?_
      refine x_topi 0 up_ss ?_
      refine x_if_le (pc := 41) (tgt := 46) C dX7_load_41 (by decide) (fun h41 => ?_) (fun h41 => absurd (by decide) h41)
      refine x_aload_n (pc := 46) C dX7_load_46 rfl ?_
      refine x_cV0 (pc := 47) (o := 200) C v_X7_109 dX7_load_47 (c_X7_save (V := up (rtT V l0).2 200 0 0) hI (m := m) ((hS.1 2 (by decide) (by decide) (by decide)).trans hm) hm6) (hI 200 rfl) rfl (by decide) rfl ⟨Nat.le_refl _, Nat.le_refl _⟩ ?_
      refine x_aload_n (pc := 50) C dX7_load_50 rfl ?_
      refine x_dup (pc := 51) C dX7_load_51 rfl ?_
      refine x_getI (pc := 52) (o := 200) C f_X7_179 dX7_load_52 (hI 200 rfl) ⟨rfl, rfl, rfl⟩ ?_
      refine x_topi (nI (toN ((rtT V l0).2 200 15))) ((svR_no ⟨by decide, by decide⟩).trans ht) ?_
      refine x_iconst (pc := 55) C (1) dX7_load_55 (by decide) ?_
      refine x_iadd (pc := 56) C dX7_load_56 ?_
      refine x_topi (nI (ldK V l0)) (nI_1 _) ?_
      refine x_putI (pc := 57) (o := 200) C p_X7_179 dX7_load_57 (hI 200 rfl) ⟨rfl, rfl, rfl⟩ ?_
      refine x_aload_n (pc := 60) C dX7_load_60 rfl ?_
      refine x_iconst (pc := 61) C (0) dX7_load_61 (by decide) ?_
      refine x_putI (pc := 62) (o := 200) C p_X7_139 dX7_load_62 (hI 200 rfl) ⟨rfl, rfl, rfl⟩ ?_
      refine x_mem (show _ = ld0 V l0 m from rfl) ?_
      refine x_iconst (pc := 65) C (0) dX7_load_65 (by decide) ?_
      refine y_istore_n (pc := 66) C dX7_load_66 (by decide) rfl ?_
      have hK : ldK V l0 ≤ 9 := by unfold ldK; omega
      have z1 : ld0 V l0 m 201 = V 201 := (up_nf (by decide)).trans ((up_nf (by decide)).trans (svR_z.trans ((up_nf (by decide)).trans (hS.2 201 (by decide) (by decide)))))
      have J109 : ∀ (V3 : VV) (j : Nat), ldP (ldK V l0) (ld0 V l0 m) n 0 = (V3, j) → Wx E 109 [some (aR 200), some (aI 1), some (aI (nI j))] [] V3 L N I 0 0 := by
        intro V3 j hr3
        refine x_aload_n (pc := 109) C dX7_load_109 rfl ?_
        refine x_iconst (pc := 110) C (0) dX7_load_110 (by decide) ?_
        refine x_putI (pc := 111) (o := 200) C p_X7_173 dX7_load_111 (hI 200 rfl) ⟨rfl, rfl, rfl⟩ ?_
        refine x_iload_n (pc := 114) C dX7_load_114 rfl ?_
        exact x_iret (pc := 115) C hQ dX7_load_115 (is_iv (by rw [if_pos hb, hr3]) (by rw [if_pos hb, hr3])) (Nat.le_of_ble_eq_true rfl) (Nat.le_of_ble_eq_true rfl)
      have J67 : ∀ (V3 : VV) (j : Nat), j < ldK V l0 → V3 200 15 = nI (ldK V l0) → ¬ V3 200 4 = 0 → ldP (ldK V l0) (ld0 V l0 m) n 0 = (V3, j) → Wx E 67 [some (aR 200), some (aI 1), some (aI (nI j))] [] V3 L N I 0 0 := by
        intro V3 j hj h15 hl hr3
        refine x_iload_n (pc := 67) C dX7_load_67 rfl ?_
        refine x_aload_n (pc := 68) C dX7_load_68 rfl ?_
        refine x_getI (pc := 69) (o := 200) C f_X7_179 dX7_load_69 (hI 200 rfl) ⟨rfl, rfl, rfl⟩ ?_
        refine x_topi (nI (ldK V l0)) h15 ?_
        refine x_icmp_ge (pc := 72) (tgt := 109) C dX7_load_72 (by decide) (fun h72 => absurd h72 (by exact nI_ge (by omega) (by omega))) (fun h72 => ?_)
        refine x_aload_n (pc := 75) C dX7_load_75 rfl ?_
        refine x_getI (pc := 76) (o := 200) C f_X7_139 dX7_load_76 (hI 200 rfl) ⟨rfl, rfl, rfl⟩ ?_
        refine x_if_ne (pc := 79) (tgt := 109) C dX7_load_79 (by decide) (fun h79 => ?_) (fun h79 => absurd h79 (by exact hl))
        exact J109 V3 j hr3
      suffices key : ∀ (f j n1 : Nat) (V3 : VV), f + j = ldK V l0 → V3 201 39 = nI n1 → n1 ≤ 24 → (∀ s, s < n1 → ∃ g, g < 6 ∧ RF V3 1 s = nI g) → V3 200 15 = nI (ldK V l0) → V3 200 4 = 0 → ldP (ldK V l0) (ld0 V l0 m) n 0 = ldP f V3 n1 j → Wx E 67 [some (aR 200), some (aI 1), some (aI (nI j))] [] V3 L N I 0 0 by
        exact key (ldK V l0) 0 n (ld0 V l0 m) (by omega) (by rw [z1]; exact hn) hn24 (by rw [RF_z z1]; exact hsg) ((up_nk (by decide)).trans up_ss) up_ss rfl
      intro f
      induction f with
      | zero =>
        intro j n1 V3 hk h1 h2 h3 h15 hl hr3
        refine x_iload_n (pc := 67) C dX7_load_67 rfl ?_
        refine x_aload_n (pc := 68) C dX7_load_68 rfl ?_
        refine x_getI (pc := 69) (o := 200) C f_X7_179 dX7_load_69 (hI 200 rfl) ⟨rfl, rfl, rfl⟩ ?_
        refine x_topi (nI (ldK V l0)) h15 ?_
        refine x_icmp_ge (pc := 72) (tgt := 109) C dX7_load_72 (by decide) (fun h72 => ?_) (fun h72 => absurd (by exact nI_le (by omega) (by omega)) h72)
        exact J109 V3 j hr3
      | succ f ih =>
        intro j n1 V3 hk h1 h2 h3 h15 hl hr3
        refine x_iload_n (pc := 67) C dX7_load_67 rfl ?_
        refine x_aload_n (pc := 68) C dX7_load_68 rfl ?_
        refine x_getI (pc := 69) (o := 200) C f_X7_179 dX7_load_69 (hI 200 rfl) ⟨rfl, rfl, rfl⟩ ?_
        refine x_topi (nI (ldK V l0)) h15 ?_
        refine x_icmp_ge (pc := 72) (tgt := 109) C dX7_load_72 (by decide) (fun h72 => absurd h72 (by exact nI_ge (by omega) (by omega))) (fun h72 => ?_)
        refine x_aload_n (pc := 75) C dX7_load_75 rfl ?_
        refine x_getI (pc := 76) (o := 200) C f_X7_139 dX7_load_76 (hI 200 rfl) ⟨rfl, rfl, rfl⟩ ?_
        refine x_topi 0 hl ?_
        refine x_if_ne (pc := 79) (tgt := 109) C dX7_load_79 (by decide) (fun h79 => absurd h79 (by decide)) (fun h79 => ?_)
        refine x_aload_n (pc := 82) C dX7_load_82 rfl ?_
        refine x_aload_n (pc := 83) C dX7_load_83 rfl ?_
        refine x_iload_n (pc := 84) C dX7_load_84 rfl ?_
        refine x_cV1 (pc := 85) (o := 200) C v_X7_221 dX7_load_85 (c_X7_addRead hI h1 h2 h3 j (by omega)) (hI 200 rfl) rfl (by decide) rfl ⟨Nat.le_refl _, Nat.le_refl _⟩ ?_
        refine x_putI (pc := 88) (o := 200) C p_X7_139 dX7_load_88 (hI 200 rfl) ⟨rfl, rfl, rfl⟩ ?_
        refine x_iload_n (pc := 91) C dX7_load_91 rfl ?_
        refine x_aload_n (pc := 92) C dX7_load_92 rfl ?_
        refine x_getI (pc := 93) (o := 200) C f_X7_139 dX7_load_93 (hI 200 rfl) ⟨rfl, rfl, rfl⟩ ?_
        refine x_topi (arC V3 n1 (6 * j)) up_ss ?_
        refine x_if_ne (pc := 96) (tgt := 103) C dX7_load_96 (by decide) (fun h96 => ?_) (fun h96 => ?_)
        · refine x_iconst (pc := 103) C (0) dX7_load_103 (by decide) ?_
          refine x_iadd (pc := 104) C dX7_load_104 ?_
          refine x_topi (nI j) (Int32.add_zero _) ?_
          refine y_istore_n (pc := 105) C dX7_load_105 (by decide) rfl ?_
          refine x_goto (pc := 106) (tgt := 67) C dX7_load_106 (by decide) ?_
          exact J67 _ j (by omega) ((up_nk (by decide)).trans ((ar_no (by decide) (by decide)).trans h15)) (by rw [up_ss]; exact h96) (by rw [hr3, ldP, if_neg h96])
        · refine x_iconst (pc := 99) C (1) dX7_load_99 (by decide) ?_
          refine x_goto (pc := 100) (tgt := 104) C dX7_load_100 (by decide) ?_
          refine x_iadd (pc := 104) C dX7_load_104 ?_
          refine x_topi (nI (j + 1)) (nI_1 j) ?_
          refine y_istore_n (pc := 105) C dX7_load_105 (by decide) rfl ?_
          refine x_goto (pc := 106) (tgt := 67) C dX7_load_106 (by decide) ?_
          exact ih (j + 1) (n1 + 1) _ (by omega) ((up_no (by decide)).trans (ar_n h96)) (by have := ar_lt h2 h96; omega) (by rw [RF_z (up_nf (by decide))]; exact ar_g h2 h3 h96) ((up_nk (by decide)).trans ((ar_no (by decide) (by decide)).trans h15)) (up_ss.trans h96) (by rw [hr3, ldP, if_pos h96, h96])
