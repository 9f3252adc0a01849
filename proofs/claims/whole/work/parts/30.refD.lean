set_option maxRecDepth 100000 in
set_option maxHeartbeats 4000000 in
theorem c_X7_save {l : Launch} {V : VV} {L : LL} {N : NN} {I : List Nat} (hI : PI I) {m : Nat} (hm : V 200 2 = nI m) (hm6 : m ≤ 6) : Runs l 1 0 0 yX7_save (Cond.code yX7_save cX7_save 2 none) [aR 200] V L N I (Is none (svR V m) (L) N I) := by
  refine run_of RX7 (by decide +kernel) rfl (Nat.le_of_ble_eq_true rfl) (fun E hE C hQ hN => ?_)
  subst hE
  have J52 : ∀ (V1 : VV) (m1 : Nat) (x : Option AV), m1 < 6 → V1 200 2 = nI m1 → svR V m = up (cpSv V1 m1 232) 200 2 (nI (m1 + 1)) → Wx E 52 [some (aR 200), x] [] V1 L N I 0 0 := by
    intro V1 m1 x hm1 hs hr
    refine x_iconst (pc := 52) C (0) dX7_save_52 (by decide) ?_
    refine y_istore_n (pc := 53) C dX7_save_53 (by decide) rfl ?_
    suffices key : ∀ (k i : Nat) (V2 : VV), k + i = 232 → (V2 = cpSv V1 m1 i) → Wx E 54 [some (aR 200), some (aI (nI i))] [] V2 L N I 0 0 by
      exact key (232) 0 V1 (by omega) (cpSv_0.symm)
    intro k
    induction k with
    | zero =>
      intro i V2 hk hinv
      refine x_iload_n (pc := 54) C dX7_save_54 rfl ?_
      refine x_sipush (pc := 55) C (232) dX7_save_55 (by decide) ?_
      refine x_icmp_ge (pc := 58) (tgt := 88) C dX7_save_58 (by decide) (fun h58 => ?_) (fun h58 => absurd (by exact nI_le (a := 232) (b := i) (by omega) (by omega)) h58)
      refine x_aload_n (pc := 88) C dX7_save_88 rfl ?_
      refine x_dup (pc := 89) C dX7_save_89 rfl ?_
      refine x_getI (pc := 90) (o := 200) C f_X7_106 dX7_save_90 (hI 200 rfl) ⟨rfl, rfl, rfl⟩ ?_
      refine x_topi (nI m1) (by rw [hinv, cpSv_no (by decide)]; exact hs) ?_
      refine x_iconst (pc := 93) C (1) dX7_save_93 (by decide) ?_
      refine x_iadd (pc := 94) C dX7_save_94 ?_
      refine x_topi (nI (m1 + 1)) (nI_1 m1) ?_
      refine x_putI (pc := 95) (o := 200) C p_X7_106 dX7_save_95 (hI 200 rfl) ⟨rfl, rfl, rfl⟩ ?_
      exact x_vret (pc := 98) C hQ dX7_save_98 (is_v (by rw [hr, hinv, show i = 232 by omega])) (Nat.le_of_ble_eq_true rfl) (Nat.le_of_ble_eq_true rfl)
    | succ k ih =>
      intro i V2 hk hinv
      refine x_iload_n (pc := 54) C dX7_save_54 rfl ?_
      refine x_sipush (pc := 55) C (232) dX7_save_55 (by decide) ?_
      refine x_icmp_ge (pc := 58) (tgt := 88) C dX7_save_58 (by decide) (fun h58 => absurd h58 (by exact nI_ge (a := i) (b := 232) (by omega) (by omega))) (fun h58 => ?_)
      refine x_aload_n (pc := 61) C dX7_save_61 rfl ?_
      refine x_getR (pc := 62) (o := 200) (j := 202) C f_X7_13 dX7_save_62 (hI 200 rfl) ⟨rfl, rfl⟩ ?_
      refine x_sipush (pc := 65) C (232) dX7_save_65 (by decide) ?_
      refine x_aload_n (pc := 68) C dX7_save_68 rfl ?_
      refine x_getI (pc := 69) (o := 200) C f_X7_106 dX7_save_69 (hI 200 rfl) ⟨rfl, rfl, rfl⟩ ?_
      refine x_topi (nI m1) (by rw [hinv, cpSv_no (by decide)]; exact hs) ?_
      refine x_imul (pc := 72) C dX7_save_72 ?_
      refine x_iload_n (pc := 73) C dX7_save_73 rfl ?_
      refine x_iadd (pc := 74) C dX7_save_74 ?_
      refine x_topi (nI (232 * m1 + i)) (by rw [show (232 : Int32) = nI 232 from rfl, pk_mul, nI_add]) ?_
      refine x_aload_n (pc := 75) C dX7_save_75 rfl ?_
      refine x_getR (pc := 76) (o := 200) (j := 201) C f_X7_7 dX7_save_76 (hI 200 rfl) ⟨rfl, rfl⟩ ?_
      refine x_iload_n (pc := 79) C dX7_save_79 rfl ?_
      refine x_iald (pc := 80) (o := 201) C dX7_save_80 (hI 201 rfl) ⟨rfl, rfl⟩ (show _ < 232 by omega) (by decide) ?_
      refine x_topi (V1 201 i) (by rw [hinv, cpSv_no (by decide)]) ?_
      refine x_iast (pc := 81) (o := 202) C dX7_save_81 (hI 202 rfl) ⟨rfl, rfl⟩ (show _ < 1392 by omega) (by decide) ?_
      refine y_iinc (pc := 82) C (nI (i + 1)) dX7_save_82 rfl (by exact nI_1 i) (by decide) rfl ?_
      refine x_goto (pc := 85) (tgt := 54) C dX7_save_85 (by decide) ?_
      exact ih (i + 1) _ (by omega) (by rw [hinv]; exact cpSv_s)
  refine x_aload_n (pc := 0) C dX7_save_0 rfl ?_
  refine x_getI (pc := 1) (o := 200) C f_X7_106 dX7_save_1 (hI 200 rfl) ⟨rfl, rfl, rfl⟩ ?_
  refine x_topi (nI m) hm ?_
  refine x_bipush (pc := 4) C (6) dX7_save_4 (by decide) ?_
  refine x_icmp_ne (pc := 6) (tgt := 52) C dX7_save_6 (by decide) (fun h6 => ?_) (fun h6 => ?_)
  · exact J52 V m none (by have : ¬ m = 6 := fun q => h6 (by rw [q]; rfl); omega) hm (by rw [svR, if_neg (fun q => h6 (by rw [q]; rfl))])
  · have hm6 : m = 6 := (nI_eq (b := 6) (by omega) (by decide)).mp h6
    subst hm6
    refine x_sipush (pc := 9) C (232) dX7_save_9 (by decide) ?_
    refine y_istore_n (pc := 12) C dX7_save_12 (by decide) rfl ?_
    suffices key : ∀ (k i : Nat), k + i = 1160 → Wx E 13 [some (aR 200), some (aI (nI (i + 232)))] [] (shSv V (i + 232)) L N I 0 0 by
      have := key 1160 0 (by omega)
      rw [shSv_0] at this; exact this
    intro k
    induction k with
    | zero =>
      intro i hk
      refine x_iload_n (pc := 13) C dX7_save_13 rfl ?_
      refine x_sipush (pc := 14) C (1392) dX7_save_14 (by decide) ?_
      refine x_icmp_ge (pc := 17) (tgt := 42) C dX7_save_17 (by decide) (fun h17 => ?_) (fun h17 => absurd (by exact nI_le (a := 1392) (b := i + 232) (by omega) (by omega)) h17)
      refine x_aload_n (pc := 42) C dX7_save_42 rfl ?_
      refine x_dup (pc := 43) C dX7_save_43 rfl ?_
      refine x_getI (pc := 44) (o := 200) C f_X7_106 dX7_save_44 (hI 200 rfl) ⟨rfl, rfl, rfl⟩ ?_
      refine x_topi (nI 6) (by rw [shSv_no (by decide)]; exact hm) ?_
      refine x_iconst (pc := 47) C (1) dX7_save_47 (by decide) ?_
      refine x_isub (pc := 48) C dX7_save_48 ?_
      refine x_topi (nI 5) (by decide) ?_
      refine x_putI (pc := 49) (o := 200) C p_X7_106 dX7_save_49 (hI 200 rfl) ⟨rfl, rfl, rfl⟩ ?_
      exact J52 _ 5 _ (by decide) up_ss (by rw [svR, if_pos rfl, show i + 232 = 1392 by omega])
    | succ k ih =>
      intro i hk
      refine x_iload_n (pc := 13) C dX7_save_13 rfl ?_
      refine x_sipush (pc := 14) C (1392) dX7_save_14 (by decide) ?_
      refine x_icmp_ge (pc := 17) (tgt := 42) C dX7_save_17 (by decide) (fun h17 => absurd h17 (by exact nI_ge (a := i + 232) (b := 1392) (by omega) (by omega))) (fun h17 => ?_)
      refine x_aload_n (pc := 20) C dX7_save_20 rfl ?_
      refine x_getR (pc := 21) (o := 200) (j := 202) C f_X7_13 dX7_save_21 (hI 200 rfl) ⟨rfl, rfl⟩ ?_
      refine x_iload_n (pc := 24) C dX7_save_24 rfl ?_
      refine x_sipush (pc := 25) C (232) dX7_save_25 (by decide) ?_
      refine x_isub (pc := 28) C dX7_save_28 ?_
      refine x_topi (nI i) (by rw [show (232 : Int32) = nI 232 from rfl, pk_sub (by omega), Nat.add_sub_cancel]) ?_
      refine x_aload_n (pc := 29) C dX7_save_29 rfl ?_
      refine x_getR (pc := 30) (o := 200) (j := 202) C f_X7_13 dX7_save_30 (hI 200 rfl) ⟨rfl, rfl⟩ ?_
      refine x_iload_n (pc := 33) C dX7_save_33 rfl ?_
      refine x_iald (pc := 34) (o := 202) C dX7_save_34 (hI 202 rfl) ⟨rfl, rfl⟩ (show _ < 1392 by omega) (by decide) ?_
      refine x_topi (V 202 (i + 232)) shSv_at ?_
      refine x_iast (pc := 35) (o := 202) C dX7_save_35 (hI 202 rfl) ⟨rfl, rfl⟩ (show _ < 1392 by omega) (by decide) ?_
      refine x_mem shSv_s ?_
      refine y_iinc (pc := 36) C (nI (i + 1 + 232)) dX7_save_36 rfl (by rw [show i + 1 + 232 = i + 232 + 1 by omega]; exact nI_1 _) (by decide) rfl ?_
      refine x_goto (pc := 39) (tgt := 13) C dX7_save_39 (by decide) ?_
      exact ih (i + 1) (by omega)
set_option maxRecDepth 100000 in
set_option maxHeartbeats 4000000 in
theorem c_X7_undo {l : Launch} {V : VV} {L : LL} {N : NN} {I : List Nat} (hI : PI I) {m : Nat} (hm : V 200 2 = nI m) (hm6 : m ≤ 6) : Runs l 1 0 0 yX7_undo (Cond.code yX7_undo cX7_undo 2 (some .int)) [aR 200] V L N I (Is (some (aI (if m = 0 then 0 else nI (m - 1)))) (if m = 0 then up V 200 0 1 else unR (up (up V 200 0 0) 200 2 (nI (m - 1))) (m - 1) 232) (L) N I) := by
  refine run_of RX7 (by decide +kernel) rfl (Nat.le_of_ble_eq_true rfl) (fun E hE C hQ hN => ?_)
  subst hE
  refine x_aload_n (pc := 0) C dX7_undo_0 rfl ?_
  refine x_aload_n (pc := 1) C dX7_undo_1 rfl ?_
  refine x_getI (pc := 2) (o := 200) C f_X7_106 dX7_undo_2 (hI 200 rfl) ⟨rfl, rfl, rfl⟩ ?_
  refine x_topi (nI m) hm ?_
  refine x_if_le (pc := 5) (tgt := 12) C dX7_undo_5 (by decide) (fun h5 => ?_) (fun h5 => ?_)
  · have hm0 : m = 0 := by rcases Nat.eq_zero_or_pos m with q | q; exact q; exact absurd h5 (nI_nle q (by omega))
    subst hm0
    refine x_iconst (pc := 12) C (1) dX7_undo_12 (by decide) ?_
    refine x_putI (pc := 13) (o := 200) C p_X7_37 dX7_undo_13 (hI 200 rfl) ⟨rfl, rfl, rfl⟩ ?_
    refine x_aload_n (pc := 16) C dX7_undo_16 rfl ?_
    refine x_getI (pc := 17) (o := 200) C f_X7_37 dX7_undo_17 (hI 200 rfl) ⟨rfl, rfl, rfl⟩ ?_
    refine x_topi _ up_ss ?_
    refine x_if_le (pc := 20) (tgt := 25) C dX7_undo_20 (by decide) (fun h20 => absurd h20 (by decide)) (fun h20 => ?_)
    refine x_iconst (pc := 23) C (0) dX7_undo_23 (by decide) ?_
    exact x_iret (pc := 24) C hQ dX7_undo_24 (is_iv (by rw [if_pos rfl]) (by rw [if_pos rfl])) (Nat.le_of_ble_eq_true rfl) (Nat.le_of_ble_eq_true rfl)
  · obtain ⟨m, rfl⟩ : ∃ k, m = k + 1 := ⟨m - 1, by rcases Nat.eq_zero_or_pos m with q | q; exact absurd (by rw [q]; decide) h5; omega⟩
    refine x_iconst (pc := 8) C (0) dX7_undo_8 (by decide) ?_
    refine x_goto (pc := 9) (tgt := 13) C dX7_undo_9 (by decide) ?_
    refine x_putI (pc := 13) (o := 200) C p_X7_37 dX7_undo_13 (hI 200 rfl) ⟨rfl, rfl, rfl⟩ ?_
    refine x_aload_n (pc := 16) C dX7_undo_16 rfl ?_
    refine x_getI (pc := 17) (o := 200) C f_X7_37 dX7_undo_17 (hI 200 rfl) ⟨rfl, rfl, rfl⟩ ?_
    refine x_topi _ up_ss ?_
    refine x_if_le (pc := 20) (tgt := 25) C dX7_undo_20 (by decide) (fun h20 => ?_) (fun h20 => absurd (by decide) h20)
    refine x_aload_n (pc := 25) C dX7_undo_25 rfl ?_
    refine x_dup (pc := 26) C dX7_undo_26 rfl ?_
    refine x_getI (pc := 27) (o := 200) C f_X7_106 dX7_undo_27 (hI 200 rfl) ⟨rfl, rfl, rfl⟩ ?_
    refine x_topi (nI (m + 1)) (by rw [up_nk (by decide)]; exact hm) ?_
    refine x_iconst (pc := 30) C (1) dX7_undo_30 (by decide) ?_
    refine x_isub (pc := 31) C dX7_undo_31 ?_
    refine x_topi (nI m) (nI_pred m) ?_
    refine x_putI (pc := 32) (o := 200) C p_X7_106 dX7_undo_32 (hI 200 rfl) ⟨rfl, rfl, rfl⟩ ?_
    refine x_iconst (pc := 35) C (0) dX7_undo_35 (by decide) ?_
    refine y_istore_n (pc := 36) C dX7_undo_36 (by decide) rfl ?_
    suffices key : ∀ (k i : Nat) (V1 : VV), k + i = 232 → (V1 = unR (up (up V 200 0 0) 200 2 (nI m)) m i) → Wx E 37 [some (aR 200), some (aI (nI i))] [] V1 L N I 0 0 by
      exact key (232) 0 _ (by omega) (unR_0.symm)
    intro k
    induction k with
    | zero =>
      intro i V1 hk hinv
      refine x_iload_n (pc := 37) C dX7_undo_37 rfl ?_
      refine x_sipush (pc := 38) C (232) dX7_undo_38 (by decide) ?_
      refine x_icmp_ge (pc := 41) (tgt := 71) C dX7_undo_41 (by decide) (fun h41 => ?_) (fun h41 => absurd (by exact nI_le (a := 232) (b := i) (by omega) (by omega)) h41)
      refine x_aload_n (pc := 71) C dX7_undo_71 rfl ?_
      refine x_getI (pc := 72) (o := 200) C f_X7_106 dX7_undo_72 (hI 200 rfl) ⟨rfl, rfl, rfl⟩ ?_
      refine x_topi (nI m) (by rw [hinv, unR_no (by decide), up_ss]) ?_
      exact x_iret (pc := 75) C hQ dX7_undo_75 (is_iv (by rw [if_neg (by omega), Nat.add_sub_cancel]) (by rw [if_neg (by omega), hinv, show i = 232 by omega]; rfl)) (Nat.le_of_ble_eq_true rfl) (Nat.le_of_ble_eq_true rfl)
    | succ k ih =>
      intro i V1 hk hinv
      refine x_iload_n (pc := 37) C dX7_undo_37 rfl ?_
      refine x_sipush (pc := 38) C (232) dX7_undo_38 (by decide) ?_
      refine x_icmp_ge (pc := 41) (tgt := 71) C dX7_undo_41 (by decide) (fun h41 => absurd h41 (by exact nI_ge (a := i) (b := 232) (by omega) (by omega))) (fun h41 => ?_)
      refine x_aload_n (pc := 44) C dX7_undo_44 rfl ?_
      refine x_getR (pc := 45) (o := 200) (j := 201) C f_X7_7 dX7_undo_45 (hI 200 rfl) ⟨rfl, rfl⟩ ?_
      refine x_iload_n (pc := 48) C dX7_undo_48 rfl ?_
      refine x_aload_n (pc := 49) C dX7_undo_49 rfl ?_
      refine x_getR (pc := 50) (o := 200) (j := 202) C f_X7_13 dX7_undo_50 (hI 200 rfl) ⟨rfl, rfl⟩ ?_
      refine x_sipush (pc := 53) C (232) dX7_undo_53 (by decide) ?_
      refine x_aload_n (pc := 56) C dX7_undo_56 rfl ?_
      refine x_getI (pc := 57) (o := 200) C f_X7_106 dX7_undo_57 (hI 200 rfl) ⟨rfl, rfl, rfl⟩ ?_
      refine x_topi (nI m) (by rw [hinv, unR_no (by decide), up_ss]) ?_
      refine x_imul (pc := 60) C dX7_undo_60 ?_
      refine x_iload_n (pc := 61) C dX7_undo_61 rfl ?_
      refine x_iadd (pc := 62) C dX7_undo_62 ?_
      refine x_topi (nI (232 * m + i)) (by rw [show (232 : Int32) = nI 232 from rfl, pk_mul, nI_add]) ?_
      refine x_iald (pc := 63) (o := 202) C dX7_undo_63 (hI 202 rfl) ⟨rfl, rfl⟩ (show _ < 1392 by omega) (by decide) ?_
      refine x_topi ((up (up V 200 0 0) 200 2 (nI m)) 202 (232 * m + i)) (by rw [hinv, unR_no (by decide)]) ?_
      refine x_iast (pc := 64) (o := 201) C dX7_undo_64 (hI 201 rfl) ⟨rfl, rfl⟩ (show _ < 232 by omega) (by decide) ?_
      refine y_iinc (pc := 65) C (nI (i + 1)) dX7_undo_65 rfl (by exact nI_1 i) (by decide) rfl ?_
      refine x_goto (pc := 68) (tgt := 37) C dX7_undo_68 (by decide) ?_
      exact ih (i + 1) _ (by omega) (by rw [hinv]; exact unR_s)
set_option maxRecDepth 100000 in
set_option maxHeartbeats 4000000 in
theorem c_X7_putIn {l : Launch} {V : VV} {L : LL} {N : NN} {I : List Nat} (hI : PI I) {n : Nat} (hn : V 201 39 = nI n) (hn24 : n ≤ 24) (hlt : n < 24) : Runs l 2 0 0 yX7_putIn (Cond.code yX7_putIn cX7_putIn 3 (some .int)) [aR 200] V L N I (Is (some (aI (nI (plcR (keyS (RF V)) (1440 * V 204 2 + V 204 3) n)))) (insR V n (plcR (keyS (RF V)) (1440 * V 204 2 + V 204 3) n)) (L) N I) := by
  refine run_of RX7 (by decide +kernel) rfl (Nat.le_of_ble_eq_true rfl) (fun E hE C hQ hN => ?_)
  subst hE
  have J87 : ∀ (p : Nat) (x : Option AV), p ≤ n → p = plcR (keyS (RF V)) (1440 * V 204 2 + V 204 3) n → Wx E 87 [some (aR 200), some (aI (nI p)), x] [] (shR V p n) L N I 0 0 := by
    intro p x hp hpl
    refine x_iconst (pc := 87) C (0) dX7_putIn_87 (by decide) ?_
    refine y_istore_n (pc := 88) C dX7_putIn_88 (by decide) rfl ?_
    have J113 : ∀ (x : Option AV), Wx E 113 [some (aR 200), some (aI (nI p)), x] [] (frR (shR V p n) p 8) L N I 0 0 := by
      intro x
      refine x_aload_n (pc := 113) C dX7_putIn_113 rfl ?_
      refine x_getR (pc := 114) (o := 200) (j := 201) C f_X7_7 dX7_putIn_114 (hI 200 rfl) ⟨rfl, rfl⟩ ?_
      refine x_bipush (pc := 117) C (39) dX7_putIn_117 (by decide) ?_
      refine x_dup2 (pc := 119) C dX7_putIn_119 rfl rfl ?_
      refine x_topi (nI 39) (by decide) ?_
      refine x_iald (pc := 120) (o := 201) C dX7_putIn_120 (hI 201 rfl) ⟨rfl, rfl⟩ (show _ < 232 by decide) (by decide) ?_
      refine x_topi (nI n) (by rw [frR_lo (by decide), shR_lo (by decide)]; exact hn) ?_
      refine x_iconst (pc := 121) C (1) dX7_putIn_121 (by decide) ?_
      refine x_iadd (pc := 122) C dX7_putIn_122 ?_
      refine x_topi (nI (n + 1)) (nI_1 n) ?_
      refine x_top2i (nI 39) (by decide) ?_
      refine x_iast (pc := 123) (o := 201) C dX7_putIn_123 (hI 201 rfl) ⟨rfl, rfl⟩ (show _ < 232 by decide) (by decide) ?_
      refine x_iconst (pc := 124) C (0) dX7_putIn_124 (by decide) ?_
      refine y_istore_n (pc := 125) C dX7_putIn_125 (by decide) rfl ?_
      suffices key : ∀ (k i : Nat) (V2 : VV), k + i = n + 1 → (V2 = adjR (up (frR (shR V p n) p 8) 201 39 (nI (n + 1))) p i) → Wx E 126 [some (aR 200), some (aI (nI p)), some (aI (nI i))] [] V2 L N I 0 0 by
        exact key (n + 1) 0 _ (by omega) (adjR_0.symm)
      intro k
      induction k with
      | zero =>
        intro i V2 hk hinv
        refine x_iload_n (pc := 126) C dX7_putIn_126 rfl ?_
        refine x_aload_n (pc := 127) C dX7_putIn_127 rfl ?_
        refine x_getR (pc := 128) (o := 200) (j := 201) C f_X7_7 dX7_putIn_128 (hI 200 rfl) ⟨rfl, rfl⟩ ?_
        refine x_bipush (pc := 131) C (39) dX7_putIn_131 (by decide) ?_
        refine x_topi (nI 39) (by decide) ?_
        refine x_iald (pc := 133) (o := 201) C dX7_putIn_133 (hI 201 rfl) ⟨rfl, rfl⟩ (show _ < 232 by decide) (by decide) ?_
        refine x_topi (nI (n + 1)) (by rw [hinv, adjR_lo (by decide), up_ss]) ?_
        refine x_icmp_ge (pc := 134) (tgt := 170) C dX7_putIn_134 (by decide) (fun h134 => ?_) (fun h134 => absurd (by exact nI_le (by omega) (by omega)) h134)
        refine x_iload_n (pc := 170) C dX7_putIn_170 rfl ?_
        exact x_iret (pc := 171) C hQ dX7_putIn_171 (is_iv (by rw [hpl]) (by rw [← hpl, hinv, show i = n + 1 by omega]; rfl)) (Nat.le_of_ble_eq_true rfl) (Nat.le_of_ble_eq_true rfl)
      | succ k ih =>
        intro i V2 hk hinv
        refine x_iload_n (pc := 126) C dX7_putIn_126 rfl ?_
        refine x_aload_n (pc := 127) C dX7_putIn_127 rfl ?_
        refine x_getR (pc := 128) (o := 200) (j := 201) C f_X7_7 dX7_putIn_128 (hI 200 rfl) ⟨rfl, rfl⟩ ?_
        refine x_bipush (pc := 131) C (39) dX7_putIn_131 (by decide) ?_
        refine x_topi (nI 39) (by decide) ?_
        refine x_iald (pc := 133) (o := 201) C dX7_putIn_133 (hI 201 rfl) ⟨rfl, rfl⟩ (show _ < 232 by decide) (by decide) ?_
        refine x_topi (nI (n + 1)) (by rw [hinv, adjR_lo (by decide), up_ss]) ?_
        refine x_icmp_ge (pc := 134) (tgt := 170) C dX7_putIn_134 (by decide) (fun h134 => absurd h134 (by exact nI_ge (by omega) (by omega))) (fun h134 => ?_)
        refine x_aload_n (pc := 137) C dX7_putIn_137 rfl ?_
        refine x_iload_n (pc := 138) C dX7_putIn_138 rfl ?_
        refine x_bipush (pc := 139) C (7) dX7_putIn_139 (by decide) ?_
        refine x_cV2 (pc := 141) (o := 200) C v_X7_45 dX7_putIn_141 (c_X7_of hI (i) (7) (by omega)) (hI 200 rfl) rfl (by decide) rfl ⟨Nat.le_refl _, Nat.le_refl _⟩ ?_
        refine x_topi ((up (frR (shR V p n) p 8) 201 39 (nI (n + 1))) 201 (40 + 8 * i + 7)) (by rw [hinv]; exact adjR_at) ?_
        refine x_iload_n (pc := 144) C dX7_putIn_144 rfl ?_
        refine x_icmp_lt (pc := 145) (tgt := 164) C dX7_putIn_145 (by decide) (fun h145 => ?_) (fun h145 => ?_)
        · refine y_iinc (pc := 164) C (nI (i + 1)) dX7_putIn_164 rfl (by exact nI_1 i) (by decide) rfl ?_
          refine x_goto (pc := 167) (tgt := 126) C dX7_putIn_167 (by decide) ?_
          exact ih (i + 1) _ (by omega) (by rw [hinv]; exact adjR_f (Int32.not_le.mpr h145))
        · refine x_aload_n (pc := 148) C dX7_putIn_148 rfl ?_
          refine x_iload_n (pc := 149) C dX7_putIn_149 rfl ?_
          refine x_bipush (pc := 150) C (7) dX7_putIn_150 (by decide) ?_
          refine x_aload_n (pc := 152) C dX7_putIn_152 rfl ?_
          refine x_iload_n (pc := 153) C dX7_putIn_153 rfl ?_
          refine x_bipush (pc := 154) C (7) dX7_putIn_154 (by decide) ?_
          refine x_cV2 (pc := 156) (o := 200) C v_X7_45 dX7_putIn_156 (c_X7_of hI (i) (7) (by omega)) (hI 200 rfl) rfl (by decide) rfl ⟨Nat.le_refl _, Nat.le_refl _⟩ ?_
          refine x_topi ((up (frR (shR V p n) p 8) 201 39 (nI (n + 1))) 201 (40 + 8 * i + 7)) (by rw [hinv]; exact adjR_at) ?_
          refine x_iconst (pc := 159) C (1) dX7_putIn_159 (by decide) ?_
          refine x_iadd (pc := 160) C dX7_putIn_160 ?_
          refine x_cV3 (pc := 161) (o := 200) C v_X7_80 dX7_putIn_161 (c_X7_put hI (i) (7) _ (by omega)) (hI 200 rfl) rfl (by decide) rfl ⟨Nat.le_refl _, Nat.le_refl _⟩ ?_
          refine y_iinc (pc := 164) C (nI (i + 1)) dX7_putIn_164 rfl (by exact nI_1 i) (by decide) rfl ?_
          refine x_goto (pc := 167) (tgt := 126) C dX7_putIn_167 (by decide) ?_
          exact ih (i + 1) _ (by omega) (by rw [hinv]; exact adjR_t (Int32.not_lt.mp h145))
    suffices key : ∀ (k i : Nat) (V2 : VV), k + i = 8 → (V2 = frR (shR V p n) p i) → Wx E 89 [some (aR 200), some (aI (nI p)), some (aI (nI i))] [] V2 L N I 0 0 by
      exact key (8) 0 _ (by omega) (frR_0.symm)
    intro k
    induction k with
    | zero =>
      intro i V2 hk hinv
      refine x_iload_n (pc := 89) C dX7_putIn_89 rfl ?_
      refine x_bipush (pc := 90) C (8) dX7_putIn_90 (by decide) ?_
      refine x_icmp_ge (pc := 92) (tgt := 113) C dX7_putIn_92 (by decide) (fun h92 => ?_) (fun h92 => absurd (by exact nI_le (a := 8) (b := i) (by omega) (by omega)) h92)
      rw [hinv, show i = 8 by omega]; exact J113 _
    | succ k ih =>
      intro i V2 hk hinv
      refine x_iload_n (pc := 89) C dX7_putIn_89 rfl ?_
      refine x_bipush (pc := 90) C (8) dX7_putIn_90 (by decide) ?_
      refine x_icmp_ge (pc := 92) (tgt := 113) C dX7_putIn_92 (by decide) (fun h92 => absurd h92 (by exact nI_ge (a := i) (b := 8) (by omega) (by omega))) (fun h92 => ?_)
      refine x_aload_n (pc := 95) C dX7_putIn_95 rfl ?_
      refine x_iload_n (pc := 96) C dX7_putIn_96 rfl ?_
      refine x_iload_n (pc := 97) C dX7_putIn_97 rfl ?_
      refine x_aload_n (pc := 98) C dX7_putIn_98 rfl ?_
      refine x_getR (pc := 99) (o := 200) (j := 204) C f_X7_19 dX7_putIn_99 (hI 200 rfl) ⟨rfl, rfl⟩ ?_
      refine x_iload_n (pc := 102) C dX7_putIn_102 rfl ?_
      refine x_iald (pc := 103) (o := 204) C dX7_putIn_103 (hI 204 rfl) ⟨rfl, rfl⟩ (show _ < 8 by omega) (by decide) ?_
      refine x_topi (shR V p n 204 i) (by rw [hinv, frR_no (by decide)]) ?_
      refine x_cV3 (pc := 104) (o := 200) C v_X7_80 dX7_putIn_104 (c_X7_put hI (p) (i) _ (by omega)) (hI 200 rfl) rfl (by decide) rfl ⟨Nat.le_refl _, Nat.le_refl _⟩ ?_
      refine y_iinc (pc := 107) C (nI (i + 1)) dX7_putIn_107 rfl (by exact nI_1 i) (by decide) rfl ?_
      refine x_goto (pc := 110) (tgt := 89) C dX7_putIn_110 (by decide) ?_
      exact ih (i + 1) _ (by omega) (by rw [hinv]; exact frR_s)
  refine x_aload_n (pc := 0) C dX7_putIn_0 rfl ?_
  refine x_getR (pc := 1) (o := 200) (j := 201) C f_X7_7 dX7_putIn_1 (hI 200 rfl) ⟨rfl, rfl⟩ ?_
  refine x_bipush (pc := 4) C (39) dX7_putIn_4 (by decide) ?_
  refine x_topi (nI 39) (by decide) ?_
  refine x_iald (pc := 6) (o := 201) C dX7_putIn_6 (hI 201 rfl) ⟨rfl, rfl⟩ (show _ < 232 by decide) (by decide) ?_
  refine x_topi (nI n) hn ?_
  refine y_istore_n (pc := 7) C dX7_putIn_7 (by decide) rfl ?_
  suffices key : ∀ (q : Nat), q ≤ n → plcR (keyS (RF V)) (1440 * V 204 2 + V 204 3) q = plcR (keyS (RF V)) (1440 * V 204 2 + V 204 3) n → Wx E 8 [some (aR 200), some (aI (nI q)), none] [] (shR V q n) L N I 0 0 by
    have := key n (Nat.le_refl _) rfl
    rw [shR_0] at this; exact this
  intro q
  induction q with
  | zero =>
    intro hq hp
    refine x_iload_n (pc := 8) C dX7_putIn_8 rfl ?_
    refine x_if_le (pc := 9) (tgt := 87) C dX7_putIn_9 (by decide) (fun h9 => ?_) (fun h9 => absurd (by decide) h9)
    exact J87 0 none (by omega) hp
  | succ q ih =>
    intro hq hp
    refine x_iload_n (pc := 8) C dX7_putIn_8 rfl ?_
    refine x_if_le (pc := 9) (tgt := 87) C dX7_putIn_9 (by decide) (fun h9 => absurd h9 (by exact nI_nle (by omega) (by omega))) (fun h9 => ?_)
    refine x_sipush (pc := 12) C (1440) dX7_putIn_12 (by decide) ?_
    refine x_aload_n (pc := 15) C dX7_putIn_15 rfl ?_
    refine x_iload_n (pc := 16) C dX7_putIn_16 rfl ?_
    refine x_iconst (pc := 17) C (1) dX7_putIn_17 (by decide) ?_
    refine x_isub (pc := 18) C dX7_putIn_18 ?_
    refine x_topi (nI q) (nI_pred q) ?_
    refine x_iconst (pc := 19) C (2) dX7_putIn_19 (by decide) ?_
    refine x_cV2 (pc := 20) (o := 200) C v_X7_45 dX7_putIn_20 (c_X7_of hI (q) (2) (by omega)) (hI 200 rfl) rfl (by decide) rfl ⟨Nat.le_refl _, Nat.le_refl _⟩ ?_
    refine x_topi (RF V 2 q) (shR_at (by decide)) ?_
    refine x_imul (pc := 23) C dX7_putIn_23 ?_
    refine x_aload_n (pc := 24) C dX7_putIn_24 rfl ?_
    refine x_iload_n (pc := 25) C dX7_putIn_25 rfl ?_
    refine x_iconst (pc := 26) C (1) dX7_putIn_26 (by decide) ?_
    refine x_isub (pc := 27) C dX7_putIn_27 ?_
    refine x_topi (nI q) (nI_pred q) ?_
    refine x_iconst (pc := 28) C (3) dX7_putIn_28 (by decide) ?_
    refine x_cV2 (pc := 29) (o := 200) C v_X7_45 dX7_putIn_29 (c_X7_of hI (q) (3) (by omega)) (hI 200 rfl) rfl (by decide) rfl ⟨Nat.le_refl _, Nat.le_refl _⟩ ?_
    refine x_topi (RF V 3 q) (shR_at (by decide)) ?_
    refine x_iadd (pc := 32) C dX7_putIn_32 ?_
    refine x_sipush (pc := 33) C (1440) dX7_putIn_33 (by decide) ?_
    refine x_aload_n (pc := 36) C dX7_putIn_36 rfl ?_
    refine x_getR (pc := 37) (o := 200) (j := 204) C f_X7_19 dX7_putIn_37 (hI 200 rfl) ⟨rfl, rfl⟩ ?_
    refine x_iconst (pc := 40) C (2) dX7_putIn_40 (by decide) ?_
    refine x_topi (nI 2) (by decide) ?_
    refine x_iald (pc := 41) (o := 204) C dX7_putIn_41 (hI 204 rfl) ⟨rfl, rfl⟩ (show _ < 8 by decide) (by decide) ?_
    refine x_topi (V 204 2) (shR_no (by decide)) ?_
    refine x_imul (pc := 42) C dX7_putIn_42 ?_
    refine x_aload_n (pc := 43) C dX7_putIn_43 rfl ?_
    refine x_getR (pc := 44) (o := 200) (j := 204) C f_X7_19 dX7_putIn_44 (hI 200 rfl) ⟨rfl, rfl⟩ ?_
    refine x_iconst (pc := 47) C (3) dX7_putIn_47 (by decide) ?_
    refine x_topi (nI 3) (by decide) ?_
    refine x_iald (pc := 48) (o := 204) C dX7_putIn_48 (hI 204 rfl) ⟨rfl, rfl⟩ (show _ < 8 by decide) (by decide) ?_
    refine x_topi (V 204 3) (shR_no (by decide)) ?_
    refine x_iadd (pc := 49) C dX7_putIn_49 ?_
    refine x_icmp_le (pc := 50) (tgt := 87) C dX7_putIn_50 (by decide) (fun h50 => ?_) (fun h50 => ?_)
    · exact J87 (q + 1) none (by omega) (by rw [← hp, plcR]; exact (if_neg (Int32.not_lt.mpr h50)).symm)
    · have hp2 : plcR (keyS (RF V)) (1440 * V 204 2 + V 204 3) q = plcR (keyS (RF V)) (1440 * V 204 2 + V 204 3) n := by rw [← hp, plcR]; exact (if_pos (Int32.not_le.mp h50)).symm
      refine x_iconst (pc := 53) C (0) dX7_putIn_53 (by decide) ?_
      refine y_istore_n (pc := 54) C dX7_putIn_54 (by decide) rfl ?_
      have ih2 := ih
      suffices key : ∀ (k i : Nat) (V2 : VV), k + i = 8 → (V2 = rowR (shR V (q + 1) n) (q + 1) i) → Wx E 55 [some (aR 200), some (aI (nI (q + 1))), some (aI (nI i))] [] V2 L N I 0 0 by
        exact key (8) 0 _ (by omega) (rowR_0.symm)
      intro k
      induction k with
      | zero =>
        intro i V2 hk hinv
        refine x_iload_n (pc := 55) C dX7_putIn_55 rfl ?_
        refine x_bipush (pc := 56) C (8) dX7_putIn_56 (by decide) ?_
        refine x_icmp_ge (pc := 58) (tgt := 81) C dX7_putIn_58 (by decide) (fun h58 => ?_) (fun h58 => absurd (by exact nI_le (a := 8) (b := i) (by omega) (by omega)) h58)
        refine y_iinc (pc := 81) C (nI q) dX7_putIn_81 rfl (by exact pk_m1 q) (by decide) rfl ?_
        refine x_goto (pc := 84) (tgt := 8) C dX7_putIn_84 (by decide) ?_
        refine x_fgt 2 ?_
        rw [hinv, show i = 8 by omega, rowR_8 hq]; exact ih2 (by omega) hp2
      | succ k ih =>
        intro i V2 hk hinv
        refine x_iload_n (pc := 55) C dX7_putIn_55 rfl ?_
        refine x_bipush (pc := 56) C (8) dX7_putIn_56 (by decide) ?_
        refine x_icmp_ge (pc := 58) (tgt := 81) C dX7_putIn_58 (by decide) (fun h58 => absurd h58 (by exact nI_ge (a := i) (b := 8) (by omega) (by omega))) (fun h58 => ?_)
        refine x_aload_n (pc := 61) C dX7_putIn_61 rfl ?_
        refine x_iload_n (pc := 62) C dX7_putIn_62 rfl ?_
        refine x_iload_n (pc := 63) C dX7_putIn_63 rfl ?_
        refine x_aload_n (pc := 64) C dX7_putIn_64 rfl ?_
        refine x_iload_n (pc := 65) C dX7_putIn_65 rfl ?_
        refine x_iconst (pc := 66) C (1) dX7_putIn_66 (by decide) ?_
        refine x_isub (pc := 67) C dX7_putIn_67 ?_
        refine x_topi (nI q) (nI_pred q) ?_
        refine x_iload_n (pc := 68) C dX7_putIn_68 rfl ?_
        refine x_cV2 (pc := 69) (o := 200) C v_X7_45 dX7_putIn_69 (c_X7_of hI (q) (i) (by omega)) (hI 200 rfl) rfl (by decide) rfl ⟨Nat.le_refl _, Nat.le_refl _⟩ ?_
        refine x_topi (shR V (q + 1) n 201 (40 + 8 * q + i)) (by rw [hinv]; exact rowR_at (by omega)) ?_
        refine x_cV3 (pc := 72) (o := 200) C v_X7_80 dX7_putIn_72 (c_X7_put hI (q + 1) (i) _ (by omega)) (hI 200 rfl) rfl (by decide) rfl ⟨Nat.le_refl _, Nat.le_refl _⟩ ?_
        refine y_iinc (pc := 75) C (nI (i + 1)) dX7_putIn_75 rfl (by exact nI_1 i) (by decide) rfl ?_
        refine x_goto (pc := 78) (tgt := 55) C dX7_putIn_78 (by decide) ?_
        exact ih (i + 1) _ (by omega) (by rw [hinv]; exact rowR_s (by omega))
set_option maxRecDepth 100000 in
set_option maxHeartbeats 4000000 in
theorem c_X7_takeOut {l : Launch} {V : VV} {L : LL} {N : NN} {I : List Nat} (hI : PI I) {n : Nat} (hn : V 201 39 = nI (n + 1)) (hn24 : n < 24) (p : Nat) (hp : p ≤ n) : Runs l 2 0 0 yX7_takeOut (Cond.code yX7_takeOut cX7_takeOut 3 none) [aR 200, aI (nI p)] V L N I (Is none (delR V n p) (L) N I) := by
  refine run_of RX7 (by decide +kernel) rfl (Nat.le_of_ble_eq_true rfl) (fun E hE C hQ hN => ?_)
  subst hE
  refine x_aload_n (pc := 0) C dX7_takeOut_0 rfl ?_
  refine x_getR (pc := 1) (o := 200) (j := 201) C f_X7_7 dX7_takeOut_1 (hI 200 rfl) ⟨rfl, rfl⟩ ?_
  refine x_bipush (pc := 4) C (39) dX7_takeOut_4 (by decide) ?_
  refine x_dup2 (pc := 6) C dX7_takeOut_6 rfl rfl ?_
  refine x_topi (nI 39) (by decide) ?_
  refine x_iald (pc := 7) (o := 201) C dX7_takeOut_7 (hI 201 rfl) ⟨rfl, rfl⟩ (show _ < 232 by decide) (by decide) ?_
  refine x_topi (nI (n + 1)) hn ?_
  refine x_iconst (pc := 8) C (1) dX7_takeOut_8 (by decide) ?_
  refine x_isub (pc := 9) C dX7_takeOut_9 ?_
  refine x_topi (nI n) (nI_pred n) ?_
  refine x_top2i (nI 39) (by decide) ?_
  refine x_iast (pc := 10) (o := 201) C dX7_takeOut_10 (hI 201 rfl) ⟨rfl, rfl⟩ (show _ < 232 by decide) (by decide) ?_
  refine x_bipush (pc := 11) C (40) dX7_takeOut_11 (by decide) ?_
  refine x_bipush (pc := 13) C (8) dX7_takeOut_13 (by decide) ?_
  refine x_iload_n (pc := 15) C dX7_takeOut_15 rfl ?_
  refine x_imul (pc := 16) C dX7_takeOut_16 ?_
  refine x_iadd (pc := 17) C dX7_takeOut_17 ?_
  refine x_topi (nI (40 + 8 * p)) (z_ix2 (a := 40) (b := 8)) ?_
  refine y_istore_n (pc := 18) C dX7_takeOut_18 (by decide) rfl ?_
  suffices key : ∀ (k i : Nat), k + i = 40 + 8 * n → 40 + 8 * p ≤ i → Wx E 19 [some (aR 200), some (aI (nI p)), some (aI (nI i))] [] (slR (up V 201 39 (nI n)) p i) L N I 0 0 by
    have := key (8 * n - 8 * p) (40 + 8 * p) (by omega) (Nat.le_refl _)
    rw [slR_0] at this; exact this
  intro k
  induction k with
  | zero =>
    intro i hk hpi
    refine x_iload_n (pc := 19) C dX7_takeOut_19 rfl ?_
    refine x_bipush (pc := 20) C (40) dX7_takeOut_20 (by decide) ?_
    refine x_bipush (pc := 22) C (8) dX7_takeOut_22 (by decide) ?_
    refine x_aload_n (pc := 24) C dX7_takeOut_24 rfl ?_
    refine x_getR (pc := 25) (o := 200) (j := 201) C f_X7_7 dX7_takeOut_25 (hI 200 rfl) ⟨rfl, rfl⟩ ?_
    refine x_bipush (pc := 28) C (39) dX7_takeOut_28 (by decide) ?_
    refine x_topi (nI 39) (by decide) ?_
    refine x_iald (pc := 30) (o := 201) C dX7_takeOut_30 (hI 201 rfl) ⟨rfl, rfl⟩ (show _ < 232 by decide) (by decide) ?_
    refine x_topi (nI n) (by rw [slR_lo (by decide), up_ss]) ?_
    refine x_imul (pc := 31) C dX7_takeOut_31 ?_
    refine x_iadd (pc := 32) C dX7_takeOut_32 ?_
    refine x_topi (nI (40 + 8 * n)) (z_ix2 (a := 40) (b := 8)) ?_
    refine x_icmp_ge (pc := 33) (tgt := 57) C dX7_takeOut_33 (by decide) (fun h33 => ?_) (fun h33 => absurd (by exact nI_le (by omega) (by omega)) h33)
    refine x_iconst (pc := 57) C (0) dX7_takeOut_57 (by decide) ?_
    refine y_istore_n (pc := 58) C dX7_takeOut_58 (by decide) rfl ?_
    suffices key : ∀ (k j : Nat) (V2 : VV), k + j = n → (V2 = dcR (slR (up V 201 39 (nI n)) p i) p j) → Wx E 59 [some (aR 200), some (aI (nI p)), some (aI (nI j))] [] V2 L N I 0 0 by
      exact key (n) 0 _ (by omega) (dcR_0.symm)
    intro k
    induction k with
    | zero =>
      intro j V2 hk hinv
      refine x_iload_n (pc := 59) C dX7_takeOut_59 rfl ?_
      refine x_aload_n (pc := 60) C dX7_takeOut_60 rfl ?_
      refine x_getR (pc := 61) (o := 200) (j := 201) C f_X7_7 dX7_takeOut_61 (hI 200 rfl) ⟨rfl, rfl⟩ ?_
      refine x_bipush (pc := 64) C (39) dX7_takeOut_64 (by decide) ?_
      refine x_topi (nI 39) (by decide) ?_
      refine x_iald (pc := 66) (o := 201) C dX7_takeOut_66 (hI 201 rfl) ⟨rfl, rfl⟩ (show _ < 232 by decide) (by decide) ?_
      refine x_topi (nI n) (by rw [hinv, dcR_lo (by decide), slR_lo (by decide), up_ss]) ?_
      refine x_icmp_ge (pc := 67) (tgt := 103) C dX7_takeOut_67 (by decide) (fun h67 => ?_) (fun h67 => absurd (by exact nI_le (by omega) (by omega)) h67)
      exact x_vret (pc := 103) C hQ dX7_takeOut_103 (is_v (by rw [hinv, show i = 40 + 8 * n by omega, show j = n by omega]; rfl)) (Nat.le_of_ble_eq_true rfl) (Nat.le_of_ble_eq_true rfl)
    | succ k ih =>
      intro j V2 hk hinv
      refine x_iload_n (pc := 59) C dX7_takeOut_59 rfl ?_
      refine x_aload_n (pc := 60) C dX7_takeOut_60 rfl ?_
      refine x_getR (pc := 61) (o := 200) (j := 201) C f_X7_7 dX7_takeOut_61 (hI 200 rfl) ⟨rfl, rfl⟩ ?_
      refine x_bipush (pc := 64) C (39) dX7_takeOut_64 (by decide) ?_
      refine x_topi (nI 39) (by decide) ?_
      refine x_iald (pc := 66) (o := 201) C dX7_takeOut_66 (hI 201 rfl) ⟨rfl, rfl⟩ (show _ < 232 by decide) (by decide) ?_
      refine x_topi (nI n) (by rw [hinv, dcR_lo (by decide), slR_lo (by decide), up_ss]) ?_
      refine x_icmp_ge (pc := 67) (tgt := 103) C dX7_takeOut_67 (by decide) (fun h67 => absurd h67 (by exact nI_ge (by omega) (by omega))) (fun h67 => ?_)
      refine x_aload_n (pc := 70) C dX7_takeOut_70 rfl ?_
      refine x_iload_n (pc := 71) C dX7_takeOut_71 rfl ?_
      refine x_bipush (pc := 72) C (7) dX7_takeOut_72 (by decide) ?_
      refine x_cV2 (pc := 74) (o := 200) C v_X7_45 dX7_takeOut_74 (c_X7_of hI (j) (7) (by omega)) (hI 200 rfl) rfl (by decide) rfl ⟨Nat.le_refl _, Nat.le_refl _⟩ ?_
      refine x_topi ((slR (up V 201 39 (nI n)) p i) 201 (40 + 8 * j + 7)) (by rw [hinv]; exact dcR_at) ?_
      refine x_iload_n (pc := 77) C dX7_takeOut_77 rfl ?_
      refine x_icmp_le (pc := 78) (tgt := 97) C dX7_takeOut_78 (by decide) (fun h78 => ?_) (fun h78 => ?_)
      · refine y_iinc (pc := 97) C (nI (j + 1)) dX7_takeOut_97 rfl (by exact nI_1 j) (by decide) rfl ?_
        refine x_goto (pc := 100) (tgt := 59) C dX7_takeOut_100 (by decide) ?_
        exact ih (j + 1) _ (by omega) (by rw [hinv]; exact dcR_f (Int32.not_lt.mpr h78))
      · refine x_aload_n (pc := 81) C dX7_takeOut_81 rfl ?_
        refine x_iload_n (pc := 82) C dX7_takeOut_82 rfl ?_
        refine x_bipush (pc := 83) C (7) dX7_takeOut_83 (by decide) ?_
        refine x_aload_n (pc := 85) C dX7_takeOut_85 rfl ?_
        refine x_iload_n (pc := 86) C dX7_takeOut_86 rfl ?_
        refine x_bipush (pc := 87) C (7) dX7_takeOut_87 (by decide) ?_
        refine x_cV2 (pc := 89) (o := 200) C v_X7_45 dX7_takeOut_89 (c_X7_of hI (j) (7) (by omega)) (hI 200 rfl) rfl (by decide) rfl ⟨Nat.le_refl _, Nat.le_refl _⟩ ?_
        refine x_topi ((slR (up V 201 39 (nI n)) p i) 201 (40 + 8 * j + 7)) (by rw [hinv]; exact dcR_at) ?_
        refine x_iconst (pc := 92) C (1) dX7_takeOut_92 (by decide) ?_
        refine x_isub (pc := 93) C dX7_takeOut_93 ?_
        refine x_cV3 (pc := 94) (o := 200) C v_X7_80 dX7_takeOut_94 (c_X7_put hI (j) (7) _ (by omega)) (hI 200 rfl) rfl (by decide) rfl ⟨Nat.le_refl _, Nat.le_refl _⟩ ?_
        refine y_iinc (pc := 97) C (nI (j + 1)) dX7_takeOut_97 rfl (by exact nI_1 j) (by decide) rfl ?_
        refine x_goto (pc := 100) (tgt := 59) C dX7_takeOut_100 (by decide) ?_
        exact ih (j + 1) _ (by omega) (by rw [hinv]; exact dcR_t (Int32.not_le.mp h78))
  | succ k ih =>
    intro i hk hpi
    refine x_iload_n (pc := 19) C dX7_takeOut_19 rfl ?_
    refine x_bipush (pc := 20) C (40) dX7_takeOut_20 (by decide) ?_
    refine x_bipush (pc := 22) C (8) dX7_takeOut_22 (by decide) ?_
    refine x_aload_n (pc := 24) C dX7_takeOut_24 rfl ?_
    refine x_getR (pc := 25) (o := 200) (j := 201) C f_X7_7 dX7_takeOut_25 (hI 200 rfl) ⟨rfl, rfl⟩ ?_
    refine x_bipush (pc := 28) C (39) dX7_takeOut_28 (by decide) ?_
    refine x_topi (nI 39) (by decide) ?_
    refine x_iald (pc := 30) (o := 201) C dX7_takeOut_30 (hI 201 rfl) ⟨rfl, rfl⟩ (show _ < 232 by decide) (by decide) ?_
    refine x_topi (nI n) (by rw [slR_lo (by decide), up_ss]) ?_
    refine x_imul (pc := 31) C dX7_takeOut_31 ?_
    refine x_iadd (pc := 32) C dX7_takeOut_32 ?_
    refine x_topi (nI (40 + 8 * n)) (z_ix2 (a := 40) (b := 8)) ?_
    refine x_icmp_ge (pc := 33) (tgt := 57) C dX7_takeOut_33 (by decide) (fun h33 => absurd h33 (by exact nI_ge (by omega) (by omega))) (fun h33 => ?_)
    refine x_aload_n (pc := 36) C dX7_takeOut_36 rfl ?_
    refine x_getR (pc := 37) (o := 200) (j := 201) C f_X7_7 dX7_takeOut_37 (hI 200 rfl) ⟨rfl, rfl⟩ ?_
    refine x_iload_n (pc := 40) C dX7_takeOut_40 rfl ?_
    refine x_aload_n (pc := 41) C dX7_takeOut_41 rfl ?_
    refine x_getR (pc := 42) (o := 200) (j := 201) C f_X7_7 dX7_takeOut_42 (hI 200 rfl) ⟨rfl, rfl⟩ ?_
    refine x_iload_n (pc := 45) C dX7_takeOut_45 rfl ?_
    refine x_bipush (pc := 46) C (8) dX7_takeOut_46 (by decide) ?_
    refine x_iadd (pc := 48) C dX7_takeOut_48 ?_
    refine x_topi (nI (i + 8)) (by rw [show (8 : Int32) = nI 8 from rfl, nI_add]) ?_
    refine x_iald (pc := 49) (o := 201) C dX7_takeOut_49 (hI 201 rfl) ⟨rfl, rfl⟩ (show _ < 232 by omega) (by decide) ?_
    refine x_topi ((up V 201 39 (nI n)) 201 (i + 8)) slR_at ?_
    refine x_iast (pc := 50) (o := 201) C dX7_takeOut_50 (hI 201 rfl) ⟨rfl, rfl⟩ (show _ < 232 by omega) (by decide) ?_
    refine x_mem (slR_s hpi) ?_
    refine y_iinc (pc := 51) C (nI (i + 1)) dX7_takeOut_51 rfl (by exact nI_1 i) (by decide) rfl ?_
    refine x_goto (pc := 54) (tgt := 19) C dX7_takeOut_54 (by decide) ?_
    exact ih (i + 1) (by omega) (by omega)
