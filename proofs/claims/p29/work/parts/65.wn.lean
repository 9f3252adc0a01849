set_option maxRecDepth 100000 in
set_option maxHeartbeats 4000000 in
theorem c_X6_countOf {l : Launch} {V : VV} {L : LL} {N : NN} {I : List Nat} (hI : PI I) {n : Nat} (hn : V 20 7 = nI n) (hn24 : n ≤ 24) (w : Nat) (hw : w < 8) : Runs l 6 0 0 yX6_countOf (Cond.code yX6_countOf cX6_countOf 2 (some .int)) [aR 0, aI (nI w)] V L N I (Is (some (aI (wnV V n w))) (V) (L) N I) := by
  refine run_of RX6 (by decide +kernel) rfl (Nat.le_of_ble_eq_true rfl) (fun E hE C hQ hN => ?_)
  subst hE
  refine x_iload_n (pc := 0) C dX6_countOf_0 rfl ?_
  rcases (show w = 0 ∨ w = 1 ∨ w = 2 ∨ w = 3 ∨ w = 4 ∨ w = 5 ∨ w = 6 ∨ 6 < w by omega) with rfl | rfl | rfl | rfl | rfl | rfl | rfl | hsw1
  · refine x_tableInN (pc := 1) (c := 0) (tgt := 44) C dX6_countOf_1 (by decide) (by decide) (by decide) rfl (by decide) ?_
    refine x_aload_n (pc := 44) C dX6_countOf_44 rfl ?_
    refine x_getR (pc := 45) (o := 0) (j := 20) C f_X6_10 dX6_countOf_45 (hI 0 rfl) ⟨rfl, rfl⟩ ?_
    refine x_getI (pc := 48) (o := 20) C f_X6_135 dX6_countOf_48 (hI 20 rfl) ⟨rfl, rfl, rfl⟩ ?_
    exact x_iret (pc := 51) C hQ dX6_countOf_51 (is_i rfl) (Nat.le_of_ble_eq_true rfl) (Nat.le_of_ble_eq_true rfl)
  · refine x_tableInN (pc := 1) (c := 1) (tgt := 52) C dX6_countOf_1 (by decide) (by decide) (by decide) rfl (by decide) ?_
    refine x_aload_n (pc := 52) C dX6_countOf_52 rfl ?_
    refine x_getR (pc := 53) (o := 0) (j := 20) C f_X6_10 dX6_countOf_53 (hI 0 rfl) ⟨rfl, rfl⟩ ?_
    refine x_getI (pc := 56) (o := 20) C f_X6_257 dX6_countOf_56 (hI 20 rfl) ⟨rfl, rfl, rfl⟩ ?_
    exact x_iret (pc := 59) C hQ dX6_countOf_59 (is_i rfl) (Nat.le_of_ble_eq_true rfl) (Nat.le_of_ble_eq_true rfl)
  · refine x_tableInN (pc := 1) (c := 2) (tgt := 60) C dX6_countOf_1 (by decide) (by decide) (by decide) rfl (by decide) ?_
    refine x_aload_n (pc := 60) C dX6_countOf_60 rfl ?_
    refine x_getR (pc := 61) (o := 0) (j := 20) C f_X6_10 dX6_countOf_61 (hI 0 rfl) ⟨rfl, rfl⟩ ?_
    refine x_iconst (pc := 64) C (0) dX6_countOf_64 (by decide) ?_
    refine x_cV1 (pc := 65) (o := 20) C v_X6_332 dX6_countOf_65 (c_X3_showsOfKind hI hn hn24 _) (hI 20 rfl) rfl (by decide) rfl ⟨Nat.le_refl _, Nat.le_refl _⟩ ?_
    exact x_iret (pc := 68) C hQ dX6_countOf_68 (is_i rfl) (Nat.le_of_ble_eq_true rfl) (Nat.le_of_ble_eq_true rfl)
  · refine x_tableInN (pc := 1) (c := 3) (tgt := 69) C dX6_countOf_1 (by decide) (by decide) (by decide) rfl (by decide) ?_
    refine x_aload_n (pc := 69) C dX6_countOf_69 rfl ?_
    refine x_getR (pc := 70) (o := 0) (j := 20) C f_X6_10 dX6_countOf_70 (hI 0 rfl) ⟨rfl, rfl⟩ ?_
    refine x_iconst (pc := 73) C (2) dX6_countOf_73 (by decide) ?_
    refine x_cV1 (pc := 74) (o := 20) C v_X6_332 dX6_countOf_74 (c_X3_showsOfKind hI hn hn24 _) (hI 20 rfl) rfl (by decide) rfl ⟨Nat.le_refl _, Nat.le_refl _⟩ ?_
    exact x_iret (pc := 77) C hQ dX6_countOf_77 (is_i rfl) (Nat.le_of_ble_eq_true rfl) (Nat.le_of_ble_eq_true rfl)
  · refine x_tableInN (pc := 1) (c := 4) (tgt := 78) C dX6_countOf_1 (by decide) (by decide) (by decide) rfl (by decide) ?_
    refine x_aload_n (pc := 78) C dX6_countOf_78 rfl ?_
    refine x_getR (pc := 79) (o := 0) (j := 6) C f_X6_40 dX6_countOf_79 (hI 0 rfl) ⟨rfl, rfl⟩ ?_
    refine x_aload_n (pc := 82) C dX6_countOf_82 rfl ?_
    refine x_getR (pc := 83) (o := 0) (j := 20) C f_X6_10 dX6_countOf_83 (hI 0 rfl) ⟨rfl, rfl⟩ ?_
    refine x_cV1 (pc := 86) (o := 6) C v_X6_335 dX6_countOf_86 (c_X0_delayedShows hI hn hn24) (hI 6 rfl) rfl (by decide) rfl ⟨Nat.le_refl _, Nat.le_refl _⟩ ?_
    exact x_iret (pc := 89) C hQ dX6_countOf_89 (is_i rfl) (Nat.le_of_ble_eq_true rfl) (Nat.le_of_ble_eq_true rfl)
  · refine x_tableInN (pc := 1) (c := 5) (tgt := 90) C dX6_countOf_1 (by decide) (by decide) (by decide) rfl (by decide) ?_
    refine x_aload_n (pc := 90) C dX6_countOf_90 rfl ?_
    refine x_getR (pc := 91) (o := 0) (j := 6) C f_X6_40 dX6_countOf_91 (hI 0 rfl) ⟨rfl, rfl⟩ ?_
    refine x_aload_n (pc := 94) C dX6_countOf_94 rfl ?_
    refine x_getR (pc := 95) (o := 0) (j := 20) C f_X6_10 dX6_countOf_95 (hI 0 rfl) ⟨rfl, rfl⟩ ?_
    refine x_cV1 (pc := 98) (o := 6) C v_X6_339 dX6_countOf_98 (c_X0_droppedShows hI hn hn24) (hI 6 rfl) rfl (by decide) rfl ⟨Nat.le_refl _, Nat.le_refl _⟩ ?_
    exact x_iret (pc := 101) C hQ dX6_countOf_101 (is_i rfl) (Nat.le_of_ble_eq_true rfl) (Nat.le_of_ble_eq_true rfl)
  · refine x_tableInN (pc := 1) (c := 6) (tgt := 102) C dX6_countOf_1 (by decide) (by decide) (by decide) rfl (by decide) ?_
    refine x_aload_n (pc := 102) C dX6_countOf_102 rfl ?_
    refine x_getR (pc := 103) (o := 0) (j := 1) C f_X6_19 dX6_countOf_103 (hI 0 rfl) ⟨rfl, rfl⟩ ?_
    refine x_getI (pc := 106) (o := 1) C f_X6_186 dX6_countOf_106 (hI 1 rfl) ⟨rfl, rfl, rfl⟩ ?_
    exact x_iret (pc := 109) C hQ dX6_countOf_109 (is_i rfl) (Nat.le_of_ble_eq_true rfl) (Nat.le_of_ble_eq_true rfl)
  · refine x_tableOut (pc := 1) (tgt := 110) C dX6_countOf_1 (Or.inr (by rw [nI_toInt (by omega)]; omega)) (by decide) ?_
    refine x_aload_n (pc := 110) C dX6_countOf_110 rfl ?_
    refine x_getR (pc := 111) (o := 0) (j := 6) C f_X6_40 dX6_countOf_111 (hI 0 rfl) ⟨rfl, rfl⟩ ?_
    refine x_aload_n (pc := 114) C dX6_countOf_114 rfl ?_
    refine x_getR (pc := 115) (o := 0) (j := 20) C f_X6_10 dX6_countOf_115 (hI 0 rfl) ⟨rfl, rfl⟩ ?_
    refine x_cV1 (pc := 118) (o := 6) C v_X6_342 dX6_countOf_118 (c_X0_minutesOfWeek hI hn hn24) (hI 6 rfl) rfl (by decide) rfl ⟨Nat.le_refl _, Nat.le_refl _⟩ ?_
    exact x_iret (pc := 121) C hQ dX6_countOf_121 (is_i (wnV_7 hsw1).symm) (Nat.le_of_ble_eq_true rfl) (Nat.le_of_ble_eq_true rfl)
