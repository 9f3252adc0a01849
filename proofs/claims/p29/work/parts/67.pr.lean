set_option maxRecDepth 100000 in
set_option maxHeartbeats 4000000 in
theorem c_X6_groupProperty {l : Launch} {V : VV} {L : LL} {N : NN} {I : List Nat} (hI : PI I) {n : Nat} (hn : V 20 7 = nI n) (hn24 : n ≤ 24) (g w : Nat) (hg : g < 6) (hw : w < 9) : Runs l 3 0 0 yX6_groupProperty (Cond.code yX6_groupProperty cX6_groupProperty 3 (some .int)) [aR 0, aI (nI g), aI (nI w)] V L N I (Is (some (aI (gpV V n g w))) (V) (L) N I) := by
  refine run_of RX6 (by decide +kernel) rfl (Nat.le_of_ble_eq_true rfl) (fun E hE C hQ hN => ?_)
  subst hE
  refine x_iload_n (pc := 0) C dX6_groupProperty_0 rfl ?_
  rcases (show w = 0 ∨ w = 1 ∨ w = 2 ∨ w = 3 ∨ w = 4 ∨ w = 5 ∨ w = 6 ∨ w = 7 ∨ 7 < w by omega) with rfl | rfl | rfl | rfl | rfl | rfl | rfl | rfl | hsw1
  · refine x_tableInN (pc := 1) (c := 0) (tgt := 48) C dX6_groupProperty_1 (by decide) (by decide) (by decide) rfl (by decide) ?_
    refine x_aload_n (pc := 48) C dX6_groupProperty_48 rfl ?_
    refine x_getR (pc := 49) (o := 0) (j := 20) C f_X6_10 dX6_groupProperty_49 (hI 0 rfl) ⟨rfl, rfl⟩ ?_
    refine x_getR (pc := 52) (o := 20) (j := 22) C f_X6_85 dX6_groupProperty_52 (hI 20 rfl) ⟨rfl, rfl⟩ ?_
    refine x_iload_n (pc := 55) C dX6_groupProperty_55 rfl ?_
    refine x_iald (pc := 56) (o := 22) C dX6_groupProperty_56 (hI 22 rfl) ⟨rfl, rfl⟩ (show _ < 6 by omega) (by decide) ?_
    exact x_iret (pc := 57) C hQ dX6_groupProperty_57 (is_i rfl) (Nat.le_of_ble_eq_true rfl) (Nat.le_of_ble_eq_true rfl)
  · refine x_tableInN (pc := 1) (c := 1) (tgt := 58) C dX6_groupProperty_1 (by decide) (by decide) (by decide) rfl (by decide) ?_
    refine x_aload_n (pc := 58) C dX6_groupProperty_58 rfl ?_
    refine x_getR (pc := 59) (o := 0) (j := 20) C f_X6_10 dX6_groupProperty_59 (hI 0 rfl) ⟨rfl, rfl⟩ ?_
    refine x_getR (pc := 62) (o := 20) (j := 23) C f_X6_311 dX6_groupProperty_62 (hI 20 rfl) ⟨rfl, rfl⟩ ?_
    refine x_iload_n (pc := 65) C dX6_groupProperty_65 rfl ?_
    refine x_iald (pc := 66) (o := 23) C dX6_groupProperty_66 (hI 23 rfl) ⟨rfl, rfl⟩ (show _ < 6 by omega) (by decide) ?_
    exact x_iret (pc := 67) C hQ dX6_groupProperty_67 (is_i rfl) (Nat.le_of_ble_eq_true rfl) (Nat.le_of_ble_eq_true rfl)
  · refine x_tableInN (pc := 1) (c := 2) (tgt := 68) C dX6_groupProperty_1 (by decide) (by decide) (by decide) rfl (by decide) ?_
    refine x_aload_n (pc := 68) C dX6_groupProperty_68 rfl ?_
    refine x_getR (pc := 69) (o := 0) (j := 20) C f_X6_10 dX6_groupProperty_69 (hI 0 rfl) ⟨rfl, rfl⟩ ?_
    refine x_iload_n (pc := 72) C dX6_groupProperty_72 rfl ?_
    refine x_cV1 (pc := 73) (o := 20) C v_X6_314 dX6_groupProperty_73 (c_X3_allowance hI g hg) (hI 20 rfl) rfl (by decide) rfl ⟨Nat.le_refl _, Nat.le_refl _⟩ ?_
    exact x_iret (pc := 76) C hQ dX6_groupProperty_76 (is_i rfl) (Nat.le_of_ble_eq_true rfl) (Nat.le_of_ble_eq_true rfl)
  · refine x_tableInN (pc := 1) (c := 3) (tgt := 77) C dX6_groupProperty_1 (by decide) (by decide) (by decide) rfl (by decide) ?_
    refine x_aload_n (pc := 77) C dX6_groupProperty_77 rfl ?_
    refine x_getR (pc := 78) (o := 0) (j := 20) C f_X6_10 dX6_groupProperty_78 (hI 0 rfl) ⟨rfl, rfl⟩ ?_
    refine x_iload_n (pc := 81) C dX6_groupProperty_81 rfl ?_
    refine x_cV1 (pc := 82) (o := 20) C v_X6_317 dX6_groupProperty_82 (c_X3_worthOfLengths hI hn hn24 _) (hI 20 rfl) rfl (by decide) rfl ⟨Nat.le_refl _, Nat.le_refl _⟩ ?_
    exact x_iret (pc := 85) C hQ dX6_groupProperty_85 (is_i rfl) (Nat.le_of_ble_eq_true rfl) (Nat.le_of_ble_eq_true rfl)
  · refine x_tableInN (pc := 1) (c := 4) (tgt := 86) C dX6_groupProperty_1 (by decide) (by decide) (by decide) rfl (by decide) ?_
    refine x_aload_n (pc := 86) C dX6_groupProperty_86 rfl ?_
    refine x_getR (pc := 87) (o := 0) (j := 6) C f_X6_40 dX6_groupProperty_87 (hI 0 rfl) ⟨rfl, rfl⟩ ?_
    refine x_aload_n (pc := 90) C dX6_groupProperty_90 rfl ?_
    refine x_getR (pc := 91) (o := 0) (j := 20) C f_X6_10 dX6_groupProperty_91 (hI 0 rfl) ⟨rfl, rfl⟩ ?_
    refine x_iload_n (pc := 94) C dX6_groupProperty_94 rfl ?_
    refine x_cV2 (pc := 95) (o := 6) C v_X6_143 dX6_groupProperty_95 (c_X0_worthOfGroup hI hn hn24 _) (hI 6 rfl) rfl (by decide) rfl ⟨Nat.le_refl _, Nat.le_refl _⟩ ?_
    exact x_iret (pc := 98) C hQ dX6_groupProperty_98 (is_i rfl) (Nat.le_of_ble_eq_true rfl) (Nat.le_of_ble_eq_true rfl)
  · refine x_tableInN (pc := 1) (c := 5) (tgt := 99) C dX6_groupProperty_1 (by decide) (by decide) (by decide) rfl (by decide) ?_
    refine x_aload_n (pc := 99) C dX6_groupProperty_99 rfl ?_
    refine x_getR (pc := 100) (o := 0) (j := 20) C f_X6_10 dX6_groupProperty_100 (hI 0 rfl) ⟨rfl, rfl⟩ ?_
    refine x_iload_n (pc := 103) C dX6_groupProperty_103 rfl ?_
    refine x_cV1 (pc := 104) (o := 20) C v_X6_320 dX6_groupProperty_104 (c_X3_showsOfGroup hI hn hn24 _) (hI 20 rfl) rfl (by decide) rfl ⟨Nat.le_refl _, Nat.le_refl _⟩ ?_
    exact x_iret (pc := 107) C hQ dX6_groupProperty_107 (is_i rfl) (Nat.le_of_ble_eq_true rfl) (Nat.le_of_ble_eq_true rfl)
  · refine x_tableInN (pc := 1) (c := 6) (tgt := 108) C dX6_groupProperty_1 (by decide) (by decide) (by decide) rfl (by decide) ?_
    refine x_aload_n (pc := 108) C dX6_groupProperty_108 rfl ?_
    refine x_getR (pc := 109) (o := 0) (j := 20) C f_X6_10 dX6_groupProperty_109 (hI 0 rfl) ⟨rfl, rfl⟩ ?_
    refine x_getR (pc := 112) (o := 20) (j := 24) C f_X6_323 dX6_groupProperty_112 (hI 20 rfl) ⟨rfl, rfl⟩ ?_
    refine x_iload_n (pc := 115) C dX6_groupProperty_115 rfl ?_
    refine x_iald (pc := 116) (o := 24) C dX6_groupProperty_116 (hI 24 rfl) ⟨rfl, rfl⟩ (show _ < 6 by omega) (by decide) ?_
    exact x_iret (pc := 117) C hQ dX6_groupProperty_117 (is_i rfl) (Nat.le_of_ble_eq_true rfl) (Nat.le_of_ble_eq_true rfl)
  · refine x_tableInN (pc := 1) (c := 7) (tgt := 118) C dX6_groupProperty_1 (by decide) (by decide) (by decide) rfl (by decide) ?_
    refine x_aload_n (pc := 118) C dX6_groupProperty_118 rfl ?_
    refine x_getR (pc := 119) (o := 0) (j := 20) C f_X6_10 dX6_groupProperty_119 (hI 0 rfl) ⟨rfl, rfl⟩ ?_
    refine x_getR (pc := 122) (o := 20) (j := 25) C f_X6_326 dX6_groupProperty_122 (hI 20 rfl) ⟨rfl, rfl⟩ ?_
    refine x_iload_n (pc := 125) C dX6_groupProperty_125 rfl ?_
    refine x_iald (pc := 126) (o := 25) C dX6_groupProperty_126 (hI 25 rfl) ⟨rfl, rfl⟩ (show _ < 6 by omega) (by decide) ?_
    exact x_iret (pc := 127) C hQ dX6_groupProperty_127 (is_i rfl) (Nat.le_of_ble_eq_true rfl) (Nat.le_of_ble_eq_true rfl)
  · refine x_tableOut (pc := 1) (tgt := 128) C dX6_groupProperty_1 (Or.inr (by rw [nI_toInt (by omega)]; omega)) (by decide) ?_
    refine x_aload_n (pc := 128) C dX6_groupProperty_128 rfl ?_
    refine x_getR (pc := 129) (o := 0) (j := 20) C f_X6_10 dX6_groupProperty_129 (hI 0 rfl) ⟨rfl, rfl⟩ ?_
    refine x_getR (pc := 132) (o := 20) (j := 26) C f_X6_329 dX6_groupProperty_132 (hI 20 rfl) ⟨rfl, rfl⟩ ?_
    refine x_iload_n (pc := 135) C dX6_groupProperty_135 rfl ?_
    refine x_iald (pc := 136) (o := 26) C dX6_groupProperty_136 (hI 26 rfl) ⟨rfl, rfl⟩ (show _ < 6 by omega) (by decide) ?_
    exact x_iret (pc := 137) C hQ dX6_groupProperty_137 (is_i (gpV_8 hsw1).symm) (Nat.le_of_ble_eq_true rfl) (Nat.le_of_ble_eq_true rfl)
set_option maxRecDepth 100000 in
set_option maxHeartbeats 4000000 in
theorem c_X6_showProperty {l : Launch} {V : VV} {L : LL} {N : NN} {I : List Nat} (hI : PI I) (s w : Nat) (hs : s < 24) (hw : w < 12) : Runs l 4 0 0 yX6_showProperty (Cond.code yX6_showProperty cX6_showProperty 3 (some .int)) [aR 0, aI (nI s), aI (nI w)] V L N I (Is (some (aI (spV V s w))) (V) (L) N I) := by
  refine run_of RX6 (by decide +kernel) rfl (Nat.le_of_ble_eq_true rfl) (fun E hE C hQ hN => ?_)
  subst hE
  refine x_iload_n (pc := 0) C dX6_showProperty_0 rfl ?_
  rcases (show w = 0 ∨ w = 1 ∨ w = 2 ∨ w = 3 ∨ w = 4 ∨ w = 5 ∨ w = 6 ∨ w = 7 ∨ w = 8 ∨ w = 9 ∨ w = 10 ∨ 10 < w by omega) with rfl | rfl | rfl | rfl | rfl | rfl | rfl | rfl | rfl | rfl | rfl | hsw1
  · refine x_tableInN (pc := 1) (c := 0) (tgt := 60) C dX6_showProperty_1 (by decide) (by decide) (by decide) rfl (by decide) ?_
    refine x_aload_n (pc := 60) C dX6_showProperty_60 rfl ?_
    refine x_getR (pc := 61) (o := 0) (j := 20) C f_X6_10 dX6_showProperty_61 (hI 0 rfl) ⟨rfl, rfl⟩ ?_
    refine x_getR (pc := 64) (o := 20) (j := 29) C f_X6_124 dX6_showProperty_64 (hI 20 rfl) ⟨rfl, rfl⟩ ?_
    refine x_iload_n (pc := 67) C dX6_showProperty_67 rfl ?_
    refine x_iald (pc := 68) (o := 29) C dX6_showProperty_68 (hI 29 rfl) ⟨rfl, rfl⟩ (show _ < 24 by omega) (by decide) ?_
    exact x_iret (pc := 69) C hQ dX6_showProperty_69 (is_i rfl) (Nat.le_of_ble_eq_true rfl) (Nat.le_of_ble_eq_true rfl)
  · refine x_tableInN (pc := 1) (c := 1) (tgt := 70) C dX6_showProperty_1 (by decide) (by decide) (by decide) rfl (by decide) ?_
    refine x_aload_n (pc := 70) C dX6_showProperty_70 rfl ?_
    refine x_getR (pc := 71) (o := 0) (j := 20) C f_X6_10 dX6_showProperty_71 (hI 0 rfl) ⟨rfl, rfl⟩ ?_
    refine x_getR (pc := 74) (o := 20) (j := 30) C f_X6_286 dX6_showProperty_74 (hI 20 rfl) ⟨rfl, rfl⟩ ?_
    refine x_iload_n (pc := 77) C dX6_showProperty_77 rfl ?_
    refine x_iald (pc := 78) (o := 30) C dX6_showProperty_78 (hI 30 rfl) ⟨rfl, rfl⟩ (show _ < 24 by omega) (by decide) ?_
    exact x_iret (pc := 79) C hQ dX6_showProperty_79 (is_i rfl) (Nat.le_of_ble_eq_true rfl) (Nat.le_of_ble_eq_true rfl)
  · refine x_tableInN (pc := 1) (c := 2) (tgt := 80) C dX6_showProperty_1 (by decide) (by decide) (by decide) rfl (by decide) ?_
    refine x_aload_n (pc := 80) C dX6_showProperty_80 rfl ?_
    refine x_getR (pc := 81) (o := 0) (j := 20) C f_X6_10 dX6_showProperty_81 (hI 0 rfl) ⟨rfl, rfl⟩ ?_
    refine x_getR (pc := 84) (o := 20) (j := 31) C f_X6_240 dX6_showProperty_84 (hI 20 rfl) ⟨rfl, rfl⟩ ?_
    refine x_iload_n (pc := 87) C dX6_showProperty_87 rfl ?_
    refine x_iald (pc := 88) (o := 31) C dX6_showProperty_88 (hI 31 rfl) ⟨rfl, rfl⟩ (show _ < 24 by omega) (by decide) ?_
    exact x_iret (pc := 89) C hQ dX6_showProperty_89 (is_i rfl) (Nat.le_of_ble_eq_true rfl) (Nat.le_of_ble_eq_true rfl)
  · refine x_tableInN (pc := 1) (c := 3) (tgt := 90) C dX6_showProperty_1 (by decide) (by decide) (by decide) rfl (by decide) ?_
    refine x_aload_n (pc := 90) C dX6_showProperty_90 rfl ?_
    refine x_getR (pc := 91) (o := 0) (j := 20) C f_X6_10 dX6_showProperty_91 (hI 0 rfl) ⟨rfl, rfl⟩ ?_
    refine x_getR (pc := 94) (o := 20) (j := 32) C f_X6_289 dX6_showProperty_94 (hI 20 rfl) ⟨rfl, rfl⟩ ?_
    refine x_iload_n (pc := 97) C dX6_showProperty_97 rfl ?_
    refine x_iald (pc := 98) (o := 32) C dX6_showProperty_98 (hI 32 rfl) ⟨rfl, rfl⟩ (show _ < 24 by omega) (by decide) ?_
    exact x_iret (pc := 99) C hQ dX6_showProperty_99 (is_i rfl) (Nat.le_of_ble_eq_true rfl) (Nat.le_of_ble_eq_true rfl)
  · refine x_tableInN (pc := 1) (c := 4) (tgt := 100) C dX6_showProperty_1 (by decide) (by decide) (by decide) rfl (by decide) ?_
    refine x_aload_n (pc := 100) C dX6_showProperty_100 rfl ?_
    refine x_getR (pc := 101) (o := 0) (j := 20) C f_X6_10 dX6_showProperty_101 (hI 0 rfl) ⟨rfl, rfl⟩ ?_
    refine x_getR (pc := 104) (o := 20) (j := 33) C f_X6_292 dX6_showProperty_104 (hI 20 rfl) ⟨rfl, rfl⟩ ?_
    refine x_iload_n (pc := 107) C dX6_showProperty_107 rfl ?_
    refine x_iald (pc := 108) (o := 33) C dX6_showProperty_108 (hI 33 rfl) ⟨rfl, rfl⟩ (show _ < 24 by omega) (by decide) ?_
    exact x_iret (pc := 109) C hQ dX6_showProperty_109 (is_i rfl) (Nat.le_of_ble_eq_true rfl) (Nat.le_of_ble_eq_true rfl)
  · refine x_tableInN (pc := 1) (c := 5) (tgt := 110) C dX6_showProperty_1 (by decide) (by decide) (by decide) rfl (by decide) ?_
    refine x_aload_n (pc := 110) C dX6_showProperty_110 rfl ?_
    refine x_getR (pc := 111) (o := 0) (j := 20) C f_X6_10 dX6_showProperty_111 (hI 0 rfl) ⟨rfl, rfl⟩ ?_
    refine x_getR (pc := 114) (o := 20) (j := 34) C f_X6_295 dX6_showProperty_114 (hI 20 rfl) ⟨rfl, rfl⟩ ?_
    refine x_iload_n (pc := 117) C dX6_showProperty_117 rfl ?_
    refine x_iald (pc := 118) (o := 34) C dX6_showProperty_118 (hI 34 rfl) ⟨rfl, rfl⟩ (show _ < 24 by omega) (by decide) ?_
    exact x_iret (pc := 119) C hQ dX6_showProperty_119 (is_i rfl) (Nat.le_of_ble_eq_true rfl) (Nat.le_of_ble_eq_true rfl)
  · refine x_tableInN (pc := 1) (c := 6) (tgt := 120) C dX6_showProperty_1 (by decide) (by decide) (by decide) rfl (by decide) ?_
    refine x_aload_n (pc := 120) C dX6_showProperty_120 rfl ?_
    refine x_getR (pc := 121) (o := 0) (j := 20) C f_X6_10 dX6_showProperty_121 (hI 0 rfl) ⟨rfl, rfl⟩ ?_
    refine x_getR (pc := 124) (o := 20) (j := 35) C f_X6_132 dX6_showProperty_124 (hI 20 rfl) ⟨rfl, rfl⟩ ?_
    refine x_iload_n (pc := 127) C dX6_showProperty_127 rfl ?_
    refine x_iald (pc := 128) (o := 35) C dX6_showProperty_128 (hI 35 rfl) ⟨rfl, rfl⟩ (show _ < 24 by omega) (by decide) ?_
    exact x_iret (pc := 129) C hQ dX6_showProperty_129 (is_i rfl) (Nat.le_of_ble_eq_true rfl) (Nat.le_of_ble_eq_true rfl)
  · refine x_tableInN (pc := 1) (c := 7) (tgt := 130) C dX6_showProperty_1 (by decide) (by decide) (by decide) rfl (by decide) ?_
    refine x_aload_n (pc := 130) C dX6_showProperty_130 rfl ?_
    refine x_getR (pc := 131) (o := 0) (j := 20) C f_X6_10 dX6_showProperty_131 (hI 0 rfl) ⟨rfl, rfl⟩ ?_
    refine x_getR (pc := 134) (o := 20) (j := 36) C f_X6_298 dX6_showProperty_134 (hI 20 rfl) ⟨rfl, rfl⟩ ?_
    refine x_iload_n (pc := 137) C dX6_showProperty_137 rfl ?_
    refine x_iald (pc := 138) (o := 36) C dX6_showProperty_138 (hI 36 rfl) ⟨rfl, rfl⟩ (show _ < 24 by omega) (by decide) ?_
    exact x_iret (pc := 139) C hQ dX6_showProperty_139 (is_i rfl) (Nat.le_of_ble_eq_true rfl) (Nat.le_of_ble_eq_true rfl)
  · refine x_tableInN (pc := 1) (c := 8) (tgt := 140) C dX6_showProperty_1 (by decide) (by decide) (by decide) rfl (by decide) ?_
    refine x_aload_n (pc := 140) C dX6_showProperty_140 rfl ?_
    refine x_getR (pc := 141) (o := 0) (j := 6) C f_X6_40 dX6_showProperty_141 (hI 0 rfl) ⟨rfl, rfl⟩ ?_
    refine x_getR (pc := 144) (o := 6) (j := 7) C f_X6_301 dX6_showProperty_144 (hI 6 rfl) ⟨rfl, rfl⟩ ?_
    refine x_iload_n (pc := 147) C dX6_showProperty_147 rfl ?_
    refine x_iald (pc := 148) (o := 7) C dX6_showProperty_148 (hI 7 rfl) ⟨rfl, rfl⟩ (show _ < 24 by omega) (by decide) ?_
    exact x_iret (pc := 149) C hQ dX6_showProperty_149 (is_i rfl) (Nat.le_of_ble_eq_true rfl) (Nat.le_of_ble_eq_true rfl)
  · refine x_tableInN (pc := 1) (c := 9) (tgt := 150) C dX6_showProperty_1 (by decide) (by decide) (by decide) rfl (by decide) ?_
    refine x_aload_n (pc := 150) C dX6_showProperty_150 rfl ?_
    refine x_getR (pc := 151) (o := 0) (j := 6) C f_X6_40 dX6_showProperty_151 (hI 0 rfl) ⟨rfl, rfl⟩ ?_
    refine x_getR (pc := 154) (o := 6) (j := 8) C f_X6_302 dX6_showProperty_154 (hI 6 rfl) ⟨rfl, rfl⟩ ?_
    refine x_iload_n (pc := 157) C dX6_showProperty_157 rfl ?_
    refine x_iald (pc := 158) (o := 8) C dX6_showProperty_158 (hI 8 rfl) ⟨rfl, rfl⟩ (show _ < 24 by omega) (by decide) ?_
    exact x_iret (pc := 159) C hQ dX6_showProperty_159 (is_i rfl) (Nat.le_of_ble_eq_true rfl) (Nat.le_of_ble_eq_true rfl)
  · refine x_tableInN (pc := 1) (c := 10) (tgt := 160) C dX6_showProperty_1 (by decide) (by decide) (by decide) rfl (by decide) ?_
    refine x_aload_n (pc := 160) C dX6_showProperty_160 rfl ?_
    refine x_getR (pc := 161) (o := 0) (j := 6) C f_X6_40 dX6_showProperty_161 (hI 0 rfl) ⟨rfl, rfl⟩ ?_
    refine x_getR (pc := 164) (o := 6) (j := 9) C f_X6_305 dX6_showProperty_164 (hI 6 rfl) ⟨rfl, rfl⟩ ?_
    refine x_iload_n (pc := 167) C dX6_showProperty_167 rfl ?_
    refine x_iald (pc := 168) (o := 9) C dX6_showProperty_168 (hI 9 rfl) ⟨rfl, rfl⟩ (show _ < 24 by omega) (by decide) ?_
    exact x_iret (pc := 169) C hQ dX6_showProperty_169 (is_i rfl) (Nat.le_of_ble_eq_true rfl) (Nat.le_of_ble_eq_true rfl)
  · refine x_tableOut (pc := 1) (tgt := 170) C dX6_showProperty_1 (Or.inr (by rw [nI_toInt (by omega)]; omega)) (by decide) ?_
    refine x_aload_n (pc := 170) C dX6_showProperty_170 rfl ?_
    refine x_getR (pc := 171) (o := 0) (j := 6) C f_X6_40 dX6_showProperty_171 (hI 0 rfl) ⟨rfl, rfl⟩ ?_
    refine x_iload_n (pc := 174) C dX6_showProperty_174 rfl ?_
    refine x_cV1 (pc := 175) (o := 6) C v_X6_308 dX6_showProperty_175 (c_X0_fate hI s hs) (hI 6 rfl) rfl (by decide) rfl ⟨Nat.le_refl _, Nat.le_refl _⟩ ?_
    exact x_iret (pc := 178) C hQ dX6_showProperty_178 (is_i (spV_1 hsw1).symm) (Nat.le_of_ble_eq_true rfl) (Nat.le_of_ble_eq_true rfl)
