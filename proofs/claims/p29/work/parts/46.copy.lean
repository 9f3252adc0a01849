set_option maxRecDepth 100000 in
set_option maxHeartbeats 4000000 in
theorem r0_X3_copyFrom {l : Launch} {V : VV} {L : LL} {N : NN} {I : List Nat} (hI : PI I) (hb : PB I 40) : Runs l 2 0 0 yX3_copyFrom (Cond.code yX3_copyFrom cX3_copyFrom 2 none) [aR 20, aR 40] V L N I (Is none (cfV V 40 20) (L) N I) := by
  refine run_of RX3 (by decide +kernel) rfl (Nat.le_of_ble_eq_true rfl) (fun E hE C hQ hN => ?_)
  subst hE
  refine x_aload_n (pc := 0) C dX3_copyFrom_0 rfl ?_
  refine x_getR (pc := 1) (o := 40) (j := 41) C f_X3_9 dX3_copyFrom_1 (hb 0 rfl) ⟨rfl, rfl⟩ ?_
  refine x_iconst (pc := 4) C (0) dX3_copyFrom_4 (by decide) ?_
  refine x_aload_n (pc := 5) C dX3_copyFrom_5 rfl ?_
  refine x_getR (pc := 6) (o := 20) (j := 21) C f_X3_9 dX3_copyFrom_6 (hI 20 rfl) ⟨rfl, rfl⟩ ?_
  refine x_iconst (pc := 9) C (0) dX3_copyFrom_9 (by decide) ?_
  refine x_bipush (pc := 10) C (8) dX3_copyFrom_10 (by decide) ?_
  refine x_topi (nI 8) (by decide) ?_
  refine x_copy (pc := 12) (o0 := 41) (o1 := 21) C q_X3_57 dX3_copyFrom_12 (by decide) (Nat.le_of_ble_eq_true rfl) (hb 1 rfl) (hI 21 rfl) ⟨rfl, rfl⟩ ⟨rfl, rfl⟩ (by decide) (by decide) (by decide) ?_ mm_copy.1 mm_copy.2.1 mm_copy.2.2
  refine x_aload_n (pc := 15) C dX3_copyFrom_15 rfl ?_
  refine x_getR (pc := 16) (o := 40) (j := 42) C f_X3_15 dX3_copyFrom_16 (hb 0 rfl) ⟨rfl, rfl⟩ ?_
  refine x_iconst (pc := 19) C (0) dX3_copyFrom_19 (by decide) ?_
  refine x_aload_n (pc := 20) C dX3_copyFrom_20 rfl ?_
  refine x_getR (pc := 21) (o := 20) (j := 22) C f_X3_15 dX3_copyFrom_21 (hI 20 rfl) ⟨rfl, rfl⟩ ?_
  refine x_iconst (pc := 24) C (0) dX3_copyFrom_24 (by decide) ?_
  refine x_bipush (pc := 25) C (6) dX3_copyFrom_25 (by decide) ?_
  refine x_topi (nI 6) (by decide) ?_
  refine x_copy (pc := 27) (o0 := 42) (o1 := 22) C q_X3_57 dX3_copyFrom_27 (by decide) (Nat.le_of_ble_eq_true rfl) (hb 2 rfl) (hI 22 rfl) ⟨rfl, rfl⟩ ⟨rfl, rfl⟩ (by decide) (by decide) (by decide) ?_ mm_copy.1 mm_copy.2.1 mm_copy.2.2
  refine x_aload_n (pc := 30) C dX3_copyFrom_30 rfl ?_
  refine x_getR (pc := 31) (o := 40) (j := 43) C f_X3_18 dX3_copyFrom_31 (hb 0 rfl) ⟨rfl, rfl⟩ ?_
  refine x_iconst (pc := 34) C (0) dX3_copyFrom_34 (by decide) ?_
  refine x_aload_n (pc := 35) C dX3_copyFrom_35 rfl ?_
  refine x_getR (pc := 36) (o := 20) (j := 23) C f_X3_18 dX3_copyFrom_36 (hI 20 rfl) ⟨rfl, rfl⟩ ?_
  refine x_iconst (pc := 39) C (0) dX3_copyFrom_39 (by decide) ?_
  refine x_bipush (pc := 40) C (6) dX3_copyFrom_40 (by decide) ?_
  refine x_topi (nI 6) (by decide) ?_
  refine x_copy (pc := 42) (o0 := 43) (o1 := 23) C q_X3_57 dX3_copyFrom_42 (by decide) (Nat.le_of_ble_eq_true rfl) (hb 3 rfl) (hI 23 rfl) ⟨rfl, rfl⟩ ⟨rfl, rfl⟩ (by decide) (by decide) (by decide) ?_ mm_copy.1 mm_copy.2.1 mm_copy.2.2
  refine x_aload_n (pc := 45) C dX3_copyFrom_45 rfl ?_
  refine x_getR (pc := 46) (o := 40) (j := 44) C f_X3_21 dX3_copyFrom_46 (hb 0 rfl) ⟨rfl, rfl⟩ ?_
  refine x_iconst (pc := 49) C (0) dX3_copyFrom_49 (by decide) ?_
  refine x_aload_n (pc := 50) C dX3_copyFrom_50 rfl ?_
  refine x_getR (pc := 51) (o := 20) (j := 24) C f_X3_21 dX3_copyFrom_51 (hI 20 rfl) ⟨rfl, rfl⟩ ?_
  refine x_iconst (pc := 54) C (0) dX3_copyFrom_54 (by decide) ?_
  refine x_bipush (pc := 55) C (6) dX3_copyFrom_55 (by decide) ?_
  refine x_topi (nI 6) (by decide) ?_
  refine x_copy (pc := 57) (o0 := 44) (o1 := 24) C q_X3_57 dX3_copyFrom_57 (by decide) (Nat.le_of_ble_eq_true rfl) (hb 4 rfl) (hI 24 rfl) ⟨rfl, rfl⟩ ⟨rfl, rfl⟩ (by decide) (by decide) (by decide) ?_ mm_copy.1 mm_copy.2.1 mm_copy.2.2
  refine x_aload_n (pc := 60) C dX3_copyFrom_60 rfl ?_
  refine x_getR (pc := 61) (o := 40) (j := 45) C f_X3_24 dX3_copyFrom_61 (hb 0 rfl) ⟨rfl, rfl⟩ ?_
  refine x_iconst (pc := 64) C (0) dX3_copyFrom_64 (by decide) ?_
  refine x_aload_n (pc := 65) C dX3_copyFrom_65 rfl ?_
  refine x_getR (pc := 66) (o := 20) (j := 25) C f_X3_24 dX3_copyFrom_66 (hI 20 rfl) ⟨rfl, rfl⟩ ?_
  refine x_iconst (pc := 69) C (0) dX3_copyFrom_69 (by decide) ?_
  refine x_bipush (pc := 70) C (6) dX3_copyFrom_70 (by decide) ?_
  refine x_topi (nI 6) (by decide) ?_
  refine x_copy (pc := 72) (o0 := 45) (o1 := 25) C q_X3_57 dX3_copyFrom_72 (by decide) (Nat.le_of_ble_eq_true rfl) (hb 5 rfl) (hI 25 rfl) ⟨rfl, rfl⟩ ⟨rfl, rfl⟩ (by decide) (by decide) (by decide) ?_ mm_copy.1 mm_copy.2.1 mm_copy.2.2
  refine x_aload_n (pc := 75) C dX3_copyFrom_75 rfl ?_
  refine x_getR (pc := 76) (o := 40) (j := 46) C f_X3_27 dX3_copyFrom_76 (hb 0 rfl) ⟨rfl, rfl⟩ ?_
  refine x_iconst (pc := 79) C (0) dX3_copyFrom_79 (by decide) ?_
  refine x_aload_n (pc := 80) C dX3_copyFrom_80 rfl ?_
  refine x_getR (pc := 81) (o := 20) (j := 26) C f_X3_27 dX3_copyFrom_81 (hI 20 rfl) ⟨rfl, rfl⟩ ?_
  refine x_iconst (pc := 84) C (0) dX3_copyFrom_84 (by decide) ?_
  refine x_bipush (pc := 85) C (6) dX3_copyFrom_85 (by decide) ?_
  refine x_topi (nI 6) (by decide) ?_
  refine x_copy (pc := 87) (o0 := 46) (o1 := 26) C q_X3_57 dX3_copyFrom_87 (by decide) (Nat.le_of_ble_eq_true rfl) (hb 6 rfl) (hI 26 rfl) ⟨rfl, rfl⟩ ⟨rfl, rfl⟩ (by decide) (by decide) (by decide) ?_ mm_copy.1 mm_copy.2.1 mm_copy.2.2
  refine x_aload_n (pc := 90) C dX3_copyFrom_90 rfl ?_
  refine x_aload_n (pc := 91) C dX3_copyFrom_91 rfl ?_
  refine x_getI (pc := 92) (o := 40) C f_X3_63 dX3_copyFrom_92 (hb 0 rfl) ⟨rfl, rfl, rfl⟩ ?_
  refine x_putI (pc := 95) (o := 20) C p_X3_63 dX3_copyFrom_95 (hI 20 rfl) ⟨rfl, rfl, rfl⟩ ?_
  refine x_aload_n (pc := 98) C dX3_copyFrom_98 rfl ?_
  refine x_aload_n (pc := 99) C dX3_copyFrom_99 rfl ?_
  refine x_getI (pc := 100) (o := 40) C f_X3_67 dX3_copyFrom_100 (hb 0 rfl) ⟨rfl, rfl, rfl⟩ ?_
  refine x_putI (pc := 103) (o := 20) C p_X3_67 dX3_copyFrom_103 (hI 20 rfl) ⟨rfl, rfl, rfl⟩ ?_
  refine x_aload_n (pc := 106) C dX3_copyFrom_106 rfl ?_
  refine x_getR (pc := 107) (o := 40) (j := 49) C f_X3_30 dX3_copyFrom_107 (hb 0 rfl) ⟨rfl, rfl⟩ ?_
  refine x_iconst (pc := 110) C (0) dX3_copyFrom_110 (by decide) ?_
  refine x_aload_n (pc := 111) C dX3_copyFrom_111 rfl ?_
  refine x_getR (pc := 112) (o := 20) (j := 29) C f_X3_30 dX3_copyFrom_112 (hI 20 rfl) ⟨rfl, rfl⟩ ?_
  refine x_iconst (pc := 115) C (0) dX3_copyFrom_115 (by decide) ?_
  refine x_bipush (pc := 116) C (24) dX3_copyFrom_116 (by decide) ?_
  refine x_topi (nI 24) (by decide) ?_
  refine x_copy (pc := 118) (o0 := 49) (o1 := 29) C q_X3_57 dX3_copyFrom_118 (by decide) (Nat.le_of_ble_eq_true rfl) (hb 9 rfl) (hI 29 rfl) ⟨rfl, rfl⟩ ⟨rfl, rfl⟩ (by decide) (by decide) (by decide) ?_ mm_copy.1 mm_copy.2.1 mm_copy.2.2
  refine x_aload_n (pc := 121) C dX3_copyFrom_121 rfl ?_
  refine x_getR (pc := 122) (o := 40) (j := 50) C f_X3_33 dX3_copyFrom_122 (hb 0 rfl) ⟨rfl, rfl⟩ ?_
  refine x_iconst (pc := 125) C (0) dX3_copyFrom_125 (by decide) ?_
  refine x_aload_n (pc := 126) C dX3_copyFrom_126 rfl ?_
  refine x_getR (pc := 127) (o := 20) (j := 30) C f_X3_33 dX3_copyFrom_127 (hI 20 rfl) ⟨rfl, rfl⟩ ?_
  refine x_iconst (pc := 130) C (0) dX3_copyFrom_130 (by decide) ?_
  refine x_bipush (pc := 131) C (24) dX3_copyFrom_131 (by decide) ?_
  refine x_topi (nI 24) (by decide) ?_
  refine x_copy (pc := 133) (o0 := 50) (o1 := 30) C q_X3_57 dX3_copyFrom_133 (by decide) (Nat.le_of_ble_eq_true rfl) (hb 10 rfl) (hI 30 rfl) ⟨rfl, rfl⟩ ⟨rfl, rfl⟩ (by decide) (by decide) (by decide) ?_ mm_copy.1 mm_copy.2.1 mm_copy.2.2
  refine x_aload_n (pc := 136) C dX3_copyFrom_136 rfl ?_
  refine x_getR (pc := 137) (o := 40) (j := 51) C f_X3_36 dX3_copyFrom_137 (hb 0 rfl) ⟨rfl, rfl⟩ ?_
  refine x_iconst (pc := 140) C (0) dX3_copyFrom_140 (by decide) ?_
  refine x_aload_n (pc := 141) C dX3_copyFrom_141 rfl ?_
  refine x_getR (pc := 142) (o := 20) (j := 31) C f_X3_36 dX3_copyFrom_142 (hI 20 rfl) ⟨rfl, rfl⟩ ?_
  refine x_iconst (pc := 145) C (0) dX3_copyFrom_145 (by decide) ?_
  refine x_bipush (pc := 146) C (24) dX3_copyFrom_146 (by decide) ?_
  refine x_topi (nI 24) (by decide) ?_
  refine x_copy (pc := 148) (o0 := 51) (o1 := 31) C q_X3_57 dX3_copyFrom_148 (by decide) (Nat.le_of_ble_eq_true rfl) (hb 11 rfl) (hI 31 rfl) ⟨rfl, rfl⟩ ⟨rfl, rfl⟩ (by decide) (by decide) (by decide) ?_ mm_copy.1 mm_copy.2.1 mm_copy.2.2
  refine x_aload_n (pc := 151) C dX3_copyFrom_151 rfl ?_
  refine x_getR (pc := 152) (o := 40) (j := 52) C f_X3_39 dX3_copyFrom_152 (hb 0 rfl) ⟨rfl, rfl⟩ ?_
  refine x_iconst (pc := 155) C (0) dX3_copyFrom_155 (by decide) ?_
  refine x_aload_n (pc := 156) C dX3_copyFrom_156 rfl ?_
  refine x_getR (pc := 157) (o := 20) (j := 32) C f_X3_39 dX3_copyFrom_157 (hI 20 rfl) ⟨rfl, rfl⟩ ?_
  refine x_iconst (pc := 160) C (0) dX3_copyFrom_160 (by decide) ?_
  refine x_bipush (pc := 161) C (24) dX3_copyFrom_161 (by decide) ?_
  refine x_topi (nI 24) (by decide) ?_
  refine x_copy (pc := 163) (o0 := 52) (o1 := 32) C q_X3_57 dX3_copyFrom_163 (by decide) (Nat.le_of_ble_eq_true rfl) (hb 12 rfl) (hI 32 rfl) ⟨rfl, rfl⟩ ⟨rfl, rfl⟩ (by decide) (by decide) (by decide) ?_ mm_copy.1 mm_copy.2.1 mm_copy.2.2
  refine x_aload_n (pc := 166) C dX3_copyFrom_166 rfl ?_
  refine x_getR (pc := 167) (o := 40) (j := 53) C f_X3_42 dX3_copyFrom_167 (hb 0 rfl) ⟨rfl, rfl⟩ ?_
  refine x_iconst (pc := 170) C (0) dX3_copyFrom_170 (by decide) ?_
  refine x_aload_n (pc := 171) C dX3_copyFrom_171 rfl ?_
  refine x_getR (pc := 172) (o := 20) (j := 33) C f_X3_42 dX3_copyFrom_172 (hI 20 rfl) ⟨rfl, rfl⟩ ?_
  refine x_iconst (pc := 175) C (0) dX3_copyFrom_175 (by decide) ?_
  refine x_bipush (pc := 176) C (24) dX3_copyFrom_176 (by decide) ?_
  refine x_topi (nI 24) (by decide) ?_
  refine x_copy (pc := 178) (o0 := 53) (o1 := 33) C q_X3_57 dX3_copyFrom_178 (by decide) (Nat.le_of_ble_eq_true rfl) (hb 13 rfl) (hI 33 rfl) ⟨rfl, rfl⟩ ⟨rfl, rfl⟩ (by decide) (by decide) (by decide) ?_ mm_copy.1 mm_copy.2.1 mm_copy.2.2
  refine x_aload_n (pc := 181) C dX3_copyFrom_181 rfl ?_
  refine x_getR (pc := 182) (o := 40) (j := 54) C f_X3_45 dX3_copyFrom_182 (hb 0 rfl) ⟨rfl, rfl⟩ ?_
  refine x_iconst (pc := 185) C (0) dX3_copyFrom_185 (by decide) ?_
  refine x_aload_n (pc := 186) C dX3_copyFrom_186 rfl ?_
  refine x_getR (pc := 187) (o := 20) (j := 34) C f_X3_45 dX3_copyFrom_187 (hI 20 rfl) ⟨rfl, rfl⟩ ?_
  refine x_iconst (pc := 190) C (0) dX3_copyFrom_190 (by decide) ?_
  refine x_bipush (pc := 191) C (24) dX3_copyFrom_191 (by decide) ?_
  refine x_topi (nI 24) (by decide) ?_
  refine x_copy (pc := 193) (o0 := 54) (o1 := 34) C q_X3_57 dX3_copyFrom_193 (by decide) (Nat.le_of_ble_eq_true rfl) (hb 14 rfl) (hI 34 rfl) ⟨rfl, rfl⟩ ⟨rfl, rfl⟩ (by decide) (by decide) (by decide) ?_ mm_copy.1 mm_copy.2.1 mm_copy.2.2
  refine x_aload_n (pc := 196) C dX3_copyFrom_196 rfl ?_
  refine x_getR (pc := 197) (o := 40) (j := 55) C f_X3_48 dX3_copyFrom_197 (hb 0 rfl) ⟨rfl, rfl⟩ ?_
  refine x_iconst (pc := 200) C (0) dX3_copyFrom_200 (by decide) ?_
  refine x_aload_n (pc := 201) C dX3_copyFrom_201 rfl ?_
  refine x_getR (pc := 202) (o := 20) (j := 35) C f_X3_48 dX3_copyFrom_202 (hI 20 rfl) ⟨rfl, rfl⟩ ?_
  refine x_iconst (pc := 205) C (0) dX3_copyFrom_205 (by decide) ?_
  refine x_bipush (pc := 206) C (24) dX3_copyFrom_206 (by decide) ?_
  refine x_topi (nI 24) (by decide) ?_
  refine x_copy (pc := 208) (o0 := 55) (o1 := 35) C q_X3_57 dX3_copyFrom_208 (by decide) (Nat.le_of_ble_eq_true rfl) (hb 15 rfl) (hI 35 rfl) ⟨rfl, rfl⟩ ⟨rfl, rfl⟩ (by decide) (by decide) (by decide) ?_ mm_copy.1 mm_copy.2.1 mm_copy.2.2
  refine x_aload_n (pc := 211) C dX3_copyFrom_211 rfl ?_
  refine x_getR (pc := 212) (o := 40) (j := 56) C f_X3_51 dX3_copyFrom_212 (hb 0 rfl) ⟨rfl, rfl⟩ ?_
  refine x_iconst (pc := 215) C (0) dX3_copyFrom_215 (by decide) ?_
  refine x_aload_n (pc := 216) C dX3_copyFrom_216 rfl ?_
  refine x_getR (pc := 217) (o := 20) (j := 36) C f_X3_51 dX3_copyFrom_217 (hI 20 rfl) ⟨rfl, rfl⟩ ?_
  refine x_iconst (pc := 220) C (0) dX3_copyFrom_220 (by decide) ?_
  refine x_bipush (pc := 221) C (24) dX3_copyFrom_221 (by decide) ?_
  refine x_topi (nI 24) (by decide) ?_
  refine x_copy (pc := 223) (o0 := 56) (o1 := 36) C q_X3_57 dX3_copyFrom_223 (by decide) (Nat.le_of_ble_eq_true rfl) (hb 16 rfl) (hI 36 rfl) ⟨rfl, rfl⟩ ⟨rfl, rfl⟩ (by decide) (by decide) (by decide) ?_ mm_copy.1 mm_copy.2.1 mm_copy.2.2
  exact x_vret (pc := 226) C hQ dX3_copyFrom_226 (is_v rfl) (Nat.le_of_ble_eq_true rfl) (Nat.le_of_ble_eq_true rfl)
set_option maxRecDepth 100000 in
set_option maxHeartbeats 4000000 in
theorem s0_X3_copyFrom {l : Launch} {V : VV} {L : LL} {N : NN} {I : List Nat} (hI : PI I) (hb : PB I 40) : Runs l 2 0 0 yX3_copyFrom (Cond.code yX3_copyFrom cX3_copyFrom 2 none) [aR 40, aR 20] V L N I (Is none (cfV V 20 40) (L) N I) := by
  refine run_of RX3 (by decide +kernel) rfl (Nat.le_of_ble_eq_true rfl) (fun E hE C hQ hN => ?_)
  subst hE
  refine x_aload_n (pc := 0) C dX3_copyFrom_0 rfl ?_
  refine x_getR (pc := 1) (o := 20) (j := 21) C f_X3_9 dX3_copyFrom_1 (hI 20 rfl) ⟨rfl, rfl⟩ ?_
  refine x_iconst (pc := 4) C (0) dX3_copyFrom_4 (by decide) ?_
  refine x_aload_n (pc := 5) C dX3_copyFrom_5 rfl ?_
  refine x_getR (pc := 6) (o := 40) (j := 41) C f_X3_9 dX3_copyFrom_6 (hb 0 rfl) ⟨rfl, rfl⟩ ?_
  refine x_iconst (pc := 9) C (0) dX3_copyFrom_9 (by decide) ?_
  refine x_bipush (pc := 10) C (8) dX3_copyFrom_10 (by decide) ?_
  refine x_topi (nI 8) (by decide) ?_
  refine x_copy (pc := 12) (o0 := 21) (o1 := 41) C q_X3_57 dX3_copyFrom_12 (by decide) (Nat.le_of_ble_eq_true rfl) (hI 21 rfl) (hb 1 rfl) ⟨rfl, rfl⟩ ⟨rfl, rfl⟩ (by decide) (by decide) (by decide) ?_ mm_copy.1 mm_copy.2.1 mm_copy.2.2
  refine x_aload_n (pc := 15) C dX3_copyFrom_15 rfl ?_
  refine x_getR (pc := 16) (o := 20) (j := 22) C f_X3_15 dX3_copyFrom_16 (hI 20 rfl) ⟨rfl, rfl⟩ ?_
  refine x_iconst (pc := 19) C (0) dX3_copyFrom_19 (by decide) ?_
  refine x_aload_n (pc := 20) C dX3_copyFrom_20 rfl ?_
  refine x_getR (pc := 21) (o := 40) (j := 42) C f_X3_15 dX3_copyFrom_21 (hb 0 rfl) ⟨rfl, rfl⟩ ?_
  refine x_iconst (pc := 24) C (0) dX3_copyFrom_24 (by decide) ?_
  refine x_bipush (pc := 25) C (6) dX3_copyFrom_25 (by decide) ?_
  refine x_topi (nI 6) (by decide) ?_
  refine x_copy (pc := 27) (o0 := 22) (o1 := 42) C q_X3_57 dX3_copyFrom_27 (by decide) (Nat.le_of_ble_eq_true rfl) (hI 22 rfl) (hb 2 rfl) ⟨rfl, rfl⟩ ⟨rfl, rfl⟩ (by decide) (by decide) (by decide) ?_ mm_copy.1 mm_copy.2.1 mm_copy.2.2
  refine x_aload_n (pc := 30) C dX3_copyFrom_30 rfl ?_
  refine x_getR (pc := 31) (o := 20) (j := 23) C f_X3_18 dX3_copyFrom_31 (hI 20 rfl) ⟨rfl, rfl⟩ ?_
  refine x_iconst (pc := 34) C (0) dX3_copyFrom_34 (by decide) ?_
  refine x_aload_n (pc := 35) C dX3_copyFrom_35 rfl ?_
  refine x_getR (pc := 36) (o := 40) (j := 43) C f_X3_18 dX3_copyFrom_36 (hb 0 rfl) ⟨rfl, rfl⟩ ?_
  refine x_iconst (pc := 39) C (0) dX3_copyFrom_39 (by decide) ?_
  refine x_bipush (pc := 40) C (6) dX3_copyFrom_40 (by decide) ?_
  refine x_topi (nI 6) (by decide) ?_
  refine x_copy (pc := 42) (o0 := 23) (o1 := 43) C q_X3_57 dX3_copyFrom_42 (by decide) (Nat.le_of_ble_eq_true rfl) (hI 23 rfl) (hb 3 rfl) ⟨rfl, rfl⟩ ⟨rfl, rfl⟩ (by decide) (by decide) (by decide) ?_ mm_copy.1 mm_copy.2.1 mm_copy.2.2
  refine x_aload_n (pc := 45) C dX3_copyFrom_45 rfl ?_
  refine x_getR (pc := 46) (o := 20) (j := 24) C f_X3_21 dX3_copyFrom_46 (hI 20 rfl) ⟨rfl, rfl⟩ ?_
  refine x_iconst (pc := 49) C (0) dX3_copyFrom_49 (by decide) ?_
  refine x_aload_n (pc := 50) C dX3_copyFrom_50 rfl ?_
  refine x_getR (pc := 51) (o := 40) (j := 44) C f_X3_21 dX3_copyFrom_51 (hb 0 rfl) ⟨rfl, rfl⟩ ?_
  refine x_iconst (pc := 54) C (0) dX3_copyFrom_54 (by decide) ?_
  refine x_bipush (pc := 55) C (6) dX3_copyFrom_55 (by decide) ?_
  refine x_topi (nI 6) (by decide) ?_
  refine x_copy (pc := 57) (o0 := 24) (o1 := 44) C q_X3_57 dX3_copyFrom_57 (by decide) (Nat.le_of_ble_eq_true rfl) (hI 24 rfl) (hb 4 rfl) ⟨rfl, rfl⟩ ⟨rfl, rfl⟩ (by decide) (by decide) (by decide) ?_ mm_copy.1 mm_copy.2.1 mm_copy.2.2
  refine x_aload_n (pc := 60) C dX3_copyFrom_60 rfl ?_
  refine x_getR (pc := 61) (o := 20) (j := 25) C f_X3_24 dX3_copyFrom_61 (hI 20 rfl) ⟨rfl, rfl⟩ ?_
  refine x_iconst (pc := 64) C (0) dX3_copyFrom_64 (by decide) ?_
  refine x_aload_n (pc := 65) C dX3_copyFrom_65 rfl ?_
  refine x_getR (pc := 66) (o := 40) (j := 45) C f_X3_24 dX3_copyFrom_66 (hb 0 rfl) ⟨rfl, rfl⟩ ?_
  refine x_iconst (pc := 69) C (0) dX3_copyFrom_69 (by decide) ?_
  refine x_bipush (pc := 70) C (6) dX3_copyFrom_70 (by decide) ?_
  refine x_topi (nI 6) (by decide) ?_
  refine x_copy (pc := 72) (o0 := 25) (o1 := 45) C q_X3_57 dX3_copyFrom_72 (by decide) (Nat.le_of_ble_eq_true rfl) (hI 25 rfl) (hb 5 rfl) ⟨rfl, rfl⟩ ⟨rfl, rfl⟩ (by decide) (by decide) (by decide) ?_ mm_copy.1 mm_copy.2.1 mm_copy.2.2
  refine x_aload_n (pc := 75) C dX3_copyFrom_75 rfl ?_
  refine x_getR (pc := 76) (o := 20) (j := 26) C f_X3_27 dX3_copyFrom_76 (hI 20 rfl) ⟨rfl, rfl⟩ ?_
  refine x_iconst (pc := 79) C (0) dX3_copyFrom_79 (by decide) ?_
  refine x_aload_n (pc := 80) C dX3_copyFrom_80 rfl ?_
  refine x_getR (pc := 81) (o := 40) (j := 46) C f_X3_27 dX3_copyFrom_81 (hb 0 rfl) ⟨rfl, rfl⟩ ?_
  refine x_iconst (pc := 84) C (0) dX3_copyFrom_84 (by decide) ?_
  refine x_bipush (pc := 85) C (6) dX3_copyFrom_85 (by decide) ?_
  refine x_topi (nI 6) (by decide) ?_
  refine x_copy (pc := 87) (o0 := 26) (o1 := 46) C q_X3_57 dX3_copyFrom_87 (by decide) (Nat.le_of_ble_eq_true rfl) (hI 26 rfl) (hb 6 rfl) ⟨rfl, rfl⟩ ⟨rfl, rfl⟩ (by decide) (by decide) (by decide) ?_ mm_copy.1 mm_copy.2.1 mm_copy.2.2
  refine x_aload_n (pc := 90) C dX3_copyFrom_90 rfl ?_
  refine x_aload_n (pc := 91) C dX3_copyFrom_91 rfl ?_
  refine x_getI (pc := 92) (o := 20) C f_X3_63 dX3_copyFrom_92 (hI 20 rfl) ⟨rfl, rfl, rfl⟩ ?_
  refine x_putI (pc := 95) (o := 40) C p_X3_63 dX3_copyFrom_95 (hb 0 rfl) ⟨rfl, rfl, rfl⟩ ?_
  refine x_aload_n (pc := 98) C dX3_copyFrom_98 rfl ?_
  refine x_aload_n (pc := 99) C dX3_copyFrom_99 rfl ?_
  refine x_getI (pc := 100) (o := 20) C f_X3_67 dX3_copyFrom_100 (hI 20 rfl) ⟨rfl, rfl, rfl⟩ ?_
  refine x_putI (pc := 103) (o := 40) C p_X3_67 dX3_copyFrom_103 (hb 0 rfl) ⟨rfl, rfl, rfl⟩ ?_
  refine x_aload_n (pc := 106) C dX3_copyFrom_106 rfl ?_
  refine x_getR (pc := 107) (o := 20) (j := 29) C f_X3_30 dX3_copyFrom_107 (hI 20 rfl) ⟨rfl, rfl⟩ ?_
  refine x_iconst (pc := 110) C (0) dX3_copyFrom_110 (by decide) ?_
  refine x_aload_n (pc := 111) C dX3_copyFrom_111 rfl ?_
  refine x_getR (pc := 112) (o := 40) (j := 49) C f_X3_30 dX3_copyFrom_112 (hb 0 rfl) ⟨rfl, rfl⟩ ?_
  refine x_iconst (pc := 115) C (0) dX3_copyFrom_115 (by decide) ?_
  refine x_bipush (pc := 116) C (24) dX3_copyFrom_116 (by decide) ?_
  refine x_topi (nI 24) (by decide) ?_
  refine x_copy (pc := 118) (o0 := 29) (o1 := 49) C q_X3_57 dX3_copyFrom_118 (by decide) (Nat.le_of_ble_eq_true rfl) (hI 29 rfl) (hb 9 rfl) ⟨rfl, rfl⟩ ⟨rfl, rfl⟩ (by decide) (by decide) (by decide) ?_ mm_copy.1 mm_copy.2.1 mm_copy.2.2
  refine x_aload_n (pc := 121) C dX3_copyFrom_121 rfl ?_
  refine x_getR (pc := 122) (o := 20) (j := 30) C f_X3_33 dX3_copyFrom_122 (hI 20 rfl) ⟨rfl, rfl⟩ ?_
  refine x_iconst (pc := 125) C (0) dX3_copyFrom_125 (by decide) ?_
  refine x_aload_n (pc := 126) C dX3_copyFrom_126 rfl ?_
  refine x_getR (pc := 127) (o := 40) (j := 50) C f_X3_33 dX3_copyFrom_127 (hb 0 rfl) ⟨rfl, rfl⟩ ?_
  refine x_iconst (pc := 130) C (0) dX3_copyFrom_130 (by decide) ?_
  refine x_bipush (pc := 131) C (24) dX3_copyFrom_131 (by decide) ?_
  refine x_topi (nI 24) (by decide) ?_
  refine x_copy (pc := 133) (o0 := 30) (o1 := 50) C q_X3_57 dX3_copyFrom_133 (by decide) (Nat.le_of_ble_eq_true rfl) (hI 30 rfl) (hb 10 rfl) ⟨rfl, rfl⟩ ⟨rfl, rfl⟩ (by decide) (by decide) (by decide) ?_ mm_copy.1 mm_copy.2.1 mm_copy.2.2
  refine x_aload_n (pc := 136) C dX3_copyFrom_136 rfl ?_
  refine x_getR (pc := 137) (o := 20) (j := 31) C f_X3_36 dX3_copyFrom_137 (hI 20 rfl) ⟨rfl, rfl⟩ ?_
  refine x_iconst (pc := 140) C (0) dX3_copyFrom_140 (by decide) ?_
  refine x_aload_n (pc := 141) C dX3_copyFrom_141 rfl ?_
  refine x_getR (pc := 142) (o := 40) (j := 51) C f_X3_36 dX3_copyFrom_142 (hb 0 rfl) ⟨rfl, rfl⟩ ?_
  refine x_iconst (pc := 145) C (0) dX3_copyFrom_145 (by decide) ?_
  refine x_bipush (pc := 146) C (24) dX3_copyFrom_146 (by decide) ?_
  refine x_topi (nI 24) (by decide) ?_
  refine x_copy (pc := 148) (o0 := 31) (o1 := 51) C q_X3_57 dX3_copyFrom_148 (by decide) (Nat.le_of_ble_eq_true rfl) (hI 31 rfl) (hb 11 rfl) ⟨rfl, rfl⟩ ⟨rfl, rfl⟩ (by decide) (by decide) (by decide) ?_ mm_copy.1 mm_copy.2.1 mm_copy.2.2
  refine x_aload_n (pc := 151) C dX3_copyFrom_151 rfl ?_
  refine x_getR (pc := 152) (o := 20) (j := 32) C f_X3_39 dX3_copyFrom_152 (hI 20 rfl) ⟨rfl, rfl⟩ ?_
  refine x_iconst (pc := 155) C (0) dX3_copyFrom_155 (by decide) ?_
  refine x_aload_n (pc := 156) C dX3_copyFrom_156 rfl ?_
  refine x_getR (pc := 157) (o := 40) (j := 52) C f_X3_39 dX3_copyFrom_157 (hb 0 rfl) ⟨rfl, rfl⟩ ?_
  refine x_iconst (pc := 160) C (0) dX3_copyFrom_160 (by decide) ?_
  refine x_bipush (pc := 161) C (24) dX3_copyFrom_161 (by decide) ?_
  refine x_topi (nI 24) (by decide) ?_
  refine x_copy (pc := 163) (o0 := 32) (o1 := 52) C q_X3_57 dX3_copyFrom_163 (by decide) (Nat.le_of_ble_eq_true rfl) (hI 32 rfl) (hb 12 rfl) ⟨rfl, rfl⟩ ⟨rfl, rfl⟩ (by decide) (by decide) (by decide) ?_ mm_copy.1 mm_copy.2.1 mm_copy.2.2
  refine x_aload_n (pc := 166) C dX3_copyFrom_166 rfl ?_
  refine x_getR (pc := 167) (o := 20) (j := 33) C f_X3_42 dX3_copyFrom_167 (hI 20 rfl) ⟨rfl, rfl⟩ ?_
  refine x_iconst (pc := 170) C (0) dX3_copyFrom_170 (by decide) ?_
  refine x_aload_n (pc := 171) C dX3_copyFrom_171 rfl ?_
  refine x_getR (pc := 172) (o := 40) (j := 53) C f_X3_42 dX3_copyFrom_172 (hb 0 rfl) ⟨rfl, rfl⟩ ?_
  refine x_iconst (pc := 175) C (0) dX3_copyFrom_175 (by decide) ?_
  refine x_bipush (pc := 176) C (24) dX3_copyFrom_176 (by decide) ?_
  refine x_topi (nI 24) (by decide) ?_
  refine x_copy (pc := 178) (o0 := 33) (o1 := 53) C q_X3_57 dX3_copyFrom_178 (by decide) (Nat.le_of_ble_eq_true rfl) (hI 33 rfl) (hb 13 rfl) ⟨rfl, rfl⟩ ⟨rfl, rfl⟩ (by decide) (by decide) (by decide) ?_ mm_copy.1 mm_copy.2.1 mm_copy.2.2
  refine x_aload_n (pc := 181) C dX3_copyFrom_181 rfl ?_
  refine x_getR (pc := 182) (o := 20) (j := 34) C f_X3_45 dX3_copyFrom_182 (hI 20 rfl) ⟨rfl, rfl⟩ ?_
  refine x_iconst (pc := 185) C (0) dX3_copyFrom_185 (by decide) ?_
  refine x_aload_n (pc := 186) C dX3_copyFrom_186 rfl ?_
  refine x_getR (pc := 187) (o := 40) (j := 54) C f_X3_45 dX3_copyFrom_187 (hb 0 rfl) ⟨rfl, rfl⟩ ?_
  refine x_iconst (pc := 190) C (0) dX3_copyFrom_190 (by decide) ?_
  refine x_bipush (pc := 191) C (24) dX3_copyFrom_191 (by decide) ?_
  refine x_topi (nI 24) (by decide) ?_
  refine x_copy (pc := 193) (o0 := 34) (o1 := 54) C q_X3_57 dX3_copyFrom_193 (by decide) (Nat.le_of_ble_eq_true rfl) (hI 34 rfl) (hb 14 rfl) ⟨rfl, rfl⟩ ⟨rfl, rfl⟩ (by decide) (by decide) (by decide) ?_ mm_copy.1 mm_copy.2.1 mm_copy.2.2
  refine x_aload_n (pc := 196) C dX3_copyFrom_196 rfl ?_
  refine x_getR (pc := 197) (o := 20) (j := 35) C f_X3_48 dX3_copyFrom_197 (hI 20 rfl) ⟨rfl, rfl⟩ ?_
  refine x_iconst (pc := 200) C (0) dX3_copyFrom_200 (by decide) ?_
  refine x_aload_n (pc := 201) C dX3_copyFrom_201 rfl ?_
  refine x_getR (pc := 202) (o := 40) (j := 55) C f_X3_48 dX3_copyFrom_202 (hb 0 rfl) ⟨rfl, rfl⟩ ?_
  refine x_iconst (pc := 205) C (0) dX3_copyFrom_205 (by decide) ?_
  refine x_bipush (pc := 206) C (24) dX3_copyFrom_206 (by decide) ?_
  refine x_topi (nI 24) (by decide) ?_
  refine x_copy (pc := 208) (o0 := 35) (o1 := 55) C q_X3_57 dX3_copyFrom_208 (by decide) (Nat.le_of_ble_eq_true rfl) (hI 35 rfl) (hb 15 rfl) ⟨rfl, rfl⟩ ⟨rfl, rfl⟩ (by decide) (by decide) (by decide) ?_ mm_copy.1 mm_copy.2.1 mm_copy.2.2
  refine x_aload_n (pc := 211) C dX3_copyFrom_211 rfl ?_
  refine x_getR (pc := 212) (o := 20) (j := 36) C f_X3_51 dX3_copyFrom_212 (hI 20 rfl) ⟨rfl, rfl⟩ ?_
  refine x_iconst (pc := 215) C (0) dX3_copyFrom_215 (by decide) ?_
  refine x_aload_n (pc := 216) C dX3_copyFrom_216 rfl ?_
  refine x_getR (pc := 217) (o := 40) (j := 56) C f_X3_51 dX3_copyFrom_217 (hb 0 rfl) ⟨rfl, rfl⟩ ?_
  refine x_iconst (pc := 220) C (0) dX3_copyFrom_220 (by decide) ?_
  refine x_bipush (pc := 221) C (24) dX3_copyFrom_221 (by decide) ?_
  refine x_topi (nI 24) (by decide) ?_
  refine x_copy (pc := 223) (o0 := 36) (o1 := 56) C q_X3_57 dX3_copyFrom_223 (by decide) (Nat.le_of_ble_eq_true rfl) (hI 36 rfl) (hb 16 rfl) ⟨rfl, rfl⟩ ⟨rfl, rfl⟩ (by decide) (by decide) (by decide) ?_ mm_copy.1 mm_copy.2.1 mm_copy.2.2
  exact x_vret (pc := 226) C hQ dX3_copyFrom_226 (is_v rfl) (Nat.le_of_ble_eq_true rfl) (Nat.le_of_ble_eq_true rfl)
set_option maxRecDepth 100000 in
set_option maxHeartbeats 4000000 in
theorem r1_X3_copyFrom {l : Launch} {V : VV} {L : LL} {N : NN} {I : List Nat} (hI : PI I) (hb : PB I 60) : Runs l 2 0 0 yX3_copyFrom (Cond.code yX3_copyFrom cX3_copyFrom 2 none) [aR 20, aR 60] V L N I (Is none (cfV V 60 20) (L) N I) := by
  refine run_of RX3 (by decide +kernel) rfl (Nat.le_of_ble_eq_true rfl) (fun E hE C hQ hN => ?_)
  subst hE
  refine x_aload_n (pc := 0) C dX3_copyFrom_0 rfl ?_
  refine x_getR (pc := 1) (o := 60) (j := 61) C f_X3_9 dX3_copyFrom_1 (hb 0 rfl) ⟨rfl, rfl⟩ ?_
  refine x_iconst (pc := 4) C (0) dX3_copyFrom_4 (by decide) ?_
  refine x_aload_n (pc := 5) C dX3_copyFrom_5 rfl ?_
  refine x_getR (pc := 6) (o := 20) (j := 21) C f_X3_9 dX3_copyFrom_6 (hI 20 rfl) ⟨rfl, rfl⟩ ?_
  refine x_iconst (pc := 9) C (0) dX3_copyFrom_9 (by decide) ?_
  refine x_bipush (pc := 10) C (8) dX3_copyFrom_10 (by decide) ?_
  refine x_topi (nI 8) (by decide) ?_
  refine x_copy (pc := 12) (o0 := 61) (o1 := 21) C q_X3_57 dX3_copyFrom_12 (by decide) (Nat.le_of_ble_eq_true rfl) (hb 1 rfl) (hI 21 rfl) ⟨rfl, rfl⟩ ⟨rfl, rfl⟩ (by decide) (by decide) (by decide) ?_ mm_copy.1 mm_copy.2.1 mm_copy.2.2
  refine x_aload_n (pc := 15) C dX3_copyFrom_15 rfl ?_
  refine x_getR (pc := 16) (o := 60) (j := 62) C f_X3_15 dX3_copyFrom_16 (hb 0 rfl) ⟨rfl, rfl⟩ ?_
  refine x_iconst (pc := 19) C (0) dX3_copyFrom_19 (by decide) ?_
  refine x_aload_n (pc := 20) C dX3_copyFrom_20 rfl ?_
  refine x_getR (pc := 21) (o := 20) (j := 22) C f_X3_15 dX3_copyFrom_21 (hI 20 rfl) ⟨rfl, rfl⟩ ?_
  refine x_iconst (pc := 24) C (0) dX3_copyFrom_24 (by decide) ?_
  refine x_bipush (pc := 25) C (6) dX3_copyFrom_25 (by decide) ?_
  refine x_topi (nI 6) (by decide) ?_
  refine x_copy (pc := 27) (o0 := 62) (o1 := 22) C q_X3_57 dX3_copyFrom_27 (by decide) (Nat.le_of_ble_eq_true rfl) (hb 2 rfl) (hI 22 rfl) ⟨rfl, rfl⟩ ⟨rfl, rfl⟩ (by decide) (by decide) (by decide) ?_ mm_copy.1 mm_copy.2.1 mm_copy.2.2
  refine x_aload_n (pc := 30) C dX3_copyFrom_30 rfl ?_
  refine x_getR (pc := 31) (o := 60) (j := 63) C f_X3_18 dX3_copyFrom_31 (hb 0 rfl) ⟨rfl, rfl⟩ ?_
  refine x_iconst (pc := 34) C (0) dX3_copyFrom_34 (by decide) ?_
  refine x_aload_n (pc := 35) C dX3_copyFrom_35 rfl ?_
  refine x_getR (pc := 36) (o := 20) (j := 23) C f_X3_18 dX3_copyFrom_36 (hI 20 rfl) ⟨rfl, rfl⟩ ?_
  refine x_iconst (pc := 39) C (0) dX3_copyFrom_39 (by decide) ?_
  refine x_bipush (pc := 40) C (6) dX3_copyFrom_40 (by decide) ?_
  refine x_topi (nI 6) (by decide) ?_
  refine x_copy (pc := 42) (o0 := 63) (o1 := 23) C q_X3_57 dX3_copyFrom_42 (by decide) (Nat.le_of_ble_eq_true rfl) (hb 3 rfl) (hI 23 rfl) ⟨rfl, rfl⟩ ⟨rfl, rfl⟩ (by decide) (by decide) (by decide) ?_ mm_copy.1 mm_copy.2.1 mm_copy.2.2
  refine x_aload_n (pc := 45) C dX3_copyFrom_45 rfl ?_
  refine x_getR (pc := 46) (o := 60) (j := 64) C f_X3_21 dX3_copyFrom_46 (hb 0 rfl) ⟨rfl, rfl⟩ ?_
  refine x_iconst (pc := 49) C (0) dX3_copyFrom_49 (by decide) ?_
  refine x_aload_n (pc := 50) C dX3_copyFrom_50 rfl ?_
  refine x_getR (pc := 51) (o := 20) (j := 24) C f_X3_21 dX3_copyFrom_51 (hI 20 rfl) ⟨rfl, rfl⟩ ?_
  refine x_iconst (pc := 54) C (0) dX3_copyFrom_54 (by decide) ?_
  refine x_bipush (pc := 55) C (6) dX3_copyFrom_55 (by decide) ?_
  refine x_topi (nI 6) (by decide) ?_
  refine x_copy (pc := 57) (o0 := 64) (o1 := 24) C q_X3_57 dX3_copyFrom_57 (by decide) (Nat.le_of_ble_eq_true rfl) (hb 4 rfl) (hI 24 rfl) ⟨rfl, rfl⟩ ⟨rfl, rfl⟩ (by decide) (by decide) (by decide) ?_ mm_copy.1 mm_copy.2.1 mm_copy.2.2
  refine x_aload_n (pc := 60) C dX3_copyFrom_60 rfl ?_
  refine x_getR (pc := 61) (o := 60) (j := 65) C f_X3_24 dX3_copyFrom_61 (hb 0 rfl) ⟨rfl, rfl⟩ ?_
  refine x_iconst (pc := 64) C (0) dX3_copyFrom_64 (by decide) ?_
  refine x_aload_n (pc := 65) C dX3_copyFrom_65 rfl ?_
  refine x_getR (pc := 66) (o := 20) (j := 25) C f_X3_24 dX3_copyFrom_66 (hI 20 rfl) ⟨rfl, rfl⟩ ?_
  refine x_iconst (pc := 69) C (0) dX3_copyFrom_69 (by decide) ?_
  refine x_bipush (pc := 70) C (6) dX3_copyFrom_70 (by decide) ?_
  refine x_topi (nI 6) (by decide) ?_
  refine x_copy (pc := 72) (o0 := 65) (o1 := 25) C q_X3_57 dX3_copyFrom_72 (by decide) (Nat.le_of_ble_eq_true rfl) (hb 5 rfl) (hI 25 rfl) ⟨rfl, rfl⟩ ⟨rfl, rfl⟩ (by decide) (by decide) (by decide) ?_ mm_copy.1 mm_copy.2.1 mm_copy.2.2
  refine x_aload_n (pc := 75) C dX3_copyFrom_75 rfl ?_
  refine x_getR (pc := 76) (o := 60) (j := 66) C f_X3_27 dX3_copyFrom_76 (hb 0 rfl) ⟨rfl, rfl⟩ ?_
  refine x_iconst (pc := 79) C (0) dX3_copyFrom_79 (by decide) ?_
  refine x_aload_n (pc := 80) C dX3_copyFrom_80 rfl ?_
  refine x_getR (pc := 81) (o := 20) (j := 26) C f_X3_27 dX3_copyFrom_81 (hI 20 rfl) ⟨rfl, rfl⟩ ?_
  refine x_iconst (pc := 84) C (0) dX3_copyFrom_84 (by decide) ?_
  refine x_bipush (pc := 85) C (6) dX3_copyFrom_85 (by decide) ?_
  refine x_topi (nI 6) (by decide) ?_
  refine x_copy (pc := 87) (o0 := 66) (o1 := 26) C q_X3_57 dX3_copyFrom_87 (by decide) (Nat.le_of_ble_eq_true rfl) (hb 6 rfl) (hI 26 rfl) ⟨rfl, rfl⟩ ⟨rfl, rfl⟩ (by decide) (by decide) (by decide) ?_ mm_copy.1 mm_copy.2.1 mm_copy.2.2
  refine x_aload_n (pc := 90) C dX3_copyFrom_90 rfl ?_
  refine x_aload_n (pc := 91) C dX3_copyFrom_91 rfl ?_
  refine x_getI (pc := 92) (o := 60) C f_X3_63 dX3_copyFrom_92 (hb 0 rfl) ⟨rfl, rfl, rfl⟩ ?_
  refine x_putI (pc := 95) (o := 20) C p_X3_63 dX3_copyFrom_95 (hI 20 rfl) ⟨rfl, rfl, rfl⟩ ?_
  refine x_aload_n (pc := 98) C dX3_copyFrom_98 rfl ?_
  refine x_aload_n (pc := 99) C dX3_copyFrom_99 rfl ?_
  refine x_getI (pc := 100) (o := 60) C f_X3_67 dX3_copyFrom_100 (hb 0 rfl) ⟨rfl, rfl, rfl⟩ ?_
  refine x_putI (pc := 103) (o := 20) C p_X3_67 dX3_copyFrom_103 (hI 20 rfl) ⟨rfl, rfl, rfl⟩ ?_
  refine x_aload_n (pc := 106) C dX3_copyFrom_106 rfl ?_
  refine x_getR (pc := 107) (o := 60) (j := 69) C f_X3_30 dX3_copyFrom_107 (hb 0 rfl) ⟨rfl, rfl⟩ ?_
  refine x_iconst (pc := 110) C (0) dX3_copyFrom_110 (by decide) ?_
  refine x_aload_n (pc := 111) C dX3_copyFrom_111 rfl ?_
  refine x_getR (pc := 112) (o := 20) (j := 29) C f_X3_30 dX3_copyFrom_112 (hI 20 rfl) ⟨rfl, rfl⟩ ?_
  refine x_iconst (pc := 115) C (0) dX3_copyFrom_115 (by decide) ?_
  refine x_bipush (pc := 116) C (24) dX3_copyFrom_116 (by decide) ?_
  refine x_topi (nI 24) (by decide) ?_
  refine x_copy (pc := 118) (o0 := 69) (o1 := 29) C q_X3_57 dX3_copyFrom_118 (by decide) (Nat.le_of_ble_eq_true rfl) (hb 9 rfl) (hI 29 rfl) ⟨rfl, rfl⟩ ⟨rfl, rfl⟩ (by decide) (by decide) (by decide) ?_ mm_copy.1 mm_copy.2.1 mm_copy.2.2
  refine x_aload_n (pc := 121) C dX3_copyFrom_121 rfl ?_
  refine x_getR (pc := 122) (o := 60) (j := 70) C f_X3_33 dX3_copyFrom_122 (hb 0 rfl) ⟨rfl, rfl⟩ ?_
  refine x_iconst (pc := 125) C (0) dX3_copyFrom_125 (by decide) ?_
  refine x_aload_n (pc := 126) C dX3_copyFrom_126 rfl ?_
  refine x_getR (pc := 127) (o := 20) (j := 30) C f_X3_33 dX3_copyFrom_127 (hI 20 rfl) ⟨rfl, rfl⟩ ?_
  refine x_iconst (pc := 130) C (0) dX3_copyFrom_130 (by decide) ?_
  refine x_bipush (pc := 131) C (24) dX3_copyFrom_131 (by decide) ?_
  refine x_topi (nI 24) (by decide) ?_
  refine x_copy (pc := 133) (o0 := 70) (o1 := 30) C q_X3_57 dX3_copyFrom_133 (by decide) (Nat.le_of_ble_eq_true rfl) (hb 10 rfl) (hI 30 rfl) ⟨rfl, rfl⟩ ⟨rfl, rfl⟩ (by decide) (by decide) (by decide) ?_ mm_copy.1 mm_copy.2.1 mm_copy.2.2
  refine x_aload_n (pc := 136) C dX3_copyFrom_136 rfl ?_
  refine x_getR (pc := 137) (o := 60) (j := 71) C f_X3_36 dX3_copyFrom_137 (hb 0 rfl) ⟨rfl, rfl⟩ ?_
  refine x_iconst (pc := 140) C (0) dX3_copyFrom_140 (by decide) ?_
  refine x_aload_n (pc := 141) C dX3_copyFrom_141 rfl ?_
  refine x_getR (pc := 142) (o := 20) (j := 31) C f_X3_36 dX3_copyFrom_142 (hI 20 rfl) ⟨rfl, rfl⟩ ?_
  refine x_iconst (pc := 145) C (0) dX3_copyFrom_145 (by decide) ?_
  refine x_bipush (pc := 146) C (24) dX3_copyFrom_146 (by decide) ?_
  refine x_topi (nI 24) (by decide) ?_
  refine x_copy (pc := 148) (o0 := 71) (o1 := 31) C q_X3_57 dX3_copyFrom_148 (by decide) (Nat.le_of_ble_eq_true rfl) (hb 11 rfl) (hI 31 rfl) ⟨rfl, rfl⟩ ⟨rfl, rfl⟩ (by decide) (by decide) (by decide) ?_ mm_copy.1 mm_copy.2.1 mm_copy.2.2
  refine x_aload_n (pc := 151) C dX3_copyFrom_151 rfl ?_
  refine x_getR (pc := 152) (o := 60) (j := 72) C f_X3_39 dX3_copyFrom_152 (hb 0 rfl) ⟨rfl, rfl⟩ ?_
  refine x_iconst (pc := 155) C (0) dX3_copyFrom_155 (by decide) ?_
  refine x_aload_n (pc := 156) C dX3_copyFrom_156 rfl ?_
  refine x_getR (pc := 157) (o := 20) (j := 32) C f_X3_39 dX3_copyFrom_157 (hI 20 rfl) ⟨rfl, rfl⟩ ?_
  refine x_iconst (pc := 160) C (0) dX3_copyFrom_160 (by decide) ?_
  refine x_bipush (pc := 161) C (24) dX3_copyFrom_161 (by decide) ?_
  refine x_topi (nI 24) (by decide) ?_
  refine x_copy (pc := 163) (o0 := 72) (o1 := 32) C q_X3_57 dX3_copyFrom_163 (by decide) (Nat.le_of_ble_eq_true rfl) (hb 12 rfl) (hI 32 rfl) ⟨rfl, rfl⟩ ⟨rfl, rfl⟩ (by decide) (by decide) (by decide) ?_ mm_copy.1 mm_copy.2.1 mm_copy.2.2
  refine x_aload_n (pc := 166) C dX3_copyFrom_166 rfl ?_
  refine x_getR (pc := 167) (o := 60) (j := 73) C f_X3_42 dX3_copyFrom_167 (hb 0 rfl) ⟨rfl, rfl⟩ ?_
  refine x_iconst (pc := 170) C (0) dX3_copyFrom_170 (by decide) ?_
  refine x_aload_n (pc := 171) C dX3_copyFrom_171 rfl ?_
  refine x_getR (pc := 172) (o := 20) (j := 33) C f_X3_42 dX3_copyFrom_172 (hI 20 rfl) ⟨rfl, rfl⟩ ?_
  refine x_iconst (pc := 175) C (0) dX3_copyFrom_175 (by decide) ?_
  refine x_bipush (pc := 176) C (24) dX3_copyFrom_176 (by decide) ?_
  refine x_topi (nI 24) (by decide) ?_
  refine x_copy (pc := 178) (o0 := 73) (o1 := 33) C q_X3_57 dX3_copyFrom_178 (by decide) (Nat.le_of_ble_eq_true rfl) (hb 13 rfl) (hI 33 rfl) ⟨rfl, rfl⟩ ⟨rfl, rfl⟩ (by decide) (by decide) (by decide) ?_ mm_copy.1 mm_copy.2.1 mm_copy.2.2
  refine x_aload_n (pc := 181) C dX3_copyFrom_181 rfl ?_
  refine x_getR (pc := 182) (o := 60) (j := 74) C f_X3_45 dX3_copyFrom_182 (hb 0 rfl) ⟨rfl, rfl⟩ ?_
  refine x_iconst (pc := 185) C (0) dX3_copyFrom_185 (by decide) ?_
  refine x_aload_n (pc := 186) C dX3_copyFrom_186 rfl ?_
  refine x_getR (pc := 187) (o := 20) (j := 34) C f_X3_45 dX3_copyFrom_187 (hI 20 rfl) ⟨rfl, rfl⟩ ?_
  refine x_iconst (pc := 190) C (0) dX3_copyFrom_190 (by decide) ?_
  refine x_bipush (pc := 191) C (24) dX3_copyFrom_191 (by decide) ?_
  refine x_topi (nI 24) (by decide) ?_
  refine x_copy (pc := 193) (o0 := 74) (o1 := 34) C q_X3_57 dX3_copyFrom_193 (by decide) (Nat.le_of_ble_eq_true rfl) (hb 14 rfl) (hI 34 rfl) ⟨rfl, rfl⟩ ⟨rfl, rfl⟩ (by decide) (by decide) (by decide) ?_ mm_copy.1 mm_copy.2.1 mm_copy.2.2
  refine x_aload_n (pc := 196) C dX3_copyFrom_196 rfl ?_
  refine x_getR (pc := 197) (o := 60) (j := 75) C f_X3_48 dX3_copyFrom_197 (hb 0 rfl) ⟨rfl, rfl⟩ ?_
  refine x_iconst (pc := 200) C (0) dX3_copyFrom_200 (by decide) ?_
  refine x_aload_n (pc := 201) C dX3_copyFrom_201 rfl ?_
  refine x_getR (pc := 202) (o := 20) (j := 35) C f_X3_48 dX3_copyFrom_202 (hI 20 rfl) ⟨rfl, rfl⟩ ?_
  refine x_iconst (pc := 205) C (0) dX3_copyFrom_205 (by decide) ?_
  refine x_bipush (pc := 206) C (24) dX3_copyFrom_206 (by decide) ?_
  refine x_topi (nI 24) (by decide) ?_
  refine x_copy (pc := 208) (o0 := 75) (o1 := 35) C q_X3_57 dX3_copyFrom_208 (by decide) (Nat.le_of_ble_eq_true rfl) (hb 15 rfl) (hI 35 rfl) ⟨rfl, rfl⟩ ⟨rfl, rfl⟩ (by decide) (by decide) (by decide) ?_ mm_copy.1 mm_copy.2.1 mm_copy.2.2
  refine x_aload_n (pc := 211) C dX3_copyFrom_211 rfl ?_
  refine x_getR (pc := 212) (o := 60) (j := 76) C f_X3_51 dX3_copyFrom_212 (hb 0 rfl) ⟨rfl, rfl⟩ ?_
  refine x_iconst (pc := 215) C (0) dX3_copyFrom_215 (by decide) ?_
  refine x_aload_n (pc := 216) C dX3_copyFrom_216 rfl ?_
  refine x_getR (pc := 217) (o := 20) (j := 36) C f_X3_51 dX3_copyFrom_217 (hI 20 rfl) ⟨rfl, rfl⟩ ?_
  refine x_iconst (pc := 220) C (0) dX3_copyFrom_220 (by decide) ?_
  refine x_bipush (pc := 221) C (24) dX3_copyFrom_221 (by decide) ?_
  refine x_topi (nI 24) (by decide) ?_
  refine x_copy (pc := 223) (o0 := 76) (o1 := 36) C q_X3_57 dX3_copyFrom_223 (by decide) (Nat.le_of_ble_eq_true rfl) (hb 16 rfl) (hI 36 rfl) ⟨rfl, rfl⟩ ⟨rfl, rfl⟩ (by decide) (by decide) (by decide) ?_ mm_copy.1 mm_copy.2.1 mm_copy.2.2
  exact x_vret (pc := 226) C hQ dX3_copyFrom_226 (is_v rfl) (Nat.le_of_ble_eq_true rfl) (Nat.le_of_ble_eq_true rfl)
set_option maxRecDepth 100000 in
set_option maxHeartbeats 4000000 in
theorem s1_X3_copyFrom {l : Launch} {V : VV} {L : LL} {N : NN} {I : List Nat} (hI : PI I) (hb : PB I 60) : Runs l 2 0 0 yX3_copyFrom (Cond.code yX3_copyFrom cX3_copyFrom 2 none) [aR 60, aR 20] V L N I (Is none (cfV V 20 60) (L) N I) := by
  refine run_of RX3 (by decide +kernel) rfl (Nat.le_of_ble_eq_true rfl) (fun E hE C hQ hN => ?_)
  subst hE
  refine x_aload_n (pc := 0) C dX3_copyFrom_0 rfl ?_
  refine x_getR (pc := 1) (o := 20) (j := 21) C f_X3_9 dX3_copyFrom_1 (hI 20 rfl) ⟨rfl, rfl⟩ ?_
  refine x_iconst (pc := 4) C (0) dX3_copyFrom_4 (by decide) ?_
  refine x_aload_n (pc := 5) C dX3_copyFrom_5 rfl ?_
  refine x_getR (pc := 6) (o := 60) (j := 61) C f_X3_9 dX3_copyFrom_6 (hb 0 rfl) ⟨rfl, rfl⟩ ?_
  refine x_iconst (pc := 9) C (0) dX3_copyFrom_9 (by decide) ?_
  refine x_bipush (pc := 10) C (8) dX3_copyFrom_10 (by decide) ?_
  refine x_topi (nI 8) (by decide) ?_
  refine x_copy (pc := 12) (o0 := 21) (o1 := 61) C q_X3_57 dX3_copyFrom_12 (by decide) (Nat.le_of_ble_eq_true rfl) (hI 21 rfl) (hb 1 rfl) ⟨rfl, rfl⟩ ⟨rfl, rfl⟩ (by decide) (by decide) (by decide) ?_ mm_copy.1 mm_copy.2.1 mm_copy.2.2
  refine x_aload_n (pc := 15) C dX3_copyFrom_15 rfl ?_
  refine x_getR (pc := 16) (o := 20) (j := 22) C f_X3_15 dX3_copyFrom_16 (hI 20 rfl) ⟨rfl, rfl⟩ ?_
  refine x_iconst (pc := 19) C (0) dX3_copyFrom_19 (by decide) ?_
  refine x_aload_n (pc := 20) C dX3_copyFrom_20 rfl ?_
  refine x_getR (pc := 21) (o := 60) (j := 62) C f_X3_15 dX3_copyFrom_21 (hb 0 rfl) ⟨rfl, rfl⟩ ?_
  refine x_iconst (pc := 24) C (0) dX3_copyFrom_24 (by decide) ?_
  refine x_bipush (pc := 25) C (6) dX3_copyFrom_25 (by decide) ?_
  refine x_topi (nI 6) (by decide) ?_
  refine x_copy (pc := 27) (o0 := 22) (o1 := 62) C q_X3_57 dX3_copyFrom_27 (by decide) (Nat.le_of_ble_eq_true rfl) (hI 22 rfl) (hb 2 rfl) ⟨rfl, rfl⟩ ⟨rfl, rfl⟩ (by decide) (by decide) (by decide) ?_ mm_copy.1 mm_copy.2.1 mm_copy.2.2
  refine x_aload_n (pc := 30) C dX3_copyFrom_30 rfl ?_
  refine x_getR (pc := 31) (o := 20) (j := 23) C f_X3_18 dX3_copyFrom_31 (hI 20 rfl) ⟨rfl, rfl⟩ ?_
  refine x_iconst (pc := 34) C (0) dX3_copyFrom_34 (by decide) ?_
  refine x_aload_n (pc := 35) C dX3_copyFrom_35 rfl ?_
  refine x_getR (pc := 36) (o := 60) (j := 63) C f_X3_18 dX3_copyFrom_36 (hb 0 rfl) ⟨rfl, rfl⟩ ?_
  refine x_iconst (pc := 39) C (0) dX3_copyFrom_39 (by decide) ?_
  refine x_bipush (pc := 40) C (6) dX3_copyFrom_40 (by decide) ?_
  refine x_topi (nI 6) (by decide) ?_
  refine x_copy (pc := 42) (o0 := 23) (o1 := 63) C q_X3_57 dX3_copyFrom_42 (by decide) (Nat.le_of_ble_eq_true rfl) (hI 23 rfl) (hb 3 rfl) ⟨rfl, rfl⟩ ⟨rfl, rfl⟩ (by decide) (by decide) (by decide) ?_ mm_copy.1 mm_copy.2.1 mm_copy.2.2
  refine x_aload_n (pc := 45) C dX3_copyFrom_45 rfl ?_
  refine x_getR (pc := 46) (o := 20) (j := 24) C f_X3_21 dX3_copyFrom_46 (hI 20 rfl) ⟨rfl, rfl⟩ ?_
  refine x_iconst (pc := 49) C (0) dX3_copyFrom_49 (by decide) ?_
  refine x_aload_n (pc := 50) C dX3_copyFrom_50 rfl ?_
  refine x_getR (pc := 51) (o := 60) (j := 64) C f_X3_21 dX3_copyFrom_51 (hb 0 rfl) ⟨rfl, rfl⟩ ?_
  refine x_iconst (pc := 54) C (0) dX3_copyFrom_54 (by decide) ?_
  refine x_bipush (pc := 55) C (6) dX3_copyFrom_55 (by decide) ?_
  refine x_topi (nI 6) (by decide) ?_
  refine x_copy (pc := 57) (o0 := 24) (o1 := 64) C q_X3_57 dX3_copyFrom_57 (by decide) (Nat.le_of_ble_eq_true rfl) (hI 24 rfl) (hb 4 rfl) ⟨rfl, rfl⟩ ⟨rfl, rfl⟩ (by decide) (by decide) (by decide) ?_ mm_copy.1 mm_copy.2.1 mm_copy.2.2
  refine x_aload_n (pc := 60) C dX3_copyFrom_60 rfl ?_
  refine x_getR (pc := 61) (o := 20) (j := 25) C f_X3_24 dX3_copyFrom_61 (hI 20 rfl) ⟨rfl, rfl⟩ ?_
  refine x_iconst (pc := 64) C (0) dX3_copyFrom_64 (by decide) ?_
  refine x_aload_n (pc := 65) C dX3_copyFrom_65 rfl ?_
  refine x_getR (pc := 66) (o := 60) (j := 65) C f_X3_24 dX3_copyFrom_66 (hb 0 rfl) ⟨rfl, rfl⟩ ?_
  refine x_iconst (pc := 69) C (0) dX3_copyFrom_69 (by decide) ?_
  refine x_bipush (pc := 70) C (6) dX3_copyFrom_70 (by decide) ?_
  refine x_topi (nI 6) (by decide) ?_
  refine x_copy (pc := 72) (o0 := 25) (o1 := 65) C q_X3_57 dX3_copyFrom_72 (by decide) (Nat.le_of_ble_eq_true rfl) (hI 25 rfl) (hb 5 rfl) ⟨rfl, rfl⟩ ⟨rfl, rfl⟩ (by decide) (by decide) (by decide) ?_ mm_copy.1 mm_copy.2.1 mm_copy.2.2
  refine x_aload_n (pc := 75) C dX3_copyFrom_75 rfl ?_
  refine x_getR (pc := 76) (o := 20) (j := 26) C f_X3_27 dX3_copyFrom_76 (hI 20 rfl) ⟨rfl, rfl⟩ ?_
  refine x_iconst (pc := 79) C (0) dX3_copyFrom_79 (by decide) ?_
  refine x_aload_n (pc := 80) C dX3_copyFrom_80 rfl ?_
  refine x_getR (pc := 81) (o := 60) (j := 66) C f_X3_27 dX3_copyFrom_81 (hb 0 rfl) ⟨rfl, rfl⟩ ?_
  refine x_iconst (pc := 84) C (0) dX3_copyFrom_84 (by decide) ?_
  refine x_bipush (pc := 85) C (6) dX3_copyFrom_85 (by decide) ?_
  refine x_topi (nI 6) (by decide) ?_
  refine x_copy (pc := 87) (o0 := 26) (o1 := 66) C q_X3_57 dX3_copyFrom_87 (by decide) (Nat.le_of_ble_eq_true rfl) (hI 26 rfl) (hb 6 rfl) ⟨rfl, rfl⟩ ⟨rfl, rfl⟩ (by decide) (by decide) (by decide) ?_ mm_copy.1 mm_copy.2.1 mm_copy.2.2
  refine x_aload_n (pc := 90) C dX3_copyFrom_90 rfl ?_
  refine x_aload_n (pc := 91) C dX3_copyFrom_91 rfl ?_
  refine x_getI (pc := 92) (o := 20) C f_X3_63 dX3_copyFrom_92 (hI 20 rfl) ⟨rfl, rfl, rfl⟩ ?_
  refine x_putI (pc := 95) (o := 60) C p_X3_63 dX3_copyFrom_95 (hb 0 rfl) ⟨rfl, rfl, rfl⟩ ?_
  refine x_aload_n (pc := 98) C dX3_copyFrom_98 rfl ?_
  refine x_aload_n (pc := 99) C dX3_copyFrom_99 rfl ?_
  refine x_getI (pc := 100) (o := 20) C f_X3_67 dX3_copyFrom_100 (hI 20 rfl) ⟨rfl, rfl, rfl⟩ ?_
  refine x_putI (pc := 103) (o := 60) C p_X3_67 dX3_copyFrom_103 (hb 0 rfl) ⟨rfl, rfl, rfl⟩ ?_
  refine x_aload_n (pc := 106) C dX3_copyFrom_106 rfl ?_
  refine x_getR (pc := 107) (o := 20) (j := 29) C f_X3_30 dX3_copyFrom_107 (hI 20 rfl) ⟨rfl, rfl⟩ ?_
  refine x_iconst (pc := 110) C (0) dX3_copyFrom_110 (by decide) ?_
  refine x_aload_n (pc := 111) C dX3_copyFrom_111 rfl ?_
  refine x_getR (pc := 112) (o := 60) (j := 69) C f_X3_30 dX3_copyFrom_112 (hb 0 rfl) ⟨rfl, rfl⟩ ?_
  refine x_iconst (pc := 115) C (0) dX3_copyFrom_115 (by decide) ?_
  refine x_bipush (pc := 116) C (24) dX3_copyFrom_116 (by decide) ?_
  refine x_topi (nI 24) (by decide) ?_
  refine x_copy (pc := 118) (o0 := 29) (o1 := 69) C q_X3_57 dX3_copyFrom_118 (by decide) (Nat.le_of_ble_eq_true rfl) (hI 29 rfl) (hb 9 rfl) ⟨rfl, rfl⟩ ⟨rfl, rfl⟩ (by decide) (by decide) (by decide) ?_ mm_copy.1 mm_copy.2.1 mm_copy.2.2
  refine x_aload_n (pc := 121) C dX3_copyFrom_121 rfl ?_
  refine x_getR (pc := 122) (o := 20) (j := 30) C f_X3_33 dX3_copyFrom_122 (hI 20 rfl) ⟨rfl, rfl⟩ ?_
  refine x_iconst (pc := 125) C (0) dX3_copyFrom_125 (by decide) ?_
  refine x_aload_n (pc := 126) C dX3_copyFrom_126 rfl ?_
  refine x_getR (pc := 127) (o := 60) (j := 70) C f_X3_33 dX3_copyFrom_127 (hb 0 rfl) ⟨rfl, rfl⟩ ?_
  refine x_iconst (pc := 130) C (0) dX3_copyFrom_130 (by decide) ?_
  refine x_bipush (pc := 131) C (24) dX3_copyFrom_131 (by decide) ?_
  refine x_topi (nI 24) (by decide) ?_
  refine x_copy (pc := 133) (o0 := 30) (o1 := 70) C q_X3_57 dX3_copyFrom_133 (by decide) (Nat.le_of_ble_eq_true rfl) (hI 30 rfl) (hb 10 rfl) ⟨rfl, rfl⟩ ⟨rfl, rfl⟩ (by decide) (by decide) (by decide) ?_ mm_copy.1 mm_copy.2.1 mm_copy.2.2
  refine x_aload_n (pc := 136) C dX3_copyFrom_136 rfl ?_
  refine x_getR (pc := 137) (o := 20) (j := 31) C f_X3_36 dX3_copyFrom_137 (hI 20 rfl) ⟨rfl, rfl⟩ ?_
  refine x_iconst (pc := 140) C (0) dX3_copyFrom_140 (by decide) ?_
  refine x_aload_n (pc := 141) C dX3_copyFrom_141 rfl ?_
  refine x_getR (pc := 142) (o := 60) (j := 71) C f_X3_36 dX3_copyFrom_142 (hb 0 rfl) ⟨rfl, rfl⟩ ?_
  refine x_iconst (pc := 145) C (0) dX3_copyFrom_145 (by decide) ?_
  refine x_bipush (pc := 146) C (24) dX3_copyFrom_146 (by decide) ?_
  refine x_topi (nI 24) (by decide) ?_
  refine x_copy (pc := 148) (o0 := 31) (o1 := 71) C q_X3_57 dX3_copyFrom_148 (by decide) (Nat.le_of_ble_eq_true rfl) (hI 31 rfl) (hb 11 rfl) ⟨rfl, rfl⟩ ⟨rfl, rfl⟩ (by decide) (by decide) (by decide) ?_ mm_copy.1 mm_copy.2.1 mm_copy.2.2
  refine x_aload_n (pc := 151) C dX3_copyFrom_151 rfl ?_
  refine x_getR (pc := 152) (o := 20) (j := 32) C f_X3_39 dX3_copyFrom_152 (hI 20 rfl) ⟨rfl, rfl⟩ ?_
  refine x_iconst (pc := 155) C (0) dX3_copyFrom_155 (by decide) ?_
  refine x_aload_n (pc := 156) C dX3_copyFrom_156 rfl ?_
  refine x_getR (pc := 157) (o := 60) (j := 72) C f_X3_39 dX3_copyFrom_157 (hb 0 rfl) ⟨rfl, rfl⟩ ?_
  refine x_iconst (pc := 160) C (0) dX3_copyFrom_160 (by decide) ?_
  refine x_bipush (pc := 161) C (24) dX3_copyFrom_161 (by decide) ?_
  refine x_topi (nI 24) (by decide) ?_
  refine x_copy (pc := 163) (o0 := 32) (o1 := 72) C q_X3_57 dX3_copyFrom_163 (by decide) (Nat.le_of_ble_eq_true rfl) (hI 32 rfl) (hb 12 rfl) ⟨rfl, rfl⟩ ⟨rfl, rfl⟩ (by decide) (by decide) (by decide) ?_ mm_copy.1 mm_copy.2.1 mm_copy.2.2
  refine x_aload_n (pc := 166) C dX3_copyFrom_166 rfl ?_
  refine x_getR (pc := 167) (o := 20) (j := 33) C f_X3_42 dX3_copyFrom_167 (hI 20 rfl) ⟨rfl, rfl⟩ ?_
  refine x_iconst (pc := 170) C (0) dX3_copyFrom_170 (by decide) ?_
  refine x_aload_n (pc := 171) C dX3_copyFrom_171 rfl ?_
  refine x_getR (pc := 172) (o := 60) (j := 73) C f_X3_42 dX3_copyFrom_172 (hb 0 rfl) ⟨rfl, rfl⟩ ?_
  refine x_iconst (pc := 175) C (0) dX3_copyFrom_175 (by decide) ?_
  refine x_bipush (pc := 176) C (24) dX3_copyFrom_176 (by decide) ?_
  refine x_topi (nI 24) (by decide) ?_
  refine x_copy (pc := 178) (o0 := 33) (o1 := 73) C q_X3_57 dX3_copyFrom_178 (by decide) (Nat.le_of_ble_eq_true rfl) (hI 33 rfl) (hb 13 rfl) ⟨rfl, rfl⟩ ⟨rfl, rfl⟩ (by decide) (by decide) (by decide) ?_ mm_copy.1 mm_copy.2.1 mm_copy.2.2
  refine x_aload_n (pc := 181) C dX3_copyFrom_181 rfl ?_
  refine x_getR (pc := 182) (o := 20) (j := 34) C f_X3_45 dX3_copyFrom_182 (hI 20 rfl) ⟨rfl, rfl⟩ ?_
  refine x_iconst (pc := 185) C (0) dX3_copyFrom_185 (by decide) ?_
  refine x_aload_n (pc := 186) C dX3_copyFrom_186 rfl ?_
  refine x_getR (pc := 187) (o := 60) (j := 74) C f_X3_45 dX3_copyFrom_187 (hb 0 rfl) ⟨rfl, rfl⟩ ?_
  refine x_iconst (pc := 190) C (0) dX3_copyFrom_190 (by decide) ?_
  refine x_bipush (pc := 191) C (24) dX3_copyFrom_191 (by decide) ?_
  refine x_topi (nI 24) (by decide) ?_
  refine x_copy (pc := 193) (o0 := 34) (o1 := 74) C q_X3_57 dX3_copyFrom_193 (by decide) (Nat.le_of_ble_eq_true rfl) (hI 34 rfl) (hb 14 rfl) ⟨rfl, rfl⟩ ⟨rfl, rfl⟩ (by decide) (by decide) (by decide) ?_ mm_copy.1 mm_copy.2.1 mm_copy.2.2
  refine x_aload_n (pc := 196) C dX3_copyFrom_196 rfl ?_
  refine x_getR (pc := 197) (o := 20) (j := 35) C f_X3_48 dX3_copyFrom_197 (hI 20 rfl) ⟨rfl, rfl⟩ ?_
  refine x_iconst (pc := 200) C (0) dX3_copyFrom_200 (by decide) ?_
  refine x_aload_n (pc := 201) C dX3_copyFrom_201 rfl ?_
  refine x_getR (pc := 202) (o := 60) (j := 75) C f_X3_48 dX3_copyFrom_202 (hb 0 rfl) ⟨rfl, rfl⟩ ?_
  refine x_iconst (pc := 205) C (0) dX3_copyFrom_205 (by decide) ?_
  refine x_bipush (pc := 206) C (24) dX3_copyFrom_206 (by decide) ?_
  refine x_topi (nI 24) (by decide) ?_
  refine x_copy (pc := 208) (o0 := 35) (o1 := 75) C q_X3_57 dX3_copyFrom_208 (by decide) (Nat.le_of_ble_eq_true rfl) (hI 35 rfl) (hb 15 rfl) ⟨rfl, rfl⟩ ⟨rfl, rfl⟩ (by decide) (by decide) (by decide) ?_ mm_copy.1 mm_copy.2.1 mm_copy.2.2
  refine x_aload_n (pc := 211) C dX3_copyFrom_211 rfl ?_
  refine x_getR (pc := 212) (o := 20) (j := 36) C f_X3_51 dX3_copyFrom_212 (hI 20 rfl) ⟨rfl, rfl⟩ ?_
  refine x_iconst (pc := 215) C (0) dX3_copyFrom_215 (by decide) ?_
  refine x_aload_n (pc := 216) C dX3_copyFrom_216 rfl ?_
  refine x_getR (pc := 217) (o := 60) (j := 76) C f_X3_51 dX3_copyFrom_217 (hb 0 rfl) ⟨rfl, rfl⟩ ?_
  refine x_iconst (pc := 220) C (0) dX3_copyFrom_220 (by decide) ?_
  refine x_bipush (pc := 221) C (24) dX3_copyFrom_221 (by decide) ?_
  refine x_topi (nI 24) (by decide) ?_
  refine x_copy (pc := 223) (o0 := 36) (o1 := 76) C q_X3_57 dX3_copyFrom_223 (by decide) (Nat.le_of_ble_eq_true rfl) (hI 36 rfl) (hb 16 rfl) ⟨rfl, rfl⟩ ⟨rfl, rfl⟩ (by decide) (by decide) (by decide) ?_ mm_copy.1 mm_copy.2.1 mm_copy.2.2
  exact x_vret (pc := 226) C hQ dX3_copyFrom_226 (is_v rfl) (Nat.le_of_ble_eq_true rfl) (Nat.le_of_ble_eq_true rfl)
set_option maxRecDepth 100000 in
set_option maxHeartbeats 4000000 in
theorem r2_X3_copyFrom {l : Launch} {V : VV} {L : LL} {N : NN} {I : List Nat} (hI : PI I) (hb : PB I 80) : Runs l 2 0 0 yX3_copyFrom (Cond.code yX3_copyFrom cX3_copyFrom 2 none) [aR 20, aR 80] V L N I (Is none (cfV V 80 20) (L) N I) := by
  refine run_of RX3 (by decide +kernel) rfl (Nat.le_of_ble_eq_true rfl) (fun E hE C hQ hN => ?_)
  subst hE
  refine x_aload_n (pc := 0) C dX3_copyFrom_0 rfl ?_
  refine x_getR (pc := 1) (o := 80) (j := 81) C f_X3_9 dX3_copyFrom_1 (hb 0 rfl) ⟨rfl, rfl⟩ ?_
  refine x_iconst (pc := 4) C (0) dX3_copyFrom_4 (by decide) ?_
  refine x_aload_n (pc := 5) C dX3_copyFrom_5 rfl ?_
  refine x_getR (pc := 6) (o := 20) (j := 21) C f_X3_9 dX3_copyFrom_6 (hI 20 rfl) ⟨rfl, rfl⟩ ?_
  refine x_iconst (pc := 9) C (0) dX3_copyFrom_9 (by decide) ?_
  refine x_bipush (pc := 10) C (8) dX3_copyFrom_10 (by decide) ?_
  refine x_topi (nI 8) (by decide) ?_
  refine x_copy (pc := 12) (o0 := 81) (o1 := 21) C q_X3_57 dX3_copyFrom_12 (by decide) (Nat.le_of_ble_eq_true rfl) (hb 1 rfl) (hI 21 rfl) ⟨rfl, rfl⟩ ⟨rfl, rfl⟩ (by decide) (by decide) (by decide) ?_ mm_copy.1 mm_copy.2.1 mm_copy.2.2
  refine x_aload_n (pc := 15) C dX3_copyFrom_15 rfl ?_
  refine x_getR (pc := 16) (o := 80) (j := 82) C f_X3_15 dX3_copyFrom_16 (hb 0 rfl) ⟨rfl, rfl⟩ ?_
  refine x_iconst (pc := 19) C (0) dX3_copyFrom_19 (by decide) ?_
  refine x_aload_n (pc := 20) C dX3_copyFrom_20 rfl ?_
  refine x_getR (pc := 21) (o := 20) (j := 22) C f_X3_15 dX3_copyFrom_21 (hI 20 rfl) ⟨rfl, rfl⟩ ?_
  refine x_iconst (pc := 24) C (0) dX3_copyFrom_24 (by decide) ?_
  refine x_bipush (pc := 25) C (6) dX3_copyFrom_25 (by decide) ?_
  refine x_topi (nI 6) (by decide) ?_
  refine x_copy (pc := 27) (o0 := 82) (o1 := 22) C q_X3_57 dX3_copyFrom_27 (by decide) (Nat.le_of_ble_eq_true rfl) (hb 2 rfl) (hI 22 rfl) ⟨rfl, rfl⟩ ⟨rfl, rfl⟩ (by decide) (by decide) (by decide) ?_ mm_copy.1 mm_copy.2.1 mm_copy.2.2
  refine x_aload_n (pc := 30) C dX3_copyFrom_30 rfl ?_
  refine x_getR (pc := 31) (o := 80) (j := 83) C f_X3_18 dX3_copyFrom_31 (hb 0 rfl) ⟨rfl, rfl⟩ ?_
  refine x_iconst (pc := 34) C (0) dX3_copyFrom_34 (by decide) ?_
  refine x_aload_n (pc := 35) C dX3_copyFrom_35 rfl ?_
  refine x_getR (pc := 36) (o := 20) (j := 23) C f_X3_18 dX3_copyFrom_36 (hI 20 rfl) ⟨rfl, rfl⟩ ?_
  refine x_iconst (pc := 39) C (0) dX3_copyFrom_39 (by decide) ?_
  refine x_bipush (pc := 40) C (6) dX3_copyFrom_40 (by decide) ?_
  refine x_topi (nI 6) (by decide) ?_
  refine x_copy (pc := 42) (o0 := 83) (o1 := 23) C q_X3_57 dX3_copyFrom_42 (by decide) (Nat.le_of_ble_eq_true rfl) (hb 3 rfl) (hI 23 rfl) ⟨rfl, rfl⟩ ⟨rfl, rfl⟩ (by decide) (by decide) (by decide) ?_ mm_copy.1 mm_copy.2.1 mm_copy.2.2
  refine x_aload_n (pc := 45) C dX3_copyFrom_45 rfl ?_
  refine x_getR (pc := 46) (o := 80) (j := 84) C f_X3_21 dX3_copyFrom_46 (hb 0 rfl) ⟨rfl, rfl⟩ ?_
  refine x_iconst (pc := 49) C (0) dX3_copyFrom_49 (by decide) ?_
  refine x_aload_n (pc := 50) C dX3_copyFrom_50 rfl ?_
  refine x_getR (pc := 51) (o := 20) (j := 24) C f_X3_21 dX3_copyFrom_51 (hI 20 rfl) ⟨rfl, rfl⟩ ?_
  refine x_iconst (pc := 54) C (0) dX3_copyFrom_54 (by decide) ?_
  refine x_bipush (pc := 55) C (6) dX3_copyFrom_55 (by decide) ?_
  refine x_topi (nI 6) (by decide) ?_
  refine x_copy (pc := 57) (o0 := 84) (o1 := 24) C q_X3_57 dX3_copyFrom_57 (by decide) (Nat.le_of_ble_eq_true rfl) (hb 4 rfl) (hI 24 rfl) ⟨rfl, rfl⟩ ⟨rfl, rfl⟩ (by decide) (by decide) (by decide) ?_ mm_copy.1 mm_copy.2.1 mm_copy.2.2
  refine x_aload_n (pc := 60) C dX3_copyFrom_60 rfl ?_
  refine x_getR (pc := 61) (o := 80) (j := 85) C f_X3_24 dX3_copyFrom_61 (hb 0 rfl) ⟨rfl, rfl⟩ ?_
  refine x_iconst (pc := 64) C (0) dX3_copyFrom_64 (by decide) ?_
  refine x_aload_n (pc := 65) C dX3_copyFrom_65 rfl ?_
  refine x_getR (pc := 66) (o := 20) (j := 25) C f_X3_24 dX3_copyFrom_66 (hI 20 rfl) ⟨rfl, rfl⟩ ?_
  refine x_iconst (pc := 69) C (0) dX3_copyFrom_69 (by decide) ?_
  refine x_bipush (pc := 70) C (6) dX3_copyFrom_70 (by decide) ?_
  refine x_topi (nI 6) (by decide) ?_
  refine x_copy (pc := 72) (o0 := 85) (o1 := 25) C q_X3_57 dX3_copyFrom_72 (by decide) (Nat.le_of_ble_eq_true rfl) (hb 5 rfl) (hI 25 rfl) ⟨rfl, rfl⟩ ⟨rfl, rfl⟩ (by decide) (by decide) (by decide) ?_ mm_copy.1 mm_copy.2.1 mm_copy.2.2
  refine x_aload_n (pc := 75) C dX3_copyFrom_75 rfl ?_
  refine x_getR (pc := 76) (o := 80) (j := 86) C f_X3_27 dX3_copyFrom_76 (hb 0 rfl) ⟨rfl, rfl⟩ ?_
  refine x_iconst (pc := 79) C (0) dX3_copyFrom_79 (by decide) ?_
  refine x_aload_n (pc := 80) C dX3_copyFrom_80 rfl ?_
  refine x_getR (pc := 81) (o := 20) (j := 26) C f_X3_27 dX3_copyFrom_81 (hI 20 rfl) ⟨rfl, rfl⟩ ?_
  refine x_iconst (pc := 84) C (0) dX3_copyFrom_84 (by decide) ?_
  refine x_bipush (pc := 85) C (6) dX3_copyFrom_85 (by decide) ?_
  refine x_topi (nI 6) (by decide) ?_
  refine x_copy (pc := 87) (o0 := 86) (o1 := 26) C q_X3_57 dX3_copyFrom_87 (by decide) (Nat.le_of_ble_eq_true rfl) (hb 6 rfl) (hI 26 rfl) ⟨rfl, rfl⟩ ⟨rfl, rfl⟩ (by decide) (by decide) (by decide) ?_ mm_copy.1 mm_copy.2.1 mm_copy.2.2
  refine x_aload_n (pc := 90) C dX3_copyFrom_90 rfl ?_
  refine x_aload_n (pc := 91) C dX3_copyFrom_91 rfl ?_
  refine x_getI (pc := 92) (o := 80) C f_X3_63 dX3_copyFrom_92 (hb 0 rfl) ⟨rfl, rfl, rfl⟩ ?_
  refine x_putI (pc := 95) (o := 20) C p_X3_63 dX3_copyFrom_95 (hI 20 rfl) ⟨rfl, rfl, rfl⟩ ?_
  refine x_aload_n (pc := 98) C dX3_copyFrom_98 rfl ?_
  refine x_aload_n (pc := 99) C dX3_copyFrom_99 rfl ?_
  refine x_getI (pc := 100) (o := 80) C f_X3_67 dX3_copyFrom_100 (hb 0 rfl) ⟨rfl, rfl, rfl⟩ ?_
  refine x_putI (pc := 103) (o := 20) C p_X3_67 dX3_copyFrom_103 (hI 20 rfl) ⟨rfl, rfl, rfl⟩ ?_
  refine x_aload_n (pc := 106) C dX3_copyFrom_106 rfl ?_
  refine x_getR (pc := 107) (o := 80) (j := 89) C f_X3_30 dX3_copyFrom_107 (hb 0 rfl) ⟨rfl, rfl⟩ ?_
  refine x_iconst (pc := 110) C (0) dX3_copyFrom_110 (by decide) ?_
  refine x_aload_n (pc := 111) C dX3_copyFrom_111 rfl ?_
  refine x_getR (pc := 112) (o := 20) (j := 29) C f_X3_30 dX3_copyFrom_112 (hI 20 rfl) ⟨rfl, rfl⟩ ?_
  refine x_iconst (pc := 115) C (0) dX3_copyFrom_115 (by decide) ?_
  refine x_bipush (pc := 116) C (24) dX3_copyFrom_116 (by decide) ?_
  refine x_topi (nI 24) (by decide) ?_
  refine x_copy (pc := 118) (o0 := 89) (o1 := 29) C q_X3_57 dX3_copyFrom_118 (by decide) (Nat.le_of_ble_eq_true rfl) (hb 9 rfl) (hI 29 rfl) ⟨rfl, rfl⟩ ⟨rfl, rfl⟩ (by decide) (by decide) (by decide) ?_ mm_copy.1 mm_copy.2.1 mm_copy.2.2
  refine x_aload_n (pc := 121) C dX3_copyFrom_121 rfl ?_
  refine x_getR (pc := 122) (o := 80) (j := 90) C f_X3_33 dX3_copyFrom_122 (hb 0 rfl) ⟨rfl, rfl⟩ ?_
  refine x_iconst (pc := 125) C (0) dX3_copyFrom_125 (by decide) ?_
  refine x_aload_n (pc := 126) C dX3_copyFrom_126 rfl ?_
  refine x_getR (pc := 127) (o := 20) (j := 30) C f_X3_33 dX3_copyFrom_127 (hI 20 rfl) ⟨rfl, rfl⟩ ?_
  refine x_iconst (pc := 130) C (0) dX3_copyFrom_130 (by decide) ?_
  refine x_bipush (pc := 131) C (24) dX3_copyFrom_131 (by decide) ?_
  refine x_topi (nI 24) (by decide) ?_
  refine x_copy (pc := 133) (o0 := 90) (o1 := 30) C q_X3_57 dX3_copyFrom_133 (by decide) (Nat.le_of_ble_eq_true rfl) (hb 10 rfl) (hI 30 rfl) ⟨rfl, rfl⟩ ⟨rfl, rfl⟩ (by decide) (by decide) (by decide) ?_ mm_copy.1 mm_copy.2.1 mm_copy.2.2
  refine x_aload_n (pc := 136) C dX3_copyFrom_136 rfl ?_
  refine x_getR (pc := 137) (o := 80) (j := 91) C f_X3_36 dX3_copyFrom_137 (hb 0 rfl) ⟨rfl, rfl⟩ ?_
  refine x_iconst (pc := 140) C (0) dX3_copyFrom_140 (by decide) ?_
  refine x_aload_n (pc := 141) C dX3_copyFrom_141 rfl ?_
  refine x_getR (pc := 142) (o := 20) (j := 31) C f_X3_36 dX3_copyFrom_142 (hI 20 rfl) ⟨rfl, rfl⟩ ?_
  refine x_iconst (pc := 145) C (0) dX3_copyFrom_145 (by decide) ?_
  refine x_bipush (pc := 146) C (24) dX3_copyFrom_146 (by decide) ?_
  refine x_topi (nI 24) (by decide) ?_
  refine x_copy (pc := 148) (o0 := 91) (o1 := 31) C q_X3_57 dX3_copyFrom_148 (by decide) (Nat.le_of_ble_eq_true rfl) (hb 11 rfl) (hI 31 rfl) ⟨rfl, rfl⟩ ⟨rfl, rfl⟩ (by decide) (by decide) (by decide) ?_ mm_copy.1 mm_copy.2.1 mm_copy.2.2
  refine x_aload_n (pc := 151) C dX3_copyFrom_151 rfl ?_
  refine x_getR (pc := 152) (o := 80) (j := 92) C f_X3_39 dX3_copyFrom_152 (hb 0 rfl) ⟨rfl, rfl⟩ ?_
  refine x_iconst (pc := 155) C (0) dX3_copyFrom_155 (by decide) ?_
  refine x_aload_n (pc := 156) C dX3_copyFrom_156 rfl ?_
  refine x_getR (pc := 157) (o := 20) (j := 32) C f_X3_39 dX3_copyFrom_157 (hI 20 rfl) ⟨rfl, rfl⟩ ?_
  refine x_iconst (pc := 160) C (0) dX3_copyFrom_160 (by decide) ?_
  refine x_bipush (pc := 161) C (24) dX3_copyFrom_161 (by decide) ?_
  refine x_topi (nI 24) (by decide) ?_
  refine x_copy (pc := 163) (o0 := 92) (o1 := 32) C q_X3_57 dX3_copyFrom_163 (by decide) (Nat.le_of_ble_eq_true rfl) (hb 12 rfl) (hI 32 rfl) ⟨rfl, rfl⟩ ⟨rfl, rfl⟩ (by decide) (by decide) (by decide) ?_ mm_copy.1 mm_copy.2.1 mm_copy.2.2
  refine x_aload_n (pc := 166) C dX3_copyFrom_166 rfl ?_
  refine x_getR (pc := 167) (o := 80) (j := 93) C f_X3_42 dX3_copyFrom_167 (hb 0 rfl) ⟨rfl, rfl⟩ ?_
  refine x_iconst (pc := 170) C (0) dX3_copyFrom_170 (by decide) ?_
  refine x_aload_n (pc := 171) C dX3_copyFrom_171 rfl ?_
  refine x_getR (pc := 172) (o := 20) (j := 33) C f_X3_42 dX3_copyFrom_172 (hI 20 rfl) ⟨rfl, rfl⟩ ?_
  refine x_iconst (pc := 175) C (0) dX3_copyFrom_175 (by decide) ?_
  refine x_bipush (pc := 176) C (24) dX3_copyFrom_176 (by decide) ?_
  refine x_topi (nI 24) (by decide) ?_
  refine x_copy (pc := 178) (o0 := 93) (o1 := 33) C q_X3_57 dX3_copyFrom_178 (by decide) (Nat.le_of_ble_eq_true rfl) (hb 13 rfl) (hI 33 rfl) ⟨rfl, rfl⟩ ⟨rfl, rfl⟩ (by decide) (by decide) (by decide) ?_ mm_copy.1 mm_copy.2.1 mm_copy.2.2
  refine x_aload_n (pc := 181) C dX3_copyFrom_181 rfl ?_
  refine x_getR (pc := 182) (o := 80) (j := 94) C f_X3_45 dX3_copyFrom_182 (hb 0 rfl) ⟨rfl, rfl⟩ ?_
  refine x_iconst (pc := 185) C (0) dX3_copyFrom_185 (by decide) ?_
  refine x_aload_n (pc := 186) C dX3_copyFrom_186 rfl ?_
  refine x_getR (pc := 187) (o := 20) (j := 34) C f_X3_45 dX3_copyFrom_187 (hI 20 rfl) ⟨rfl, rfl⟩ ?_
  refine x_iconst (pc := 190) C (0) dX3_copyFrom_190 (by decide) ?_
  refine x_bipush (pc := 191) C (24) dX3_copyFrom_191 (by decide) ?_
  refine x_topi (nI 24) (by decide) ?_
  refine x_copy (pc := 193) (o0 := 94) (o1 := 34) C q_X3_57 dX3_copyFrom_193 (by decide) (Nat.le_of_ble_eq_true rfl) (hb 14 rfl) (hI 34 rfl) ⟨rfl, rfl⟩ ⟨rfl, rfl⟩ (by decide) (by decide) (by decide) ?_ mm_copy.1 mm_copy.2.1 mm_copy.2.2
  refine x_aload_n (pc := 196) C dX3_copyFrom_196 rfl ?_
  refine x_getR (pc := 197) (o := 80) (j := 95) C f_X3_48 dX3_copyFrom_197 (hb 0 rfl) ⟨rfl, rfl⟩ ?_
  refine x_iconst (pc := 200) C (0) dX3_copyFrom_200 (by decide) ?_
  refine x_aload_n (pc := 201) C dX3_copyFrom_201 rfl ?_
  refine x_getR (pc := 202) (o := 20) (j := 35) C f_X3_48 dX3_copyFrom_202 (hI 20 rfl) ⟨rfl, rfl⟩ ?_
  refine x_iconst (pc := 205) C (0) dX3_copyFrom_205 (by decide) ?_
  refine x_bipush (pc := 206) C (24) dX3_copyFrom_206 (by decide) ?_
  refine x_topi (nI 24) (by decide) ?_
  refine x_copy (pc := 208) (o0 := 95) (o1 := 35) C q_X3_57 dX3_copyFrom_208 (by decide) (Nat.le_of_ble_eq_true rfl) (hb 15 rfl) (hI 35 rfl) ⟨rfl, rfl⟩ ⟨rfl, rfl⟩ (by decide) (by decide) (by decide) ?_ mm_copy.1 mm_copy.2.1 mm_copy.2.2
  refine x_aload_n (pc := 211) C dX3_copyFrom_211 rfl ?_
  refine x_getR (pc := 212) (o := 80) (j := 96) C f_X3_51 dX3_copyFrom_212 (hb 0 rfl) ⟨rfl, rfl⟩ ?_
  refine x_iconst (pc := 215) C (0) dX3_copyFrom_215 (by decide) ?_
  refine x_aload_n (pc := 216) C dX3_copyFrom_216 rfl ?_
  refine x_getR (pc := 217) (o := 20) (j := 36) C f_X3_51 dX3_copyFrom_217 (hI 20 rfl) ⟨rfl, rfl⟩ ?_
  refine x_iconst (pc := 220) C (0) dX3_copyFrom_220 (by decide) ?_
  refine x_bipush (pc := 221) C (24) dX3_copyFrom_221 (by decide) ?_
  refine x_topi (nI 24) (by decide) ?_
  refine x_copy (pc := 223) (o0 := 96) (o1 := 36) C q_X3_57 dX3_copyFrom_223 (by decide) (Nat.le_of_ble_eq_true rfl) (hb 16 rfl) (hI 36 rfl) ⟨rfl, rfl⟩ ⟨rfl, rfl⟩ (by decide) (by decide) (by decide) ?_ mm_copy.1 mm_copy.2.1 mm_copy.2.2
  exact x_vret (pc := 226) C hQ dX3_copyFrom_226 (is_v rfl) (Nat.le_of_ble_eq_true rfl) (Nat.le_of_ble_eq_true rfl)
set_option maxRecDepth 100000 in
set_option maxHeartbeats 4000000 in
theorem s2_X3_copyFrom {l : Launch} {V : VV} {L : LL} {N : NN} {I : List Nat} (hI : PI I) (hb : PB I 80) : Runs l 2 0 0 yX3_copyFrom (Cond.code yX3_copyFrom cX3_copyFrom 2 none) [aR 80, aR 20] V L N I (Is none (cfV V 20 80) (L) N I) := by
  refine run_of RX3 (by decide +kernel) rfl (Nat.le_of_ble_eq_true rfl) (fun E hE C hQ hN => ?_)
  subst hE
  refine x_aload_n (pc := 0) C dX3_copyFrom_0 rfl ?_
  refine x_getR (pc := 1) (o := 20) (j := 21) C f_X3_9 dX3_copyFrom_1 (hI 20 rfl) ⟨rfl, rfl⟩ ?_
  refine x_iconst (pc := 4) C (0) dX3_copyFrom_4 (by decide) ?_
  refine x_aload_n (pc := 5) C dX3_copyFrom_5 rfl ?_
  refine x_getR (pc := 6) (o := 80) (j := 81) C f_X3_9 dX3_copyFrom_6 (hb 0 rfl) ⟨rfl, rfl⟩ ?_
  refine x_iconst (pc := 9) C (0) dX3_copyFrom_9 (by decide) ?_
  refine x_bipush (pc := 10) C (8) dX3_copyFrom_10 (by decide) ?_
  refine x_topi (nI 8) (by decide) ?_
  refine x_copy (pc := 12) (o0 := 21) (o1 := 81) C q_X3_57 dX3_copyFrom_12 (by decide) (Nat.le_of_ble_eq_true rfl) (hI 21 rfl) (hb 1 rfl) ⟨rfl, rfl⟩ ⟨rfl, rfl⟩ (by decide) (by decide) (by decide) ?_ mm_copy.1 mm_copy.2.1 mm_copy.2.2
  refine x_aload_n (pc := 15) C dX3_copyFrom_15 rfl ?_
  refine x_getR (pc := 16) (o := 20) (j := 22) C f_X3_15 dX3_copyFrom_16 (hI 20 rfl) ⟨rfl, rfl⟩ ?_
  refine x_iconst (pc := 19) C (0) dX3_copyFrom_19 (by decide) ?_
  refine x_aload_n (pc := 20) C dX3_copyFrom_20 rfl ?_
  refine x_getR (pc := 21) (o := 80) (j := 82) C f_X3_15 dX3_copyFrom_21 (hb 0 rfl) ⟨rfl, rfl⟩ ?_
  refine x_iconst (pc := 24) C (0) dX3_copyFrom_24 (by decide) ?_
  refine x_bipush (pc := 25) C (6) dX3_copyFrom_25 (by decide) ?_
  refine x_topi (nI 6) (by decide) ?_
  refine x_copy (pc := 27) (o0 := 22) (o1 := 82) C q_X3_57 dX3_copyFrom_27 (by decide) (Nat.le_of_ble_eq_true rfl) (hI 22 rfl) (hb 2 rfl) ⟨rfl, rfl⟩ ⟨rfl, rfl⟩ (by decide) (by decide) (by decide) ?_ mm_copy.1 mm_copy.2.1 mm_copy.2.2
  refine x_aload_n (pc := 30) C dX3_copyFrom_30 rfl ?_
  refine x_getR (pc := 31) (o := 20) (j := 23) C f_X3_18 dX3_copyFrom_31 (hI 20 rfl) ⟨rfl, rfl⟩ ?_
  refine x_iconst (pc := 34) C (0) dX3_copyFrom_34 (by decide) ?_
  refine x_aload_n (pc := 35) C dX3_copyFrom_35 rfl ?_
  refine x_getR (pc := 36) (o := 80) (j := 83) C f_X3_18 dX3_copyFrom_36 (hb 0 rfl) ⟨rfl, rfl⟩ ?_
  refine x_iconst (pc := 39) C (0) dX3_copyFrom_39 (by decide) ?_
  refine x_bipush (pc := 40) C (6) dX3_copyFrom_40 (by decide) ?_
  refine x_topi (nI 6) (by decide) ?_
  refine x_copy (pc := 42) (o0 := 23) (o1 := 83) C q_X3_57 dX3_copyFrom_42 (by decide) (Nat.le_of_ble_eq_true rfl) (hI 23 rfl) (hb 3 rfl) ⟨rfl, rfl⟩ ⟨rfl, rfl⟩ (by decide) (by decide) (by decide) ?_ mm_copy.1 mm_copy.2.1 mm_copy.2.2
  refine x_aload_n (pc := 45) C dX3_copyFrom_45 rfl ?_
  refine x_getR (pc := 46) (o := 20) (j := 24) C f_X3_21 dX3_copyFrom_46 (hI 20 rfl) ⟨rfl, rfl⟩ ?_
  refine x_iconst (pc := 49) C (0) dX3_copyFrom_49 (by decide) ?_
  refine x_aload_n (pc := 50) C dX3_copyFrom_50 rfl ?_
  refine x_getR (pc := 51) (o := 80) (j := 84) C f_X3_21 dX3_copyFrom_51 (hb 0 rfl) ⟨rfl, rfl⟩ ?_
  refine x_iconst (pc := 54) C (0) dX3_copyFrom_54 (by decide) ?_
  refine x_bipush (pc := 55) C (6) dX3_copyFrom_55 (by decide) ?_
  refine x_topi (nI 6) (by decide) ?_
  refine x_copy (pc := 57) (o0 := 24) (o1 := 84) C q_X3_57 dX3_copyFrom_57 (by decide) (Nat.le_of_ble_eq_true rfl) (hI 24 rfl) (hb 4 rfl) ⟨rfl, rfl⟩ ⟨rfl, rfl⟩ (by decide) (by decide) (by decide) ?_ mm_copy.1 mm_copy.2.1 mm_copy.2.2
  refine x_aload_n (pc := 60) C dX3_copyFrom_60 rfl ?_
  refine x_getR (pc := 61) (o := 20) (j := 25) C f_X3_24 dX3_copyFrom_61 (hI 20 rfl) ⟨rfl, rfl⟩ ?_
  refine x_iconst (pc := 64) C (0) dX3_copyFrom_64 (by decide) ?_
  refine x_aload_n (pc := 65) C dX3_copyFrom_65 rfl ?_
  refine x_getR (pc := 66) (o := 80) (j := 85) C f_X3_24 dX3_copyFrom_66 (hb 0 rfl) ⟨rfl, rfl⟩ ?_
  refine x_iconst (pc := 69) C (0) dX3_copyFrom_69 (by decide) ?_
  refine x_bipush (pc := 70) C (6) dX3_copyFrom_70 (by decide) ?_
  refine x_topi (nI 6) (by decide) ?_
  refine x_copy (pc := 72) (o0 := 25) (o1 := 85) C q_X3_57 dX3_copyFrom_72 (by decide) (Nat.le_of_ble_eq_true rfl) (hI 25 rfl) (hb 5 rfl) ⟨rfl, rfl⟩ ⟨rfl, rfl⟩ (by decide) (by decide) (by decide) ?_ mm_copy.1 mm_copy.2.1 mm_copy.2.2
  refine x_aload_n (pc := 75) C dX3_copyFrom_75 rfl ?_
  refine x_getR (pc := 76) (o := 20) (j := 26) C f_X3_27 dX3_copyFrom_76 (hI 20 rfl) ⟨rfl, rfl⟩ ?_
  refine x_iconst (pc := 79) C (0) dX3_copyFrom_79 (by decide) ?_
  refine x_aload_n (pc := 80) C dX3_copyFrom_80 rfl ?_
  refine x_getR (pc := 81) (o := 80) (j := 86) C f_X3_27 dX3_copyFrom_81 (hb 0 rfl) ⟨rfl, rfl⟩ ?_
  refine x_iconst (pc := 84) C (0) dX3_copyFrom_84 (by decide) ?_
  refine x_bipush (pc := 85) C (6) dX3_copyFrom_85 (by decide) ?_
  refine x_topi (nI 6) (by decide) ?_
  refine x_copy (pc := 87) (o0 := 26) (o1 := 86) C q_X3_57 dX3_copyFrom_87 (by decide) (Nat.le_of_ble_eq_true rfl) (hI 26 rfl) (hb 6 rfl) ⟨rfl, rfl⟩ ⟨rfl, rfl⟩ (by decide) (by decide) (by decide) ?_ mm_copy.1 mm_copy.2.1 mm_copy.2.2
  refine x_aload_n (pc := 90) C dX3_copyFrom_90 rfl ?_
  refine x_aload_n (pc := 91) C dX3_copyFrom_91 rfl ?_
  refine x_getI (pc := 92) (o := 20) C f_X3_63 dX3_copyFrom_92 (hI 20 rfl) ⟨rfl, rfl, rfl⟩ ?_
  refine x_putI (pc := 95) (o := 80) C p_X3_63 dX3_copyFrom_95 (hb 0 rfl) ⟨rfl, rfl, rfl⟩ ?_
  refine x_aload_n (pc := 98) C dX3_copyFrom_98 rfl ?_
  refine x_aload_n (pc := 99) C dX3_copyFrom_99 rfl ?_
  refine x_getI (pc := 100) (o := 20) C f_X3_67 dX3_copyFrom_100 (hI 20 rfl) ⟨rfl, rfl, rfl⟩ ?_
  refine x_putI (pc := 103) (o := 80) C p_X3_67 dX3_copyFrom_103 (hb 0 rfl) ⟨rfl, rfl, rfl⟩ ?_
  refine x_aload_n (pc := 106) C dX3_copyFrom_106 rfl ?_
  refine x_getR (pc := 107) (o := 20) (j := 29) C f_X3_30 dX3_copyFrom_107 (hI 20 rfl) ⟨rfl, rfl⟩ ?_
  refine x_iconst (pc := 110) C (0) dX3_copyFrom_110 (by decide) ?_
  refine x_aload_n (pc := 111) C dX3_copyFrom_111 rfl ?_
  refine x_getR (pc := 112) (o := 80) (j := 89) C f_X3_30 dX3_copyFrom_112 (hb 0 rfl) ⟨rfl, rfl⟩ ?_
  refine x_iconst (pc := 115) C (0) dX3_copyFrom_115 (by decide) ?_
  refine x_bipush (pc := 116) C (24) dX3_copyFrom_116 (by decide) ?_
  refine x_topi (nI 24) (by decide) ?_
  refine x_copy (pc := 118) (o0 := 29) (o1 := 89) C q_X3_57 dX3_copyFrom_118 (by decide) (Nat.le_of_ble_eq_true rfl) (hI 29 rfl) (hb 9 rfl) ⟨rfl, rfl⟩ ⟨rfl, rfl⟩ (by decide) (by decide) (by decide) ?_ mm_copy.1 mm_copy.2.1 mm_copy.2.2
  refine x_aload_n (pc := 121) C dX3_copyFrom_121 rfl ?_
  refine x_getR (pc := 122) (o := 20) (j := 30) C f_X3_33 dX3_copyFrom_122 (hI 20 rfl) ⟨rfl, rfl⟩ ?_
  refine x_iconst (pc := 125) C (0) dX3_copyFrom_125 (by decide) ?_
  refine x_aload_n (pc := 126) C dX3_copyFrom_126 rfl ?_
  refine x_getR (pc := 127) (o := 80) (j := 90) C f_X3_33 dX3_copyFrom_127 (hb 0 rfl) ⟨rfl, rfl⟩ ?_
  refine x_iconst (pc := 130) C (0) dX3_copyFrom_130 (by decide) ?_
  refine x_bipush (pc := 131) C (24) dX3_copyFrom_131 (by decide) ?_
  refine x_topi (nI 24) (by decide) ?_
  refine x_copy (pc := 133) (o0 := 30) (o1 := 90) C q_X3_57 dX3_copyFrom_133 (by decide) (Nat.le_of_ble_eq_true rfl) (hI 30 rfl) (hb 10 rfl) ⟨rfl, rfl⟩ ⟨rfl, rfl⟩ (by decide) (by decide) (by decide) ?_ mm_copy.1 mm_copy.2.1 mm_copy.2.2
  refine x_aload_n (pc := 136) C dX3_copyFrom_136 rfl ?_
  refine x_getR (pc := 137) (o := 20) (j := 31) C f_X3_36 dX3_copyFrom_137 (hI 20 rfl) ⟨rfl, rfl⟩ ?_
  refine x_iconst (pc := 140) C (0) dX3_copyFrom_140 (by decide) ?_
  refine x_aload_n (pc := 141) C dX3_copyFrom_141 rfl ?_
  refine x_getR (pc := 142) (o := 80) (j := 91) C f_X3_36 dX3_copyFrom_142 (hb 0 rfl) ⟨rfl, rfl⟩ ?_
  refine x_iconst (pc := 145) C (0) dX3_copyFrom_145 (by decide) ?_
  refine x_bipush (pc := 146) C (24) dX3_copyFrom_146 (by decide) ?_
  refine x_topi (nI 24) (by decide) ?_
  refine x_copy (pc := 148) (o0 := 31) (o1 := 91) C q_X3_57 dX3_copyFrom_148 (by decide) (Nat.le_of_ble_eq_true rfl) (hI 31 rfl) (hb 11 rfl) ⟨rfl, rfl⟩ ⟨rfl, rfl⟩ (by decide) (by decide) (by decide) ?_ mm_copy.1 mm_copy.2.1 mm_copy.2.2
  refine x_aload_n (pc := 151) C dX3_copyFrom_151 rfl ?_
  refine x_getR (pc := 152) (o := 20) (j := 32) C f_X3_39 dX3_copyFrom_152 (hI 20 rfl) ⟨rfl, rfl⟩ ?_
  refine x_iconst (pc := 155) C (0) dX3_copyFrom_155 (by decide) ?_
  refine x_aload_n (pc := 156) C dX3_copyFrom_156 rfl ?_
  refine x_getR (pc := 157) (o := 80) (j := 92) C f_X3_39 dX3_copyFrom_157 (hb 0 rfl) ⟨rfl, rfl⟩ ?_
  refine x_iconst (pc := 160) C (0) dX3_copyFrom_160 (by decide) ?_
  refine x_bipush (pc := 161) C (24) dX3_copyFrom_161 (by decide) ?_
  refine x_topi (nI 24) (by decide) ?_
  refine x_copy (pc := 163) (o0 := 32) (o1 := 92) C q_X3_57 dX3_copyFrom_163 (by decide) (Nat.le_of_ble_eq_true rfl) (hI 32 rfl) (hb 12 rfl) ⟨rfl, rfl⟩ ⟨rfl, rfl⟩ (by decide) (by decide) (by decide) ?_ mm_copy.1 mm_copy.2.1 mm_copy.2.2
  refine x_aload_n (pc := 166) C dX3_copyFrom_166 rfl ?_
  refine x_getR (pc := 167) (o := 20) (j := 33) C f_X3_42 dX3_copyFrom_167 (hI 20 rfl) ⟨rfl, rfl⟩ ?_
  refine x_iconst (pc := 170) C (0) dX3_copyFrom_170 (by decide) ?_
  refine x_aload_n (pc := 171) C dX3_copyFrom_171 rfl ?_
  refine x_getR (pc := 172) (o := 80) (j := 93) C f_X3_42 dX3_copyFrom_172 (hb 0 rfl) ⟨rfl, rfl⟩ ?_
  refine x_iconst (pc := 175) C (0) dX3_copyFrom_175 (by decide) ?_
  refine x_bipush (pc := 176) C (24) dX3_copyFrom_176 (by decide) ?_
  refine x_topi (nI 24) (by decide) ?_
  refine x_copy (pc := 178) (o0 := 33) (o1 := 93) C q_X3_57 dX3_copyFrom_178 (by decide) (Nat.le_of_ble_eq_true rfl) (hI 33 rfl) (hb 13 rfl) ⟨rfl, rfl⟩ ⟨rfl, rfl⟩ (by decide) (by decide) (by decide) ?_ mm_copy.1 mm_copy.2.1 mm_copy.2.2
  refine x_aload_n (pc := 181) C dX3_copyFrom_181 rfl ?_
  refine x_getR (pc := 182) (o := 20) (j := 34) C f_X3_45 dX3_copyFrom_182 (hI 20 rfl) ⟨rfl, rfl⟩ ?_
  refine x_iconst (pc := 185) C (0) dX3_copyFrom_185 (by decide) ?_
  refine x_aload_n (pc := 186) C dX3_copyFrom_186 rfl ?_
  refine x_getR (pc := 187) (o := 80) (j := 94) C f_X3_45 dX3_copyFrom_187 (hb 0 rfl) ⟨rfl, rfl⟩ ?_
  refine x_iconst (pc := 190) C (0) dX3_copyFrom_190 (by decide) ?_
  refine x_bipush (pc := 191) C (24) dX3_copyFrom_191 (by decide) ?_
  refine x_topi (nI 24) (by decide) ?_
  refine x_copy (pc := 193) (o0 := 34) (o1 := 94) C q_X3_57 dX3_copyFrom_193 (by decide) (Nat.le_of_ble_eq_true rfl) (hI 34 rfl) (hb 14 rfl) ⟨rfl, rfl⟩ ⟨rfl, rfl⟩ (by decide) (by decide) (by decide) ?_ mm_copy.1 mm_copy.2.1 mm_copy.2.2
  refine x_aload_n (pc := 196) C dX3_copyFrom_196 rfl ?_
  refine x_getR (pc := 197) (o := 20) (j := 35) C f_X3_48 dX3_copyFrom_197 (hI 20 rfl) ⟨rfl, rfl⟩ ?_
  refine x_iconst (pc := 200) C (0) dX3_copyFrom_200 (by decide) ?_
  refine x_aload_n (pc := 201) C dX3_copyFrom_201 rfl ?_
  refine x_getR (pc := 202) (o := 80) (j := 95) C f_X3_48 dX3_copyFrom_202 (hb 0 rfl) ⟨rfl, rfl⟩ ?_
  refine x_iconst (pc := 205) C (0) dX3_copyFrom_205 (by decide) ?_
  refine x_bipush (pc := 206) C (24) dX3_copyFrom_206 (by decide) ?_
  refine x_topi (nI 24) (by decide) ?_
  refine x_copy (pc := 208) (o0 := 35) (o1 := 95) C q_X3_57 dX3_copyFrom_208 (by decide) (Nat.le_of_ble_eq_true rfl) (hI 35 rfl) (hb 15 rfl) ⟨rfl, rfl⟩ ⟨rfl, rfl⟩ (by decide) (by decide) (by decide) ?_ mm_copy.1 mm_copy.2.1 mm_copy.2.2
  refine x_aload_n (pc := 211) C dX3_copyFrom_211 rfl ?_
  refine x_getR (pc := 212) (o := 20) (j := 36) C f_X3_51 dX3_copyFrom_212 (hI 20 rfl) ⟨rfl, rfl⟩ ?_
  refine x_iconst (pc := 215) C (0) dX3_copyFrom_215 (by decide) ?_
  refine x_aload_n (pc := 216) C dX3_copyFrom_216 rfl ?_
  refine x_getR (pc := 217) (o := 80) (j := 96) C f_X3_51 dX3_copyFrom_217 (hb 0 rfl) ⟨rfl, rfl⟩ ?_
  refine x_iconst (pc := 220) C (0) dX3_copyFrom_220 (by decide) ?_
  refine x_bipush (pc := 221) C (24) dX3_copyFrom_221 (by decide) ?_
  refine x_topi (nI 24) (by decide) ?_
  refine x_copy (pc := 223) (o0 := 36) (o1 := 96) C q_X3_57 dX3_copyFrom_223 (by decide) (Nat.le_of_ble_eq_true rfl) (hI 36 rfl) (hb 16 rfl) ⟨rfl, rfl⟩ ⟨rfl, rfl⟩ (by decide) (by decide) (by decide) ?_ mm_copy.1 mm_copy.2.1 mm_copy.2.2
  exact x_vret (pc := 226) C hQ dX3_copyFrom_226 (is_v rfl) (Nat.le_of_ble_eq_true rfl) (Nat.le_of_ble_eq_true rfl)
set_option maxRecDepth 100000 in
set_option maxHeartbeats 4000000 in
theorem r3_X3_copyFrom {l : Launch} {V : VV} {L : LL} {N : NN} {I : List Nat} (hI : PI I) (hb : PB I 100) : Runs l 2 0 0 yX3_copyFrom (Cond.code yX3_copyFrom cX3_copyFrom 2 none) [aR 20, aR 100] V L N I (Is none (cfV V 100 20) (L) N I) := by
  refine run_of RX3 (by decide +kernel) rfl (Nat.le_of_ble_eq_true rfl) (fun E hE C hQ hN => ?_)
  subst hE
  refine x_aload_n (pc := 0) C dX3_copyFrom_0 rfl ?_
  refine x_getR (pc := 1) (o := 100) (j := 101) C f_X3_9 dX3_copyFrom_1 (hb 0 rfl) ⟨rfl, rfl⟩ ?_
  refine x_iconst (pc := 4) C (0) dX3_copyFrom_4 (by decide) ?_
  refine x_aload_n (pc := 5) C dX3_copyFrom_5 rfl ?_
  refine x_getR (pc := 6) (o := 20) (j := 21) C f_X3_9 dX3_copyFrom_6 (hI 20 rfl) ⟨rfl, rfl⟩ ?_
  refine x_iconst (pc := 9) C (0) dX3_copyFrom_9 (by decide) ?_
  refine x_bipush (pc := 10) C (8) dX3_copyFrom_10 (by decide) ?_
  refine x_topi (nI 8) (by decide) ?_
  refine x_copy (pc := 12) (o0 := 101) (o1 := 21) C q_X3_57 dX3_copyFrom_12 (by decide) (Nat.le_of_ble_eq_true rfl) (hb 1 rfl) (hI 21 rfl) ⟨rfl, rfl⟩ ⟨rfl, rfl⟩ (by decide) (by decide) (by decide) ?_ mm_copy.1 mm_copy.2.1 mm_copy.2.2
  refine x_aload_n (pc := 15) C dX3_copyFrom_15 rfl ?_
  refine x_getR (pc := 16) (o := 100) (j := 102) C f_X3_15 dX3_copyFrom_16 (hb 0 rfl) ⟨rfl, rfl⟩ ?_
  refine x_iconst (pc := 19) C (0) dX3_copyFrom_19 (by decide) ?_
  refine x_aload_n (pc := 20) C dX3_copyFrom_20 rfl ?_
  refine x_getR (pc := 21) (o := 20) (j := 22) C f_X3_15 dX3_copyFrom_21 (hI 20 rfl) ⟨rfl, rfl⟩ ?_
  refine x_iconst (pc := 24) C (0) dX3_copyFrom_24 (by decide) ?_
  refine x_bipush (pc := 25) C (6) dX3_copyFrom_25 (by decide) ?_
  refine x_topi (nI 6) (by decide) ?_
  refine x_copy (pc := 27) (o0 := 102) (o1 := 22) C q_X3_57 dX3_copyFrom_27 (by decide) (Nat.le_of_ble_eq_true rfl) (hb 2 rfl) (hI 22 rfl) ⟨rfl, rfl⟩ ⟨rfl, rfl⟩ (by decide) (by decide) (by decide) ?_ mm_copy.1 mm_copy.2.1 mm_copy.2.2
  refine x_aload_n (pc := 30) C dX3_copyFrom_30 rfl ?_
  refine x_getR (pc := 31) (o := 100) (j := 103) C f_X3_18 dX3_copyFrom_31 (hb 0 rfl) ⟨rfl, rfl⟩ ?_
  refine x_iconst (pc := 34) C (0) dX3_copyFrom_34 (by decide) ?_
  refine x_aload_n (pc := 35) C dX3_copyFrom_35 rfl ?_
  refine x_getR (pc := 36) (o := 20) (j := 23) C f_X3_18 dX3_copyFrom_36 (hI 20 rfl) ⟨rfl, rfl⟩ ?_
  refine x_iconst (pc := 39) C (0) dX3_copyFrom_39 (by decide) ?_
  refine x_bipush (pc := 40) C (6) dX3_copyFrom_40 (by decide) ?_
  refine x_topi (nI 6) (by decide) ?_
  refine x_copy (pc := 42) (o0 := 103) (o1 := 23) C q_X3_57 dX3_copyFrom_42 (by decide) (Nat.le_of_ble_eq_true rfl) (hb 3 rfl) (hI 23 rfl) ⟨rfl, rfl⟩ ⟨rfl, rfl⟩ (by decide) (by decide) (by decide) ?_ mm_copy.1 mm_copy.2.1 mm_copy.2.2
  refine x_aload_n (pc := 45) C dX3_copyFrom_45 rfl ?_
  refine x_getR (pc := 46) (o := 100) (j := 104) C f_X3_21 dX3_copyFrom_46 (hb 0 rfl) ⟨rfl, rfl⟩ ?_
  refine x_iconst (pc := 49) C (0) dX3_copyFrom_49 (by decide) ?_
  refine x_aload_n (pc := 50) C dX3_copyFrom_50 rfl ?_
  refine x_getR (pc := 51) (o := 20) (j := 24) C f_X3_21 dX3_copyFrom_51 (hI 20 rfl) ⟨rfl, rfl⟩ ?_
  refine x_iconst (pc := 54) C (0) dX3_copyFrom_54 (by decide) ?_
  refine x_bipush (pc := 55) C (6) dX3_copyFrom_55 (by decide) ?_
  refine x_topi (nI 6) (by decide) ?_
  refine x_copy (pc := 57) (o0 := 104) (o1 := 24) C q_X3_57 dX3_copyFrom_57 (by decide) (Nat.le_of_ble_eq_true rfl) (hb 4 rfl) (hI 24 rfl) ⟨rfl, rfl⟩ ⟨rfl, rfl⟩ (by decide) (by decide) (by decide) ?_ mm_copy.1 mm_copy.2.1 mm_copy.2.2
  refine x_aload_n (pc := 60) C dX3_copyFrom_60 rfl ?_
  refine x_getR (pc := 61) (o := 100) (j := 105) C f_X3_24 dX3_copyFrom_61 (hb 0 rfl) ⟨rfl, rfl⟩ ?_
  refine x_iconst (pc := 64) C (0) dX3_copyFrom_64 (by decide) ?_
  refine x_aload_n (pc := 65) C dX3_copyFrom_65 rfl ?_
  refine x_getR (pc := 66) (o := 20) (j := 25) C f_X3_24 dX3_copyFrom_66 (hI 20 rfl) ⟨rfl, rfl⟩ ?_
  refine x_iconst (pc := 69) C (0) dX3_copyFrom_69 (by decide) ?_
  refine x_bipush (pc := 70) C (6) dX3_copyFrom_70 (by decide) ?_
  refine x_topi (nI 6) (by decide) ?_
  refine x_copy (pc := 72) (o0 := 105) (o1 := 25) C q_X3_57 dX3_copyFrom_72 (by decide) (Nat.le_of_ble_eq_true rfl) (hb 5 rfl) (hI 25 rfl) ⟨rfl, rfl⟩ ⟨rfl, rfl⟩ (by decide) (by decide) (by decide) ?_ mm_copy.1 mm_copy.2.1 mm_copy.2.2
  refine x_aload_n (pc := 75) C dX3_copyFrom_75 rfl ?_
  refine x_getR (pc := 76) (o := 100) (j := 106) C f_X3_27 dX3_copyFrom_76 (hb 0 rfl) ⟨rfl, rfl⟩ ?_
  refine x_iconst (pc := 79) C (0) dX3_copyFrom_79 (by decide) ?_
  refine x_aload_n (pc := 80) C dX3_copyFrom_80 rfl ?_
  refine x_getR (pc := 81) (o := 20) (j := 26) C f_X3_27 dX3_copyFrom_81 (hI 20 rfl) ⟨rfl, rfl⟩ ?_
  refine x_iconst (pc := 84) C (0) dX3_copyFrom_84 (by decide) ?_
  refine x_bipush (pc := 85) C (6) dX3_copyFrom_85 (by decide) ?_
  refine x_topi (nI 6) (by decide) ?_
  refine x_copy (pc := 87) (o0 := 106) (o1 := 26) C q_X3_57 dX3_copyFrom_87 (by decide) (Nat.le_of_ble_eq_true rfl) (hb 6 rfl) (hI 26 rfl) ⟨rfl, rfl⟩ ⟨rfl, rfl⟩ (by decide) (by decide) (by decide) ?_ mm_copy.1 mm_copy.2.1 mm_copy.2.2
  refine x_aload_n (pc := 90) C dX3_copyFrom_90 rfl ?_
  refine x_aload_n (pc := 91) C dX3_copyFrom_91 rfl ?_
  refine x_getI (pc := 92) (o := 100) C f_X3_63 dX3_copyFrom_92 (hb 0 rfl) ⟨rfl, rfl, rfl⟩ ?_
  refine x_putI (pc := 95) (o := 20) C p_X3_63 dX3_copyFrom_95 (hI 20 rfl) ⟨rfl, rfl, rfl⟩ ?_
  refine x_aload_n (pc := 98) C dX3_copyFrom_98 rfl ?_
  refine x_aload_n (pc := 99) C dX3_copyFrom_99 rfl ?_
  refine x_getI (pc := 100) (o := 100) C f_X3_67 dX3_copyFrom_100 (hb 0 rfl) ⟨rfl, rfl, rfl⟩ ?_
  refine x_putI (pc := 103) (o := 20) C p_X3_67 dX3_copyFrom_103 (hI 20 rfl) ⟨rfl, rfl, rfl⟩ ?_
  refine x_aload_n (pc := 106) C dX3_copyFrom_106 rfl ?_
  refine x_getR (pc := 107) (o := 100) (j := 109) C f_X3_30 dX3_copyFrom_107 (hb 0 rfl) ⟨rfl, rfl⟩ ?_
  refine x_iconst (pc := 110) C (0) dX3_copyFrom_110 (by decide) ?_
  refine x_aload_n (pc := 111) C dX3_copyFrom_111 rfl ?_
  refine x_getR (pc := 112) (o := 20) (j := 29) C f_X3_30 dX3_copyFrom_112 (hI 20 rfl) ⟨rfl, rfl⟩ ?_
  refine x_iconst (pc := 115) C (0) dX3_copyFrom_115 (by decide) ?_
  refine x_bipush (pc := 116) C (24) dX3_copyFrom_116 (by decide) ?_
  refine x_topi (nI 24) (by decide) ?_
  refine x_copy (pc := 118) (o0 := 109) (o1 := 29) C q_X3_57 dX3_copyFrom_118 (by decide) (Nat.le_of_ble_eq_true rfl) (hb 9 rfl) (hI 29 rfl) ⟨rfl, rfl⟩ ⟨rfl, rfl⟩ (by decide) (by decide) (by decide) ?_ mm_copy.1 mm_copy.2.1 mm_copy.2.2
  refine x_aload_n (pc := 121) C dX3_copyFrom_121 rfl ?_
  refine x_getR (pc := 122) (o := 100) (j := 110) C f_X3_33 dX3_copyFrom_122 (hb 0 rfl) ⟨rfl, rfl⟩ ?_
  refine x_iconst (pc := 125) C (0) dX3_copyFrom_125 (by decide) ?_
  refine x_aload_n (pc := 126) C dX3_copyFrom_126 rfl ?_
  refine x_getR (pc := 127) (o := 20) (j := 30) C f_X3_33 dX3_copyFrom_127 (hI 20 rfl) ⟨rfl, rfl⟩ ?_
  refine x_iconst (pc := 130) C (0) dX3_copyFrom_130 (by decide) ?_
  refine x_bipush (pc := 131) C (24) dX3_copyFrom_131 (by decide) ?_
  refine x_topi (nI 24) (by decide) ?_
  refine x_copy (pc := 133) (o0 := 110) (o1 := 30) C q_X3_57 dX3_copyFrom_133 (by decide) (Nat.le_of_ble_eq_true rfl) (hb 10 rfl) (hI 30 rfl) ⟨rfl, rfl⟩ ⟨rfl, rfl⟩ (by decide) (by decide) (by decide) ?_ mm_copy.1 mm_copy.2.1 mm_copy.2.2
  refine x_aload_n (pc := 136) C dX3_copyFrom_136 rfl ?_
  refine x_getR (pc := 137) (o := 100) (j := 111) C f_X3_36 dX3_copyFrom_137 (hb 0 rfl) ⟨rfl, rfl⟩ ?_
  refine x_iconst (pc := 140) C (0) dX3_copyFrom_140 (by decide) ?_
  refine x_aload_n (pc := 141) C dX3_copyFrom_141 rfl ?_
  refine x_getR (pc := 142) (o := 20) (j := 31) C f_X3_36 dX3_copyFrom_142 (hI 20 rfl) ⟨rfl, rfl⟩ ?_
  refine x_iconst (pc := 145) C (0) dX3_copyFrom_145 (by decide) ?_
  refine x_bipush (pc := 146) C (24) dX3_copyFrom_146 (by decide) ?_
  refine x_topi (nI 24) (by decide) ?_
  refine x_copy (pc := 148) (o0 := 111) (o1 := 31) C q_X3_57 dX3_copyFrom_148 (by decide) (Nat.le_of_ble_eq_true rfl) (hb 11 rfl) (hI 31 rfl) ⟨rfl, rfl⟩ ⟨rfl, rfl⟩ (by decide) (by decide) (by decide) ?_ mm_copy.1 mm_copy.2.1 mm_copy.2.2
  refine x_aload_n (pc := 151) C dX3_copyFrom_151 rfl ?_
  refine x_getR (pc := 152) (o := 100) (j := 112) C f_X3_39 dX3_copyFrom_152 (hb 0 rfl) ⟨rfl, rfl⟩ ?_
  refine x_iconst (pc := 155) C (0) dX3_copyFrom_155 (by decide) ?_
  refine x_aload_n (pc := 156) C dX3_copyFrom_156 rfl ?_
  refine x_getR (pc := 157) (o := 20) (j := 32) C f_X3_39 dX3_copyFrom_157 (hI 20 rfl) ⟨rfl, rfl⟩ ?_
  refine x_iconst (pc := 160) C (0) dX3_copyFrom_160 (by decide) ?_
  refine x_bipush (pc := 161) C (24) dX3_copyFrom_161 (by decide) ?_
  refine x_topi (nI 24) (by decide) ?_
  refine x_copy (pc := 163) (o0 := 112) (o1 := 32) C q_X3_57 dX3_copyFrom_163 (by decide) (Nat.le_of_ble_eq_true rfl) (hb 12 rfl) (hI 32 rfl) ⟨rfl, rfl⟩ ⟨rfl, rfl⟩ (by decide) (by decide) (by decide) ?_ mm_copy.1 mm_copy.2.1 mm_copy.2.2
  refine x_aload_n (pc := 166) C dX3_copyFrom_166 rfl ?_
  refine x_getR (pc := 167) (o := 100) (j := 113) C f_X3_42 dX3_copyFrom_167 (hb 0 rfl) ⟨rfl, rfl⟩ ?_
  refine x_iconst (pc := 170) C (0) dX3_copyFrom_170 (by decide) ?_
  refine x_aload_n (pc := 171) C dX3_copyFrom_171 rfl ?_
  refine x_getR (pc := 172) (o := 20) (j := 33) C f_X3_42 dX3_copyFrom_172 (hI 20 rfl) ⟨rfl, rfl⟩ ?_
  refine x_iconst (pc := 175) C (0) dX3_copyFrom_175 (by decide) ?_
  refine x_bipush (pc := 176) C (24) dX3_copyFrom_176 (by decide) ?_
  refine x_topi (nI 24) (by decide) ?_
  refine x_copy (pc := 178) (o0 := 113) (o1 := 33) C q_X3_57 dX3_copyFrom_178 (by decide) (Nat.le_of_ble_eq_true rfl) (hb 13 rfl) (hI 33 rfl) ⟨rfl, rfl⟩ ⟨rfl, rfl⟩ (by decide) (by decide) (by decide) ?_ mm_copy.1 mm_copy.2.1 mm_copy.2.2
  refine x_aload_n (pc := 181) C dX3_copyFrom_181 rfl ?_
  refine x_getR (pc := 182) (o := 100) (j := 114) C f_X3_45 dX3_copyFrom_182 (hb 0 rfl) ⟨rfl, rfl⟩ ?_
  refine x_iconst (pc := 185) C (0) dX3_copyFrom_185 (by decide) ?_
  refine x_aload_n (pc := 186) C dX3_copyFrom_186 rfl ?_
  refine x_getR (pc := 187) (o := 20) (j := 34) C f_X3_45 dX3_copyFrom_187 (hI 20 rfl) ⟨rfl, rfl⟩ ?_
  refine x_iconst (pc := 190) C (0) dX3_copyFrom_190 (by decide) ?_
  refine x_bipush (pc := 191) C (24) dX3_copyFrom_191 (by decide) ?_
  refine x_topi (nI 24) (by decide) ?_
  refine x_copy (pc := 193) (o0 := 114) (o1 := 34) C q_X3_57 dX3_copyFrom_193 (by decide) (Nat.le_of_ble_eq_true rfl) (hb 14 rfl) (hI 34 rfl) ⟨rfl, rfl⟩ ⟨rfl, rfl⟩ (by decide) (by decide) (by decide) ?_ mm_copy.1 mm_copy.2.1 mm_copy.2.2
  refine x_aload_n (pc := 196) C dX3_copyFrom_196 rfl ?_
  refine x_getR (pc := 197) (o := 100) (j := 115) C f_X3_48 dX3_copyFrom_197 (hb 0 rfl) ⟨rfl, rfl⟩ ?_
  refine x_iconst (pc := 200) C (0) dX3_copyFrom_200 (by decide) ?_
  refine x_aload_n (pc := 201) C dX3_copyFrom_201 rfl ?_
  refine x_getR (pc := 202) (o := 20) (j := 35) C f_X3_48 dX3_copyFrom_202 (hI 20 rfl) ⟨rfl, rfl⟩ ?_
  refine x_iconst (pc := 205) C (0) dX3_copyFrom_205 (by decide) ?_
  refine x_bipush (pc := 206) C (24) dX3_copyFrom_206 (by decide) ?_
  refine x_topi (nI 24) (by decide) ?_
  refine x_copy (pc := 208) (o0 := 115) (o1 := 35) C q_X3_57 dX3_copyFrom_208 (by decide) (Nat.le_of_ble_eq_true rfl) (hb 15 rfl) (hI 35 rfl) ⟨rfl, rfl⟩ ⟨rfl, rfl⟩ (by decide) (by decide) (by decide) ?_ mm_copy.1 mm_copy.2.1 mm_copy.2.2
  refine x_aload_n (pc := 211) C dX3_copyFrom_211 rfl ?_
  refine x_getR (pc := 212) (o := 100) (j := 116) C f_X3_51 dX3_copyFrom_212 (hb 0 rfl) ⟨rfl, rfl⟩ ?_
  refine x_iconst (pc := 215) C (0) dX3_copyFrom_215 (by decide) ?_
  refine x_aload_n (pc := 216) C dX3_copyFrom_216 rfl ?_
  refine x_getR (pc := 217) (o := 20) (j := 36) C f_X3_51 dX3_copyFrom_217 (hI 20 rfl) ⟨rfl, rfl⟩ ?_
  refine x_iconst (pc := 220) C (0) dX3_copyFrom_220 (by decide) ?_
  refine x_bipush (pc := 221) C (24) dX3_copyFrom_221 (by decide) ?_
  refine x_topi (nI 24) (by decide) ?_
  refine x_copy (pc := 223) (o0 := 116) (o1 := 36) C q_X3_57 dX3_copyFrom_223 (by decide) (Nat.le_of_ble_eq_true rfl) (hb 16 rfl) (hI 36 rfl) ⟨rfl, rfl⟩ ⟨rfl, rfl⟩ (by decide) (by decide) (by decide) ?_ mm_copy.1 mm_copy.2.1 mm_copy.2.2
  exact x_vret (pc := 226) C hQ dX3_copyFrom_226 (is_v rfl) (Nat.le_of_ble_eq_true rfl) (Nat.le_of_ble_eq_true rfl)
set_option maxRecDepth 100000 in
set_option maxHeartbeats 4000000 in
theorem s3_X3_copyFrom {l : Launch} {V : VV} {L : LL} {N : NN} {I : List Nat} (hI : PI I) (hb : PB I 100) : Runs l 2 0 0 yX3_copyFrom (Cond.code yX3_copyFrom cX3_copyFrom 2 none) [aR 100, aR 20] V L N I (Is none (cfV V 20 100) (L) N I) := by
  refine run_of RX3 (by decide +kernel) rfl (Nat.le_of_ble_eq_true rfl) (fun E hE C hQ hN => ?_)
  subst hE
  refine x_aload_n (pc := 0) C dX3_copyFrom_0 rfl ?_
  refine x_getR (pc := 1) (o := 20) (j := 21) C f_X3_9 dX3_copyFrom_1 (hI 20 rfl) ⟨rfl, rfl⟩ ?_
  refine x_iconst (pc := 4) C (0) dX3_copyFrom_4 (by decide) ?_
  refine x_aload_n (pc := 5) C dX3_copyFrom_5 rfl ?_
  refine x_getR (pc := 6) (o := 100) (j := 101) C f_X3_9 dX3_copyFrom_6 (hb 0 rfl) ⟨rfl, rfl⟩ ?_
  refine x_iconst (pc := 9) C (0) dX3_copyFrom_9 (by decide) ?_
  refine x_bipush (pc := 10) C (8) dX3_copyFrom_10 (by decide) ?_
  refine x_topi (nI 8) (by decide) ?_
  refine x_copy (pc := 12) (o0 := 21) (o1 := 101) C q_X3_57 dX3_copyFrom_12 (by decide) (Nat.le_of_ble_eq_true rfl) (hI 21 rfl) (hb 1 rfl) ⟨rfl, rfl⟩ ⟨rfl, rfl⟩ (by decide) (by decide) (by decide) ?_ mm_copy.1 mm_copy.2.1 mm_copy.2.2
  refine x_aload_n (pc := 15) C dX3_copyFrom_15 rfl ?_
  refine x_getR (pc := 16) (o := 20) (j := 22) C f_X3_15 dX3_copyFrom_16 (hI 20 rfl) ⟨rfl, rfl⟩ ?_
  refine x_iconst (pc := 19) C (0) dX3_copyFrom_19 (by decide) ?_
  refine x_aload_n (pc := 20) C dX3_copyFrom_20 rfl ?_
  refine x_getR (pc := 21) (o := 100) (j := 102) C f_X3_15 dX3_copyFrom_21 (hb 0 rfl) ⟨rfl, rfl⟩ ?_
  refine x_iconst (pc := 24) C (0) dX3_copyFrom_24 (by decide) ?_
  refine x_bipush (pc := 25) C (6) dX3_copyFrom_25 (by decide) ?_
  refine x_topi (nI 6) (by decide) ?_
  refine x_copy (pc := 27) (o0 := 22) (o1 := 102) C q_X3_57 dX3_copyFrom_27 (by decide) (Nat.le_of_ble_eq_true rfl) (hI 22 rfl) (hb 2 rfl) ⟨rfl, rfl⟩ ⟨rfl, rfl⟩ (by decide) (by decide) (by decide) ?_ mm_copy.1 mm_copy.2.1 mm_copy.2.2
  refine x_aload_n (pc := 30) C dX3_copyFrom_30 rfl ?_
  refine x_getR (pc := 31) (o := 20) (j := 23) C f_X3_18 dX3_copyFrom_31 (hI 20 rfl) ⟨rfl, rfl⟩ ?_
  refine x_iconst (pc := 34) C (0) dX3_copyFrom_34 (by decide) ?_
  refine x_aload_n (pc := 35) C dX3_copyFrom_35 rfl ?_
  refine x_getR (pc := 36) (o := 100) (j := 103) C f_X3_18 dX3_copyFrom_36 (hb 0 rfl) ⟨rfl, rfl⟩ ?_
  refine x_iconst (pc := 39) C (0) dX3_copyFrom_39 (by decide) ?_
  refine x_bipush (pc := 40) C (6) dX3_copyFrom_40 (by decide) ?_
  refine x_topi (nI 6) (by decide) ?_
  refine x_copy (pc := 42) (o0 := 23) (o1 := 103) C q_X3_57 dX3_copyFrom_42 (by decide) (Nat.le_of_ble_eq_true rfl) (hI 23 rfl) (hb 3 rfl) ⟨rfl, rfl⟩ ⟨rfl, rfl⟩ (by decide) (by decide) (by decide) ?_ mm_copy.1 mm_copy.2.1 mm_copy.2.2
  refine x_aload_n (pc := 45) C dX3_copyFrom_45 rfl ?_
  refine x_getR (pc := 46) (o := 20) (j := 24) C f_X3_21 dX3_copyFrom_46 (hI 20 rfl) ⟨rfl, rfl⟩ ?_
  refine x_iconst (pc := 49) C (0) dX3_copyFrom_49 (by decide) ?_
  refine x_aload_n (pc := 50) C dX3_copyFrom_50 rfl ?_
  refine x_getR (pc := 51) (o := 100) (j := 104) C f_X3_21 dX3_copyFrom_51 (hb 0 rfl) ⟨rfl, rfl⟩ ?_
  refine x_iconst (pc := 54) C (0) dX3_copyFrom_54 (by decide) ?_
  refine x_bipush (pc := 55) C (6) dX3_copyFrom_55 (by decide) ?_
  refine x_topi (nI 6) (by decide) ?_
  refine x_copy (pc := 57) (o0 := 24) (o1 := 104) C q_X3_57 dX3_copyFrom_57 (by decide) (Nat.le_of_ble_eq_true rfl) (hI 24 rfl) (hb 4 rfl) ⟨rfl, rfl⟩ ⟨rfl, rfl⟩ (by decide) (by decide) (by decide) ?_ mm_copy.1 mm_copy.2.1 mm_copy.2.2
  refine x_aload_n (pc := 60) C dX3_copyFrom_60 rfl ?_
  refine x_getR (pc := 61) (o := 20) (j := 25) C f_X3_24 dX3_copyFrom_61 (hI 20 rfl) ⟨rfl, rfl⟩ ?_
  refine x_iconst (pc := 64) C (0) dX3_copyFrom_64 (by decide) ?_
  refine x_aload_n (pc := 65) C dX3_copyFrom_65 rfl ?_
  refine x_getR (pc := 66) (o := 100) (j := 105) C f_X3_24 dX3_copyFrom_66 (hb 0 rfl) ⟨rfl, rfl⟩ ?_
  refine x_iconst (pc := 69) C (0) dX3_copyFrom_69 (by decide) ?_
  refine x_bipush (pc := 70) C (6) dX3_copyFrom_70 (by decide) ?_
  refine x_topi (nI 6) (by decide) ?_
  refine x_copy (pc := 72) (o0 := 25) (o1 := 105) C q_X3_57 dX3_copyFrom_72 (by decide) (Nat.le_of_ble_eq_true rfl) (hI 25 rfl) (hb 5 rfl) ⟨rfl, rfl⟩ ⟨rfl, rfl⟩ (by decide) (by decide) (by decide) ?_ mm_copy.1 mm_copy.2.1 mm_copy.2.2
  refine x_aload_n (pc := 75) C dX3_copyFrom_75 rfl ?_
  refine x_getR (pc := 76) (o := 20) (j := 26) C f_X3_27 dX3_copyFrom_76 (hI 20 rfl) ⟨rfl, rfl⟩ ?_
  refine x_iconst (pc := 79) C (0) dX3_copyFrom_79 (by decide) ?_
  refine x_aload_n (pc := 80) C dX3_copyFrom_80 rfl ?_
  refine x_getR (pc := 81) (o := 100) (j := 106) C f_X3_27 dX3_copyFrom_81 (hb 0 rfl) ⟨rfl, rfl⟩ ?_
  refine x_iconst (pc := 84) C (0) dX3_copyFrom_84 (by decide) ?_
  refine x_bipush (pc := 85) C (6) dX3_copyFrom_85 (by decide) ?_
  refine x_topi (nI 6) (by decide) ?_
  refine x_copy (pc := 87) (o0 := 26) (o1 := 106) C q_X3_57 dX3_copyFrom_87 (by decide) (Nat.le_of_ble_eq_true rfl) (hI 26 rfl) (hb 6 rfl) ⟨rfl, rfl⟩ ⟨rfl, rfl⟩ (by decide) (by decide) (by decide) ?_ mm_copy.1 mm_copy.2.1 mm_copy.2.2
  refine x_aload_n (pc := 90) C dX3_copyFrom_90 rfl ?_
  refine x_aload_n (pc := 91) C dX3_copyFrom_91 rfl ?_
  refine x_getI (pc := 92) (o := 20) C f_X3_63 dX3_copyFrom_92 (hI 20 rfl) ⟨rfl, rfl, rfl⟩ ?_
  refine x_putI (pc := 95) (o := 100) C p_X3_63 dX3_copyFrom_95 (hb 0 rfl) ⟨rfl, rfl, rfl⟩ ?_
  refine x_aload_n (pc := 98) C dX3_copyFrom_98 rfl ?_
  refine x_aload_n (pc := 99) C dX3_copyFrom_99 rfl ?_
  refine x_getI (pc := 100) (o := 20) C f_X3_67 dX3_copyFrom_100 (hI 20 rfl) ⟨rfl, rfl, rfl⟩ ?_
  refine x_putI (pc := 103) (o := 100) C p_X3_67 dX3_copyFrom_103 (hb 0 rfl) ⟨rfl, rfl, rfl⟩ ?_
  refine x_aload_n (pc := 106) C dX3_copyFrom_106 rfl ?_
  refine x_getR (pc := 107) (o := 20) (j := 29) C f_X3_30 dX3_copyFrom_107 (hI 20 rfl) ⟨rfl, rfl⟩ ?_
  refine x_iconst (pc := 110) C (0) dX3_copyFrom_110 (by decide) ?_
  refine x_aload_n (pc := 111) C dX3_copyFrom_111 rfl ?_
  refine x_getR (pc := 112) (o := 100) (j := 109) C f_X3_30 dX3_copyFrom_112 (hb 0 rfl) ⟨rfl, rfl⟩ ?_
  refine x_iconst (pc := 115) C (0) dX3_copyFrom_115 (by decide) ?_
  refine x_bipush (pc := 116) C (24) dX3_copyFrom_116 (by decide) ?_
  refine x_topi (nI 24) (by decide) ?_
  refine x_copy (pc := 118) (o0 := 29) (o1 := 109) C q_X3_57 dX3_copyFrom_118 (by decide) (Nat.le_of_ble_eq_true rfl) (hI 29 rfl) (hb 9 rfl) ⟨rfl, rfl⟩ ⟨rfl, rfl⟩ (by decide) (by decide) (by decide) ?_ mm_copy.1 mm_copy.2.1 mm_copy.2.2
  refine x_aload_n (pc := 121) C dX3_copyFrom_121 rfl ?_
  refine x_getR (pc := 122) (o := 20) (j := 30) C f_X3_33 dX3_copyFrom_122 (hI 20 rfl) ⟨rfl, rfl⟩ ?_
  refine x_iconst (pc := 125) C (0) dX3_copyFrom_125 (by decide) ?_
  refine x_aload_n (pc := 126) C dX3_copyFrom_126 rfl ?_
  refine x_getR (pc := 127) (o := 100) (j := 110) C f_X3_33 dX3_copyFrom_127 (hb 0 rfl) ⟨rfl, rfl⟩ ?_
  refine x_iconst (pc := 130) C (0) dX3_copyFrom_130 (by decide) ?_
  refine x_bipush (pc := 131) C (24) dX3_copyFrom_131 (by decide) ?_
  refine x_topi (nI 24) (by decide) ?_
  refine x_copy (pc := 133) (o0 := 30) (o1 := 110) C q_X3_57 dX3_copyFrom_133 (by decide) (Nat.le_of_ble_eq_true rfl) (hI 30 rfl) (hb 10 rfl) ⟨rfl, rfl⟩ ⟨rfl, rfl⟩ (by decide) (by decide) (by decide) ?_ mm_copy.1 mm_copy.2.1 mm_copy.2.2
  refine x_aload_n (pc := 136) C dX3_copyFrom_136 rfl ?_
  refine x_getR (pc := 137) (o := 20) (j := 31) C f_X3_36 dX3_copyFrom_137 (hI 20 rfl) ⟨rfl, rfl⟩ ?_
  refine x_iconst (pc := 140) C (0) dX3_copyFrom_140 (by decide) ?_
  refine x_aload_n (pc := 141) C dX3_copyFrom_141 rfl ?_
  refine x_getR (pc := 142) (o := 100) (j := 111) C f_X3_36 dX3_copyFrom_142 (hb 0 rfl) ⟨rfl, rfl⟩ ?_
  refine x_iconst (pc := 145) C (0) dX3_copyFrom_145 (by decide) ?_
  refine x_bipush (pc := 146) C (24) dX3_copyFrom_146 (by decide) ?_
  refine x_topi (nI 24) (by decide) ?_
  refine x_copy (pc := 148) (o0 := 31) (o1 := 111) C q_X3_57 dX3_copyFrom_148 (by decide) (Nat.le_of_ble_eq_true rfl) (hI 31 rfl) (hb 11 rfl) ⟨rfl, rfl⟩ ⟨rfl, rfl⟩ (by decide) (by decide) (by decide) ?_ mm_copy.1 mm_copy.2.1 mm_copy.2.2
  refine x_aload_n (pc := 151) C dX3_copyFrom_151 rfl ?_
  refine x_getR (pc := 152) (o := 20) (j := 32) C f_X3_39 dX3_copyFrom_152 (hI 20 rfl) ⟨rfl, rfl⟩ ?_
  refine x_iconst (pc := 155) C (0) dX3_copyFrom_155 (by decide) ?_
  refine x_aload_n (pc := 156) C dX3_copyFrom_156 rfl ?_
  refine x_getR (pc := 157) (o := 100) (j := 112) C f_X3_39 dX3_copyFrom_157 (hb 0 rfl) ⟨rfl, rfl⟩ ?_
  refine x_iconst (pc := 160) C (0) dX3_copyFrom_160 (by decide) ?_
  refine x_bipush (pc := 161) C (24) dX3_copyFrom_161 (by decide) ?_
  refine x_topi (nI 24) (by decide) ?_
  refine x_copy (pc := 163) (o0 := 32) (o1 := 112) C q_X3_57 dX3_copyFrom_163 (by decide) (Nat.le_of_ble_eq_true rfl) (hI 32 rfl) (hb 12 rfl) ⟨rfl, rfl⟩ ⟨rfl, rfl⟩ (by decide) (by decide) (by decide) ?_ mm_copy.1 mm_copy.2.1 mm_copy.2.2
  refine x_aload_n (pc := 166) C dX3_copyFrom_166 rfl ?_
  refine x_getR (pc := 167) (o := 20) (j := 33) C f_X3_42 dX3_copyFrom_167 (hI 20 rfl) ⟨rfl, rfl⟩ ?_
  refine x_iconst (pc := 170) C (0) dX3_copyFrom_170 (by decide) ?_
  refine x_aload_n (pc := 171) C dX3_copyFrom_171 rfl ?_
  refine x_getR (pc := 172) (o := 100) (j := 113) C f_X3_42 dX3_copyFrom_172 (hb 0 rfl) ⟨rfl, rfl⟩ ?_
  refine x_iconst (pc := 175) C (0) dX3_copyFrom_175 (by decide) ?_
  refine x_bipush (pc := 176) C (24) dX3_copyFrom_176 (by decide) ?_
  refine x_topi (nI 24) (by decide) ?_
  refine x_copy (pc := 178) (o0 := 33) (o1 := 113) C q_X3_57 dX3_copyFrom_178 (by decide) (Nat.le_of_ble_eq_true rfl) (hI 33 rfl) (hb 13 rfl) ⟨rfl, rfl⟩ ⟨rfl, rfl⟩ (by decide) (by decide) (by decide) ?_ mm_copy.1 mm_copy.2.1 mm_copy.2.2
  refine x_aload_n (pc := 181) C dX3_copyFrom_181 rfl ?_
  refine x_getR (pc := 182) (o := 20) (j := 34) C f_X3_45 dX3_copyFrom_182 (hI 20 rfl) ⟨rfl, rfl⟩ ?_
  refine x_iconst (pc := 185) C (0) dX3_copyFrom_185 (by decide) ?_
  refine x_aload_n (pc := 186) C dX3_copyFrom_186 rfl ?_
  refine x_getR (pc := 187) (o := 100) (j := 114) C f_X3_45 dX3_copyFrom_187 (hb 0 rfl) ⟨rfl, rfl⟩ ?_
  refine x_iconst (pc := 190) C (0) dX3_copyFrom_190 (by decide) ?_
  refine x_bipush (pc := 191) C (24) dX3_copyFrom_191 (by decide) ?_
  refine x_topi (nI 24) (by decide) ?_
  refine x_copy (pc := 193) (o0 := 34) (o1 := 114) C q_X3_57 dX3_copyFrom_193 (by decide) (Nat.le_of_ble_eq_true rfl) (hI 34 rfl) (hb 14 rfl) ⟨rfl, rfl⟩ ⟨rfl, rfl⟩ (by decide) (by decide) (by decide) ?_ mm_copy.1 mm_copy.2.1 mm_copy.2.2
  refine x_aload_n (pc := 196) C dX3_copyFrom_196 rfl ?_
  refine x_getR (pc := 197) (o := 20) (j := 35) C f_X3_48 dX3_copyFrom_197 (hI 20 rfl) ⟨rfl, rfl⟩ ?_
  refine x_iconst (pc := 200) C (0) dX3_copyFrom_200 (by decide) ?_
  refine x_aload_n (pc := 201) C dX3_copyFrom_201 rfl ?_
  refine x_getR (pc := 202) (o := 100) (j := 115) C f_X3_48 dX3_copyFrom_202 (hb 0 rfl) ⟨rfl, rfl⟩ ?_
  refine x_iconst (pc := 205) C (0) dX3_copyFrom_205 (by decide) ?_
  refine x_bipush (pc := 206) C (24) dX3_copyFrom_206 (by decide) ?_
  refine x_topi (nI 24) (by decide) ?_
  refine x_copy (pc := 208) (o0 := 35) (o1 := 115) C q_X3_57 dX3_copyFrom_208 (by decide) (Nat.le_of_ble_eq_true rfl) (hI 35 rfl) (hb 15 rfl) ⟨rfl, rfl⟩ ⟨rfl, rfl⟩ (by decide) (by decide) (by decide) ?_ mm_copy.1 mm_copy.2.1 mm_copy.2.2
  refine x_aload_n (pc := 211) C dX3_copyFrom_211 rfl ?_
  refine x_getR (pc := 212) (o := 20) (j := 36) C f_X3_51 dX3_copyFrom_212 (hI 20 rfl) ⟨rfl, rfl⟩ ?_
  refine x_iconst (pc := 215) C (0) dX3_copyFrom_215 (by decide) ?_
  refine x_aload_n (pc := 216) C dX3_copyFrom_216 rfl ?_
  refine x_getR (pc := 217) (o := 100) (j := 116) C f_X3_51 dX3_copyFrom_217 (hb 0 rfl) ⟨rfl, rfl⟩ ?_
  refine x_iconst (pc := 220) C (0) dX3_copyFrom_220 (by decide) ?_
  refine x_bipush (pc := 221) C (24) dX3_copyFrom_221 (by decide) ?_
  refine x_topi (nI 24) (by decide) ?_
  refine x_copy (pc := 223) (o0 := 36) (o1 := 116) C q_X3_57 dX3_copyFrom_223 (by decide) (Nat.le_of_ble_eq_true rfl) (hI 36 rfl) (hb 16 rfl) ⟨rfl, rfl⟩ ⟨rfl, rfl⟩ (by decide) (by decide) (by decide) ?_ mm_copy.1 mm_copy.2.1 mm_copy.2.2
  exact x_vret (pc := 226) C hQ dX3_copyFrom_226 (is_v rfl) (Nat.le_of_ble_eq_true rfl) (Nat.le_of_ble_eq_true rfl)
set_option maxRecDepth 100000 in
set_option maxHeartbeats 4000000 in
theorem r4_X3_copyFrom {l : Launch} {V : VV} {L : LL} {N : NN} {I : List Nat} (hI : PI I) (hb : PB I 120) : Runs l 2 0 0 yX3_copyFrom (Cond.code yX3_copyFrom cX3_copyFrom 2 none) [aR 20, aR 120] V L N I (Is none (cfV V 120 20) (L) N I) := by
  refine run_of RX3 (by decide +kernel) rfl (Nat.le_of_ble_eq_true rfl) (fun E hE C hQ hN => ?_)
  subst hE
  refine x_aload_n (pc := 0) C dX3_copyFrom_0 rfl ?_
  refine x_getR (pc := 1) (o := 120) (j := 121) C f_X3_9 dX3_copyFrom_1 (hb 0 rfl) ⟨rfl, rfl⟩ ?_
  refine x_iconst (pc := 4) C (0) dX3_copyFrom_4 (by decide) ?_
  refine x_aload_n (pc := 5) C dX3_copyFrom_5 rfl ?_
  refine x_getR (pc := 6) (o := 20) (j := 21) C f_X3_9 dX3_copyFrom_6 (hI 20 rfl) ⟨rfl, rfl⟩ ?_
  refine x_iconst (pc := 9) C (0) dX3_copyFrom_9 (by decide) ?_
  refine x_bipush (pc := 10) C (8) dX3_copyFrom_10 (by decide) ?_
  refine x_topi (nI 8) (by decide) ?_
  refine x_copy (pc := 12) (o0 := 121) (o1 := 21) C q_X3_57 dX3_copyFrom_12 (by decide) (Nat.le_of_ble_eq_true rfl) (hb 1 rfl) (hI 21 rfl) ⟨rfl, rfl⟩ ⟨rfl, rfl⟩ (by decide) (by decide) (by decide) ?_ mm_copy.1 mm_copy.2.1 mm_copy.2.2
  refine x_aload_n (pc := 15) C dX3_copyFrom_15 rfl ?_
  refine x_getR (pc := 16) (o := 120) (j := 122) C f_X3_15 dX3_copyFrom_16 (hb 0 rfl) ⟨rfl, rfl⟩ ?_
  refine x_iconst (pc := 19) C (0) dX3_copyFrom_19 (by decide) ?_
  refine x_aload_n (pc := 20) C dX3_copyFrom_20 rfl ?_
  refine x_getR (pc := 21) (o := 20) (j := 22) C f_X3_15 dX3_copyFrom_21 (hI 20 rfl) ⟨rfl, rfl⟩ ?_
  refine x_iconst (pc := 24) C (0) dX3_copyFrom_24 (by decide) ?_
  refine x_bipush (pc := 25) C (6) dX3_copyFrom_25 (by decide) ?_
  refine x_topi (nI 6) (by decide) ?_
  refine x_copy (pc := 27) (o0 := 122) (o1 := 22) C q_X3_57 dX3_copyFrom_27 (by decide) (Nat.le_of_ble_eq_true rfl) (hb 2 rfl) (hI 22 rfl) ⟨rfl, rfl⟩ ⟨rfl, rfl⟩ (by decide) (by decide) (by decide) ?_ mm_copy.1 mm_copy.2.1 mm_copy.2.2
  refine x_aload_n (pc := 30) C dX3_copyFrom_30 rfl ?_
  refine x_getR (pc := 31) (o := 120) (j := 123) C f_X3_18 dX3_copyFrom_31 (hb 0 rfl) ⟨rfl, rfl⟩ ?_
  refine x_iconst (pc := 34) C (0) dX3_copyFrom_34 (by decide) ?_
  refine x_aload_n (pc := 35) C dX3_copyFrom_35 rfl ?_
  refine x_getR (pc := 36) (o := 20) (j := 23) C f_X3_18 dX3_copyFrom_36 (hI 20 rfl) ⟨rfl, rfl⟩ ?_
  refine x_iconst (pc := 39) C (0) dX3_copyFrom_39 (by decide) ?_
  refine x_bipush (pc := 40) C (6) dX3_copyFrom_40 (by decide) ?_
  refine x_topi (nI 6) (by decide) ?_
  refine x_copy (pc := 42) (o0 := 123) (o1 := 23) C q_X3_57 dX3_copyFrom_42 (by decide) (Nat.le_of_ble_eq_true rfl) (hb 3 rfl) (hI 23 rfl) ⟨rfl, rfl⟩ ⟨rfl, rfl⟩ (by decide) (by decide) (by decide) ?_ mm_copy.1 mm_copy.2.1 mm_copy.2.2
  refine x_aload_n (pc := 45) C dX3_copyFrom_45 rfl ?_
  refine x_getR (pc := 46) (o := 120) (j := 124) C f_X3_21 dX3_copyFrom_46 (hb 0 rfl) ⟨rfl, rfl⟩ ?_
  refine x_iconst (pc := 49) C (0) dX3_copyFrom_49 (by decide) ?_
  refine x_aload_n (pc := 50) C dX3_copyFrom_50 rfl ?_
  refine x_getR (pc := 51) (o := 20) (j := 24) C f_X3_21 dX3_copyFrom_51 (hI 20 rfl) ⟨rfl, rfl⟩ ?_
  refine x_iconst (pc := 54) C (0) dX3_copyFrom_54 (by decide) ?_
  refine x_bipush (pc := 55) C (6) dX3_copyFrom_55 (by decide) ?_
  refine x_topi (nI 6) (by decide) ?_
  refine x_copy (pc := 57) (o0 := 124) (o1 := 24) C q_X3_57 dX3_copyFrom_57 (by decide) (Nat.le_of_ble_eq_true rfl) (hb 4 rfl) (hI 24 rfl) ⟨rfl, rfl⟩ ⟨rfl, rfl⟩ (by decide) (by decide) (by decide) ?_ mm_copy.1 mm_copy.2.1 mm_copy.2.2
  refine x_aload_n (pc := 60) C dX3_copyFrom_60 rfl ?_
  refine x_getR (pc := 61) (o := 120) (j := 125) C f_X3_24 dX3_copyFrom_61 (hb 0 rfl) ⟨rfl, rfl⟩ ?_
  refine x_iconst (pc := 64) C (0) dX3_copyFrom_64 (by decide) ?_
  refine x_aload_n (pc := 65) C dX3_copyFrom_65 rfl ?_
  refine x_getR (pc := 66) (o := 20) (j := 25) C f_X3_24 dX3_copyFrom_66 (hI 20 rfl) ⟨rfl, rfl⟩ ?_
  refine x_iconst (pc := 69) C (0) dX3_copyFrom_69 (by decide) ?_
  refine x_bipush (pc := 70) C (6) dX3_copyFrom_70 (by decide) ?_
  refine x_topi (nI 6) (by decide) ?_
  refine x_copy (pc := 72) (o0 := 125) (o1 := 25) C q_X3_57 dX3_copyFrom_72 (by decide) (Nat.le_of_ble_eq_true rfl) (hb 5 rfl) (hI 25 rfl) ⟨rfl, rfl⟩ ⟨rfl, rfl⟩ (by decide) (by decide) (by decide) ?_ mm_copy.1 mm_copy.2.1 mm_copy.2.2
  refine x_aload_n (pc := 75) C dX3_copyFrom_75 rfl ?_
  refine x_getR (pc := 76) (o := 120) (j := 126) C f_X3_27 dX3_copyFrom_76 (hb 0 rfl) ⟨rfl, rfl⟩ ?_
  refine x_iconst (pc := 79) C (0) dX3_copyFrom_79 (by decide) ?_
  refine x_aload_n (pc := 80) C dX3_copyFrom_80 rfl ?_
  refine x_getR (pc := 81) (o := 20) (j := 26) C f_X3_27 dX3_copyFrom_81 (hI 20 rfl) ⟨rfl, rfl⟩ ?_
  refine x_iconst (pc := 84) C (0) dX3_copyFrom_84 (by decide) ?_
  refine x_bipush (pc := 85) C (6) dX3_copyFrom_85 (by decide) ?_
  refine x_topi (nI 6) (by decide) ?_
  refine x_copy (pc := 87) (o0 := 126) (o1 := 26) C q_X3_57 dX3_copyFrom_87 (by decide) (Nat.le_of_ble_eq_true rfl) (hb 6 rfl) (hI 26 rfl) ⟨rfl, rfl⟩ ⟨rfl, rfl⟩ (by decide) (by decide) (by decide) ?_ mm_copy.1 mm_copy.2.1 mm_copy.2.2
  refine x_aload_n (pc := 90) C dX3_copyFrom_90 rfl ?_
  refine x_aload_n (pc := 91) C dX3_copyFrom_91 rfl ?_
  refine x_getI (pc := 92) (o := 120) C f_X3_63 dX3_copyFrom_92 (hb 0 rfl) ⟨rfl, rfl, rfl⟩ ?_
  refine x_putI (pc := 95) (o := 20) C p_X3_63 dX3_copyFrom_95 (hI 20 rfl) ⟨rfl, rfl, rfl⟩ ?_
  refine x_aload_n (pc := 98) C dX3_copyFrom_98 rfl ?_
  refine x_aload_n (pc := 99) C dX3_copyFrom_99 rfl ?_
  refine x_getI (pc := 100) (o := 120) C f_X3_67 dX3_copyFrom_100 (hb 0 rfl) ⟨rfl, rfl, rfl⟩ ?_
  refine x_putI (pc := 103) (o := 20) C p_X3_67 dX3_copyFrom_103 (hI 20 rfl) ⟨rfl, rfl, rfl⟩ ?_
  refine x_aload_n (pc := 106) C dX3_copyFrom_106 rfl ?_
  refine x_getR (pc := 107) (o := 120) (j := 129) C f_X3_30 dX3_copyFrom_107 (hb 0 rfl) ⟨rfl, rfl⟩ ?_
  refine x_iconst (pc := 110) C (0) dX3_copyFrom_110 (by decide) ?_
  refine x_aload_n (pc := 111) C dX3_copyFrom_111 rfl ?_
  refine x_getR (pc := 112) (o := 20) (j := 29) C f_X3_30 dX3_copyFrom_112 (hI 20 rfl) ⟨rfl, rfl⟩ ?_
  refine x_iconst (pc := 115) C (0) dX3_copyFrom_115 (by decide) ?_
  refine x_bipush (pc := 116) C (24) dX3_copyFrom_116 (by decide) ?_
  refine x_topi (nI 24) (by decide) ?_
  refine x_copy (pc := 118) (o0 := 129) (o1 := 29) C q_X3_57 dX3_copyFrom_118 (by decide) (Nat.le_of_ble_eq_true rfl) (hb 9 rfl) (hI 29 rfl) ⟨rfl, rfl⟩ ⟨rfl, rfl⟩ (by decide) (by decide) (by decide) ?_ mm_copy.1 mm_copy.2.1 mm_copy.2.2
  refine x_aload_n (pc := 121) C dX3_copyFrom_121 rfl ?_
  refine x_getR (pc := 122) (o := 120) (j := 130) C f_X3_33 dX3_copyFrom_122 (hb 0 rfl) ⟨rfl, rfl⟩ ?_
  refine x_iconst (pc := 125) C (0) dX3_copyFrom_125 (by decide) ?_
  refine x_aload_n (pc := 126) C dX3_copyFrom_126 rfl ?_
  refine x_getR (pc := 127) (o := 20) (j := 30) C f_X3_33 dX3_copyFrom_127 (hI 20 rfl) ⟨rfl, rfl⟩ ?_
  refine x_iconst (pc := 130) C (0) dX3_copyFrom_130 (by decide) ?_
  refine x_bipush (pc := 131) C (24) dX3_copyFrom_131 (by decide) ?_
  refine x_topi (nI 24) (by decide) ?_
  refine x_copy (pc := 133) (o0 := 130) (o1 := 30) C q_X3_57 dX3_copyFrom_133 (by decide) (Nat.le_of_ble_eq_true rfl) (hb 10 rfl) (hI 30 rfl) ⟨rfl, rfl⟩ ⟨rfl, rfl⟩ (by decide) (by decide) (by decide) ?_ mm_copy.1 mm_copy.2.1 mm_copy.2.2
  refine x_aload_n (pc := 136) C dX3_copyFrom_136 rfl ?_
  refine x_getR (pc := 137) (o := 120) (j := 131) C f_X3_36 dX3_copyFrom_137 (hb 0 rfl) ⟨rfl, rfl⟩ ?_
  refine x_iconst (pc := 140) C (0) dX3_copyFrom_140 (by decide) ?_
  refine x_aload_n (pc := 141) C dX3_copyFrom_141 rfl ?_
  refine x_getR (pc := 142) (o := 20) (j := 31) C f_X3_36 dX3_copyFrom_142 (hI 20 rfl) ⟨rfl, rfl⟩ ?_
  refine x_iconst (pc := 145) C (0) dX3_copyFrom_145 (by decide) ?_
  refine x_bipush (pc := 146) C (24) dX3_copyFrom_146 (by decide) ?_
  refine x_topi (nI 24) (by decide) ?_
  refine x_copy (pc := 148) (o0 := 131) (o1 := 31) C q_X3_57 dX3_copyFrom_148 (by decide) (Nat.le_of_ble_eq_true rfl) (hb 11 rfl) (hI 31 rfl) ⟨rfl, rfl⟩ ⟨rfl, rfl⟩ (by decide) (by decide) (by decide) ?_ mm_copy.1 mm_copy.2.1 mm_copy.2.2
  refine x_aload_n (pc := 151) C dX3_copyFrom_151 rfl ?_
  refine x_getR (pc := 152) (o := 120) (j := 132) C f_X3_39 dX3_copyFrom_152 (hb 0 rfl) ⟨rfl, rfl⟩ ?_
  refine x_iconst (pc := 155) C (0) dX3_copyFrom_155 (by decide) ?_
  refine x_aload_n (pc := 156) C dX3_copyFrom_156 rfl ?_
  refine x_getR (pc := 157) (o := 20) (j := 32) C f_X3_39 dX3_copyFrom_157 (hI 20 rfl) ⟨rfl, rfl⟩ ?_
  refine x_iconst (pc := 160) C (0) dX3_copyFrom_160 (by decide) ?_
  refine x_bipush (pc := 161) C (24) dX3_copyFrom_161 (by decide) ?_
  refine x_topi (nI 24) (by decide) ?_
  refine x_copy (pc := 163) (o0 := 132) (o1 := 32) C q_X3_57 dX3_copyFrom_163 (by decide) (Nat.le_of_ble_eq_true rfl) (hb 12 rfl) (hI 32 rfl) ⟨rfl, rfl⟩ ⟨rfl, rfl⟩ (by decide) (by decide) (by decide) ?_ mm_copy.1 mm_copy.2.1 mm_copy.2.2
  refine x_aload_n (pc := 166) C dX3_copyFrom_166 rfl ?_
  refine x_getR (pc := 167) (o := 120) (j := 133) C f_X3_42 dX3_copyFrom_167 (hb 0 rfl) ⟨rfl, rfl⟩ ?_
  refine x_iconst (pc := 170) C (0) dX3_copyFrom_170 (by decide) ?_
  refine x_aload_n (pc := 171) C dX3_copyFrom_171 rfl ?_
  refine x_getR (pc := 172) (o := 20) (j := 33) C f_X3_42 dX3_copyFrom_172 (hI 20 rfl) ⟨rfl, rfl⟩ ?_
  refine x_iconst (pc := 175) C (0) dX3_copyFrom_175 (by decide) ?_
  refine x_bipush (pc := 176) C (24) dX3_copyFrom_176 (by decide) ?_
  refine x_topi (nI 24) (by decide) ?_
  refine x_copy (pc := 178) (o0 := 133) (o1 := 33) C q_X3_57 dX3_copyFrom_178 (by decide) (Nat.le_of_ble_eq_true rfl) (hb 13 rfl) (hI 33 rfl) ⟨rfl, rfl⟩ ⟨rfl, rfl⟩ (by decide) (by decide) (by decide) ?_ mm_copy.1 mm_copy.2.1 mm_copy.2.2
  refine x_aload_n (pc := 181) C dX3_copyFrom_181 rfl ?_
  refine x_getR (pc := 182) (o := 120) (j := 134) C f_X3_45 dX3_copyFrom_182 (hb 0 rfl) ⟨rfl, rfl⟩ ?_
  refine x_iconst (pc := 185) C (0) dX3_copyFrom_185 (by decide) ?_
  refine x_aload_n (pc := 186) C dX3_copyFrom_186 rfl ?_
  refine x_getR (pc := 187) (o := 20) (j := 34) C f_X3_45 dX3_copyFrom_187 (hI 20 rfl) ⟨rfl, rfl⟩ ?_
  refine x_iconst (pc := 190) C (0) dX3_copyFrom_190 (by decide) ?_
  refine x_bipush (pc := 191) C (24) dX3_copyFrom_191 (by decide) ?_
  refine x_topi (nI 24) (by decide) ?_
  refine x_copy (pc := 193) (o0 := 134) (o1 := 34) C q_X3_57 dX3_copyFrom_193 (by decide) (Nat.le_of_ble_eq_true rfl) (hb 14 rfl) (hI 34 rfl) ⟨rfl, rfl⟩ ⟨rfl, rfl⟩ (by decide) (by decide) (by decide) ?_ mm_copy.1 mm_copy.2.1 mm_copy.2.2
  refine x_aload_n (pc := 196) C dX3_copyFrom_196 rfl ?_
  refine x_getR (pc := 197) (o := 120) (j := 135) C f_X3_48 dX3_copyFrom_197 (hb 0 rfl) ⟨rfl, rfl⟩ ?_
  refine x_iconst (pc := 200) C (0) dX3_copyFrom_200 (by decide) ?_
  refine x_aload_n (pc := 201) C dX3_copyFrom_201 rfl ?_
  refine x_getR (pc := 202) (o := 20) (j := 35) C f_X3_48 dX3_copyFrom_202 (hI 20 rfl) ⟨rfl, rfl⟩ ?_
  refine x_iconst (pc := 205) C (0) dX3_copyFrom_205 (by decide) ?_
  refine x_bipush (pc := 206) C (24) dX3_copyFrom_206 (by decide) ?_
  refine x_topi (nI 24) (by decide) ?_
  refine x_copy (pc := 208) (o0 := 135) (o1 := 35) C q_X3_57 dX3_copyFrom_208 (by decide) (Nat.le_of_ble_eq_true rfl) (hb 15 rfl) (hI 35 rfl) ⟨rfl, rfl⟩ ⟨rfl, rfl⟩ (by decide) (by decide) (by decide) ?_ mm_copy.1 mm_copy.2.1 mm_copy.2.2
  refine x_aload_n (pc := 211) C dX3_copyFrom_211 rfl ?_
  refine x_getR (pc := 212) (o := 120) (j := 136) C f_X3_51 dX3_copyFrom_212 (hb 0 rfl) ⟨rfl, rfl⟩ ?_
  refine x_iconst (pc := 215) C (0) dX3_copyFrom_215 (by decide) ?_
  refine x_aload_n (pc := 216) C dX3_copyFrom_216 rfl ?_
  refine x_getR (pc := 217) (o := 20) (j := 36) C f_X3_51 dX3_copyFrom_217 (hI 20 rfl) ⟨rfl, rfl⟩ ?_
  refine x_iconst (pc := 220) C (0) dX3_copyFrom_220 (by decide) ?_
  refine x_bipush (pc := 221) C (24) dX3_copyFrom_221 (by decide) ?_
  refine x_topi (nI 24) (by decide) ?_
  refine x_copy (pc := 223) (o0 := 136) (o1 := 36) C q_X3_57 dX3_copyFrom_223 (by decide) (Nat.le_of_ble_eq_true rfl) (hb 16 rfl) (hI 36 rfl) ⟨rfl, rfl⟩ ⟨rfl, rfl⟩ (by decide) (by decide) (by decide) ?_ mm_copy.1 mm_copy.2.1 mm_copy.2.2
  exact x_vret (pc := 226) C hQ dX3_copyFrom_226 (is_v rfl) (Nat.le_of_ble_eq_true rfl) (Nat.le_of_ble_eq_true rfl)
set_option maxRecDepth 100000 in
set_option maxHeartbeats 4000000 in
theorem s4_X3_copyFrom {l : Launch} {V : VV} {L : LL} {N : NN} {I : List Nat} (hI : PI I) (hb : PB I 120) : Runs l 2 0 0 yX3_copyFrom (Cond.code yX3_copyFrom cX3_copyFrom 2 none) [aR 120, aR 20] V L N I (Is none (cfV V 20 120) (L) N I) := by
  refine run_of RX3 (by decide +kernel) rfl (Nat.le_of_ble_eq_true rfl) (fun E hE C hQ hN => ?_)
  subst hE
  refine x_aload_n (pc := 0) C dX3_copyFrom_0 rfl ?_
  refine x_getR (pc := 1) (o := 20) (j := 21) C f_X3_9 dX3_copyFrom_1 (hI 20 rfl) ⟨rfl, rfl⟩ ?_
  refine x_iconst (pc := 4) C (0) dX3_copyFrom_4 (by decide) ?_
  refine x_aload_n (pc := 5) C dX3_copyFrom_5 rfl ?_
  refine x_getR (pc := 6) (o := 120) (j := 121) C f_X3_9 dX3_copyFrom_6 (hb 0 rfl) ⟨rfl, rfl⟩ ?_
  refine x_iconst (pc := 9) C (0) dX3_copyFrom_9 (by decide) ?_
  refine x_bipush (pc := 10) C (8) dX3_copyFrom_10 (by decide) ?_
  refine x_topi (nI 8) (by decide) ?_
  refine x_copy (pc := 12) (o0 := 21) (o1 := 121) C q_X3_57 dX3_copyFrom_12 (by decide) (Nat.le_of_ble_eq_true rfl) (hI 21 rfl) (hb 1 rfl) ⟨rfl, rfl⟩ ⟨rfl, rfl⟩ (by decide) (by decide) (by decide) ?_ mm_copy.1 mm_copy.2.1 mm_copy.2.2
  refine x_aload_n (pc := 15) C dX3_copyFrom_15 rfl ?_
  refine x_getR (pc := 16) (o := 20) (j := 22) C f_X3_15 dX3_copyFrom_16 (hI 20 rfl) ⟨rfl, rfl⟩ ?_
  refine x_iconst (pc := 19) C (0) dX3_copyFrom_19 (by decide) ?_
  refine x_aload_n (pc := 20) C dX3_copyFrom_20 rfl ?_
  refine x_getR (pc := 21) (o := 120) (j := 122) C f_X3_15 dX3_copyFrom_21 (hb 0 rfl) ⟨rfl, rfl⟩ ?_
  refine x_iconst (pc := 24) C (0) dX3_copyFrom_24 (by decide) ?_
  refine x_bipush (pc := 25) C (6) dX3_copyFrom_25 (by decide) ?_
  refine x_topi (nI 6) (by decide) ?_
  refine x_copy (pc := 27) (o0 := 22) (o1 := 122) C q_X3_57 dX3_copyFrom_27 (by decide) (Nat.le_of_ble_eq_true rfl) (hI 22 rfl) (hb 2 rfl) ⟨rfl, rfl⟩ ⟨rfl, rfl⟩ (by decide) (by decide) (by decide) ?_ mm_copy.1 mm_copy.2.1 mm_copy.2.2
  refine x_aload_n (pc := 30) C dX3_copyFrom_30 rfl ?_
  refine x_getR (pc := 31) (o := 20) (j := 23) C f_X3_18 dX3_copyFrom_31 (hI 20 rfl) ⟨rfl, rfl⟩ ?_
  refine x_iconst (pc := 34) C (0) dX3_copyFrom_34 (by decide) ?_
  refine x_aload_n (pc := 35) C dX3_copyFrom_35 rfl ?_
  refine x_getR (pc := 36) (o := 120) (j := 123) C f_X3_18 dX3_copyFrom_36 (hb 0 rfl) ⟨rfl, rfl⟩ ?_
  refine x_iconst (pc := 39) C (0) dX3_copyFrom_39 (by decide) ?_
  refine x_bipush (pc := 40) C (6) dX3_copyFrom_40 (by decide) ?_
  refine x_topi (nI 6) (by decide) ?_
  refine x_copy (pc := 42) (o0 := 23) (o1 := 123) C q_X3_57 dX3_copyFrom_42 (by decide) (Nat.le_of_ble_eq_true rfl) (hI 23 rfl) (hb 3 rfl) ⟨rfl, rfl⟩ ⟨rfl, rfl⟩ (by decide) (by decide) (by decide) ?_ mm_copy.1 mm_copy.2.1 mm_copy.2.2
  refine x_aload_n (pc := 45) C dX3_copyFrom_45 rfl ?_
  refine x_getR (pc := 46) (o := 20) (j := 24) C f_X3_21 dX3_copyFrom_46 (hI 20 rfl) ⟨rfl, rfl⟩ ?_
  refine x_iconst (pc := 49) C (0) dX3_copyFrom_49 (by decide) ?_
  refine x_aload_n (pc := 50) C dX3_copyFrom_50 rfl ?_
  refine x_getR (pc := 51) (o := 120) (j := 124) C f_X3_21 dX3_copyFrom_51 (hb 0 rfl) ⟨rfl, rfl⟩ ?_
  refine x_iconst (pc := 54) C (0) dX3_copyFrom_54 (by decide) ?_
  refine x_bipush (pc := 55) C (6) dX3_copyFrom_55 (by decide) ?_
  refine x_topi (nI 6) (by decide) ?_
  refine x_copy (pc := 57) (o0 := 24) (o1 := 124) C q_X3_57 dX3_copyFrom_57 (by decide) (Nat.le_of_ble_eq_true rfl) (hI 24 rfl) (hb 4 rfl) ⟨rfl, rfl⟩ ⟨rfl, rfl⟩ (by decide) (by decide) (by decide) ?_ mm_copy.1 mm_copy.2.1 mm_copy.2.2
  refine x_aload_n (pc := 60) C dX3_copyFrom_60 rfl ?_
  refine x_getR (pc := 61) (o := 20) (j := 25) C f_X3_24 dX3_copyFrom_61 (hI 20 rfl) ⟨rfl, rfl⟩ ?_
  refine x_iconst (pc := 64) C (0) dX3_copyFrom_64 (by decide) ?_
  refine x_aload_n (pc := 65) C dX3_copyFrom_65 rfl ?_
  refine x_getR (pc := 66) (o := 120) (j := 125) C f_X3_24 dX3_copyFrom_66 (hb 0 rfl) ⟨rfl, rfl⟩ ?_
  refine x_iconst (pc := 69) C (0) dX3_copyFrom_69 (by decide) ?_
  refine x_bipush (pc := 70) C (6) dX3_copyFrom_70 (by decide) ?_
  refine x_topi (nI 6) (by decide) ?_
  refine x_copy (pc := 72) (o0 := 25) (o1 := 125) C q_X3_57 dX3_copyFrom_72 (by decide) (Nat.le_of_ble_eq_true rfl) (hI 25 rfl) (hb 5 rfl) ⟨rfl, rfl⟩ ⟨rfl, rfl⟩ (by decide) (by decide) (by decide) ?_ mm_copy.1 mm_copy.2.1 mm_copy.2.2
  refine x_aload_n (pc := 75) C dX3_copyFrom_75 rfl ?_
  refine x_getR (pc := 76) (o := 20) (j := 26) C f_X3_27 dX3_copyFrom_76 (hI 20 rfl) ⟨rfl, rfl⟩ ?_
  refine x_iconst (pc := 79) C (0) dX3_copyFrom_79 (by decide) ?_
  refine x_aload_n (pc := 80) C dX3_copyFrom_80 rfl ?_
  refine x_getR (pc := 81) (o := 120) (j := 126) C f_X3_27 dX3_copyFrom_81 (hb 0 rfl) ⟨rfl, rfl⟩ ?_
  refine x_iconst (pc := 84) C (0) dX3_copyFrom_84 (by decide) ?_
  refine x_bipush (pc := 85) C (6) dX3_copyFrom_85 (by decide) ?_
  refine x_topi (nI 6) (by decide) ?_
  refine x_copy (pc := 87) (o0 := 26) (o1 := 126) C q_X3_57 dX3_copyFrom_87 (by decide) (Nat.le_of_ble_eq_true rfl) (hI 26 rfl) (hb 6 rfl) ⟨rfl, rfl⟩ ⟨rfl, rfl⟩ (by decide) (by decide) (by decide) ?_ mm_copy.1 mm_copy.2.1 mm_copy.2.2
  refine x_aload_n (pc := 90) C dX3_copyFrom_90 rfl ?_
  refine x_aload_n (pc := 91) C dX3_copyFrom_91 rfl ?_
  refine x_getI (pc := 92) (o := 20) C f_X3_63 dX3_copyFrom_92 (hI 20 rfl) ⟨rfl, rfl, rfl⟩ ?_
  refine x_putI (pc := 95) (o := 120) C p_X3_63 dX3_copyFrom_95 (hb 0 rfl) ⟨rfl, rfl, rfl⟩ ?_
  refine x_aload_n (pc := 98) C dX3_copyFrom_98 rfl ?_
  refine x_aload_n (pc := 99) C dX3_copyFrom_99 rfl ?_
  refine x_getI (pc := 100) (o := 20) C f_X3_67 dX3_copyFrom_100 (hI 20 rfl) ⟨rfl, rfl, rfl⟩ ?_
  refine x_putI (pc := 103) (o := 120) C p_X3_67 dX3_copyFrom_103 (hb 0 rfl) ⟨rfl, rfl, rfl⟩ ?_
  refine x_aload_n (pc := 106) C dX3_copyFrom_106 rfl ?_
  refine x_getR (pc := 107) (o := 20) (j := 29) C f_X3_30 dX3_copyFrom_107 (hI 20 rfl) ⟨rfl, rfl⟩ ?_
  refine x_iconst (pc := 110) C (0) dX3_copyFrom_110 (by decide) ?_
  refine x_aload_n (pc := 111) C dX3_copyFrom_111 rfl ?_
  refine x_getR (pc := 112) (o := 120) (j := 129) C f_X3_30 dX3_copyFrom_112 (hb 0 rfl) ⟨rfl, rfl⟩ ?_
  refine x_iconst (pc := 115) C (0) dX3_copyFrom_115 (by decide) ?_
  refine x_bipush (pc := 116) C (24) dX3_copyFrom_116 (by decide) ?_
  refine x_topi (nI 24) (by decide) ?_
  refine x_copy (pc := 118) (o0 := 29) (o1 := 129) C q_X3_57 dX3_copyFrom_118 (by decide) (Nat.le_of_ble_eq_true rfl) (hI 29 rfl) (hb 9 rfl) ⟨rfl, rfl⟩ ⟨rfl, rfl⟩ (by decide) (by decide) (by decide) ?_ mm_copy.1 mm_copy.2.1 mm_copy.2.2
  refine x_aload_n (pc := 121) C dX3_copyFrom_121 rfl ?_
  refine x_getR (pc := 122) (o := 20) (j := 30) C f_X3_33 dX3_copyFrom_122 (hI 20 rfl) ⟨rfl, rfl⟩ ?_
  refine x_iconst (pc := 125) C (0) dX3_copyFrom_125 (by decide) ?_
  refine x_aload_n (pc := 126) C dX3_copyFrom_126 rfl ?_
  refine x_getR (pc := 127) (o := 120) (j := 130) C f_X3_33 dX3_copyFrom_127 (hb 0 rfl) ⟨rfl, rfl⟩ ?_
  refine x_iconst (pc := 130) C (0) dX3_copyFrom_130 (by decide) ?_
  refine x_bipush (pc := 131) C (24) dX3_copyFrom_131 (by decide) ?_
  refine x_topi (nI 24) (by decide) ?_
  refine x_copy (pc := 133) (o0 := 30) (o1 := 130) C q_X3_57 dX3_copyFrom_133 (by decide) (Nat.le_of_ble_eq_true rfl) (hI 30 rfl) (hb 10 rfl) ⟨rfl, rfl⟩ ⟨rfl, rfl⟩ (by decide) (by decide) (by decide) ?_ mm_copy.1 mm_copy.2.1 mm_copy.2.2
  refine x_aload_n (pc := 136) C dX3_copyFrom_136 rfl ?_
  refine x_getR (pc := 137) (o := 20) (j := 31) C f_X3_36 dX3_copyFrom_137 (hI 20 rfl) ⟨rfl, rfl⟩ ?_
  refine x_iconst (pc := 140) C (0) dX3_copyFrom_140 (by decide) ?_
  refine x_aload_n (pc := 141) C dX3_copyFrom_141 rfl ?_
  refine x_getR (pc := 142) (o := 120) (j := 131) C f_X3_36 dX3_copyFrom_142 (hb 0 rfl) ⟨rfl, rfl⟩ ?_
  refine x_iconst (pc := 145) C (0) dX3_copyFrom_145 (by decide) ?_
  refine x_bipush (pc := 146) C (24) dX3_copyFrom_146 (by decide) ?_
  refine x_topi (nI 24) (by decide) ?_
  refine x_copy (pc := 148) (o0 := 31) (o1 := 131) C q_X3_57 dX3_copyFrom_148 (by decide) (Nat.le_of_ble_eq_true rfl) (hI 31 rfl) (hb 11 rfl) ⟨rfl, rfl⟩ ⟨rfl, rfl⟩ (by decide) (by decide) (by decide) ?_ mm_copy.1 mm_copy.2.1 mm_copy.2.2
  refine x_aload_n (pc := 151) C dX3_copyFrom_151 rfl ?_
  refine x_getR (pc := 152) (o := 20) (j := 32) C f_X3_39 dX3_copyFrom_152 (hI 20 rfl) ⟨rfl, rfl⟩ ?_
  refine x_iconst (pc := 155) C (0) dX3_copyFrom_155 (by decide) ?_
  refine x_aload_n (pc := 156) C dX3_copyFrom_156 rfl ?_
  refine x_getR (pc := 157) (o := 120) (j := 132) C f_X3_39 dX3_copyFrom_157 (hb 0 rfl) ⟨rfl, rfl⟩ ?_
  refine x_iconst (pc := 160) C (0) dX3_copyFrom_160 (by decide) ?_
  refine x_bipush (pc := 161) C (24) dX3_copyFrom_161 (by decide) ?_
  refine x_topi (nI 24) (by decide) ?_
  refine x_copy (pc := 163) (o0 := 32) (o1 := 132) C q_X3_57 dX3_copyFrom_163 (by decide) (Nat.le_of_ble_eq_true rfl) (hI 32 rfl) (hb 12 rfl) ⟨rfl, rfl⟩ ⟨rfl, rfl⟩ (by decide) (by decide) (by decide) ?_ mm_copy.1 mm_copy.2.1 mm_copy.2.2
  refine x_aload_n (pc := 166) C dX3_copyFrom_166 rfl ?_
  refine x_getR (pc := 167) (o := 20) (j := 33) C f_X3_42 dX3_copyFrom_167 (hI 20 rfl) ⟨rfl, rfl⟩ ?_
  refine x_iconst (pc := 170) C (0) dX3_copyFrom_170 (by decide) ?_
  refine x_aload_n (pc := 171) C dX3_copyFrom_171 rfl ?_
  refine x_getR (pc := 172) (o := 120) (j := 133) C f_X3_42 dX3_copyFrom_172 (hb 0 rfl) ⟨rfl, rfl⟩ ?_
  refine x_iconst (pc := 175) C (0) dX3_copyFrom_175 (by decide) ?_
  refine x_bipush (pc := 176) C (24) dX3_copyFrom_176 (by decide) ?_
  refine x_topi (nI 24) (by decide) ?_
  refine x_copy (pc := 178) (o0 := 33) (o1 := 133) C q_X3_57 dX3_copyFrom_178 (by decide) (Nat.le_of_ble_eq_true rfl) (hI 33 rfl) (hb 13 rfl) ⟨rfl, rfl⟩ ⟨rfl, rfl⟩ (by decide) (by decide) (by decide) ?_ mm_copy.1 mm_copy.2.1 mm_copy.2.2
  refine x_aload_n (pc := 181) C dX3_copyFrom_181 rfl ?_
  refine x_getR (pc := 182) (o := 20) (j := 34) C f_X3_45 dX3_copyFrom_182 (hI 20 rfl) ⟨rfl, rfl⟩ ?_
  refine x_iconst (pc := 185) C (0) dX3_copyFrom_185 (by decide) ?_
  refine x_aload_n (pc := 186) C dX3_copyFrom_186 rfl ?_
  refine x_getR (pc := 187) (o := 120) (j := 134) C f_X3_45 dX3_copyFrom_187 (hb 0 rfl) ⟨rfl, rfl⟩ ?_
  refine x_iconst (pc := 190) C (0) dX3_copyFrom_190 (by decide) ?_
  refine x_bipush (pc := 191) C (24) dX3_copyFrom_191 (by decide) ?_
  refine x_topi (nI 24) (by decide) ?_
  refine x_copy (pc := 193) (o0 := 34) (o1 := 134) C q_X3_57 dX3_copyFrom_193 (by decide) (Nat.le_of_ble_eq_true rfl) (hI 34 rfl) (hb 14 rfl) ⟨rfl, rfl⟩ ⟨rfl, rfl⟩ (by decide) (by decide) (by decide) ?_ mm_copy.1 mm_copy.2.1 mm_copy.2.2
  refine x_aload_n (pc := 196) C dX3_copyFrom_196 rfl ?_
  refine x_getR (pc := 197) (o := 20) (j := 35) C f_X3_48 dX3_copyFrom_197 (hI 20 rfl) ⟨rfl, rfl⟩ ?_
  refine x_iconst (pc := 200) C (0) dX3_copyFrom_200 (by decide) ?_
  refine x_aload_n (pc := 201) C dX3_copyFrom_201 rfl ?_
  refine x_getR (pc := 202) (o := 120) (j := 135) C f_X3_48 dX3_copyFrom_202 (hb 0 rfl) ⟨rfl, rfl⟩ ?_
  refine x_iconst (pc := 205) C (0) dX3_copyFrom_205 (by decide) ?_
  refine x_bipush (pc := 206) C (24) dX3_copyFrom_206 (by decide) ?_
  refine x_topi (nI 24) (by decide) ?_
  refine x_copy (pc := 208) (o0 := 35) (o1 := 135) C q_X3_57 dX3_copyFrom_208 (by decide) (Nat.le_of_ble_eq_true rfl) (hI 35 rfl) (hb 15 rfl) ⟨rfl, rfl⟩ ⟨rfl, rfl⟩ (by decide) (by decide) (by decide) ?_ mm_copy.1 mm_copy.2.1 mm_copy.2.2
  refine x_aload_n (pc := 211) C dX3_copyFrom_211 rfl ?_
  refine x_getR (pc := 212) (o := 20) (j := 36) C f_X3_51 dX3_copyFrom_212 (hI 20 rfl) ⟨rfl, rfl⟩ ?_
  refine x_iconst (pc := 215) C (0) dX3_copyFrom_215 (by decide) ?_
  refine x_aload_n (pc := 216) C dX3_copyFrom_216 rfl ?_
  refine x_getR (pc := 217) (o := 120) (j := 136) C f_X3_51 dX3_copyFrom_217 (hb 0 rfl) ⟨rfl, rfl⟩ ?_
  refine x_iconst (pc := 220) C (0) dX3_copyFrom_220 (by decide) ?_
  refine x_bipush (pc := 221) C (24) dX3_copyFrom_221 (by decide) ?_
  refine x_topi (nI 24) (by decide) ?_
  refine x_copy (pc := 223) (o0 := 36) (o1 := 136) C q_X3_57 dX3_copyFrom_223 (by decide) (Nat.le_of_ble_eq_true rfl) (hI 36 rfl) (hb 16 rfl) ⟨rfl, rfl⟩ ⟨rfl, rfl⟩ (by decide) (by decide) (by decide) ?_ mm_copy.1 mm_copy.2.1 mm_copy.2.2
  exact x_vret (pc := 226) C hQ dX3_copyFrom_226 (is_v rfl) (Nat.le_of_ble_eq_true rfl) (Nat.le_of_ble_eq_true rfl)
set_option maxRecDepth 100000 in
set_option maxHeartbeats 4000000 in
theorem r5_X3_copyFrom {l : Launch} {V : VV} {L : LL} {N : NN} {I : List Nat} (hI : PI I) (hb : PB I 140) : Runs l 2 0 0 yX3_copyFrom (Cond.code yX3_copyFrom cX3_copyFrom 2 none) [aR 20, aR 140] V L N I (Is none (cfV V 140 20) (L) N I) := by
  refine run_of RX3 (by decide +kernel) rfl (Nat.le_of_ble_eq_true rfl) (fun E hE C hQ hN => ?_)
  subst hE
  refine x_aload_n (pc := 0) C dX3_copyFrom_0 rfl ?_
  refine x_getR (pc := 1) (o := 140) (j := 141) C f_X3_9 dX3_copyFrom_1 (hb 0 rfl) ⟨rfl, rfl⟩ ?_
  refine x_iconst (pc := 4) C (0) dX3_copyFrom_4 (by decide) ?_
  refine x_aload_n (pc := 5) C dX3_copyFrom_5 rfl ?_
  refine x_getR (pc := 6) (o := 20) (j := 21) C f_X3_9 dX3_copyFrom_6 (hI 20 rfl) ⟨rfl, rfl⟩ ?_
  refine x_iconst (pc := 9) C (0) dX3_copyFrom_9 (by decide) ?_
  refine x_bipush (pc := 10) C (8) dX3_copyFrom_10 (by decide) ?_
  refine x_topi (nI 8) (by decide) ?_
  refine x_copy (pc := 12) (o0 := 141) (o1 := 21) C q_X3_57 dX3_copyFrom_12 (by decide) (Nat.le_of_ble_eq_true rfl) (hb 1 rfl) (hI 21 rfl) ⟨rfl, rfl⟩ ⟨rfl, rfl⟩ (by decide) (by decide) (by decide) ?_ mm_copy.1 mm_copy.2.1 mm_copy.2.2
  refine x_aload_n (pc := 15) C dX3_copyFrom_15 rfl ?_
  refine x_getR (pc := 16) (o := 140) (j := 142) C f_X3_15 dX3_copyFrom_16 (hb 0 rfl) ⟨rfl, rfl⟩ ?_
  refine x_iconst (pc := 19) C (0) dX3_copyFrom_19 (by decide) ?_
  refine x_aload_n (pc := 20) C dX3_copyFrom_20 rfl ?_
  refine x_getR (pc := 21) (o := 20) (j := 22) C f_X3_15 dX3_copyFrom_21 (hI 20 rfl) ⟨rfl, rfl⟩ ?_
  refine x_iconst (pc := 24) C (0) dX3_copyFrom_24 (by decide) ?_
  refine x_bipush (pc := 25) C (6) dX3_copyFrom_25 (by decide) ?_
  refine x_topi (nI 6) (by decide) ?_
  refine x_copy (pc := 27) (o0 := 142) (o1 := 22) C q_X3_57 dX3_copyFrom_27 (by decide) (Nat.le_of_ble_eq_true rfl) (hb 2 rfl) (hI 22 rfl) ⟨rfl, rfl⟩ ⟨rfl, rfl⟩ (by decide) (by decide) (by decide) ?_ mm_copy.1 mm_copy.2.1 mm_copy.2.2
  refine x_aload_n (pc := 30) C dX3_copyFrom_30 rfl ?_
  refine x_getR (pc := 31) (o := 140) (j := 143) C f_X3_18 dX3_copyFrom_31 (hb 0 rfl) ⟨rfl, rfl⟩ ?_
  refine x_iconst (pc := 34) C (0) dX3_copyFrom_34 (by decide) ?_
  refine x_aload_n (pc := 35) C dX3_copyFrom_35 rfl ?_
  refine x_getR (pc := 36) (o := 20) (j := 23) C f_X3_18 dX3_copyFrom_36 (hI 20 rfl) ⟨rfl, rfl⟩ ?_
  refine x_iconst (pc := 39) C (0) dX3_copyFrom_39 (by decide) ?_
  refine x_bipush (pc := 40) C (6) dX3_copyFrom_40 (by decide) ?_
  refine x_topi (nI 6) (by decide) ?_
  refine x_copy (pc := 42) (o0 := 143) (o1 := 23) C q_X3_57 dX3_copyFrom_42 (by decide) (Nat.le_of_ble_eq_true rfl) (hb 3 rfl) (hI 23 rfl) ⟨rfl, rfl⟩ ⟨rfl, rfl⟩ (by decide) (by decide) (by decide) ?_ mm_copy.1 mm_copy.2.1 mm_copy.2.2
  refine x_aload_n (pc := 45) C dX3_copyFrom_45 rfl ?_
  refine x_getR (pc := 46) (o := 140) (j := 144) C f_X3_21 dX3_copyFrom_46 (hb 0 rfl) ⟨rfl, rfl⟩ ?_
  refine x_iconst (pc := 49) C (0) dX3_copyFrom_49 (by decide) ?_
  refine x_aload_n (pc := 50) C dX3_copyFrom_50 rfl ?_
  refine x_getR (pc := 51) (o := 20) (j := 24) C f_X3_21 dX3_copyFrom_51 (hI 20 rfl) ⟨rfl, rfl⟩ ?_
  refine x_iconst (pc := 54) C (0) dX3_copyFrom_54 (by decide) ?_
  refine x_bipush (pc := 55) C (6) dX3_copyFrom_55 (by decide) ?_
  refine x_topi (nI 6) (by decide) ?_
  refine x_copy (pc := 57) (o0 := 144) (o1 := 24) C q_X3_57 dX3_copyFrom_57 (by decide) (Nat.le_of_ble_eq_true rfl) (hb 4 rfl) (hI 24 rfl) ⟨rfl, rfl⟩ ⟨rfl, rfl⟩ (by decide) (by decide) (by decide) ?_ mm_copy.1 mm_copy.2.1 mm_copy.2.2
  refine x_aload_n (pc := 60) C dX3_copyFrom_60 rfl ?_
  refine x_getR (pc := 61) (o := 140) (j := 145) C f_X3_24 dX3_copyFrom_61 (hb 0 rfl) ⟨rfl, rfl⟩ ?_
  refine x_iconst (pc := 64) C (0) dX3_copyFrom_64 (by decide) ?_
  refine x_aload_n (pc := 65) C dX3_copyFrom_65 rfl ?_
  refine x_getR (pc := 66) (o := 20) (j := 25) C f_X3_24 dX3_copyFrom_66 (hI 20 rfl) ⟨rfl, rfl⟩ ?_
  refine x_iconst (pc := 69) C (0) dX3_copyFrom_69 (by decide) ?_
  refine x_bipush (pc := 70) C (6) dX3_copyFrom_70 (by decide) ?_
  refine x_topi (nI 6) (by decide) ?_
  refine x_copy (pc := 72) (o0 := 145) (o1 := 25) C q_X3_57 dX3_copyFrom_72 (by decide) (Nat.le_of_ble_eq_true rfl) (hb 5 rfl) (hI 25 rfl) ⟨rfl, rfl⟩ ⟨rfl, rfl⟩ (by decide) (by decide) (by decide) ?_ mm_copy.1 mm_copy.2.1 mm_copy.2.2
  refine x_aload_n (pc := 75) C dX3_copyFrom_75 rfl ?_
  refine x_getR (pc := 76) (o := 140) (j := 146) C f_X3_27 dX3_copyFrom_76 (hb 0 rfl) ⟨rfl, rfl⟩ ?_
  refine x_iconst (pc := 79) C (0) dX3_copyFrom_79 (by decide) ?_
  refine x_aload_n (pc := 80) C dX3_copyFrom_80 rfl ?_
  refine x_getR (pc := 81) (o := 20) (j := 26) C f_X3_27 dX3_copyFrom_81 (hI 20 rfl) ⟨rfl, rfl⟩ ?_
  refine x_iconst (pc := 84) C (0) dX3_copyFrom_84 (by decide) ?_
  refine x_bipush (pc := 85) C (6) dX3_copyFrom_85 (by decide) ?_
  refine x_topi (nI 6) (by decide) ?_
  refine x_copy (pc := 87) (o0 := 146) (o1 := 26) C q_X3_57 dX3_copyFrom_87 (by decide) (Nat.le_of_ble_eq_true rfl) (hb 6 rfl) (hI 26 rfl) ⟨rfl, rfl⟩ ⟨rfl, rfl⟩ (by decide) (by decide) (by decide) ?_ mm_copy.1 mm_copy.2.1 mm_copy.2.2
  refine x_aload_n (pc := 90) C dX3_copyFrom_90 rfl ?_
  refine x_aload_n (pc := 91) C dX3_copyFrom_91 rfl ?_
  refine x_getI (pc := 92) (o := 140) C f_X3_63 dX3_copyFrom_92 (hb 0 rfl) ⟨rfl, rfl, rfl⟩ ?_
  refine x_putI (pc := 95) (o := 20) C p_X3_63 dX3_copyFrom_95 (hI 20 rfl) ⟨rfl, rfl, rfl⟩ ?_
  refine x_aload_n (pc := 98) C dX3_copyFrom_98 rfl ?_
  refine x_aload_n (pc := 99) C dX3_copyFrom_99 rfl ?_
  refine x_getI (pc := 100) (o := 140) C f_X3_67 dX3_copyFrom_100 (hb 0 rfl) ⟨rfl, rfl, rfl⟩ ?_
  refine x_putI (pc := 103) (o := 20) C p_X3_67 dX3_copyFrom_103 (hI 20 rfl) ⟨rfl, rfl, rfl⟩ ?_
  refine x_aload_n (pc := 106) C dX3_copyFrom_106 rfl ?_
  refine x_getR (pc := 107) (o := 140) (j := 149) C f_X3_30 dX3_copyFrom_107 (hb 0 rfl) ⟨rfl, rfl⟩ ?_
  refine x_iconst (pc := 110) C (0) dX3_copyFrom_110 (by decide) ?_
  refine x_aload_n (pc := 111) C dX3_copyFrom_111 rfl ?_
  refine x_getR (pc := 112) (o := 20) (j := 29) C f_X3_30 dX3_copyFrom_112 (hI 20 rfl) ⟨rfl, rfl⟩ ?_
  refine x_iconst (pc := 115) C (0) dX3_copyFrom_115 (by decide) ?_
  refine x_bipush (pc := 116) C (24) dX3_copyFrom_116 (by decide) ?_
  refine x_topi (nI 24) (by decide) ?_
  refine x_copy (pc := 118) (o0 := 149) (o1 := 29) C q_X3_57 dX3_copyFrom_118 (by decide) (Nat.le_of_ble_eq_true rfl) (hb 9 rfl) (hI 29 rfl) ⟨rfl, rfl⟩ ⟨rfl, rfl⟩ (by decide) (by decide) (by decide) ?_ mm_copy.1 mm_copy.2.1 mm_copy.2.2
  refine x_aload_n (pc := 121) C dX3_copyFrom_121 rfl ?_
  refine x_getR (pc := 122) (o := 140) (j := 150) C f_X3_33 dX3_copyFrom_122 (hb 0 rfl) ⟨rfl, rfl⟩ ?_
  refine x_iconst (pc := 125) C (0) dX3_copyFrom_125 (by decide) ?_
  refine x_aload_n (pc := 126) C dX3_copyFrom_126 rfl ?_
  refine x_getR (pc := 127) (o := 20) (j := 30) C f_X3_33 dX3_copyFrom_127 (hI 20 rfl) ⟨rfl, rfl⟩ ?_
  refine x_iconst (pc := 130) C (0) dX3_copyFrom_130 (by decide) ?_
  refine x_bipush (pc := 131) C (24) dX3_copyFrom_131 (by decide) ?_
  refine x_topi (nI 24) (by decide) ?_
  refine x_copy (pc := 133) (o0 := 150) (o1 := 30) C q_X3_57 dX3_copyFrom_133 (by decide) (Nat.le_of_ble_eq_true rfl) (hb 10 rfl) (hI 30 rfl) ⟨rfl, rfl⟩ ⟨rfl, rfl⟩ (by decide) (by decide) (by decide) ?_ mm_copy.1 mm_copy.2.1 mm_copy.2.2
  refine x_aload_n (pc := 136) C dX3_copyFrom_136 rfl ?_
  refine x_getR (pc := 137) (o := 140) (j := 151) C f_X3_36 dX3_copyFrom_137 (hb 0 rfl) ⟨rfl, rfl⟩ ?_
  refine x_iconst (pc := 140) C (0) dX3_copyFrom_140 (by decide) ?_
  refine x_aload_n (pc := 141) C dX3_copyFrom_141 rfl ?_
  refine x_getR (pc := 142) (o := 20) (j := 31) C f_X3_36 dX3_copyFrom_142 (hI 20 rfl) ⟨rfl, rfl⟩ ?_
  refine x_iconst (pc := 145) C (0) dX3_copyFrom_145 (by decide) ?_
  refine x_bipush (pc := 146) C (24) dX3_copyFrom_146 (by decide) ?_
  refine x_topi (nI 24) (by decide) ?_
  refine x_copy (pc := 148) (o0 := 151) (o1 := 31) C q_X3_57 dX3_copyFrom_148 (by decide) (Nat.le_of_ble_eq_true rfl) (hb 11 rfl) (hI 31 rfl) ⟨rfl, rfl⟩ ⟨rfl, rfl⟩ (by decide) (by decide) (by decide) ?_ mm_copy.1 mm_copy.2.1 mm_copy.2.2
  refine x_aload_n (pc := 151) C dX3_copyFrom_151 rfl ?_
  refine x_getR (pc := 152) (o := 140) (j := 152) C f_X3_39 dX3_copyFrom_152 (hb 0 rfl) ⟨rfl, rfl⟩ ?_
  refine x_iconst (pc := 155) C (0) dX3_copyFrom_155 (by decide) ?_
  refine x_aload_n (pc := 156) C dX3_copyFrom_156 rfl ?_
  refine x_getR (pc := 157) (o := 20) (j := 32) C f_X3_39 dX3_copyFrom_157 (hI 20 rfl) ⟨rfl, rfl⟩ ?_
  refine x_iconst (pc := 160) C (0) dX3_copyFrom_160 (by decide) ?_
  refine x_bipush (pc := 161) C (24) dX3_copyFrom_161 (by decide) ?_
  refine x_topi (nI 24) (by decide) ?_
  refine x_copy (pc := 163) (o0 := 152) (o1 := 32) C q_X3_57 dX3_copyFrom_163 (by decide) (Nat.le_of_ble_eq_true rfl) (hb 12 rfl) (hI 32 rfl) ⟨rfl, rfl⟩ ⟨rfl, rfl⟩ (by decide) (by decide) (by decide) ?_ mm_copy.1 mm_copy.2.1 mm_copy.2.2
  refine x_aload_n (pc := 166) C dX3_copyFrom_166 rfl ?_
  refine x_getR (pc := 167) (o := 140) (j := 153) C f_X3_42 dX3_copyFrom_167 (hb 0 rfl) ⟨rfl, rfl⟩ ?_
  refine x_iconst (pc := 170) C (0) dX3_copyFrom_170 (by decide) ?_
  refine x_aload_n (pc := 171) C dX3_copyFrom_171 rfl ?_
  refine x_getR (pc := 172) (o := 20) (j := 33) C f_X3_42 dX3_copyFrom_172 (hI 20 rfl) ⟨rfl, rfl⟩ ?_
  refine x_iconst (pc := 175) C (0) dX3_copyFrom_175 (by decide) ?_
  refine x_bipush (pc := 176) C (24) dX3_copyFrom_176 (by decide) ?_
  refine x_topi (nI 24) (by decide) ?_
  refine x_copy (pc := 178) (o0 := 153) (o1 := 33) C q_X3_57 dX3_copyFrom_178 (by decide) (Nat.le_of_ble_eq_true rfl) (hb 13 rfl) (hI 33 rfl) ⟨rfl, rfl⟩ ⟨rfl, rfl⟩ (by decide) (by decide) (by decide) ?_ mm_copy.1 mm_copy.2.1 mm_copy.2.2
  refine x_aload_n (pc := 181) C dX3_copyFrom_181 rfl ?_
  refine x_getR (pc := 182) (o := 140) (j := 154) C f_X3_45 dX3_copyFrom_182 (hb 0 rfl) ⟨rfl, rfl⟩ ?_
  refine x_iconst (pc := 185) C (0) dX3_copyFrom_185 (by decide) ?_
  refine x_aload_n (pc := 186) C dX3_copyFrom_186 rfl ?_
  refine x_getR (pc := 187) (o := 20) (j := 34) C f_X3_45 dX3_copyFrom_187 (hI 20 rfl) ⟨rfl, rfl⟩ ?_
  refine x_iconst (pc := 190) C (0) dX3_copyFrom_190 (by decide) ?_
  refine x_bipush (pc := 191) C (24) dX3_copyFrom_191 (by decide) ?_
  refine x_topi (nI 24) (by decide) ?_
  refine x_copy (pc := 193) (o0 := 154) (o1 := 34) C q_X3_57 dX3_copyFrom_193 (by decide) (Nat.le_of_ble_eq_true rfl) (hb 14 rfl) (hI 34 rfl) ⟨rfl, rfl⟩ ⟨rfl, rfl⟩ (by decide) (by decide) (by decide) ?_ mm_copy.1 mm_copy.2.1 mm_copy.2.2
  refine x_aload_n (pc := 196) C dX3_copyFrom_196 rfl ?_
  refine x_getR (pc := 197) (o := 140) (j := 155) C f_X3_48 dX3_copyFrom_197 (hb 0 rfl) ⟨rfl, rfl⟩ ?_
  refine x_iconst (pc := 200) C (0) dX3_copyFrom_200 (by decide) ?_
  refine x_aload_n (pc := 201) C dX3_copyFrom_201 rfl ?_
  refine x_getR (pc := 202) (o := 20) (j := 35) C f_X3_48 dX3_copyFrom_202 (hI 20 rfl) ⟨rfl, rfl⟩ ?_
  refine x_iconst (pc := 205) C (0) dX3_copyFrom_205 (by decide) ?_
  refine x_bipush (pc := 206) C (24) dX3_copyFrom_206 (by decide) ?_
  refine x_topi (nI 24) (by decide) ?_
  refine x_copy (pc := 208) (o0 := 155) (o1 := 35) C q_X3_57 dX3_copyFrom_208 (by decide) (Nat.le_of_ble_eq_true rfl) (hb 15 rfl) (hI 35 rfl) ⟨rfl, rfl⟩ ⟨rfl, rfl⟩ (by decide) (by decide) (by decide) ?_ mm_copy.1 mm_copy.2.1 mm_copy.2.2
  refine x_aload_n (pc := 211) C dX3_copyFrom_211 rfl ?_
  refine x_getR (pc := 212) (o := 140) (j := 156) C f_X3_51 dX3_copyFrom_212 (hb 0 rfl) ⟨rfl, rfl⟩ ?_
  refine x_iconst (pc := 215) C (0) dX3_copyFrom_215 (by decide) ?_
  refine x_aload_n (pc := 216) C dX3_copyFrom_216 rfl ?_
  refine x_getR (pc := 217) (o := 20) (j := 36) C f_X3_51 dX3_copyFrom_217 (hI 20 rfl) ⟨rfl, rfl⟩ ?_
  refine x_iconst (pc := 220) C (0) dX3_copyFrom_220 (by decide) ?_
  refine x_bipush (pc := 221) C (24) dX3_copyFrom_221 (by decide) ?_
  refine x_topi (nI 24) (by decide) ?_
  refine x_copy (pc := 223) (o0 := 156) (o1 := 36) C q_X3_57 dX3_copyFrom_223 (by decide) (Nat.le_of_ble_eq_true rfl) (hb 16 rfl) (hI 36 rfl) ⟨rfl, rfl⟩ ⟨rfl, rfl⟩ (by decide) (by decide) (by decide) ?_ mm_copy.1 mm_copy.2.1 mm_copy.2.2
  exact x_vret (pc := 226) C hQ dX3_copyFrom_226 (is_v rfl) (Nat.le_of_ble_eq_true rfl) (Nat.le_of_ble_eq_true rfl)
set_option maxRecDepth 100000 in
set_option maxHeartbeats 4000000 in
theorem s5_X3_copyFrom {l : Launch} {V : VV} {L : LL} {N : NN} {I : List Nat} (hI : PI I) (hb : PB I 140) : Runs l 2 0 0 yX3_copyFrom (Cond.code yX3_copyFrom cX3_copyFrom 2 none) [aR 140, aR 20] V L N I (Is none (cfV V 20 140) (L) N I) := by
  refine run_of RX3 (by decide +kernel) rfl (Nat.le_of_ble_eq_true rfl) (fun E hE C hQ hN => ?_)
  subst hE
  refine x_aload_n (pc := 0) C dX3_copyFrom_0 rfl ?_
  refine x_getR (pc := 1) (o := 20) (j := 21) C f_X3_9 dX3_copyFrom_1 (hI 20 rfl) ⟨rfl, rfl⟩ ?_
  refine x_iconst (pc := 4) C (0) dX3_copyFrom_4 (by decide) ?_
  refine x_aload_n (pc := 5) C dX3_copyFrom_5 rfl ?_
  refine x_getR (pc := 6) (o := 140) (j := 141) C f_X3_9 dX3_copyFrom_6 (hb 0 rfl) ⟨rfl, rfl⟩ ?_
  refine x_iconst (pc := 9) C (0) dX3_copyFrom_9 (by decide) ?_
  refine x_bipush (pc := 10) C (8) dX3_copyFrom_10 (by decide) ?_
  refine x_topi (nI 8) (by decide) ?_
  refine x_copy (pc := 12) (o0 := 21) (o1 := 141) C q_X3_57 dX3_copyFrom_12 (by decide) (Nat.le_of_ble_eq_true rfl) (hI 21 rfl) (hb 1 rfl) ⟨rfl, rfl⟩ ⟨rfl, rfl⟩ (by decide) (by decide) (by decide) ?_ mm_copy.1 mm_copy.2.1 mm_copy.2.2
  refine x_aload_n (pc := 15) C dX3_copyFrom_15 rfl ?_
  refine x_getR (pc := 16) (o := 20) (j := 22) C f_X3_15 dX3_copyFrom_16 (hI 20 rfl) ⟨rfl, rfl⟩ ?_
  refine x_iconst (pc := 19) C (0) dX3_copyFrom_19 (by decide) ?_
  refine x_aload_n (pc := 20) C dX3_copyFrom_20 rfl ?_
  refine x_getR (pc := 21) (o := 140) (j := 142) C f_X3_15 dX3_copyFrom_21 (hb 0 rfl) ⟨rfl, rfl⟩ ?_
  refine x_iconst (pc := 24) C (0) dX3_copyFrom_24 (by decide) ?_
  refine x_bipush (pc := 25) C (6) dX3_copyFrom_25 (by decide) ?_
  refine x_topi (nI 6) (by decide) ?_
  refine x_copy (pc := 27) (o0 := 22) (o1 := 142) C q_X3_57 dX3_copyFrom_27 (by decide) (Nat.le_of_ble_eq_true rfl) (hI 22 rfl) (hb 2 rfl) ⟨rfl, rfl⟩ ⟨rfl, rfl⟩ (by decide) (by decide) (by decide) ?_ mm_copy.1 mm_copy.2.1 mm_copy.2.2
  refine x_aload_n (pc := 30) C dX3_copyFrom_30 rfl ?_
  refine x_getR (pc := 31) (o := 20) (j := 23) C f_X3_18 dX3_copyFrom_31 (hI 20 rfl) ⟨rfl, rfl⟩ ?_
  refine x_iconst (pc := 34) C (0) dX3_copyFrom_34 (by decide) ?_
  refine x_aload_n (pc := 35) C dX3_copyFrom_35 rfl ?_
  refine x_getR (pc := 36) (o := 140) (j := 143) C f_X3_18 dX3_copyFrom_36 (hb 0 rfl) ⟨rfl, rfl⟩ ?_
  refine x_iconst (pc := 39) C (0) dX3_copyFrom_39 (by decide) ?_
  refine x_bipush (pc := 40) C (6) dX3_copyFrom_40 (by decide) ?_
  refine x_topi (nI 6) (by decide) ?_
  refine x_copy (pc := 42) (o0 := 23) (o1 := 143) C q_X3_57 dX3_copyFrom_42 (by decide) (Nat.le_of_ble_eq_true rfl) (hI 23 rfl) (hb 3 rfl) ⟨rfl, rfl⟩ ⟨rfl, rfl⟩ (by decide) (by decide) (by decide) ?_ mm_copy.1 mm_copy.2.1 mm_copy.2.2
  refine x_aload_n (pc := 45) C dX3_copyFrom_45 rfl ?_
  refine x_getR (pc := 46) (o := 20) (j := 24) C f_X3_21 dX3_copyFrom_46 (hI 20 rfl) ⟨rfl, rfl⟩ ?_
  refine x_iconst (pc := 49) C (0) dX3_copyFrom_49 (by decide) ?_
  refine x_aload_n (pc := 50) C dX3_copyFrom_50 rfl ?_
  refine x_getR (pc := 51) (o := 140) (j := 144) C f_X3_21 dX3_copyFrom_51 (hb 0 rfl) ⟨rfl, rfl⟩ ?_
  refine x_iconst (pc := 54) C (0) dX3_copyFrom_54 (by decide) ?_
  refine x_bipush (pc := 55) C (6) dX3_copyFrom_55 (by decide) ?_
  refine x_topi (nI 6) (by decide) ?_
  refine x_copy (pc := 57) (o0 := 24) (o1 := 144) C q_X3_57 dX3_copyFrom_57 (by decide) (Nat.le_of_ble_eq_true rfl) (hI 24 rfl) (hb 4 rfl) ⟨rfl, rfl⟩ ⟨rfl, rfl⟩ (by decide) (by decide) (by decide) ?_ mm_copy.1 mm_copy.2.1 mm_copy.2.2
  refine x_aload_n (pc := 60) C dX3_copyFrom_60 rfl ?_
  refine x_getR (pc := 61) (o := 20) (j := 25) C f_X3_24 dX3_copyFrom_61 (hI 20 rfl) ⟨rfl, rfl⟩ ?_
  refine x_iconst (pc := 64) C (0) dX3_copyFrom_64 (by decide) ?_
  refine x_aload_n (pc := 65) C dX3_copyFrom_65 rfl ?_
  refine x_getR (pc := 66) (o := 140) (j := 145) C f_X3_24 dX3_copyFrom_66 (hb 0 rfl) ⟨rfl, rfl⟩ ?_
  refine x_iconst (pc := 69) C (0) dX3_copyFrom_69 (by decide) ?_
  refine x_bipush (pc := 70) C (6) dX3_copyFrom_70 (by decide) ?_
  refine x_topi (nI 6) (by decide) ?_
  refine x_copy (pc := 72) (o0 := 25) (o1 := 145) C q_X3_57 dX3_copyFrom_72 (by decide) (Nat.le_of_ble_eq_true rfl) (hI 25 rfl) (hb 5 rfl) ⟨rfl, rfl⟩ ⟨rfl, rfl⟩ (by decide) (by decide) (by decide) ?_ mm_copy.1 mm_copy.2.1 mm_copy.2.2
  refine x_aload_n (pc := 75) C dX3_copyFrom_75 rfl ?_
  refine x_getR (pc := 76) (o := 20) (j := 26) C f_X3_27 dX3_copyFrom_76 (hI 20 rfl) ⟨rfl, rfl⟩ ?_
  refine x_iconst (pc := 79) C (0) dX3_copyFrom_79 (by decide) ?_
  refine x_aload_n (pc := 80) C dX3_copyFrom_80 rfl ?_
  refine x_getR (pc := 81) (o := 140) (j := 146) C f_X3_27 dX3_copyFrom_81 (hb 0 rfl) ⟨rfl, rfl⟩ ?_
  refine x_iconst (pc := 84) C (0) dX3_copyFrom_84 (by decide) ?_
  refine x_bipush (pc := 85) C (6) dX3_copyFrom_85 (by decide) ?_
  refine x_topi (nI 6) (by decide) ?_
  refine x_copy (pc := 87) (o0 := 26) (o1 := 146) C q_X3_57 dX3_copyFrom_87 (by decide) (Nat.le_of_ble_eq_true rfl) (hI 26 rfl) (hb 6 rfl) ⟨rfl, rfl⟩ ⟨rfl, rfl⟩ (by decide) (by decide) (by decide) ?_ mm_copy.1 mm_copy.2.1 mm_copy.2.2
  refine x_aload_n (pc := 90) C dX3_copyFrom_90 rfl ?_
  refine x_aload_n (pc := 91) C dX3_copyFrom_91 rfl ?_
  refine x_getI (pc := 92) (o := 20) C f_X3_63 dX3_copyFrom_92 (hI 20 rfl) ⟨rfl, rfl, rfl⟩ ?_
  refine x_putI (pc := 95) (o := 140) C p_X3_63 dX3_copyFrom_95 (hb 0 rfl) ⟨rfl, rfl, rfl⟩ ?_
  refine x_aload_n (pc := 98) C dX3_copyFrom_98 rfl ?_
  refine x_aload_n (pc := 99) C dX3_copyFrom_99 rfl ?_
  refine x_getI (pc := 100) (o := 20) C f_X3_67 dX3_copyFrom_100 (hI 20 rfl) ⟨rfl, rfl, rfl⟩ ?_
  refine x_putI (pc := 103) (o := 140) C p_X3_67 dX3_copyFrom_103 (hb 0 rfl) ⟨rfl, rfl, rfl⟩ ?_
  refine x_aload_n (pc := 106) C dX3_copyFrom_106 rfl ?_
  refine x_getR (pc := 107) (o := 20) (j := 29) C f_X3_30 dX3_copyFrom_107 (hI 20 rfl) ⟨rfl, rfl⟩ ?_
  refine x_iconst (pc := 110) C (0) dX3_copyFrom_110 (by decide) ?_
  refine x_aload_n (pc := 111) C dX3_copyFrom_111 rfl ?_
  refine x_getR (pc := 112) (o := 140) (j := 149) C f_X3_30 dX3_copyFrom_112 (hb 0 rfl) ⟨rfl, rfl⟩ ?_
  refine x_iconst (pc := 115) C (0) dX3_copyFrom_115 (by decide) ?_
  refine x_bipush (pc := 116) C (24) dX3_copyFrom_116 (by decide) ?_
  refine x_topi (nI 24) (by decide) ?_
  refine x_copy (pc := 118) (o0 := 29) (o1 := 149) C q_X3_57 dX3_copyFrom_118 (by decide) (Nat.le_of_ble_eq_true rfl) (hI 29 rfl) (hb 9 rfl) ⟨rfl, rfl⟩ ⟨rfl, rfl⟩ (by decide) (by decide) (by decide) ?_ mm_copy.1 mm_copy.2.1 mm_copy.2.2
  refine x_aload_n (pc := 121) C dX3_copyFrom_121 rfl ?_
  refine x_getR (pc := 122) (o := 20) (j := 30) C f_X3_33 dX3_copyFrom_122 (hI 20 rfl) ⟨rfl, rfl⟩ ?_
  refine x_iconst (pc := 125) C (0) dX3_copyFrom_125 (by decide) ?_
  refine x_aload_n (pc := 126) C dX3_copyFrom_126 rfl ?_
  refine x_getR (pc := 127) (o := 140) (j := 150) C f_X3_33 dX3_copyFrom_127 (hb 0 rfl) ⟨rfl, rfl⟩ ?_
  refine x_iconst (pc := 130) C (0) dX3_copyFrom_130 (by decide) ?_
  refine x_bipush (pc := 131) C (24) dX3_copyFrom_131 (by decide) ?_
  refine x_topi (nI 24) (by decide) ?_
  refine x_copy (pc := 133) (o0 := 30) (o1 := 150) C q_X3_57 dX3_copyFrom_133 (by decide) (Nat.le_of_ble_eq_true rfl) (hI 30 rfl) (hb 10 rfl) ⟨rfl, rfl⟩ ⟨rfl, rfl⟩ (by decide) (by decide) (by decide) ?_ mm_copy.1 mm_copy.2.1 mm_copy.2.2
  refine x_aload_n (pc := 136) C dX3_copyFrom_136 rfl ?_
  refine x_getR (pc := 137) (o := 20) (j := 31) C f_X3_36 dX3_copyFrom_137 (hI 20 rfl) ⟨rfl, rfl⟩ ?_
  refine x_iconst (pc := 140) C (0) dX3_copyFrom_140 (by decide) ?_
  refine x_aload_n (pc := 141) C dX3_copyFrom_141 rfl ?_
  refine x_getR (pc := 142) (o := 140) (j := 151) C f_X3_36 dX3_copyFrom_142 (hb 0 rfl) ⟨rfl, rfl⟩ ?_
  refine x_iconst (pc := 145) C (0) dX3_copyFrom_145 (by decide) ?_
  refine x_bipush (pc := 146) C (24) dX3_copyFrom_146 (by decide) ?_
  refine x_topi (nI 24) (by decide) ?_
  refine x_copy (pc := 148) (o0 := 31) (o1 := 151) C q_X3_57 dX3_copyFrom_148 (by decide) (Nat.le_of_ble_eq_true rfl) (hI 31 rfl) (hb 11 rfl) ⟨rfl, rfl⟩ ⟨rfl, rfl⟩ (by decide) (by decide) (by decide) ?_ mm_copy.1 mm_copy.2.1 mm_copy.2.2
  refine x_aload_n (pc := 151) C dX3_copyFrom_151 rfl ?_
  refine x_getR (pc := 152) (o := 20) (j := 32) C f_X3_39 dX3_copyFrom_152 (hI 20 rfl) ⟨rfl, rfl⟩ ?_
  refine x_iconst (pc := 155) C (0) dX3_copyFrom_155 (by decide) ?_
  refine x_aload_n (pc := 156) C dX3_copyFrom_156 rfl ?_
  refine x_getR (pc := 157) (o := 140) (j := 152) C f_X3_39 dX3_copyFrom_157 (hb 0 rfl) ⟨rfl, rfl⟩ ?_
  refine x_iconst (pc := 160) C (0) dX3_copyFrom_160 (by decide) ?_
  refine x_bipush (pc := 161) C (24) dX3_copyFrom_161 (by decide) ?_
  refine x_topi (nI 24) (by decide) ?_
  refine x_copy (pc := 163) (o0 := 32) (o1 := 152) C q_X3_57 dX3_copyFrom_163 (by decide) (Nat.le_of_ble_eq_true rfl) (hI 32 rfl) (hb 12 rfl) ⟨rfl, rfl⟩ ⟨rfl, rfl⟩ (by decide) (by decide) (by decide) ?_ mm_copy.1 mm_copy.2.1 mm_copy.2.2
  refine x_aload_n (pc := 166) C dX3_copyFrom_166 rfl ?_
  refine x_getR (pc := 167) (o := 20) (j := 33) C f_X3_42 dX3_copyFrom_167 (hI 20 rfl) ⟨rfl, rfl⟩ ?_
  refine x_iconst (pc := 170) C (0) dX3_copyFrom_170 (by decide) ?_
  refine x_aload_n (pc := 171) C dX3_copyFrom_171 rfl ?_
  refine x_getR (pc := 172) (o := 140) (j := 153) C f_X3_42 dX3_copyFrom_172 (hb 0 rfl) ⟨rfl, rfl⟩ ?_
  refine x_iconst (pc := 175) C (0) dX3_copyFrom_175 (by decide) ?_
  refine x_bipush (pc := 176) C (24) dX3_copyFrom_176 (by decide) ?_
  refine x_topi (nI 24) (by decide) ?_
  refine x_copy (pc := 178) (o0 := 33) (o1 := 153) C q_X3_57 dX3_copyFrom_178 (by decide) (Nat.le_of_ble_eq_true rfl) (hI 33 rfl) (hb 13 rfl) ⟨rfl, rfl⟩ ⟨rfl, rfl⟩ (by decide) (by decide) (by decide) ?_ mm_copy.1 mm_copy.2.1 mm_copy.2.2
  refine x_aload_n (pc := 181) C dX3_copyFrom_181 rfl ?_
  refine x_getR (pc := 182) (o := 20) (j := 34) C f_X3_45 dX3_copyFrom_182 (hI 20 rfl) ⟨rfl, rfl⟩ ?_
  refine x_iconst (pc := 185) C (0) dX3_copyFrom_185 (by decide) ?_
  refine x_aload_n (pc := 186) C dX3_copyFrom_186 rfl ?_
  refine x_getR (pc := 187) (o := 140) (j := 154) C f_X3_45 dX3_copyFrom_187 (hb 0 rfl) ⟨rfl, rfl⟩ ?_
  refine x_iconst (pc := 190) C (0) dX3_copyFrom_190 (by decide) ?_
  refine x_bipush (pc := 191) C (24) dX3_copyFrom_191 (by decide) ?_
  refine x_topi (nI 24) (by decide) ?_
  refine x_copy (pc := 193) (o0 := 34) (o1 := 154) C q_X3_57 dX3_copyFrom_193 (by decide) (Nat.le_of_ble_eq_true rfl) (hI 34 rfl) (hb 14 rfl) ⟨rfl, rfl⟩ ⟨rfl, rfl⟩ (by decide) (by decide) (by decide) ?_ mm_copy.1 mm_copy.2.1 mm_copy.2.2
  refine x_aload_n (pc := 196) C dX3_copyFrom_196 rfl ?_
  refine x_getR (pc := 197) (o := 20) (j := 35) C f_X3_48 dX3_copyFrom_197 (hI 20 rfl) ⟨rfl, rfl⟩ ?_
  refine x_iconst (pc := 200) C (0) dX3_copyFrom_200 (by decide) ?_
  refine x_aload_n (pc := 201) C dX3_copyFrom_201 rfl ?_
  refine x_getR (pc := 202) (o := 140) (j := 155) C f_X3_48 dX3_copyFrom_202 (hb 0 rfl) ⟨rfl, rfl⟩ ?_
  refine x_iconst (pc := 205) C (0) dX3_copyFrom_205 (by decide) ?_
  refine x_bipush (pc := 206) C (24) dX3_copyFrom_206 (by decide) ?_
  refine x_topi (nI 24) (by decide) ?_
  refine x_copy (pc := 208) (o0 := 35) (o1 := 155) C q_X3_57 dX3_copyFrom_208 (by decide) (Nat.le_of_ble_eq_true rfl) (hI 35 rfl) (hb 15 rfl) ⟨rfl, rfl⟩ ⟨rfl, rfl⟩ (by decide) (by decide) (by decide) ?_ mm_copy.1 mm_copy.2.1 mm_copy.2.2
  refine x_aload_n (pc := 211) C dX3_copyFrom_211 rfl ?_
  refine x_getR (pc := 212) (o := 20) (j := 36) C f_X3_51 dX3_copyFrom_212 (hI 20 rfl) ⟨rfl, rfl⟩ ?_
  refine x_iconst (pc := 215) C (0) dX3_copyFrom_215 (by decide) ?_
  refine x_aload_n (pc := 216) C dX3_copyFrom_216 rfl ?_
  refine x_getR (pc := 217) (o := 140) (j := 156) C f_X3_51 dX3_copyFrom_217 (hb 0 rfl) ⟨rfl, rfl⟩ ?_
  refine x_iconst (pc := 220) C (0) dX3_copyFrom_220 (by decide) ?_
  refine x_bipush (pc := 221) C (24) dX3_copyFrom_221 (by decide) ?_
  refine x_topi (nI 24) (by decide) ?_
  refine x_copy (pc := 223) (o0 := 36) (o1 := 156) C q_X3_57 dX3_copyFrom_223 (by decide) (Nat.le_of_ble_eq_true rfl) (hI 36 rfl) (hb 16 rfl) ⟨rfl, rfl⟩ ⟨rfl, rfl⟩ (by decide) (by decide) (by decide) ?_ mm_copy.1 mm_copy.2.1 mm_copy.2.2
  exact x_vret (pc := 226) C hQ dX3_copyFrom_226 (is_v rfl) (Nat.le_of_ble_eq_true rfl) (Nat.le_of_ble_eq_true rfl)
