set_option maxRecDepth 100000 in
set_option maxHeartbeats 4000000 in
theorem c_X7_layShow {l : Launch} {V : VV} {L : LL} {N : NN} {I : List Nat} (hI : PI I) (s : Nat) (hs : s < 24) : Runs l 2 0 0 yX7_layShow (Cond.code yX7_layShow cX7_layShow 6 none) [aR 200, aI (nI s)] V L N I (Is none (lsV V s) (L) N I) := by
  refine run_of RX7 (by decide +kernel) rfl (Nat.le_of_ble_eq_true rfl) (fun E hE C hQ hN => ?_)
  subst hE
  refine x_aload_n (pc := 0) C dX7_layShow_0 rfl ?_
  refine x_iload_n (pc := 1) C dX7_layShow_1 rfl ?_
  refine x_iconst (pc := 2) C (3) dX7_layShow_2 (by decide) ?_
  refine x_cV2 (pc := 3) (o := 200) C v_X7_45 dX7_layShow_3 (c_X7_of hI (s) (3) (by omega)) (hI 200 rfl) rfl (by decide) rfl ⟨Nat.le_refl _, Nat.le_refl _⟩ ?_
  refine x_aload_n (pc := 6) C dX7_layShow_6 rfl ?_
  refine x_getI (pc := 7) (o := 200) C f_X7_84 dX7_layShow_7 (hI 200 rfl) ⟨rfl, rfl, rfl⟩ ?_
  have J26 : Wx E 26 [some (aR 200), some (aI (nI s)), none, none, none, none] [aI (atR (RF V) (V 200 12) s)] V L N I 0 0 := by
    refine y_istore_n (pc := 26) C dX7_layShow_26 (by decide) rfl ?_
    refine x_aload_n (pc := 27) C dX7_layShow_27 rfl ?_
    refine x_getR (pc := 28) (o := 200) (j := 201) C f_X7_7 dX7_layShow_28 (hI 200 rfl) ⟨rfl, rfl⟩ ?_
    refine x_aload_n (pc := 31) C dX7_layShow_31 rfl ?_
    refine x_iload_n (pc := 32) C dX7_layShow_32 rfl ?_
    refine x_iconst (pc := 33) C (0) dX7_layShow_33 (by decide) ?_
    refine x_cV2 (pc := 34) (o := 200) C v_X7_45 dX7_layShow_34 (c_X7_of hI (s) (0) (by omega)) (hI 200 rfl) rfl (by decide) rfl ⟨Nat.le_refl _, Nat.le_refl _⟩ ?_
    have J45 : Wx E 45 [some (aR 200), some (aI (nI s)), some (aI (atR (RF V) (V 200 12) s)), none, none, none] [aI (nI (if V 201 (40 + 8 * s + 0) = 0 then 2 else 3)), aR 201] V L N I 0 0 := by
      refine x_iald (pc := 45) (o := 201) C dX7_layShow_45 (hI 201 rfl) ⟨rfl, rfl⟩ (show _ < 232 by split <;> decide) (by decide) ?_
      refine x_topi (patS (RF V) (V 201) s) (by unfold patS; show V 201 (if RF V 0 s = 0 then 2 else 3) = _; split <;> rfl) ?_
      refine y_istore_n (pc := 46) C dX7_layShow_46 (by decide) rfl ?_
      refine x_aload_n (pc := 47) C dX7_layShow_47 rfl ?_
      refine x_getR (pc := 48) (o := 200) (j := 207) C f_X7_28 dX7_layShow_48 (hI 200 rfl) ⟨rfl, rfl⟩ ?_
      refine x_iload_n (pc := 51) C dX7_layShow_51 rfl ?_
      refine x_iload_n (pc := 52) C dX7_layShow_52 rfl ?_
      refine x_aload_n (pc := 53) C dX7_layShow_53 rfl ?_
      refine x_iload_n (pc := 54) C dX7_layShow_54 rfl ?_
      refine x_iconst (pc := 55) C (3) dX7_layShow_55 (by decide) ?_
      refine x_cV2 (pc := 56) (o := 200) C v_X7_45 dX7_layShow_56 (c_X7_of hI (s) (3) (by omega)) (hI 200 rfl) rfl (by decide) rfl ⟨Nat.le_refl _, Nat.le_refl _⟩ ?_
      refine x_isub (pc := 59) C dX7_layShow_59 ?_
      refine x_topi ((atR (RF V) (V 200 12) s) - RF V 3 s) rfl ?_
      refine x_iast (pc := 60) (o := 207) C dX7_layShow_60 (hI 207 rfl) ⟨rfl, rfl⟩ (show _ < 24 by omega) (by decide) ?_
      refine x_aload_n (pc := 61) C dX7_layShow_61 rfl ?_
      refine x_getR (pc := 62) (o := 200) (j := 205) C f_X7_22 dX7_layShow_62 (hI 200 rfl) ⟨rfl, rfl⟩ ?_
      refine x_iload_n (pc := 65) C dX7_layShow_65 rfl ?_
      refine x_iconst (pc := 66) C (-1) dX7_layShow_66 (by decide) ?_
      refine x_iast (pc := 67) (o := 205) C dX7_layShow_67 (hI 205 rfl) ⟨rfl, rfl⟩ (show _ < 24 by omega) (by decide) ?_
      refine x_aload_n (pc := 68) C dX7_layShow_68 rfl ?_
      refine x_getR (pc := 69) (o := 200) (j := 206) C f_X7_25 dX7_layShow_69 (hI 200 rfl) ⟨rfl, rfl⟩ ?_
      refine x_iload_n (pc := 72) C dX7_layShow_72 rfl ?_
      refine x_iconst (pc := 73) C (0) dX7_layShow_73 (by decide) ?_
      refine x_iast (pc := 74) (o := 206) C dX7_layShow_74 (hI 206 rfl) ⟨rfl, rfl⟩ (show _ < 24 by omega) (by decide) ?_
      refine x_aload_n (pc := 75) C dX7_layShow_75 rfl ?_
      refine x_getR (pc := 76) (o := 200) (j := 208) C f_X7_31 dX7_layShow_76 (hI 200 rfl) ⟨rfl, rfl⟩ ?_
      refine x_iload_n (pc := 79) C dX7_layShow_79 rfl ?_
      refine x_iconst (pc := 80) C (2) dX7_layShow_80 (by decide) ?_
      refine x_iast (pc := 81) (o := 208) C dX7_layShow_81 (hI 208 rfl) ⟨rfl, rfl⟩ (show _ < 24 by omega) (by decide) ?_
      refine x_aload_n (pc := 82) C dX7_layShow_82 rfl ?_
      refine x_getR (pc := 83) (o := 200) (j := 207) C f_X7_28 dX7_layShow_83 (hI 200 rfl) ⟨rfl, rfl⟩ ?_
      refine x_iload_n (pc := 86) C dX7_layShow_86 rfl ?_
      refine x_iald (pc := 87) (o := 207) C dX7_layShow_87 (hI 207 rfl) ⟨rfl, rfl⟩ (show _ < 24 by omega) (by decide) ?_
      refine x_topi ((atR (RF V) (V 200 12) s) - RF V 3 s) (by simp [up]) ?_
      refine x_iload_n (pc := 88) C dX7_layShow_88 rfl ?_
      refine x_icmp_gt (pc := 89) (tgt := 102) C dX7_layShow_89 (by decide) (fun h89 => ?_) (fun h89 => ?_)
      · exact x_vret (pc := 102) C hQ dX7_layShow_102 (is_v (by unfold lsV; rw [if_pos (dR_1 h89)])) (Nat.le_of_ble_eq_true rfl) (Nat.le_of_ble_eq_true rfl)
      · refine x_iload_n (pc := 92) C dX7_layShow_92 rfl ?_
        refine x_aload_n (pc := 93) C dX7_layShow_93 rfl ?_
        refine x_getR (pc := 94) (o := 200) (j := 201) C f_X7_7 dX7_layShow_94 (hI 200 rfl) ⟨rfl, rfl⟩ ?_
        refine x_iconst (pc := 97) C (1) dX7_layShow_97 (by decide) ?_
        refine x_topi (nI 1) (by decide) ?_
        refine x_iald (pc := 98) (o := 201) C dX7_layShow_98 (hI 201 rfl) ⟨rfl, rfl⟩ (show _ < 232 by decide) (by decide) ?_
        refine x_topi (V 201 1) (by simp [up]) ?_
        refine x_icmp_lt (pc := 99) (tgt := 103) C dX7_layShow_99 (by decide) (fun h99 => ?_) (fun h99 => ?_)
        · refine x_aload_n (pc := 103) C dX7_layShow_103 rfl ?_
          refine x_iload_n (pc := 104) C dX7_layShow_104 rfl ?_
          refine x_iconst (pc := 105) C (4) dX7_layShow_105 (by decide) ?_
          refine x_cV2 (pc := 106) (o := 200) C v_X7_45 dX7_layShow_106 (c_X7_of hI (s) (4) (by omega)) (hI 200 rfl) rfl (by decide) rfl ⟨Nat.le_refl _, Nat.le_refl _⟩ ?_
          refine x_aload_n (pc := 109) C dX7_layShow_109 rfl ?_
          refine x_iload_n (pc := 110) C dX7_layShow_110 rfl ?_
          refine x_bipush (pc := 111) C (6) dX7_layShow_111 (by decide) ?_
          refine x_cV2 (pc := 113) (o := 200) C v_X7_45 dX7_layShow_113 (c_X7_of hI (s) (6) (by omega)) (hI 200 rfl) rfl (by decide) rfl ⟨Nat.le_refl _, Nat.le_refl _⟩ ?_
          refine x_iadd (pc := 116) C dX7_layShow_116 ?_
          refine x_topi (RF V 4 s + RF V 6 s) rfl ?_
          refine y_istore (pc := 117) C dX7_layShow_117 (by decide) rfl ?_
          refine x_iload (pc := 119) C dX7_layShow_119 rfl ?_
          refine x_iconst (pc := 121) C (1) dX7_layShow_121 (by decide) ?_
          have J131 : Wx E 131 [some (aR 200), some (aI (nI s)), some (aI (atR (RF V) (V 200 12) s)), some (aI (patS (RF V) (V 201) s)), none, none] [aI (wantR (RF V) s)] (up (up (up (up V 207 s ((atR (RF V) (V 200 12) s) - RF V 3 s)) 205 s (-1)) 206 s 0) 208 s 2) L N I 0 0 := by
            refine y_istore (pc := 131) C dX7_layShow_131 (by decide) rfl ?_
            refine x_iload_n (pc := 133) C dX7_layShow_133 rfl ?_
            refine x_iload (pc := 134) C dX7_layShow_134 rfl ?_
            refine x_iadd (pc := 136) C dX7_layShow_136 ?_
            refine x_aload_n (pc := 137) C dX7_layShow_137 rfl ?_
            refine x_getR (pc := 138) (o := 200) (j := 201) C f_X7_7 dX7_layShow_138 (hI 200 rfl) ⟨rfl, rfl⟩ ?_
            refine x_iconst (pc := 141) C (1) dX7_layShow_141 (by decide) ?_
            refine x_topi (nI 1) (by decide) ?_
            refine x_iald (pc := 142) (o := 201) C dX7_layShow_142 (hI 201 rfl) ⟨rfl, rfl⟩ (show _ < 232 by decide) (by decide) ?_
            refine x_topi (V 201 1) (by simp [up]) ?_
            refine x_icmp_le (pc := 143) (tgt := 150) C dX7_layShow_143 (by decide) (fun h143 => ?_) (fun h143 => ?_)
            · have hc : cutR (RF V) (V 201) (V 200 12) s = false := decide_eq_false (Int32.not_lt.mpr h143)
              refine x_iconst (pc := 150) C (0) dX7_layShow_150 (by decide) ?_
              refine y_istore (pc := 151) C dX7_layShow_151 (by decide) rfl ?_
              refine x_aload_n (pc := 153) C dX7_layShow_153 rfl ?_
              refine x_getR (pc := 154) (o := 200) (j := 205) C f_X7_22 dX7_layShow_154 (hI 200 rfl) ⟨rfl, rfl⟩ ?_
              refine x_iload_n (pc := 157) C dX7_layShow_157 rfl ?_
              refine x_iload_n (pc := 158) C dX7_layShow_158 rfl ?_
              refine x_iast (pc := 159) (o := 205) C dX7_layShow_159 (hI 205 rfl) ⟨rfl, rfl⟩ (show _ < 24 by omega) (by decide) ?_
              refine x_aload_n (pc := 160) C dX7_layShow_160 rfl ?_
              refine x_getR (pc := 161) (o := 200) (j := 206) C f_X7_25 dX7_layShow_161 (hI 200 rfl) ⟨rfl, rfl⟩ ?_
              refine x_iload_n (pc := 164) C dX7_layShow_164 rfl ?_
              refine x_iload (pc := 165) C dX7_layShow_165 rfl ?_
              refine x_if_eq (pc := 167) (tgt := 181) C dX7_layShow_167 (by decide) (fun h167 => ?_) (fun h167 => absurd (by rfl) h167)
              refine x_iload (pc := 181) C dX7_layShow_181 rfl ?_
              refine x_topi (forR (RF V) (V 201) (V 200 12) s) (by unfold forR; rw [hc]; simp) ?_
              refine x_iast (pc := 183) (o := 206) C dX7_layShow_183 (hI 206 rfl) ⟨rfl, rfl⟩ (show _ < 24 by omega) (by decide) ?_
              refine x_aload_n (pc := 184) C dX7_layShow_184 rfl ?_
              refine x_getR (pc := 185) (o := 200) (j := 208) C f_X7_31 dX7_layShow_185 (hI 200 rfl) ⟨rfl, rfl⟩ ?_
              refine x_iload_n (pc := 188) C dX7_layShow_188 rfl ?_
              refine x_aload_n (pc := 189) C dX7_layShow_189 rfl ?_
              refine x_getR (pc := 190) (o := 200) (j := 207) C f_X7_28 dX7_layShow_190 (hI 200 rfl) ⟨rfl, rfl⟩ ?_
              refine x_iload_n (pc := 193) C dX7_layShow_193 rfl ?_
              refine x_iald (pc := 194) (o := 207) C dX7_layShow_194 (hI 207 rfl) ⟨rfl, rfl⟩ (show _ < 24 by omega) (by decide) ?_
              refine x_topi ((atR (RF V) (V 200 12) s) - RF V 3 s) (by simp [up]) ?_
              refine x_if_le (pc := 195) (tgt := 202) C dX7_layShow_195 (by decide) (fun h195 => ?_) (fun h195 => ?_)
              · refine x_iconst (pc := 202) C (0) dX7_layShow_202 (by decide) ?_
                refine x_topi (b2i (decide (0 < ((atR (RF V) (V 200 12) s) - RF V 3 s)))) (b2i_cn (Int32.not_lt.mpr h195)).symm ?_
                refine x_iload (pc := 203) C dX7_layShow_203 rfl ?_
                refine x_if_eq (pc := 205) (tgt := 212) C dX7_layShow_205 (by decide) (fun h205 => ?_) (fun h205 => absurd (by rfl) h205)
                refine x_iconst (pc := 212) C (0) dX7_layShow_212 (by decide) ?_
                refine x_iadd (pc := 213) C dX7_layShow_213 ?_
                refine x_topi (sttR (RF V) (V 201) (V 200 12) s) (by unfold sttR; rw [hc]; simp) ?_
                refine x_iast (pc := 214) (o := 208) C dX7_layShow_214 (hI 208 rfl) ⟨rfl, rfl⟩ (show _ < 24 by omega) (by decide) ?_
                refine x_aload_n (pc := 215) C dX7_layShow_215 rfl ?_
                refine x_iload_n (pc := 216) C dX7_layShow_216 rfl ?_
                refine x_aload_n (pc := 217) C dX7_layShow_217 rfl ?_
                refine x_getR (pc := 218) (o := 200) (j := 206) C f_X7_25 dX7_layShow_218 (hI 200 rfl) ⟨rfl, rfl⟩ ?_
                refine x_iload_n (pc := 221) C dX7_layShow_221 rfl ?_
                refine x_iald (pc := 222) (o := 206) C dX7_layShow_222 (hI 206 rfl) ⟨rfl, rfl⟩ (show _ < 24 by omega) (by decide) ?_
                refine x_topi (forR (RF V) (V 201) (V 200 12) s) (by simp [up]) ?_
                refine x_iadd (pc := 223) C dX7_layShow_223 ?_
                refine x_putI (pc := 224) (o := 200) C p_X7_84 dX7_layShow_224 (hI 200 rfl) ⟨rfl, rfl, rfl⟩ ?_
                exact x_vret (pc := 227) C hQ dX7_layShow_227 (is_v (by unfold lsV; rw [if_neg (dR_0 h89 (Int32.not_le.mpr h99))])) (Nat.le_of_ble_eq_true rfl) (Nat.le_of_ble_eq_true rfl)
              · refine x_iconst (pc := 198) C (1) dX7_layShow_198 (by decide) ?_
                refine x_goto (pc := 199) (tgt := 203) C dX7_layShow_199 (by decide) ?_
                refine x_topi (b2i (decide (0 < ((atR (RF V) (V 200 12) s) - RF V 3 s)))) (b2i_c (Int32.not_le.mp h195)).symm ?_
                refine x_iload (pc := 203) C dX7_layShow_203 rfl ?_
                refine x_if_eq (pc := 205) (tgt := 212) C dX7_layShow_205 (by decide) (fun h205 => ?_) (fun h205 => absurd (by rfl) h205)
                refine x_iconst (pc := 212) C (0) dX7_layShow_212 (by decide) ?_
                refine x_iadd (pc := 213) C dX7_layShow_213 ?_
                refine x_topi (sttR (RF V) (V 201) (V 200 12) s) (by unfold sttR; rw [hc]; simp) ?_
                refine x_iast (pc := 214) (o := 208) C dX7_layShow_214 (hI 208 rfl) ⟨rfl, rfl⟩ (show _ < 24 by omega) (by decide) ?_
                refine x_aload_n (pc := 215) C dX7_layShow_215 rfl ?_
                refine x_iload_n (pc := 216) C dX7_layShow_216 rfl ?_
                refine x_aload_n (pc := 217) C dX7_layShow_217 rfl ?_
                refine x_getR (pc := 218) (o := 200) (j := 206) C f_X7_25 dX7_layShow_218 (hI 200 rfl) ⟨rfl, rfl⟩ ?_
                refine x_iload_n (pc := 221) C dX7_layShow_221 rfl ?_
                refine x_iald (pc := 222) (o := 206) C dX7_layShow_222 (hI 206 rfl) ⟨rfl, rfl⟩ (show _ < 24 by omega) (by decide) ?_
                refine x_topi (forR (RF V) (V 201) (V 200 12) s) (by simp [up]) ?_
                refine x_iadd (pc := 223) C dX7_layShow_223 ?_
                refine x_putI (pc := 224) (o := 200) C p_X7_84 dX7_layShow_224 (hI 200 rfl) ⟨rfl, rfl, rfl⟩ ?_
                exact x_vret (pc := 227) C hQ dX7_layShow_227 (is_v (by unfold lsV; rw [if_neg (dR_0 h89 (Int32.not_le.mpr h99))])) (Nat.le_of_ble_eq_true rfl) (Nat.le_of_ble_eq_true rfl)
            · have hc : cutR (RF V) (V 201) (V 200 12) s = true := decide_eq_true (Int32.not_le.mp h143)
              refine x_iconst (pc := 146) C (1) dX7_layShow_146 (by decide) ?_
              refine x_goto (pc := 147) (tgt := 151) C dX7_layShow_147 (by decide) ?_
              refine y_istore (pc := 151) C dX7_layShow_151 (by decide) rfl ?_
              refine x_aload_n (pc := 153) C dX7_layShow_153 rfl ?_
              refine x_getR (pc := 154) (o := 200) (j := 205) C f_X7_22 dX7_layShow_154 (hI 200 rfl) ⟨rfl, rfl⟩ ?_
              refine x_iload_n (pc := 157) C dX7_layShow_157 rfl ?_
              refine x_iload_n (pc := 158) C dX7_layShow_158 rfl ?_
              refine x_iast (pc := 159) (o := 205) C dX7_layShow_159 (hI 205 rfl) ⟨rfl, rfl⟩ (show _ < 24 by omega) (by decide) ?_
              refine x_aload_n (pc := 160) C dX7_layShow_160 rfl ?_
              refine x_getR (pc := 161) (o := 200) (j := 206) C f_X7_25 dX7_layShow_161 (hI 200 rfl) ⟨rfl, rfl⟩ ?_
              refine x_iload_n (pc := 164) C dX7_layShow_164 rfl ?_
              refine x_iload (pc := 165) C dX7_layShow_165 rfl ?_
              refine x_if_eq (pc := 167) (tgt := 181) C dX7_layShow_167 (by decide) (fun h167 => absurd h167 (by decide)) (fun h167 => ?_)
              refine x_aload_n (pc := 170) C dX7_layShow_170 rfl ?_
              refine x_getR (pc := 171) (o := 200) (j := 201) C f_X7_7 dX7_layShow_171 (hI 200 rfl) ⟨rfl, rfl⟩ ?_
              refine x_iconst (pc := 174) C (1) dX7_layShow_174 (by decide) ?_
              refine x_topi (nI 1) (by decide) ?_
              refine x_iald (pc := 175) (o := 201) C dX7_layShow_175 (hI 201 rfl) ⟨rfl, rfl⟩ (show _ < 232 by decide) (by decide) ?_
              refine x_topi (V 201 1) (by simp [up]) ?_
              refine x_iload_n (pc := 176) C dX7_layShow_176 rfl ?_
              refine x_isub (pc := 177) C dX7_layShow_177 ?_
              refine x_goto (pc := 178) (tgt := 183) C dX7_layShow_178 (by decide) ?_
              refine x_topi (forR (RF V) (V 201) (V 200 12) s) (by unfold forR; rw [hc]; simp) ?_
              refine x_iast (pc := 183) (o := 206) C dX7_layShow_183 (hI 206 rfl) ⟨rfl, rfl⟩ (show _ < 24 by omega) (by decide) ?_
              refine x_aload_n (pc := 184) C dX7_layShow_184 rfl ?_
              refine x_getR (pc := 185) (o := 200) (j := 208) C f_X7_31 dX7_layShow_185 (hI 200 rfl) ⟨rfl, rfl⟩ ?_
              refine x_iload_n (pc := 188) C dX7_layShow_188 rfl ?_
              refine x_aload_n (pc := 189) C dX7_layShow_189 rfl ?_
              refine x_getR (pc := 190) (o := 200) (j := 207) C f_X7_28 dX7_layShow_190 (hI 200 rfl) ⟨rfl, rfl⟩ ?_
              refine x_iload_n (pc := 193) C dX7_layShow_193 rfl ?_
              refine x_iald (pc := 194) (o := 207) C dX7_layShow_194 (hI 207 rfl) ⟨rfl, rfl⟩ (show _ < 24 by omega) (by decide) ?_
              refine x_topi ((atR (RF V) (V 200 12) s) - RF V 3 s) (by simp [up]) ?_
              refine x_if_le (pc := 195) (tgt := 202) C dX7_layShow_195 (by decide) (fun h195 => ?_) (fun h195 => ?_)
              · refine x_iconst (pc := 202) C (0) dX7_layShow_202 (by decide) ?_
                refine x_topi (b2i (decide (0 < ((atR (RF V) (V 200 12) s) - RF V 3 s)))) (b2i_cn (Int32.not_lt.mpr h195)).symm ?_
                refine x_iload (pc := 203) C dX7_layShow_203 rfl ?_
                refine x_if_eq (pc := 205) (tgt := 212) C dX7_layShow_205 (by decide) (fun h205 => absurd h205 (by decide)) (fun h205 => ?_)
                refine x_iconst (pc := 208) C (4) dX7_layShow_208 (by decide) ?_
                refine x_goto (pc := 209) (tgt := 213) C dX7_layShow_209 (by decide) ?_
                refine x_iadd (pc := 213) C dX7_layShow_213 ?_
                refine x_topi (sttR (RF V) (V 201) (V 200 12) s) (by unfold sttR; rw [hc]; simp) ?_
                refine x_iast (pc := 214) (o := 208) C dX7_layShow_214 (hI 208 rfl) ⟨rfl, rfl⟩ (show _ < 24 by omega) (by decide) ?_
                refine x_aload_n (pc := 215) C dX7_layShow_215 rfl ?_
                refine x_iload_n (pc := 216) C dX7_layShow_216 rfl ?_
                refine x_aload_n (pc := 217) C dX7_layShow_217 rfl ?_
                refine x_getR (pc := 218) (o := 200) (j := 206) C f_X7_25 dX7_layShow_218 (hI 200 rfl) ⟨rfl, rfl⟩ ?_
                refine x_iload_n (pc := 221) C dX7_layShow_221 rfl ?_
                refine x_iald (pc := 222) (o := 206) C dX7_layShow_222 (hI 206 rfl) ⟨rfl, rfl⟩ (show _ < 24 by omega) (by decide) ?_
                refine x_topi (forR (RF V) (V 201) (V 200 12) s) (by simp [up]) ?_
                refine x_iadd (pc := 223) C dX7_layShow_223 ?_
                refine x_putI (pc := 224) (o := 200) C p_X7_84 dX7_layShow_224 (hI 200 rfl) ⟨rfl, rfl, rfl⟩ ?_
                exact x_vret (pc := 227) C hQ dX7_layShow_227 (is_v (by unfold lsV; rw [if_neg (dR_0 h89 (Int32.not_le.mpr h99))])) (Nat.le_of_ble_eq_true rfl) (Nat.le_of_ble_eq_true rfl)
              · refine x_iconst (pc := 198) C (1) dX7_layShow_198 (by decide) ?_
                refine x_goto (pc := 199) (tgt := 203) C dX7_layShow_199 (by decide) ?_
                refine x_topi (b2i (decide (0 < ((atR (RF V) (V 200 12) s) - RF V 3 s)))) (b2i_c (Int32.not_le.mp h195)).symm ?_
                refine x_iload (pc := 203) C dX7_layShow_203 rfl ?_
                refine x_if_eq (pc := 205) (tgt := 212) C dX7_layShow_205 (by decide) (fun h205 => absurd h205 (by decide)) (fun h205 => ?_)
                refine x_iconst (pc := 208) C (4) dX7_layShow_208 (by decide) ?_
                refine x_goto (pc := 209) (tgt := 213) C dX7_layShow_209 (by decide) ?_
                refine x_iadd (pc := 213) C dX7_layShow_213 ?_
                refine x_topi (sttR (RF V) (V 201) (V 200 12) s) (by unfold sttR; rw [hc]; simp) ?_
                refine x_iast (pc := 214) (o := 208) C dX7_layShow_214 (hI 208 rfl) ⟨rfl, rfl⟩ (show _ < 24 by omega) (by decide) ?_
                refine x_aload_n (pc := 215) C dX7_layShow_215 rfl ?_
                refine x_iload_n (pc := 216) C dX7_layShow_216 rfl ?_
                refine x_aload_n (pc := 217) C dX7_layShow_217 rfl ?_
                refine x_getR (pc := 218) (o := 200) (j := 206) C f_X7_25 dX7_layShow_218 (hI 200 rfl) ⟨rfl, rfl⟩ ?_
                refine x_iload_n (pc := 221) C dX7_layShow_221 rfl ?_
                refine x_iald (pc := 222) (o := 206) C dX7_layShow_222 (hI 206 rfl) ⟨rfl, rfl⟩ (show _ < 24 by omega) (by decide) ?_
                refine x_topi (forR (RF V) (V 201) (V 200 12) s) (by simp [up]) ?_
                refine x_iadd (pc := 223) C dX7_layShow_223 ?_
                refine x_putI (pc := 224) (o := 200) C p_X7_84 dX7_layShow_224 (hI 200 rfl) ⟨rfl, rfl, rfl⟩ ?_
                exact x_vret (pc := 227) C hQ dX7_layShow_227 (is_v (by unfold lsV; rw [if_neg (dR_0 h89 (Int32.not_le.mpr h99))])) (Nat.le_of_ble_eq_true rfl) (Nat.le_of_ble_eq_true rfl)
          refine x_icmp_ge (pc := 122) (tgt := 129) C dX7_layShow_122 (by decide) (fun h122 => ?_) (fun h122 => ?_)
          · refine x_iload (pc := 129) C dX7_layShow_129 rfl ?_
            refine x_topi (wantR (RF V) s) (if_neg (Int32.not_lt.mpr h122)).symm ?_
            refine x_fgt 4 ?_
            exact J131
          · refine x_iconst (pc := 125) C (1) dX7_layShow_125 (by decide) ?_
            refine x_goto (pc := 126) (tgt := 131) C dX7_layShow_126 (by decide) ?_
            refine x_topi (wantR (RF V) s) (if_pos (Int32.not_le.mp h122)).symm ?_
            refine x_fgt 4 ?_
            exact J131
        · exact x_vret (pc := 102) C hQ dX7_layShow_102 (is_v (by unfold lsV; rw [if_pos (dR_2 (Int32.not_lt.mp h99))])) (Nat.le_of_ble_eq_true rfl) (Nat.le_of_ble_eq_true rfl)
    refine x_if_ne (pc := 37) (tgt := 44) C dX7_layShow_37 (by decide) (fun h37 => ?_) (fun h37 => ?_)
    · refine x_iconst (pc := 44) C (3) dX7_layShow_44 (by decide) ?_
      refine x_topi (nI (if V 201 (40 + 8 * s + 0) = 0 then 2 else 3)) (by rw [if_neg h37]; decide) ?_
      exact J45
    · refine x_iconst (pc := 40) C (2) dX7_layShow_40 (by decide) ?_
      refine x_goto (pc := 41) (tgt := 45) C dX7_layShow_41 (by decide) ?_
      refine x_topi (nI (if V 201 (40 + 8 * s + 0) = 0 then 2 else 3)) (by rw [if_pos h37]; decide) ?_
      exact J45
  refine x_icmp_le (pc := 10) (tgt := 22) C dX7_layShow_10 (by decide) (fun h10 => ?_) (fun h10 => ?_)
  · refine x_aload_n (pc := 22) C dX7_layShow_22 rfl ?_
    refine x_getI (pc := 23) (o := 200) C f_X7_84 dX7_layShow_23 (hI 200 rfl) ⟨rfl, rfl, rfl⟩ ?_
    refine x_topi (atR (RF V) (V 200 12) s) (if_pos h10).symm ?_
    exact J26
  · refine x_aload_n (pc := 13) C dX7_layShow_13 rfl ?_
    refine x_iload_n (pc := 14) C dX7_layShow_14 rfl ?_
    refine x_iconst (pc := 15) C (3) dX7_layShow_15 (by decide) ?_
    refine x_cV2 (pc := 16) (o := 200) C v_X7_45 dX7_layShow_16 (c_X7_of hI (s) (3) (by omega)) (hI 200 rfl) rfl (by decide) rfl ⟨Nat.le_refl _, Nat.le_refl _⟩ ?_
    refine x_goto (pc := 19) (tgt := 26) C dX7_layShow_19 (by decide) ?_
    refine x_topi (atR (RF V) (V 200 12) s) (if_neg h10).symm ?_
    exact J26
set_option maxRecDepth 100000 in
set_option maxHeartbeats 4000000 in
theorem c_X7_layDay {l : Launch} {V : VV} {L : LL} {N : NN} {I : List Nat} (hI : PI I) {n : Nat} (hn : V 201 39 = nI n) (hn24 : n ≤ 24) (d : Int32) : Runs l 3 0 0 yX7_layDay (Cond.code yX7_layDay cX7_layDay 3 none) [aR 200, aI d] V L N I (Pm none (fun V1 => LayI V V1 d n) L N I) := by
  refine run_of RX7 (by decide +kernel) rfl (Nat.le_of_ble_eq_true rfl) (fun E hE C hQ hN => ?_)
  subst hE
  refine x_aload_n (pc := 0) C dX7_layDay_0 rfl ?_
  refine x_aload_n (pc := 1) C dX7_layDay_1 rfl ?_
  refine x_getR (pc := 2) (o := 200) (j := 201) C f_X7_7 dX7_layDay_2 (hI 200 rfl) ⟨rfl, rfl⟩ ?_
  refine x_iconst (pc := 5) C (0) dX7_layDay_5 (by decide) ?_
  refine x_topi (nI 0) (by decide) ?_
  refine x_iald (pc := 6) (o := 201) C dX7_layDay_6 (hI 201 rfl) ⟨rfl, rfl⟩ (show _ < 232 by decide) (by decide) ?_
  refine x_putI (pc := 7) (o := 200) C p_X7_84 dX7_layDay_7 (hI 200 rfl) ⟨rfl, rfl, rfl⟩ ?_
  refine x_iconst (pc := 10) C (0) dX7_layDay_10 (by decide) ?_
  refine y_istore_n (pc := 11) C dX7_layDay_11 (by decide) rfl ?_
  suffices key : ∀ (k i : Nat) (V1 : VV), k + i = n → (LayI V V1 d i) → Wx E 12 [some (aR 200), some (aI d), some (aI (nI i))] [] V1 L N I 0 0 by
    exact key (n) 0 _ (by omega) (layI_0)
  intro k
  induction k with
  | zero =>
    intro i V1 hk hinv
    refine x_iload_n (pc := 12) C dX7_layDay_12 rfl ?_
    refine x_aload_n (pc := 13) C dX7_layDay_13 rfl ?_
    refine x_getR (pc := 14) (o := 200) (j := 201) C f_X7_7 dX7_layDay_14 (hI 200 rfl) ⟨rfl, rfl⟩ ?_
    refine x_bipush (pc := 17) C (39) dX7_layDay_17 (by decide) ?_
    refine x_topi (nI 39) (by decide) ?_
    refine x_iald (pc := 19) (o := 201) C dX7_layDay_19 (hI 201 rfl) ⟨rfl, rfl⟩ (show _ < 232 by decide) (by decide) ?_
    refine x_topi (nI n) (by rw [hinv.1.z]; exact hn) ?_
    refine x_icmp_ge (pc := 20) (tgt := 44) C dX7_layDay_20 (by decide) (fun h20 => ?_) (fun h20 => absurd (by exact nI_le (by omega) (by omega)) h20)
    exact x_vret (pc := 44) C hQ dX7_layDay_44 (pm_v (by rw [show n = i by omega]; exact hinv)) (Nat.le_of_ble_eq_true rfl) (Nat.le_of_ble_eq_true rfl)
  | succ k ih =>
    intro i V1 hk hinv
    refine x_iload_n (pc := 12) C dX7_layDay_12 rfl ?_
    refine x_aload_n (pc := 13) C dX7_layDay_13 rfl ?_
    refine x_getR (pc := 14) (o := 200) (j := 201) C f_X7_7 dX7_layDay_14 (hI 200 rfl) ⟨rfl, rfl⟩ ?_
    refine x_bipush (pc := 17) C (39) dX7_layDay_17 (by decide) ?_
    refine x_topi (nI 39) (by decide) ?_
    refine x_iald (pc := 19) (o := 201) C dX7_layDay_19 (hI 201 rfl) ⟨rfl, rfl⟩ (show _ < 232 by decide) (by decide) ?_
    refine x_topi (nI n) (by rw [hinv.1.z]; exact hn) ?_
    refine x_icmp_ge (pc := 20) (tgt := 44) C dX7_layDay_20 (by decide) (fun h20 => absurd h20 (by exact nI_ge (by omega) (by omega))) (fun h20 => ?_)
    refine x_aload_n (pc := 23) C dX7_layDay_23 rfl ?_
    refine x_iload_n (pc := 24) C dX7_layDay_24 rfl ?_
    refine x_iconst (pc := 25) C (2) dX7_layDay_25 (by decide) ?_
    refine x_cV2 (pc := 26) (o := 200) C v_X7_45 dX7_layDay_26 (c_X7_of hI (i) (2) (by omega)) (hI 200 rfl) rfl (by decide) rfl ⟨Nat.le_refl _, Nat.le_refl _⟩ ?_
    refine x_topi (RF V 2 i) (by rw [hinv.1.z]; rfl) ?_
    refine x_iload_n (pc := 29) C dX7_layDay_29 rfl ?_
    refine x_icmp_ne (pc := 30) (tgt := 38) C dX7_layDay_30 (by decide) (fun h30 => ?_) (fun h30 => ?_)
    · refine y_iinc (pc := 38) C (nI (i + 1)) dX7_layDay_38 rfl (by exact nI_1 i) (by decide) rfl ?_
      refine x_goto (pc := 41) (tgt := 12) C dX7_layDay_41 (by decide) ?_
      exact ih (i + 1) _ (by omega) (layI_skip h30 hinv)
    · refine x_aload_n (pc := 33) C dX7_layDay_33 rfl ?_
      refine x_iload_n (pc := 34) C dX7_layDay_34 rfl ?_
      refine x_cV1 (pc := 35) (o := 200) C v_X7_87 dX7_layDay_35 (c_X7_layShow hI i (by omega)) (hI 200 rfl) rfl (by decide) rfl ⟨Nat.le_refl _, Nat.le_refl _⟩ ?_
      refine y_iinc (pc := 38) C (nI (i + 1)) dX7_layDay_38 rfl (by exact nI_1 i) (by decide) rfl ?_
      refine x_goto (pc := 41) (tgt := 12) C dX7_layDay_41 (by decide) ?_
      exact ih (i + 1) _ (by omega) (layI_step h30 hinv)
set_option maxRecDepth 100000 in
set_option maxHeartbeats 4000000 in
theorem c_X7_layAll {l : Launch} {V : VV} {L : LL} {N : NN} {I : List Nat} (hI : PI I) {n : Nat} (hn : V 201 39 = nI n) (hn24 : n ≤ 24) : Runs l 4 0 0 yX7_layAll (Cond.code yX7_layAll cX7_layAll 2 none) [aR 200] V L N I (Pm none (fun V1 => LayA V V1 n 7) L N I) := by
  refine run_of RX7 (by decide +kernel) rfl (Nat.le_of_ble_eq_true rfl) (fun E hE C hQ hN => ?_)
  subst hE
  refine x_iconst (pc := 0) C (0) dX7_layAll_0 (by decide) ?_
  refine y_istore_n (pc := 1) C dX7_layAll_1 (by decide) rfl ?_
  suffices key : ∀ (k i : Nat) (V1 : VV), k + i = 7 → (LayA V V1 n i) → Wx E 2 [some (aR 200), some (aI (nI i))] [] V1 L N I 0 0 by
    exact key (7) 0 V (by omega) (layA_0)
  intro k
  induction k with
  | zero =>
    intro i V1 hk hinv
    refine x_iload_n (pc := 2) C dX7_layAll_2 rfl ?_
    refine x_bipush (pc := 3) C (7) dX7_layAll_3 (by decide) ?_
    refine x_icmp_ge (pc := 5) (tgt := 19) C dX7_layAll_5 (by decide) (fun h5 => ?_) (fun h5 => absurd (by exact nI_le (a := 7) (b := i) (by omega) (by omega)) h5)
    exact x_vret (pc := 19) C hQ dX7_layAll_19 (pm_v (by rw [show 7 = i by omega]; exact hinv)) (Nat.le_of_ble_eq_true rfl) (Nat.le_of_ble_eq_true rfl)
  | succ k ih =>
    intro i V1 hk hinv
    refine x_iload_n (pc := 2) C dX7_layAll_2 rfl ?_
    refine x_bipush (pc := 3) C (7) dX7_layAll_3 (by decide) ?_
    refine x_icmp_ge (pc := 5) (tgt := 19) C dX7_layAll_5 (by decide) (fun h5 => absurd h5 (by exact nI_ge (a := i) (b := 7) (by omega) (by omega))) (fun h5 => ?_)
    refine x_aload_n (pc := 8) C dX7_layAll_8 rfl ?_
    refine x_iload_n (pc := 9) C dX7_layAll_9 rfl ?_
    refine x_pV1 (pc := 10) (o := 200) C v_X7_91 dX7_layAll_10 (c_X7_layDay (V := V1) hI (by rw [hinv.1.z]; exact hn) hn24 _) (hI 200 rfl) rfl (by decide) rfl ⟨Nat.le_refl _, Nat.le_refl _⟩ (fun V2 hV2 => ?_)
    have hV2 := layA_step hinv hV2
    refine y_iinc (pc := 13) C (nI (i + 1)) dX7_layAll_13 rfl (by exact nI_1 i) (by decide) rfl ?_
    refine x_goto (pc := 16) (tgt := 2) C dX7_layAll_16 (by decide) ?_
    exact ih (i + 1) _ (by omega) (hV2)
set_option maxRecDepth 100000 in
set_option maxHeartbeats 4000000 in
theorem c_X7_aired {l : Launch} {V : VV} {L : LL} {N : NN} {I : List Nat} (hI : PI I) {n : Nat} (hn : V 201 39 = nI n) (hn24 : n ≤ 24) (d h : Int32) : Runs l 2 0 0 yX7_aired (Cond.code yX7_aired cX7_aired 6 (some .int)) [aR 200, aI d, aI h] V L N I (Is (some (aI (airedR (RF V) (LF V) n d h))) (V) (L) N I) := by
  refine run_of RX7 (by decide +kernel) rfl (Nat.le_of_ble_eq_true rfl) (fun E hE C hQ hN => ?_)
  subst hE
  refine x_iconst (pc := 0) C (0) dX7_aired_0 (by decide) ?_
  refine y_istore_n (pc := 1) C dX7_aired_1 (by decide) rfl ?_
  refine x_iconst (pc := 2) C (0) dX7_aired_2 (by decide) ?_
  refine y_istore (pc := 3) C dX7_aired_3 (by decide) rfl ?_
  suffices key : ∀ (k i : Nat) (s : Int32), k + i = n → (s = sumTo (fun s => if RF V 2 s = d ∧ ¬ LF V 3 s = 2 then inHourR (LF V 0 s) (if RF V 5 s < LF V 1 s then RF V 5 s else LF V 1 s) h else 0) i) → Wx E 5 [some (aR 200), some (aI d), some (aI h), some (aI s), some (aI (nI i)), none] [] V L N I 0 0 by
    exact key (n) 0 0 (by omega) (rfl)
  intro k
  induction k with
  | zero =>
    intro i s hk hinv
    refine x_iload (pc := 5) C dX7_aired_5 rfl ?_
    refine x_aload_n (pc := 7) C dX7_aired_7 rfl ?_
    refine x_getR (pc := 8) (o := 200) (j := 201) C f_X7_7 dX7_aired_8 (hI 200 rfl) ⟨rfl, rfl⟩ ?_
    refine x_bipush (pc := 11) C (39) dX7_aired_11 (by decide) ?_
    refine x_topi (nI 39) (by decide) ?_
    refine x_iald (pc := 13) (o := 201) C dX7_aired_13 (hI 201 rfl) ⟨rfl, rfl⟩ (show _ < 232 by decide) (by decide) ?_
    refine x_topi (nI n) hn ?_
    refine x_icmp_ge (pc := 14) (tgt := 101) C dX7_aired_14 (by decide) (fun h14 => ?_) (fun h14 => absurd (by exact nI_le (by omega) (by omega)) h14)
    refine x_iload_n (pc := 101) C dX7_aired_101 rfl ?_
    exact x_iret (pc := 102) C hQ dX7_aired_102 (is_i (by rw [hinv, show i = n by omega]; rfl)) (Nat.le_of_ble_eq_true rfl) (Nat.le_of_ble_eq_true rfl)
  | succ k ih =>
    intro i s hk hinv
    refine x_iload (pc := 5) C dX7_aired_5 rfl ?_
    refine x_aload_n (pc := 7) C dX7_aired_7 rfl ?_
    refine x_getR (pc := 8) (o := 200) (j := 201) C f_X7_7 dX7_aired_8 (hI 200 rfl) ⟨rfl, rfl⟩ ?_
    refine x_bipush (pc := 11) C (39) dX7_aired_11 (by decide) ?_
    refine x_topi (nI 39) (by decide) ?_
    refine x_iald (pc := 13) (o := 201) C dX7_aired_13 (hI 201 rfl) ⟨rfl, rfl⟩ (show _ < 232 by decide) (by decide) ?_
    refine x_topi (nI n) hn ?_
    refine x_icmp_ge (pc := 14) (tgt := 101) C dX7_aired_14 (by decide) (fun h14 => absurd h14 (by exact nI_ge (by omega) (by omega))) (fun h14 => ?_)
    refine x_aload_n (pc := 17) C dX7_aired_17 rfl ?_
    refine x_iload (pc := 18) C dX7_aired_18 rfl ?_
    refine x_iconst (pc := 20) C (5) dX7_aired_20 (by decide) ?_
    refine x_cV2 (pc := 21) (o := 200) C v_X7_45 dX7_aired_21 (c_X7_of hI (i) (5) (by omega)) (hI 200 rfl) rfl (by decide) rfl ⟨Nat.le_refl _, Nat.le_refl _⟩ ?_
    refine x_aload_n (pc := 24) C dX7_aired_24 rfl ?_
    refine x_getR (pc := 25) (o := 200) (j := 206) C f_X7_25 dX7_aired_25 (hI 200 rfl) ⟨rfl, rfl⟩ ?_
    refine x_iload (pc := 28) C dX7_aired_28 rfl ?_
    refine x_iald (pc := 30) (o := 206) C dX7_aired_30 (hI 206 rfl) ⟨rfl, rfl⟩ (show _ < 24 by omega) (by decide) ?_
    have J51 : Wx E 51 [some (aR 200), some (aI d), some (aI h), some (aI s), some (aI (nI i)), none] [aI (if RF V 5 i < LF V 1 i then RF V 5 i else LF V 1 i)] V L N I 0 0 := by
      refine y_istore (pc := 51) C dX7_aired_51 (by decide) rfl ?_
      refine x_iload_n (pc := 53) C dX7_aired_53 rfl ?_
      refine x_aload_n (pc := 54) C dX7_aired_54 rfl ?_
      refine x_iload (pc := 55) C dX7_aired_55 rfl ?_
      refine x_iconst (pc := 57) C (2) dX7_aired_57 (by decide) ?_
      refine x_cV2 (pc := 58) (o := 200) C v_X7_45 dX7_aired_58 (c_X7_of hI (i) (2) (by omega)) (hI 200 rfl) rfl (by decide) rfl ⟨Nat.le_refl _, Nat.le_refl _⟩ ?_
      refine x_iload_n (pc := 61) C dX7_aired_61 rfl ?_
      refine x_icmp_ne (pc := 62) (tgt := 92) C dX7_aired_62 (by decide) (fun h62 => ?_) (fun h62 => ?_)
      · refine x_iconst (pc := 92) C (0) dX7_aired_92 (by decide) ?_
        refine x_iadd (pc := 93) C dX7_aired_93 ?_
        refine y_istore_n (pc := 94) C dX7_aired_94 (by decide) rfl ?_
        refine y_iinc (pc := 95) C (nI (i + 1)) dX7_aired_95 rfl (by exact nI_1 i) (by decide) rfl ?_
        refine x_goto (pc := 98) (tgt := 5) C dX7_aired_98 (by decide) ?_
        refine x_fgt 5 ?_
        exact ih (i + 1) _ (by omega) (by rw [sumTo, ← hinv, Int32.add_zero]; exact sum_f (fun q => h62 q.1))
      · refine x_aload_n (pc := 65) C dX7_aired_65 rfl ?_
        refine x_getR (pc := 66) (o := 200) (j := 208) C f_X7_31 dX7_aired_66 (hI 200 rfl) ⟨rfl, rfl⟩ ?_
        refine x_iload (pc := 69) C dX7_aired_69 rfl ?_
        refine x_iald (pc := 71) (o := 208) C dX7_aired_71 (hI 208 rfl) ⟨rfl, rfl⟩ (show _ < 24 by omega) (by decide) ?_
        refine x_iconst (pc := 72) C (2) dX7_aired_72 (by decide) ?_
        refine x_icmp_eq (pc := 73) (tgt := 92) C dX7_aired_73 (by decide) (fun h73 => ?_) (fun h73 => ?_)
        · refine x_iconst (pc := 92) C (0) dX7_aired_92 (by decide) ?_
          refine x_iadd (pc := 93) C dX7_aired_93 ?_
          refine y_istore_n (pc := 94) C dX7_aired_94 (by decide) rfl ?_
          refine y_iinc (pc := 95) C (nI (i + 1)) dX7_aired_95 rfl (by exact nI_1 i) (by decide) rfl ?_
          refine x_goto (pc := 98) (tgt := 5) C dX7_aired_98 (by decide) ?_
          refine x_fgt 5 ?_
          exact ih (i + 1) _ (by omega) (by rw [sumTo, ← hinv, Int32.add_zero]; exact sum_f (fun q => q.2 h73))
        · refine x_aload_n (pc := 76) C dX7_aired_76 rfl ?_
          refine x_getR (pc := 77) (o := 200) (j := 205) C f_X7_22 dX7_aired_77 (hI 200 rfl) ⟨rfl, rfl⟩ ?_
          refine x_iload (pc := 80) C dX7_aired_80 rfl ?_
          refine x_iald (pc := 82) (o := 205) C dX7_aired_82 (hI 205 rfl) ⟨rfl, rfl⟩ (show _ < 24 by omega) (by decide) ?_
          refine x_iload (pc := 83) C dX7_aired_83 rfl ?_
          refine x_iload_n (pc := 85) C dX7_aired_85 rfl ?_
          refine x_cS3 (pc := 86) C s_X7_56 dX7_aired_86 (c_X7_inHour _ _ _) (by decide) rfl ⟨Nat.le_refl _, Nat.le_refl _⟩ ?_
          refine x_goto (pc := 89) (tgt := 93) C dX7_aired_89 (by decide) ?_
          refine x_iadd (pc := 93) C dX7_aired_93 ?_
          refine y_istore_n (pc := 94) C dX7_aired_94 (by decide) rfl ?_
          refine y_iinc (pc := 95) C (nI (i + 1)) dX7_aired_95 rfl (by exact nI_1 i) (by decide) rfl ?_
          refine x_goto (pc := 98) (tgt := 5) C dX7_aired_98 (by decide) ?_
          refine x_fgt 5 ?_
          exact ih (i + 1) _ (by omega) (by rw [sumTo, ← hinv]; exact sum_t ⟨h62, h73⟩)
    refine x_icmp_ge (pc := 31) (tgt := 44) C dX7_aired_31 (by decide) (fun h31 => ?_) (fun h31 => ?_)
    · refine x_aload_n (pc := 44) C dX7_aired_44 rfl ?_
      refine x_getR (pc := 45) (o := 200) (j := 206) C f_X7_25 dX7_aired_45 (hI 200 rfl) ⟨rfl, rfl⟩ ?_
      refine x_iload (pc := 48) C dX7_aired_48 rfl ?_
      refine x_iald (pc := 50) (o := 206) C dX7_aired_50 (hI 206 rfl) ⟨rfl, rfl⟩ (show _ < 24 by omega) (by decide) ?_
      refine x_topi (if RF V 5 i < LF V 1 i then RF V 5 i else LF V 1 i) (if_neg (Int32.not_lt.mpr h31)).symm ?_
      exact J51
    · refine x_aload_n (pc := 34) C dX7_aired_34 rfl ?_
      refine x_iload (pc := 35) C dX7_aired_35 rfl ?_
      refine x_iconst (pc := 37) C (5) dX7_aired_37 (by decide) ?_
      refine x_cV2 (pc := 38) (o := 200) C v_X7_45 dX7_aired_38 (c_X7_of hI (i) (5) (by omega)) (hI 200 rfl) rfl (by decide) rfl ⟨Nat.le_refl _, Nat.le_refl _⟩ ?_
      refine x_goto (pc := 41) (tgt := 51) C dX7_aired_41 (by decide) ?_
      refine x_topi (if RF V 5 i < LF V 1 i then RF V 5 i else LF V 1 i) (if_pos (Int32.not_le.mp h31)).symm ?_
      exact J51
set_option maxRecDepth 100000 in
set_option maxHeartbeats 4000000 in
theorem c_X7_showPart {l : Launch} {V : VV} {L : LL} {N : NN} {I : List Nat} (hI : PI I) (s w : Nat) (hs : s < 24) (hw : w < 8) : Runs l 2 0 0 yX7_showPart (Cond.code yX7_showPart cX7_showPart 4 (some .int)) [aR 200, aI (nI s), aI (nI w)] V L N I (Is (some (aI (partR (RF V) (LF V) w s))) (V) (L) N I) := by
  refine run_of RX7 (by decide +kernel) rfl (Nat.le_of_ble_eq_true rfl) (fun E hE C hQ hN => ?_)
  subst hE
  refine x_aload_n (pc := 0) C dX7_showPart_0 rfl ?_
  refine x_getR (pc := 1) (o := 200) (j := 208) C f_X7_31 dX7_showPart_1 (hI 200 rfl) ⟨rfl, rfl⟩ ?_
  refine x_iload_n (pc := 4) C dX7_showPart_4 rfl ?_
  refine x_iald (pc := 5) (o := 208) C dX7_showPart_5 (hI 208 rfl) ⟨rfl, rfl⟩ (show _ < 24 by omega) (by decide) ?_
  refine x_iconst (pc := 6) C (2) dX7_showPart_6 (by decide) ?_
  have J15 : Wx E 15 [some (aR 200), some (aI (nI s)), some (aI (nI w)), none] [aI (b2i (decide (¬ LF V 3 s = 2)))] V L N I 0 0 := by
    refine y_istore_n (pc := 15) C dX7_showPart_15 (by decide) rfl ?_
    refine x_iload_n (pc := 16) C dX7_showPart_16 rfl ?_
    rcases (show w = 0 ∨ w = 1 ∨ w = 2 ∨ w = 3 ∨ w = 4 ∨ w = 5 ∨ 5 < w by omega) with rfl | rfl | rfl | rfl | rfl | rfl | hsw17
    · refine x_tableInN (pc := 17) (c := 0) (tgt := 56) C dX7_showPart_17 (by decide) (by decide) (by decide) rfl (by decide) ?_
      refine x_iconst (pc := 56) C (1) dX7_showPart_56 (by decide) ?_
      exact x_iret (pc := 57) C hQ dX7_showPart_57 (is_i rfl) (Nat.le_of_ble_eq_true rfl) (Nat.le_of_ble_eq_true rfl)
    · refine x_tableInN (pc := 17) (c := 1) (tgt := 58) C dX7_showPart_17 (by decide) (by decide) (by decide) rfl (by decide) ?_
      refine x_aload_n (pc := 58) C dX7_showPart_58 rfl ?_
      refine x_iload_n (pc := 59) C dX7_showPart_59 rfl ?_
      refine x_iconst (pc := 60) C (4) dX7_showPart_60 (by decide) ?_
      refine x_cV2 (pc := 61) (o := 200) C v_X7_45 dX7_showPart_61 (c_X7_of hI (s) (4) (by omega)) (hI 200 rfl) rfl (by decide) rfl ⟨Nat.le_refl _, Nat.le_refl _⟩ ?_
      exact x_iret (pc := 64) C hQ dX7_showPart_64 (is_i rfl) (Nat.le_of_ble_eq_true rfl) (Nat.le_of_ble_eq_true rfl)
    · refine x_tableInN (pc := 17) (c := 2) (tgt := 65) C dX7_showPart_17 (by decide) (by decide) (by decide) rfl (by decide) ?_
      refine x_aload_n (pc := 65) C dX7_showPart_65 rfl ?_
      refine x_getR (pc := 66) (o := 200) (j := 206) C f_X7_25 dX7_showPart_66 (hI 200 rfl) ⟨rfl, rfl⟩ ?_
      refine x_iload_n (pc := 69) C dX7_showPart_69 rfl ?_
      refine x_iald (pc := 70) (o := 206) C dX7_showPart_70 (hI 206 rfl) ⟨rfl, rfl⟩ (show _ < 24 by omega) (by decide) ?_
      exact x_iret (pc := 71) C hQ dX7_showPart_71 (is_i rfl) (Nat.le_of_ble_eq_true rfl) (Nat.le_of_ble_eq_true rfl)
    · refine x_tableInN (pc := 17) (c := 3) (tgt := 72) C dX7_showPart_17 (by decide) (by decide) (by decide) rfl (by decide) ?_
      refine x_iload_n (pc := 72) C dX7_showPart_72 rfl ?_
      refine x_if_eq (pc := 73) (tgt := 89) C dX7_showPart_73 (by decide) (fun h73 => ?_) (fun h73 => ?_)
      · refine x_iconst (pc := 89) C (0) dX7_showPart_89 (by decide) ?_
        exact x_iret (pc := 90) C hQ dX7_showPart_90 (is_i (pR_3f (fun q => b2i_nd h73 q.1))) (Nat.le_of_ble_eq_true rfl) (Nat.le_of_ble_eq_true rfl)
      · refine x_aload_n (pc := 76) C dX7_showPart_76 rfl ?_
        refine x_getR (pc := 77) (o := 200) (j := 207) C f_X7_28 dX7_showPart_77 (hI 200 rfl) ⟨rfl, rfl⟩ ?_
        refine x_iload_n (pc := 80) C dX7_showPart_80 rfl ?_
        refine x_iald (pc := 81) (o := 207) C dX7_showPart_81 (hI 207 rfl) ⟨rfl, rfl⟩ (show _ < 24 by omega) (by decide) ?_
        refine x_if_le (pc := 82) (tgt := 89) C dX7_showPart_82 (by decide) (fun h82 => ?_) (fun h82 => ?_)
        · refine x_iconst (pc := 89) C (0) dX7_showPart_89 (by decide) ?_
          exact x_iret (pc := 90) C hQ dX7_showPart_90 (is_i (pR_3f (fun q => absurd q.2 (Int32.not_lt.mpr h82)))) (Nat.le_of_ble_eq_true rfl) (Nat.le_of_ble_eq_true rfl)
        · refine x_iconst (pc := 85) C (1) dX7_showPart_85 (by decide) ?_
          refine x_goto (pc := 86) (tgt := 90) C dX7_showPart_86 (by decide) ?_
          exact x_iret (pc := 90) C hQ dX7_showPart_90 (is_i (pR_3t ⟨b2i_d h73, Int32.not_le.mp h82⟩)) (Nat.le_of_ble_eq_true rfl) (Nat.le_of_ble_eq_true rfl)
    · refine x_tableInN (pc := 17) (c := 4) (tgt := 91) C dX7_showPart_17 (by decide) (by decide) (by decide) rfl (by decide) ?_
      refine x_iload_n (pc := 91) C dX7_showPart_91 rfl ?_
      refine x_if_eq (pc := 92) (tgt := 99) C dX7_showPart_92 (by decide) (fun h92 => ?_) (fun h92 => ?_)
      · refine x_iconst (pc := 99) C (1) dX7_showPart_99 (by decide) ?_
        exact x_iret (pc := 100) C hQ dX7_showPart_100 (is_i (pR_4t (Decidable.not_not.mp (b2i_nd h92)))) (Nat.le_of_ble_eq_true rfl) (Nat.le_of_ble_eq_true rfl)
      · refine x_iconst (pc := 95) C (0) dX7_showPart_95 (by decide) ?_
        refine x_goto (pc := 96) (tgt := 100) C dX7_showPart_96 (by decide) ?_
        exact x_iret (pc := 100) C hQ dX7_showPart_100 (is_i (pR_4f (b2i_d h92))) (Nat.le_of_ble_eq_true rfl) (Nat.le_of_ble_eq_true rfl)
    · refine x_tableInN (pc := 17) (c := 5) (tgt := 101) C dX7_showPart_17 (by decide) (by decide) (by decide) rfl (by decide) ?_
      refine x_iload_n (pc := 101) C dX7_showPart_101 rfl ?_
      refine x_if_eq (pc := 102) (tgt := 114) C dX7_showPart_102 (by decide) (fun h102 => ?_) (fun h102 => ?_)
      · refine x_iconst (pc := 114) C (0) dX7_showPart_114 (by decide) ?_
        exact x_iret (pc := 115) C hQ dX7_showPart_115 (is_i (pR_5t (Decidable.not_not.mp (b2i_nd h102)))) (Nat.le_of_ble_eq_true rfl) (Nat.le_of_ble_eq_true rfl)
      · refine x_aload_n (pc := 105) C dX7_showPart_105 rfl ?_
        refine x_getR (pc := 106) (o := 200) (j := 207) C f_X7_28 dX7_showPart_106 (hI 200 rfl) ⟨rfl, rfl⟩ ?_
        refine x_iload_n (pc := 109) C dX7_showPart_109 rfl ?_
        refine x_iald (pc := 110) (o := 207) C dX7_showPart_110 (hI 207 rfl) ⟨rfl, rfl⟩ (show _ < 24 by omega) (by decide) ?_
        refine x_goto (pc := 111) (tgt := 115) C dX7_showPart_111 (by decide) ?_
        exact x_iret (pc := 115) C hQ dX7_showPart_115 (is_i (pR_5f (b2i_d h102))) (Nat.le_of_ble_eq_true rfl) (Nat.le_of_ble_eq_true rfl)
    · refine x_tableOut (pc := 17) (tgt := 116) C dX7_showPart_17 (Or.inr (by rw [nI_toInt (by omega)]; omega)) (by decide) ?_
      refine x_iconst (pc := 116) C (0) dX7_showPart_116 (by decide) ?_
      exact x_iret (pc := 117) C hQ dX7_showPart_117 (is_i (pR_d hsw17)) (Nat.le_of_ble_eq_true rfl) (Nat.le_of_ble_eq_true rfl)
  refine x_icmp_eq (pc := 7) (tgt := 14) C dX7_showPart_7 (by decide) (fun h7 => ?_) (fun h7 => ?_)
  · refine x_iconst (pc := 14) C (0) dX7_showPart_14 (by decide) ?_
    refine x_topi (b2i (decide (¬ LF V 3 s = 2))) (b2i_cn (fun q => q h7)).symm ?_
    exact J15
  · refine x_iconst (pc := 10) C (1) dX7_showPart_10 (by decide) ?_
    refine x_goto (pc := 11) (tgt := 15) C dX7_showPart_11 (by decide) ?_
    refine x_topi (b2i (decide (¬ LF V 3 s = 2))) (b2i_c h7).symm ?_
    exact J15
