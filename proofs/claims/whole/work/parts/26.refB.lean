set_option maxRecDepth 100000 in
set_option maxHeartbeats 4000000 in
theorem c_X7_layShow {l : Launch} {V : VV} {L : LL} {N : NN} {I : List Nat} (hI : PI I) (s : Nat) (hs : s < 24) : Runs l 2 0 0 yX7_layShow (Cond.code yX7_layShow cX7_layShow 6 none) [aR 200, aI (nI s)] V L N I (Is none (lsV V s) (L) N I) := by
  refine run_of RX7 (by decide +kernel) rfl (Nat.le_of_ble_eq_true rfl) (fun E hE C hQ hN => ?_)
  subst hE
  refine x_aload_n (pc := 0) C dX7_layShow_0 rfl ?_
  refine x_iload_n (pc := 1) C dX7_layShow_1 rfl ?_
  refine x_iconst (pc := 2) C (3) dX7_layShow_2 (by decide) ?_
  refine x_cV2 (pc := 3) (o := 200) C v_X7_45 dX7_layShow_3 (c_X7_of hI (s) (3) (by omega)) (hI 200 rfl) rfl (by decide) rfl ⟨Nat.le_refl _, Nat.le_refl _⟩ ?_
  refine x_aload_n (pc := 6) C dX7_layShow_6 rfl ?_
  refine x_getI (pc := 7) (o := 200) C f_X7_84 dX7_layShow_7 (hI 200 rfl) ⟨rfl, rfl, rfl⟩ ?_
  have J26 : Wx E 26 [some (aR 200), some (aI (nI s)), none, none, none, none] [aI (atR (RF V) (V 200 12) s)] V L N I 0 0 := by
    refine y_istore_n (pc := 26) C dX7_layShow_26 (by decide) rfl ?_
    refine x_aload_n (pc := 27) C dX7_layShow_27 rfl ?_
    refine x_getR (pc := 28) (o := 200) (j := 201) C f_X7_7 dX7_layShow_28 (hI 200 rfl) ⟨rfl, rfl⟩ ?_
    refine x_aload_n (pc := 31) C dX7_layShow_31 rfl ?_
    refine x_iload_n (pc := 32) C dX7_layShow_32 rfl ?_
    refine x_iconst (pc := 33) C (0) dX7_layShow_33 (by decide) ?_
    refine x_cV2 (pc := 34) (o := 200) C v_X7_45 dX7_layShow_34 (c_X7_of hI (s) (0) (by omega)) (hI 200 rfl) rfl (by decide) rfl ⟨Nat.le_refl _, Nat.le_refl _⟩ ?_
    have J45 : Wx E 45 [some (aR 200), some (aI (nI s)), some (aI (atR (RF V) (V 200 12) s)), none, none, none] [aI (nI (if V 201 (40 + 8 * s + 0) = 0 then 2 else 3)), aR 201] V L N I 0 0 := by
      refine x_iald (pc := 45) (o := 201) C dX7_layShow_45 (hI 201 rfl) ⟨rfl, rfl⟩ (show _ < 232 by split <;> decide) (by decide) ?_
      refine x_topi (patS (RF V) (V 201) s) (by unfold patS; show V 201 (if RF V 0 s = 0 then 2 else 3) = _; split <;> rfl) ?_
      refine y_istore_n (pc := 46) C dX7_layShow_46 (by decide) rfl ?_
      refine x_aload_n (pc := 47) C dX7_layShow_47 rfl ?_
      refine x_getR (pc := 48) (o := 200) (j := 207) C f_X7_28 dX7_layShow_48 (hI 200 rfl) ⟨rfl, rfl⟩ ?_
      refine x_iload_n (pc := 51) C dX7_layShow_51 rfl ?_
      refine x_iload_n (pc := 52) C dX7_layShow_52 rfl ?_
      refine x_aload_n (pc := 53) C dX7_layShow_53 rfl ?_
      refine x_iload_n (pc := 54) C dX7_layShow_54 rfl ?_
      refine x_iconst (pc := 55) C (3) dX7_layShow_55 (by decide) ?_
      refine x_cV2 (pc := 56) (o := 200) C v_X7_45 dX7_layShow_56 (c_X7_of hI (s) (3) (by omega)) (hI 200 rfl) rfl (by decide) rfl ⟨Nat.le_refl _, Nat.le_refl _⟩ ?_
      refine x_isub (pc := 59) C dX7_layShow_59 ?_
      refine x_topi ((atR (RF V) (V 200 12) s) - RF V 3 s) rfl ?_
      refine x_iast (pc := 60) (o := 207) C dX7_layShow_60 (hI 207 rfl) ⟨rfl, rfl⟩ (show _ < 24 by omega) (by decide) ?_
      refine x_aload_n (pc := 61) C dX7_layShow_61 rfl ?_
      refine x_getR (pc := 62) (o := 200) (j := 205) C f_X7_22 dX7_layShow_62 (hI 200 rfl) ⟨rfl, rfl⟩ ?_
      refine x_iload_n (pc := 65) C dX7_layShow_65 rfl ?_
      refine x_iconst (pc := 66) C (-1) dX7_layShow_66 (by decide) ?_
      refine x_iast (pc := 67) (o := 205) C dX7_layShow_67 (hI 205 rfl) ⟨rfl, rfl⟩ (show _ < 24 by omega) (by decide) ?_
      refine x_aload_n (pc := 68) C dX7_layShow_68 rfl ?_
      refine x_getR (pc := 69) (o := 200) (j := 206) C f_X7_25 dX7_layShow_69 (hI 200 rfl) ⟨rfl, rfl⟩ ?_
      refine x_iload_n (pc := 72) C dX7_layShow_72 rfl ?_
      refine x_iconst (pc := 73) C (0) dX7_layShow_73 (by decide) ?_
      refine x_iast (pc := 74) (o := 206) C dX7_layShow_74 (hI 206 rfl) ⟨rfl, rfl⟩ (show _ < 24 by omega) (by decide) ?_
      refine x_aload_n (pc := 75) C dX7_layShow_75 rfl ?_
      refine x_getR (pc := 76) (o := 200) (j := 208) C f_X7_31 dX7_layShow_76 (hI 200 rfl) ⟨rfl, rfl⟩ ?_
      refine x_iload_n (pc := 79) C dX7_layShow_79 rfl ?_
      refine x_iconst (pc := 80) C (2) dX7_layShow_80 (by decide) ?_
      refine x_iast (pc := 81) (o := 208) C dX7_layShow_81 (hI 208 rfl) ⟨rfl, rfl⟩ (show _ < 24 by omega) (by decide) ?_
      refine x_aload_n (pc := 82) C dX7_layShow_82 rfl ?_
      refine x_getR (pc := 83) (o := 200) (j := 207) C f_X7_28 dX7_layShow_83 (hI 200 rfl) ⟨rfl, rfl⟩ ?_
      refine x_iload_n (pc := 86) C dX7_layShow_86 rfl ?_
      refine x_iald (pc := 87) (o := 207) C dX7_layShow_87 (hI 207 rfl) ⟨rfl, rfl⟩ (show _ < 24 by omega) (by decide) ?_
      refine x_topi ((atR (RF V) (V 200 12) s) - RF V 3 s) (by simp [up]) ?_
      refine x_iload_n (pc := 88) C dX7_layShow_88 rfl ?_
      refine x_icmp_gt (pc := 89) (tgt := 102) C dX7_layShow_89 (by decide) (fun h89 => ?_) (fun h89 => ?_)
      · exact x_vret (pc := 102) C hQ dX7_layShow_102 (is_v (by unfold lsV; rw [if_pos (dR_1 h89)])) (Nat.le_of_ble_eq_true rfl) (Nat.le_of_ble_eq_true rfl)
      · refine x_iload_n (pc := 92) C dX7_layShow_92 rfl ?_
        refine x_aload_n (pc := 93) C dX7_layShow_93 rfl ?_
        refine x_getR (pc := 94) (o := 200) (j := 201) C f_X7_7 dX7_layShow_94 (hI 200 rfl) ⟨rfl, rfl⟩ ?_
        refine x_iconst (pc := 97) C (1) dX7_layShow_97 (by decide) ?_
        refine x_topi (nI 1) (by decide) ?_
        refine x_iald (pc := 98) (o := 201) C dX7_layShow_98 (hI 201 rfl) ⟨rfl, rfl⟩ (show _ < 232 by decide) (by decide) ?_
        refine x_topi (V 201 1) (by simp [up]) ?_
        refine x_icmp_lt (pc := 99) (tgt := 103) C dX7_layShow_99 (by decide) (fun h99 => ?_) (fun h99 => ?_)
        · refine x_aload_n (pc := 103) C dX7_layShow_103 rfl ?_
          refine x_iload_n (pc := 104) C dX7_layShow_104 rfl ?_
          refine x_iconst (pc := 105) C (4) dX7_layShow_105 (by decide) ?_
          refine x_cV2 (pc := 106) (o := 200) C v_X7_45 dX7_layShow_106 (c_X7_of hI (s) (4) (by omega)) (hI 200 rfl) rfl (by decide) rfl ⟨Nat.le_refl _, Nat.le_refl _⟩ ?_
          refine x_aload_n (pc := 109) C dX7_layShow_109 rfl ?_
          refine x_iload_n (pc := 110) C dX7_layShow_110 rfl ?_
          refine x_bipush (pc := 111) C (6) dX7_layShow_111 (by decide) ?_
          refine x_cV2 (pc := 113) (o := 200) C v_X7_45 dX7_layShow_113 (c_X7_of hI (s) (6) (by omega)) (hI 200 rfl) rfl (by decide) rfl ⟨Nat.le_refl _, Nat.le_refl _⟩ ?_
          refine x_iadd (pc := 116) C dX7_layShow_116 ?_
          refine x_topi (RF V 4 s + RF V 6 s) rfl ?_
          refine y_istore (pc := 117) C dX7_layShow_117 (by decide) rfl ?_
          refine x_iload (pc := 119) C dX7_layShow_119 rfl ?_
          refine x_iconst (pc := 121) C (1) dX7_layShow_121 (by decide) ?_
          have J131 : Wx E 131 [some (aR 200), some (aI (nI s)), some (aI (atR (RF V) (V 200 12) s)), some (aI (patS (RF V) (V 201) s)), none, none] [aI (wantR (RF V) s)] (up (up (up (up V 207 s ((atR (RF V) (V 200 12) s) - RF V 3 s)) 205 s (-1)) 206 s 0) 208 s 2) L N I 0 0 := by
            refine y_istore (pc := 131) C dX7_layShow_131 (by decide) rfl ?_
            refine x_iload_n (pc := 133) C dX7_layShow_133 rfl ?_
            refine x_iload (pc := 134) C dX7_layShow_134 rfl ?_
            refine x_iadd (pc := 136) C dX7_layShow_136 ?_
            refine x_aload_n (pc := 137) C dX7_layShow_137 rfl ?_
            refine x_getR (pc := 138) (o := 200) (j := 201) C f_X7_7 dX7_layShow_138 (hI 200 rfl) ⟨rfl, rfl⟩ ?_
            refine x_iconst (pc := 141) C (1) dX7_layShow_141 (by decide) ?_
            refine x_topi (nI 1) (by decide) ?_
            refine x_iald (pc := 142) (o := 201) C dX7_layShow_142 (hI 201 rfl) ⟨rfl, rfl⟩ (show _ < 232 by decide) (by decide) ?_
            refine x_topi (V 201 1) (by simp [up]) ?_
            refine x_icmp_le (pc := 143) (tgt := 150) C dX7_layShow_143 (by decide) (fun h143 => ?_) (fun h143 => ?_)
            · have hc : cutR (RF V) (V 201) (V 200 12) s = false := decide_eq_false (Int32.not_lt.mpr h143)
              refine x_iconst (pc := 150) C (0) dX7_layShow_150 (by decide) ?_
              refine y_istore (pc := 151) C dX7_layShow_151 (by decide) rfl ?_
              refine x_aload_n (pc := 153) C dX7_layShow_153 rfl ?_
              refine x_getR (pc := 154) (o := 200) (j := 205) C f_X7_22 dX7_layShow_154 (hI 200 rfl) ⟨rfl, rfl⟩ ?_
              refine x_iload_n (pc := 157) C dX7_layShow_157 rfl ?_
              refine x_iload_n (pc := 158) C dX7_layShow_158 rfl ?_
              refine x_iast (pc := 159) (o := 205) C dX7_layShow_159 (hI 205 rfl) ⟨rfl, rfl⟩ (show _ < 24 by omega) (by decide) ?_
              refine x_aload_n (pc := 160) C dX7_layShow_160 rfl ?_
              refine x_getR (pc := 161) (o := 200) (j := 206) C f_X7_25 dX7_layShow_161 (hI 200 rfl) ⟨rfl, rfl⟩ ?_
              refine x_iload_n (pc := 164) C dX7_layShow_164 rfl ?_
              refine x_iload (pc := 165) C dX7_layShow_165 rfl ?_
              refine x_if_eq (pc := 167) (tgt := 181) C dX7_layShow_167 (by decide) (fun h167 => ?_) (fun h167 => absurd (by rfl) h167)
              refine x_iload (pc := 181) C dX7_layShow_181 rfl ?_
              refine x_topi (forR (RF V) (V 201) (V 200 12) s) (by unfold forR; rw [hc]; simp) ?_
              refine x_iast (pc := 183) (o := 206) C dX7_layShow_183 (hI 206 rfl) ⟨rfl, rfl⟩ (show _ < 24 by omega) (by decide) ?_
              refine x_aload_n (pc := 184) C dX7_layShow_184 rfl ?_
              refine x_getR (pc := 185) (o := 200) (j := 208) C f_X7_31 dX7_layShow_185 (hI 200 rfl) ⟨rfl, rfl⟩ ?_
              refine x_iload_n (pc := 188) C dX7_layShow_188 rfl ?_
              refine x_aload_n (pc := 189) C dX7_layShow_189 rfl ?_
              refine x_getR (pc := 190) (o := 200) (j := 207) C f_X7_28 dX7_layShow_190 (hI 200 rfl) ⟨rfl, rfl⟩ ?_
              refine x_iload_n (pc := 193) C dX7_layShow_193 rfl ?_
              refine x_iald (pc := 194) (o := 207) C dX7_layShow_194 (hI 207 rfl) ⟨rfl, rfl⟩ (show _ < 24 by omega) (by decide) ?_
              refine x_topi ((atR (RF V) (V 200 12) s) - RF V 3 s) (by simp [up]) ?_
              refine x_if_le (pc := 195) (tgt := 202) C dX7_layShow_195 (by decide) (fun h195 => ?_) (fun h195 => ?_)
              · refine x_iconst (pc := 202) C (0) dX7_layShow_202 (by decide) ?_
                refine x_topi (b2i (decide (0 < ((atR (RF V) (V 200 12) s) - RF V 3 s)))) (b2i_cn (Int32.not_lt.mpr h195)).symm ?_
                refine x_iload (pc := 203) C dX7_layShow_203 rfl ?_
                refine x_if_eq (pc := 205) (tgt := 212) C dX7_layShow_205 (by decide) (fun h205 => ?_) (fun h205 => absurd (by rfl) h205)
                refine x_iconst (pc := 212) C (0) dX7_layShow_212 (by decide) ?_
                refine x_iadd (pc := 213) C dX7_layShow_213 ?_
                refine x_topi (sttR (RF V) (V 201) (V 200 12) s) (by unfold sttR; rw [hc]; simp) ?_
                refine x_iast (pc := 214) (o := 208) C dX7_layShow_214 (hI 208 rfl) ⟨rfl, rfl⟩ (show _ < 24 by omega) (by decide) ?_
                refine x_aload_n (pc := 215) C dX7_layShow_215 rfl ?_
                refine x_iload_n (pc := 216) C dX7_layShow_216 rfl ?_
                refine x_aload_n (pc := 217) C dX7_layShow_217 rfl ?_
                refine x_getR (pc := 218) (o := 200) (j := 206) C f_X7_25 dX7_layShow_218 (hI 200 rfl) ⟨rfl, rfl⟩ ?_
                refine x_iload_n (pc := 221) C dX7_layShow_221 rfl ?_
                refine x_iald (pc := 222) (o := 206) C dX7_layShow_222 (hI 206 rfl) ⟨rfl, rfl⟩ (show _ < 24 by omega) (by decide) ?_
                refine x_topi (forR (RF V) (V 201) (V 200 12) s) (by simp [up]) ?_
                refine x_iadd (pc := 223) C dX7_layShow_223 ?_
                refine x_putI (pc := 224) (o := 200) C p_X7_84 dX7_layShow_224 (hI 200 rfl) ⟨rfl, rfl, rfl⟩ ?_
                exact x_vret (pc := 227) C hQ dX7_layShow_227 (is_v (by unfold lsV; rw [if_neg (dR_0 h89 (Int32.not_le.mpr h99))])) (Nat.le_of_ble_eq_true rfl) (Nat.le_of_ble_eq_true rfl)
              · refine x_iconst (pc := 198) C (1) dX7_layShow_198 (by decide) ?_
                refine x_goto (pc := 199) (tgt := 203) C dX7_layShow_199 (by decide) ?_
                refine x_topi (b2i (decide (0 < ((atR (RF V) (V 200 12) s) - RF V 3 s)))) (b2i_c (Int32.not_le.mp h195)).symm ?_
                refine x_iload (pc := 203) C dX7_layShow_203 rfl ?_
                refine x_if_eq (pc := 205) (tgt := 212) C dX7_layShow_205 (by decide) (fun h205 => ?_) (fun h205 => absurd (by rfl) h205)
                refine x_iconst (pc := 212) C (0) dX7_layShow_212 (by decide) ?_
                refine x_iadd (pc := 213) C dX7_layShow_213 ?_
                refine x_topi (sttR (RF V) (V 201) (V 200 12) s) (by unfold sttR; rw [hc]; simp) ?_
                refine x_iast (pc := 214) (o := 208) C dX7_layShow_214 (hI 208 rfl) ⟨rfl, rfl⟩ (show _ < 24 by omega) (by decide) ?_
                refine x_aload_n (pc := 215) C dX7_layShow_215 rfl ?_
                refine x_iload_n (pc := 216) C dX7_layShow_216 rfl ?_
                refine x_aload_n (pc := 217) C dX7_layShow_217 rfl ?_
                refine x_getR (pc := 218) (o := 200) (j := 206) C f_X7_25 dX7_layShow_218 (hI 200 rfl) ⟨rfl, rfl⟩ ?_
                refine x_iload_n (pc := 221) C dX7_layShow_221 rfl ?_
                refine x_iald (pc := 222) (o := 206) C dX7_layShow_222 (hI 206 rfl) ⟨rfl, rfl⟩ (show _ < 24 by omega) (by decide) ?_
                refine x_topi (forR (RF V) (V 201) (V 200 12) s) (by simp [up]) ?_
                refine x_iadd (pc := 223) C dX7_layShow_223 ?_
                refine x_putI (pc := 224) (o := 200) C p_X7_84 dX7_layShow_224 (hI 200 rfl) ⟨rfl, rfl, rfl⟩ ?_
                exact x_vret (pc := 227) C hQ dX7_layShow_227 (is_v (by unfold lsV; rw [if_neg (dR_0 h89 (Int32.not_le.mpr h99))])) (Nat.le_of_ble_eq_true rfl) (Nat.le_of_ble_eq_true rfl)
            · have hc : cutR (RF V) (V 201) (V 200 12) s = true := decide_eq_true (Int32.not_le.mp h143)
              refine x_iconst (pc := 146) C (1) dX7_layShow_146 (by decide) ?_
              refine x_goto (pc := 147) (tgt := 151) C dX7_layShow_147 (by decide) ?_
              refine y_istore (pc := 151) C dX7_layShow_151 (by decide) rfl ?_
              refine x_aload_n (pc := 153) C dX7_layShow_153 rfl ?_
              refine x_getR (pc := 154) (o := 200) (j := 205) C f_X7_22 dX7_layShow_154 (hI 200 rfl) ⟨rfl, rfl⟩ ?_
              refine x_iload_n (pc := 157) C dX7_layShow_157 rfl ?_
              refine x_iload_n (pc := 158) C dX7_layShow_158 rfl ?_
              refine x_iast (pc := 159) (o := 205) C dX7_layShow_159 (hI 205 rfl) ⟨rfl, rfl⟩ (show _ < 24 by omega) (by decide) ?_
              refine x_aload_n (pc := 160) C dX7_layShow_160 rfl ?_
              refine x_getR (pc := 161) (o := 200) (j := 206) C f_X7_25 dX7_layShow_161 (hI 200 rfl) ⟨rfl, rfl⟩ ?_
              refine x_iload_n (pc := 164) C dX7_layShow_164 rfl ?_
              refine x_iload (pc := 165) C dX7_layShow_165 rfl ?_
              refine x_if_eq (pc := 167) (tgt := 181) C dX7_layShow_167 (by decide) (fun h167 => absurd h167 (by decide)) (fun h167 => ?_)
              refine x_aload_n (pc := 170) C dX7_layShow_170 rfl ?_
              refine x_getR (pc := 171) (o := 200) (j := 201) C f_X7_7 dX7_layShow_171 (hI 200 rfl) ⟨rfl, rfl⟩ ?_
              refine x_iconst (pc := 174) C (1) dX7_layShow_174 (by decide) ?_
              refine x_topi (nI 1) (by decide) ?_
              refine x_iald (pc := 175) (o := 201) C dX7_layShow_175 (hI 201 rfl) ⟨rfl, rfl⟩ (show _ < 232 by decide) (by decide) ?_
              refine x_topi (V 201 1) (by simp [up]) ?_
              refine x_iload_n (pc := 176) C dX7_layShow_176 rfl ?_
              refine x_isub (pc := 177) C dX7_layShow_177 ?_
              refine x_goto (pc := 178) (tgt := 183) C dX7_layShow_178 (by decide) ?_
              refine x_topi (forR (RF V) (V 201) (V 200 12) s) (by unfold forR; rw [hc]; simp) ?_
              refine x_iast (pc := 183) (o := 206) C dX7_layShow_183 (hI 206 rfl) ⟨rfl, rfl⟩ (show _ < 24 by omega) (by decide) ?_
              refine x_aload_n (pc := 184) C dX7_layShow_184 rfl ?_
              refine x_getR (pc := 185) (o := 200) (j := 208) C f_X7_31 dX7_layShow_185 (hI 200 rfl) ⟨rfl, rfl⟩ ?_
              refine x_iload_n (pc := 188) C dX7_layShow_188 rfl ?_
              refine x_aload_n (pc := 189) C dX7_layShow_189 rfl ?_
              refine x_getR (pc := 190) (o := 200) (j := 207) C f_X7_28 dX7_layShow_190 (hI 200 rfl) ⟨rfl, rfl⟩ ?_
              refine x_iload_n (pc := 193) C dX7_layShow_193 rfl ?_
              refine x_iald (pc := 194) (o := 207) C dX7_layShow_194 (hI 207 rfl) ⟨rfl, rfl⟩ (show _ < 24 by omega) (by decide) ?_
              refine x_topi ((atR (RF V) (V 200 12) s) - RF V 3 s) (by simp [up]) ?_
              refine x_if_le (pc := 195) (tgt := 202) C dX7_layShow_195 (by decide) (fun h195 => ?_) (fun h195 => ?_)
              · refine x_iconst (pc := 202) C (0) dX7_layShow_202 (by decide) ?_
                refine x_topi (b2i (decide (0 < ((atR (RF V) (V 200 12) s) - RF V 3 s)))) (b2i_cn (Int32.not_lt.mpr h195)).symm ?_
                refine x_iload (pc := 203) C dX7_layShow_203 rfl ?_
                refine x_if_eq (pc := 205) (tgt := 212) C dX7_layShow_205 (by decide) (fun h205 => absurd h205 (by decide)) (fun h205 => ?_)
                refine x_iconst (pc := 208) C (4) dX7_layShow_208 (by decide) ?_
                refine x_goto (pc := 209) (tgt := 213) C dX7_layShow_209 (by decide) ?_
                refine x_iadd (pc := 213) C dX7_layShow_213 ?_
                refine x_topi (sttR (RF V) (V 201) (V 200 12) s) (by unfold sttR; rw [hc]; simp) ?_
                refine x_iast (pc := 214) (o := 208) C dX7_layShow_214 (hI 208 rfl) ⟨rfl, rfl⟩ (show _ < 24 by omega) (by decide) ?_
                refine x_aload_n (pc := 215) C dX7_layShow_215 rfl ?_
                refine x_iload_n (pc := 216) C dX7_layShow_216 rfl ?_
                refine x_aload_n (pc := 217) C dX7_layShow_217 rfl ?_
                refine x_getR (pc := 218) (o := 200) (j := 206) C f_X7_25 dX7_layShow_218 (hI 200 rfl) ⟨rfl, rfl⟩ ?_
                refine x_iload_n (pc := 221) C dX7_layShow_221 rfl ?_
                refine x_iald (pc := 222) (o := 206) C dX7_layShow_222 (hI 206 rfl) ⟨rfl, rfl⟩ (show _ < 24 by omega) (by decide) ?_
                refine x_topi (forR (RF V) (V 201) (V 200 12) s) (by simp [up]) ?_
                refine x_iadd (pc := 223) C dX7_layShow_223 ?_
                refine x_putI (pc := 224) (o := 200) C p_X7_84 dX7_layShow_224 (hI 200 rfl) ⟨rfl, rfl, rfl⟩ ?_
                exact x_vret (pc := 227) C hQ dX7_layShow_227 (is_v (by unfold lsV; rw [if_neg (dR_0 h89 (Int32.not_le.mpr h99))])) (Nat.le_of_ble_eq_true rfl) (Nat.le_of_ble_eq_true rfl)
              · refine x_iconst (pc := 198) C (1) dX7_layShow_198 (by decide) ?_
                refine x_goto (pc := 199) (tgt := 203) C dX7_layShow_199 (by decide) ?_
                refine x_topi (b2i (decide (0 < ((atR (RF V) (V 200 12) s) - RF V 3 s)))) (b2i_c (Int32.not_le.mp h195)).symm ?_
                refine x_iload (pc := 203) C dX7_layShow_203 rfl ?_
                refine x_if_eq (pc := 205) (tgt := 212) C dX7_layShow_205 (by decide) (fun h205 => absurd h205 (by decide)) (fun h205 => ?_)
                refine x_iconst (pc := 208) C (4) dX7_layShow_208 (by decide) ?_
                refine x_goto (pc := 209) (tgt := 213) C dX7_layShow_209 (by decide) ?_
                refine x_iadd (pc := 213) C dX7_layShow_213 ?_
                refine x_topi (sttR (RF V) (V 201) (V 200 12) s) (by unfold sttR; rw [hc]; simp) ?_
                refine x_iast (pc := 214) (o := 208) C dX7_layShow_214 (hI 208 rfl) ⟨rfl, rfl⟩ (show _ < 24 by omega) (by decide) ?_
                refine x_aload_n (pc := 215) C dX7_layShow_215 rfl ?_
                refine x_iload_n (pc := 216) C dX7_layShow_216 rfl ?_
                refine x_aload_n (pc := 217) C dX7_layShow_217 rfl ?_
                refine x_getR (pc := 218) (o := 200) (j := 206) C f_X7_25 dX7_layShow_218 (hI 200 rfl) ⟨rfl, rfl⟩ ?_
                refine x_iload_n (pc := 221) C dX7_layShow_221 rfl ?_
                refine x_iald (pc := 222) (o := 206) C dX7_layShow_222 (hI 206 rfl) ⟨rfl, rfl⟩ (show _ < 24 by omega) (by decide) ?_
                refine x_topi (forR (RF V) (V 201) (V 200 12) s) (by simp [up]) ?_
                refine x_iadd (pc := 223) C dX7_layShow_223 ?_
                refine x_putI (pc := 224) (o := 200) C p_X7_84 dX7_layShow_224 (hI 200 rfl) ⟨rfl, rfl, rfl⟩ ?_
                exact x_vret (pc := 227) C hQ dX7_layShow_227 (is_v (by unfold lsV; rw [if_neg (dR_0 h89 (Int32.not_le.mpr h99))])) (Nat.le_of_ble_eq_true rfl) (Nat.le_of_ble_eq_true rfl)
          refine x_icmp_ge (pc := 122) (tgt := 129) C dX7_layShow_122 (by decide) (fun h122 => ?_) (fun h122 => ?_)
          · refine x_iload (pc := 129) C dX7_layShow_129 rfl ?_
            refine x_topi (wantR (RF V) s) (if_neg (Int32.not_lt.mpr h122)).symm ?_
            refine x_fgt 4 ?_
            exact J131
          · refine x_iconst (pc := 125) C (1) dX7_layShow_125 (by decide) ?_
            refine x_goto (pc := 126) (tgt := 131) C dX7_layShow_126 (by decide) ?_
            refine x_topi (wantR (RF V) s) (if_pos (Int32.not_le.mp h122)).symm ?_
            refine x_fgt 4 ?_
            exact J131
        · exact x_vret (pc := 102) C hQ dX7_layShow_102 (is_v (by unfold lsV; rw [if_pos (dR_2 (Int32.not_lt.mp h99))])) (Nat.le_of_ble_eq_true rfl) (Nat.le_of_ble_eq_true rfl)
    refine x_if_ne (pc := 37) (tgt := 44) C dX7_layShow_37 (by decide) (fun h37 => ?_) (fun h37 => ?_)
    · refine x_iconst (pc := 44) C (3) dX7_layShow_44 (by decide) ?_
      refine x_topi (nI (if V 201 (40 + 8 * s + 0) = 0 then 2 else 3)) (by rw [if_neg h37]; decide) ?_
      exact J45
    · refine x_iconst (pc := 40) C (2) dX7_layShow_40 (by decide) ?_
      refine x_goto (pc := 41) (tgt := 45) C dX7_layShow_41 (by decide) ?_
      refine x_topi (nI (if V 201 (40 + 8 * s + 0) = 0 then 2 else 3)) (by rw [if_pos h37]; decide) ?_
      exact J45
  refine x_icmp_le (pc := 10) (tgt := 22) C dX7_layShow_10 (by decide) (fun h10 => ?_) (fun h10 => ?_)
  · refine x_aload_n (pc := 22) C dX7_layShow_22 rfl ?_
    refine x_getI (pc := 23) (o := 200) C f_X7_84 dX7_layShow_23 (hI 200 rfl) ⟨rfl, rfl, rfl⟩ ?_
    refine x_topi (atR (RF V) (V 200 12) s) (if_pos h10).symm ?_
    exact J26
  · refine x_aload_n (pc := 13) C dX7_layShow_13 rfl ?_
    refine x_iload_n (pc := 14) C dX7_layShow_14 rfl ?_
    refine x_iconst (pc := 15) C (3) dX7_layShow_15 (by decide) ?_
    refine x_cV2 (pc := 16) (o := 200) C v_X7_45 dX7_layShow_16 (c_X7_of hI (s) (3) (by omega)) (hI 200 rfl) rfl (by decide) rfl ⟨Nat.le_refl _, Nat.le_refl _⟩ ?_
    refine x_goto (pc := 19) (tgt := 26) C dX7_layShow_19 (by decide) ?_
    refine x_topi (atR (RF V) (V 200 12) s) (if_neg h10).symm ?_
    exact J26
