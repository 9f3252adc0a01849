set_option maxRecDepth 100000 in
set_option maxHeartbeats 4000000 in
theorem c_L_clock {l : Launch} {V : VV} {L : LL} {N : NN} {I : List Nat} (hI : PI I) (ho : 218 ∈ I) {n : Nat} (hn : V 212 1 = nI n) (hn6 : n ≤ 6) (hB : ∀ s, s < n → ShB (GF V) s) (d : Int32) : Runs l 1 0 0 yL_clock (Cond.code yL_clock cL_clock 10 (some .int)) [aI d, aR 210, aR 212, aR 213, aR 218] V L N I (Is (some (aI (clkR (GF V) (V 210) d n))) (ckW 218 V d n) (L) N I) := by
  refine run_of RL (by decide +kernel) rfl (Nat.le_of_ble_eq_true rfl) (fun E hE C hQ hN => ?_)
  subst hE
  refine x_aload_n (pc := 0) C dL_clock_0 rfl ?_
  refine x_iconst (pc := 1) C (0) dL_clock_1 (by decide) ?_
  refine x_topi (nI 0) (by decide) ?_
  refine x_iald (pc := 2) (o := 210) C dL_clock_2 (hI 210 rfl) ⟨rfl, rfl⟩ (show _ < 8 by decide) (by decide) ?_
  refine y_istore (pc := 3) C dL_clock_3 (by decide) rfl ?_
  refine x_iconst (pc := 5) C (0) dL_clock_5 (by decide) ?_
  refine y_istore (pc := 6) C dL_clock_6 (by decide) rfl ?_
  refine x_mem (ckW_0 (o := 218) (d := d)) ?_
  suffices keyk : ∀ (k i : Nat) (c : Int32), k + i = n → (c = clkR (GF V) (V 210) d i) → Wx E 8 [some (aI d), some (aR 210), some (aR 212), some (aR 213), some (aR 218), some (aI c), some (aI (nI i)), none, none, none] [] (ckW 218 V d i) L N I 0 0 by
    exact keyk (n) (0) _ (by omega) (rfl)
  intro k
  induction k with
  | zero =>
    intro i c hk hinv
    refine x_iload (pc := 8) C dL_clock_8 rfl ?_
    refine x_aload_n (pc := 10) C dL_clock_10 rfl ?_
    refine x_iconst (pc := 11) C (1) dL_clock_11 (by decide) ?_
    refine x_topi (nI 1) (by decide) ?_
    refine x_iald (pc := 12) (o := 212) C dL_clock_12 (hI 212 rfl) ⟨rfl, rfl⟩ (show _ < 3 by decide) (by decide) ?_
    refine x_topi (nI n) hn ?_
    refine x_icmp_ge (pc := 13) (tgt := 269) C dL_clock_13 (by decide) (fun h13 => ?_) (fun h13 => absurd (by exact nI_le (by omega) (by omega)) h13)
    refine x_iload (pc := 269) C dL_clock_269 rfl ?_
    exact x_iret (pc := 271) C hQ dL_clock_271 (is_iv (by rw [hinv, show i = n by omega]) (by rw [show i = n by omega])) (Nat.le_of_ble_eq_true rfl) (Nat.le_of_ble_eq_true rfl)
  | succ k ih =>
    intro i c hk hinv
    refine x_iload (pc := 8) C dL_clock_8 rfl ?_
    refine x_aload_n (pc := 10) C dL_clock_10 rfl ?_
    refine x_iconst (pc := 11) C (1) dL_clock_11 (by decide) ?_
    refine x_topi (nI 1) (by decide) ?_
    refine x_iald (pc := 12) (o := 212) C dL_clock_12 (hI 212 rfl) ⟨rfl, rfl⟩ (show _ < 3 by decide) (by decide) ?_
    refine x_topi (nI n) hn ?_
    refine x_icmp_ge (pc := 13) (tgt := 269) C dL_clock_13 (by decide) (fun h13 => absurd h13 (by exact nI_ge (by omega) (by omega))) (fun h13 => ?_)
    refine x_bipush (pc := 16) C (9) dL_clock_16 (by decide) ?_
    refine x_iload (pc := 18) C dL_clock_18 rfl ?_
    refine x_imul (pc := 20) C dL_clock_20 ?_
    refine x_topi (nI (9 * i)) (pk_mul (9) (i)) ?_
    refine y_istore (pc := 21) C dL_clock_21 (by decide) rfl ?_
    refine x_aload_n (pc := 23) C dL_clock_23 rfl ?_
    refine x_iload (pc := 24) C dL_clock_24 rfl ?_
    refine x_iconst (pc := 26) C (2) dL_clock_26 (by decide) ?_
    refine x_iadd (pc := 27) C dL_clock_27 ?_
    refine x_topi (nI (9 * i + 2)) (nI_add (9 * i) (2)) ?_
    refine x_iald (pc := 28) (o := 213) C dL_clock_28 (hI 213 rfl) ⟨rfl, rfl⟩ (show _ < 63 by omega) (by decide) ?_
    refine x_topi (GF V 2 i) (rfl) ?_
    refine x_iload_n (pc := 29) C dL_clock_29 rfl ?_
    refine x_icmp_eq (pc := 30) (tgt := 36) C dL_clock_30 (by decide) (fun h30 => ?_) (fun h30 => ?_)
    · refine x_iload (pc := 36) C dL_clock_36 rfl ?_
      refine x_aload_n (pc := 38) C dL_clock_38 rfl ?_
      refine x_iload (pc := 39) C dL_clock_39 rfl ?_
      refine x_iconst (pc := 41) C (3) dL_clock_41 (by decide) ?_
      refine x_iadd (pc := 42) C dL_clock_42 ?_
      refine x_topi (nI (9 * i + 3)) (nI_add (9 * i) (3)) ?_
      refine x_iald (pc := 43) (o := 213) C dL_clock_43 (hI 213 rfl) ⟨rfl, rfl⟩ (show _ < 63 by omega) (by decide) ?_
      refine x_topi (GF V 3 i) (rfl) ?_
      have J58 : Wx E 58 [some (aI d), some (aR 210), some (aR 212), some (aR 213), some (aR 218), some (aI c), some (aI (nI i)), some (aI (nI (9 * i))), none, none] [aI (atR (GF V) c i)] (ckW 218 V d i) L N I 0 0 := by
        refine y_istore (pc := 58) C dL_clock_58 (by decide) rfl ?_
        refine x_aload (pc := 60) C dL_clock_60 rfl ?_
        refine x_iconst (pc := 62) C (4) dL_clock_62 (by decide) ?_
        refine x_iload (pc := 63) C dL_clock_63 rfl ?_
        refine x_imul (pc := 65) C dL_clock_65 ?_
        refine x_topi (nI (4 * i)) (pk_mul (4) (i)) ?_
        refine x_iconst (pc := 66) C (-1) dL_clock_66 (by decide) ?_
        refine x_iast (pc := 67) (o := 218) C dL_clock_67 ho ⟨rfl, rfl⟩ (show _ < 28 by omega) (by decide) ?_
        refine x_aload (pc := 68) C dL_clock_68 rfl ?_
        refine x_iconst (pc := 70) C (4) dL_clock_70 (by decide) ?_
        refine x_iload (pc := 71) C dL_clock_71 rfl ?_
        refine x_imul (pc := 73) C dL_clock_73 ?_
        refine x_topi (nI (4 * i)) (pk_mul (4) (i)) ?_
        refine x_iconst (pc := 74) C (1) dL_clock_74 (by decide) ?_
        refine x_iadd (pc := 75) C dL_clock_75 ?_
        refine x_topi (nI (4 * i + 1)) (nI_add (4 * i) (1)) ?_
        refine x_iconst (pc := 76) C (0) dL_clock_76 (by decide) ?_
        refine x_iast (pc := 77) (o := 218) C dL_clock_77 ho ⟨rfl, rfl⟩ (show _ < 28 by omega) (by decide) ?_
        refine x_aload (pc := 78) C dL_clock_78 rfl ?_
        refine x_iconst (pc := 80) C (4) dL_clock_80 (by decide) ?_
        refine x_iload (pc := 81) C dL_clock_81 rfl ?_
        refine x_imul (pc := 83) C dL_clock_83 ?_
        refine x_topi (nI (4 * i)) (pk_mul (4) (i)) ?_
        refine x_iconst (pc := 84) C (2) dL_clock_84 (by decide) ?_
        refine x_iadd (pc := 85) C dL_clock_85 ?_
        refine x_topi (nI (4 * i + 2)) (nI_add (4 * i) (2)) ?_
        refine x_iload (pc := 86) C dL_clock_86 rfl ?_
        refine x_aload_n (pc := 88) C dL_clock_88 rfl ?_
        refine x_iload (pc := 89) C dL_clock_89 rfl ?_
        refine x_iconst (pc := 91) C (3) dL_clock_91 (by decide) ?_
        refine x_iadd (pc := 92) C dL_clock_92 ?_
        refine x_topi (nI (9 * i + 3)) (nI_add (9 * i) (3)) ?_
        refine x_iald (pc := 93) (o := 213) C dL_clock_93 (hI 213 rfl) ⟨rfl, rfl⟩ (show _ < 63 by omega) (by decide) ?_
        refine x_topi (GF V 3 i) (rfl) ?_
        refine x_isub (pc := 94) C dL_clock_94 ?_
        refine x_iast (pc := 95) (o := 218) C dL_clock_95 ho ⟨rfl, rfl⟩ (show _ < 28 by omega) (by decide) ?_
        refine x_aload (pc := 96) C dL_clock_96 rfl ?_
        refine x_iconst (pc := 98) C (4) dL_clock_98 (by decide) ?_
        refine x_iload (pc := 99) C dL_clock_99 rfl ?_
        refine x_imul (pc := 101) C dL_clock_101 ?_
        refine x_topi (nI (4 * i)) (pk_mul (4) (i)) ?_
        refine x_iconst (pc := 102) C (3) dL_clock_102 (by decide) ?_
        refine x_iadd (pc := 103) C dL_clock_103 ?_
        refine x_topi (nI (4 * i + 3)) (nI_add (4 * i) (3)) ?_
        refine x_iconst (pc := 104) C (2) dL_clock_104 (by decide) ?_
        refine x_iast (pc := 105) (o := 218) C dL_clock_105 ho ⟨rfl, rfl⟩ (show _ < 28 by omega) (by decide) ?_
        refine x_iload (pc := 106) C dL_clock_106 rfl ?_
        refine x_aload_n (pc := 108) C dL_clock_108 rfl ?_
        refine x_iload (pc := 109) C dL_clock_109 rfl ?_
        refine x_iconst (pc := 111) C (3) dL_clock_111 (by decide) ?_
        refine x_iadd (pc := 112) C dL_clock_112 ?_
        refine x_topi (nI (9 * i + 3)) (nI_add (9 * i) (3)) ?_
        refine x_iald (pc := 113) (o := 213) C dL_clock_113 (hI 213 rfl) ⟨rfl, rfl⟩ (show _ < 63 by omega) (by decide) ?_
        refine x_topi (GF V 3 i) (rfl) ?_
        refine x_isub (pc := 114) C dL_clock_114 ?_
        refine x_aload_n (pc := 115) C dL_clock_115 rfl ?_
        refine x_aload_n (pc := 116) C dL_clock_116 rfl ?_
        refine x_iload (pc := 117) C dL_clock_117 rfl ?_
        refine x_iald (pc := 119) (o := 213) C dL_clock_119 (hI 213 rfl) ⟨rfl, rfl⟩ (show _ < 63 by omega) (by decide) ?_
        refine x_topi (GF V 0 i) (rfl) ?_
        have J129 : Wx E 129 [some (aI d), some (aR 210), some (aR 212), some (aR 213), some (aR 218), some (aI c), some (aI (nI i)), some (aI (nI (9 * i))), some (aI (atR (GF V) c i)), none] [aI (patS (GF V) (V 210) i), aI ((atR (GF V) c i) - GF V 3 i)] (up (up (up (up (ckW 218 V d i) 218 (4 * i) (-1)) 218 (4 * i + 1) 0) 218 (4 * i + 2) ((atR (GF V) c i) - GF V 3 i)) 218 (4 * i + 3) 2) L N I 0 0 := by
          refine x_icmp_gt (pc := 129) (tgt := 263) C dL_clock_129 (by decide) (fun h129 => ?_) (fun h129 => ?_)
          · refine y_iinc (pc := 263) C (nI (i + 1)) dL_clock_263 rfl (by exact nI_1 i) (by decide) rfl ?_
            refine x_goto (pc := 266) (tgt := 8) C dL_clock_266 (by decide) ?_
            have hdr : drR (GF V) (V 210) c i = true := by first | exact dw_1 h129 | exact dw_2 (Int32.not_lt.mp h137)
            refine x_fgt 7 ?_
            refine x_fgt 8 ?_
            refine x_fgt 9 ?_
            refine x_mem (ck_dr (o := 218) h30 (by rw [← hinv]; exact hdr) (by rw [← hinv])) ?_
            exact ih (i + 1) _ (by omega) (by rw [clkR, if_neg (fun z => by rw [← hinv] at z; rw [hdr] at z; exact absurd z.2 (by decide)), hinv])
          · refine x_iload (pc := 132) C dL_clock_132 rfl ?_
            refine x_aload_n (pc := 134) C dL_clock_134 rfl ?_
            refine x_iconst (pc := 135) C (1) dL_clock_135 (by decide) ?_
            refine x_topi (nI 1) (by decide) ?_
            refine x_iald (pc := 136) (o := 210) C dL_clock_136 (hI 210 rfl) ⟨rfl, rfl⟩ (show _ < 8 by decide) (by decide) ?_
            refine x_topi (V 210 1) (rfl) ?_
            refine x_icmp_lt (pc := 137) (tgt := 143) C dL_clock_137 (by decide) (fun h137 => ?_) (fun h137 => ?_)
            · refine x_iload (pc := 143) C dL_clock_143 rfl ?_
              refine x_aload_n (pc := 145) C dL_clock_145 rfl ?_
              refine x_iload (pc := 146) C dL_clock_146 rfl ?_
              refine x_iconst (pc := 148) C (4) dL_clock_148 (by decide) ?_
              refine x_iadd (pc := 149) C dL_clock_149 ?_
              refine x_topi (nI (9 * i + 4)) (nI_add (9 * i) (4)) ?_
              refine x_iald (pc := 150) (o := 213) C dL_clock_150 (hI 213 rfl) ⟨rfl, rfl⟩ (show _ < 63 by omega) (by decide) ?_
              refine x_topi (GF V 4 i) (rfl) ?_
              refine x_aload_n (pc := 151) C dL_clock_151 rfl ?_
              refine x_iload (pc := 152) C dL_clock_152 rfl ?_
              refine x_bipush (pc := 154) C (6) dL_clock_154 (by decide) ?_
              refine x_iadd (pc := 156) C dL_clock_156 ?_
              refine x_topi (nI (9 * i + 6)) (nI_add (9 * i) (6)) ?_
              refine x_iald (pc := 157) (o := 213) C dL_clock_157 (hI 213 rfl) ⟨rfl, rfl⟩ (show _ < 63 by omega) (by decide) ?_
              refine x_topi (GF V 6 i) (rfl) ?_
              refine x_iadd (pc := 158) C dL_clock_158 ?_
              have J180 : Wx E 180 [some (aI d), some (aR 210), some (aR 212), some (aR 213), some (aR 218), some (aI c), some (aI (nI i)), some (aI (nI (9 * i))), some (aI (atR (GF V) c i)), none] [aI (wantR (GF V) i), aI (atR (GF V) c i)] (up (up (up (up (ckW 218 V d i) 218 (4 * i) (-1)) 218 (4 * i + 1) 0) 218 (4 * i + 2) ((atR (GF V) c i) - GF V 3 i)) 218 (4 * i + 3) 2) L N I 0 0 := by
                refine x_iadd (pc := 180) C dL_clock_180 ?_
                refine y_istore (pc := 181) C dL_clock_181 (by decide) rfl ?_
                refine x_aload (pc := 183) C dL_clock_183 rfl ?_
                refine x_iconst (pc := 185) C (4) dL_clock_185 (by decide) ?_
                refine x_iload (pc := 186) C dL_clock_186 rfl ?_
                refine x_imul (pc := 188) C dL_clock_188 ?_
                refine x_topi (nI (4 * i)) (pk_mul (4) (i)) ?_
                refine x_iload (pc := 189) C dL_clock_189 rfl ?_
                refine x_iast (pc := 191) (o := 218) C dL_clock_191 ho ⟨rfl, rfl⟩ (show _ < 28 by omega) (by decide) ?_
                refine x_aload (pc := 192) C dL_clock_192 rfl ?_
                refine x_iconst (pc := 194) C (4) dL_clock_194 (by decide) ?_
                refine x_iload (pc := 195) C dL_clock_195 rfl ?_
                refine x_imul (pc := 197) C dL_clock_197 ?_
                refine x_topi (nI (4 * i)) (pk_mul (4) (i)) ?_
                refine x_iconst (pc := 198) C (3) dL_clock_198 (by decide) ?_
                refine x_iadd (pc := 199) C dL_clock_199 ?_
                refine x_topi (nI (4 * i + 3)) (nI_add (4 * i) (3)) ?_
                refine x_iload (pc := 200) C dL_clock_200 rfl ?_
                refine x_aload_n (pc := 202) C dL_clock_202 rfl ?_
                refine x_iload (pc := 203) C dL_clock_203 rfl ?_
                refine x_iconst (pc := 205) C (3) dL_clock_205 (by decide) ?_
                refine x_iadd (pc := 206) C dL_clock_206 ?_
                refine x_topi (nI (9 * i + 3)) (nI_add (9 * i) (3)) ?_
                refine x_iald (pc := 207) (o := 213) C dL_clock_207 (hI 213 rfl) ⟨rfl, rfl⟩ (show _ < 63 by omega) (by decide) ?_
                refine x_topi (GF V 3 i) (rfl) ?_
                have J216 : Wx E 216 [some (aI d), some (aR 210), some (aR 212), some (aR 213), some (aR 218), some (aI c), some (aI (nI i)), some (aI (nI (9 * i))), some (aI (atR (GF V) c i)), some (aI ((atR (GF V) c i) + wantR (GF V) i))] [aI (b2i (decide (0 < (atR (GF V) c i) - GF V 3 i))), aI (nI (4 * i + 3)), aR 218] (up (up (up (up (up (ckW 218 V d i) 218 (4 * i) (-1)) 218 (4 * i + 1) 0) 218 (4 * i + 2) ((atR (GF V) c i) - GF V 3 i)) 218 (4 * i + 3) 2) 218 (4 * i) (atR (GF V) c i)) L N I 0 0 := by
                  refine x_iload (pc := 216) C dL_clock_216 rfl ?_
                  refine x_aload_n (pc := 218) C dL_clock_218 rfl ?_
                  refine x_iconst (pc := 219) C (1) dL_clock_219 (by decide) ?_
                  refine x_topi (nI 1) (by decide) ?_
                  refine x_iald (pc := 220) (o := 210) C dL_clock_220 (hI 210 rfl) ⟨rfl, rfl⟩ (show _ < 8 by decide) (by decide) ?_
                  refine x_topi (V 210 1) (rfl) ?_
                  have J229 : Wx E 229 [some (aI d), some (aR 210), some (aR 212), some (aR 213), some (aR 218), some (aI c), some (aI (nI i)), some (aI (nI (9 * i))), some (aI (atR (GF V) c i)), some (aI ((atR (GF V) c i) + wantR (GF V) i))] [aI (if cutR (GF V) (V 210) c i = true then 4 else 0), aI (b2i (decide (0 < (atR (GF V) c i) - GF V 3 i))), aI (nI (4 * i + 3)), aR 218] (up (up (up (up (up (ckW 218 V d i) 218 (4 * i) (-1)) 218 (4 * i + 1) 0) 218 (4 * i + 2) ((atR (GF V) c i) - GF V 3 i)) 218 (4 * i + 3) 2) 218 (4 * i) (atR (GF V) c i)) L N I 0 0 := by
                    refine x_iadd (pc := 229) C dL_clock_229 ?_
                    refine x_iast (pc := 230) (o := 218) C dL_clock_230 ho ⟨rfl, rfl⟩ (show _ < 28 by omega) (by decide) ?_
                    refine x_iload (pc := 231) C dL_clock_231 rfl ?_
                    refine x_aload_n (pc := 233) C dL_clock_233 rfl ?_
                    refine x_iconst (pc := 234) C (1) dL_clock_234 (by decide) ?_
                    refine x_topi (nI 1) (by decide) ?_
                    refine x_iald (pc := 235) (o := 210) C dL_clock_235 (hI 210 rfl) ⟨rfl, rfl⟩ (show _ < 8 by decide) (by decide) ?_
                    refine x_topi (V 210 1) (rfl) ?_
                    have J247 : Wx E 247 [some (aI d), some (aR 210), some (aR 212), some (aR 213), some (aR 218), some (aI c), some (aI (nI i)), some (aI (nI (9 * i))), some (aI (atR (GF V) c i)), some (aI ((atR (GF V) c i) + wantR (GF V) i))] [aI (if V 210 1 < ((atR (GF V) c i) + wantR (GF V) i) then V 210 1 else ((atR (GF V) c i) + wantR (GF V) i))] (up (up (up (up (up (up (ckW 218 V d i) 218 (4 * i) (-1)) 218 (4 * i + 1) 0) 218 (4 * i + 2) ((atR (GF V) c i) - GF V 3 i)) 218 (4 * i + 3) 2) 218 (4 * i) (atR (GF V) c i)) 218 (4 * i + 3) (sttR (GF V) (V 210) c i)) L N I 0 0 := by
                      refine y_istore (pc := 247) C dL_clock_247 (by decide) rfl ?_
                      refine x_aload (pc := 249) C dL_clock_249 rfl ?_
                      refine x_iconst (pc := 251) C (4) dL_clock_251 (by decide) ?_
                      refine x_iload (pc := 252) C dL_clock_252 rfl ?_
                      refine x_imul (pc := 254) C dL_clock_254 ?_
                      refine x_topi (nI (4 * i)) (pk_mul (4) (i)) ?_
                      refine x_iconst (pc := 255) C (1) dL_clock_255 (by decide) ?_
                      refine x_iadd (pc := 256) C dL_clock_256 ?_
                      refine x_topi (nI (4 * i + 1)) (nI_add (4 * i) (1)) ?_
                      refine x_iload (pc := 257) C dL_clock_257 rfl ?_
                      refine x_iload (pc := 259) C dL_clock_259 rfl ?_
                      refine x_isub (pc := 261) C dL_clock_261 ?_
                      refine x_iast (pc := 262) (o := 218) C dL_clock_262 ho ⟨rfl, rfl⟩ (show _ < 28 by omega) (by decide) ?_
                      refine y_iinc (pc := 263) C (nI (i + 1)) dL_clock_263 rfl (by exact nI_1 i) (by decide) rfl ?_
                      refine x_goto (pc := 266) (tgt := 8) C dL_clock_266 (by decide) ?_
                      have hcf := ck_for (F := GF V) (G := V 210) (c := c) (s := i) (x := (if V 210 1 < ((atR (GF V) c i) + wantR (GF V) i) then V 210 1 else ((atR (GF V) c i) + wantR (GF V) i))) rfl
                      have hnd : ¬ drR (GF V) (V 210) c i = true := dw_0 h129 (Int32.not_le.mpr h137)
                      refine x_fgt 7 ?_
                      refine x_fgt 8 ?_
                      refine x_fgt 9 ?_
                      refine x_mem (ck_on (o := 218) h30 (by rw [← hinv]; exact hnd) (by rw [← hinv]) (by rw [← hinv]) (by rw [← hinv]) (by rw [← hinv]; exact hcf.1)) ?_
                      exact ih (i + 1) _ (by omega) (hcf.2.trans (by rw [clkR, if_pos ⟨h30, by rw [← hinv]; exact Bool.eq_false_iff.mpr hnd⟩, ← hinv]))
                    refine x_icmp_le (pc := 236) (tgt := 245) C dL_clock_236 (by decide) (fun h236 => ?_) (fun h236 => ?_)
                    · refine x_iload (pc := 245) C dL_clock_245 rfl ?_
                      refine x_topi (if V 210 1 < ((atR (GF V) c i) + wantR (GF V) i) then V 210 1 else ((atR (GF V) c i) + wantR (GF V) i)) (by rw [if_neg (Int32.not_lt.mpr h236)]) ?_
                      exact J247
                    · refine x_aload_n (pc := 239) C dL_clock_239 rfl ?_
                      refine x_iconst (pc := 240) C (1) dL_clock_240 (by decide) ?_
                      refine x_topi (nI 1) (by decide) ?_
                      refine x_iald (pc := 241) (o := 210) C dL_clock_241 (hI 210 rfl) ⟨rfl, rfl⟩ (show _ < 8 by decide) (by decide) ?_
                      refine x_topi (V 210 1) (rfl) ?_
                      refine x_goto (pc := 242) (tgt := 247) C dL_clock_242 (by decide) ?_
                      refine x_topi (if V 210 1 < ((atR (GF V) c i) + wantR (GF V) i) then V 210 1 else ((atR (GF V) c i) + wantR (GF V) i)) (by rw [if_pos (Int32.not_le.mp h236)]) ?_
                      exact J247
                  refine x_icmp_le (pc := 221) (tgt := 228) C dL_clock_221 (by decide) (fun h221 => ?_) (fun h221 => ?_)
                  · refine x_iconst (pc := 228) C (0) dL_clock_228 (by decide) ?_
                    refine x_topi (if cutR (GF V) (V 210) c i = true then 4 else 0) ((if_neg (show ¬ cutR (GF V) (V 210) c i = true from fun z => absurd (of_decide_eq_true z) (Int32.not_lt.mpr h221))).symm) ?_
                    exact J229
                  · refine x_iconst (pc := 224) C (4) dL_clock_224 (by decide) ?_
                    refine x_goto (pc := 225) (tgt := 229) C dL_clock_225 (by decide) ?_
                    refine x_topi (if cutR (GF V) (V 210) c i = true then 4 else 0) ((if_pos (show cutR (GF V) (V 210) c i = true from decide_eq_true (Int32.not_le.mp h221))).symm) ?_
                    exact J229
                refine x_icmp_le (pc := 208) (tgt := 215) C dL_clock_208 (by decide) (fun h208 => ?_) (fun h208 => ?_)
                · refine x_iconst (pc := 215) C (0) dL_clock_215 (by decide) ?_
                  refine x_topi (b2i (decide (0 < (atR (GF V) c i) - GF V 3 i))) (by rw [b2i, if_neg (by rw [decide_eq_true_eq]; exact (at_del (hB i (by omega)).2.2.2.1.1).mp h208)]) ?_
                  exact J216
                · refine x_iconst (pc := 211) C (1) dL_clock_211 (by decide) ?_
                  refine x_goto (pc := 212) (tgt := 216) C dL_clock_212 (by decide) ?_
                  refine x_topi (b2i (decide (0 < (atR (GF V) c i) - GF V 3 i))) (by rw [b2i, if_pos (by rw [decide_eq_true_eq]; exact Decidable.not_not.mp (fun z => h208 ((at_del (hB i (by omega)).2.2.2.1.1).mpr z)))]) ?_
                  exact J216
              refine x_if_le (pc := 159) (tgt := 179) C dL_clock_159 (by decide) (fun h159 => ?_) (fun h159 => ?_)
              · refine x_iconst (pc := 179) C (1) dL_clock_179 (by decide) ?_
                refine x_topi (wantR (GF V) i) (by rw [wantR, if_pos (le_0 h159)]) ?_
                exact J180
              · refine x_aload_n (pc := 162) C dL_clock_162 rfl ?_
                refine x_iload (pc := 163) C dL_clock_163 rfl ?_
                refine x_iconst (pc := 165) C (4) dL_clock_165 (by decide) ?_
                refine x_iadd (pc := 166) C dL_clock_166 ?_
                refine x_topi (nI (9 * i + 4)) (nI_add (9 * i) (4)) ?_
                refine x_iald (pc := 167) (o := 213) C dL_clock_167 (hI 213 rfl) ⟨rfl, rfl⟩ (show _ < 63 by omega) (by decide) ?_
                refine x_topi (GF V 4 i) (rfl) ?_
                refine x_aload_n (pc := 168) C dL_clock_168 rfl ?_
                refine x_iload (pc := 169) C dL_clock_169 rfl ?_
                refine x_bipush (pc := 171) C (6) dL_clock_171 (by decide) ?_
                refine x_iadd (pc := 173) C dL_clock_173 ?_
                refine x_topi (nI (9 * i + 6)) (nI_add (9 * i) (6)) ?_
                refine x_iald (pc := 174) (o := 213) C dL_clock_174 (hI 213 rfl) ⟨rfl, rfl⟩ (show _ < 63 by omega) (by decide) ?_
                refine x_topi (GF V 6 i) (rfl) ?_
                refine x_iadd (pc := 175) C dL_clock_175 ?_
                refine x_goto (pc := 176) (tgt := 180) C dL_clock_176 (by decide) ?_
                refine x_topi (wantR (GF V) i) (by rw [wantR, if_neg (nle_0 h159)]) ?_
                exact J180
            · refine x_goto (pc := 140) (tgt := 263) C dL_clock_140 (by decide) ?_
              refine y_iinc (pc := 263) C (nI (i + 1)) dL_clock_263 rfl (by exact nI_1 i) (by decide) rfl ?_
              refine x_goto (pc := 266) (tgt := 8) C dL_clock_266 (by decide) ?_
              have hdr : drR (GF V) (V 210) c i = true := by first | exact dw_1 h129 | exact dw_2 (Int32.not_lt.mp h137)
              refine x_fgt 7 ?_
              refine x_fgt 8 ?_
              refine x_fgt 9 ?_
              refine x_mem (ck_dr (o := 218) h30 (by rw [← hinv]; exact hdr) (by rw [← hinv])) ?_
              exact ih (i + 1) _ (by omega) (by rw [clkR, if_neg (fun z => by rw [← hinv] at z; rw [hdr] at z; exact absurd z.2 (by decide)), hinv])
        refine x_if_ne (pc := 120) (tgt := 127) C dL_clock_120 (by decide) (fun h120 => ?_) (fun h120 => ?_)
        · refine x_iconst (pc := 127) C (3) dL_clock_127 (by decide) ?_
          refine x_topi (nI 3) (by decide) ?_
          refine x_iald (pc := 128) (o := 210) C dL_clock_128 (hI 210 rfl) ⟨rfl, rfl⟩ (show _ < 8 by decide) (by decide) ?_
          refine x_topi (V 210 3) (rfl) ?_
          refine x_topi (patS (GF V) (V 210) i) (by rw [patS, if_neg h120]) ?_
          exact J129
        · refine x_iconst (pc := 123) C (2) dL_clock_123 (by decide) ?_
          refine x_goto (pc := 124) (tgt := 128) C dL_clock_124 (by decide) ?_
          refine x_topi (nI 2) (by decide) ?_
          refine x_iald (pc := 128) (o := 210) C dL_clock_128 (hI 210 rfl) ⟨rfl, rfl⟩ (show _ < 8 by decide) (by decide) ?_
          refine x_topi (V 210 2) (rfl) ?_
          refine x_topi (patS (GF V) (V 210) i) (by rw [patS, if_pos h120]) ?_
          exact J129
      refine x_icmp_ge (pc := 44) (tgt := 56) C dL_clock_44 (by decide) (fun h44 => ?_) (fun h44 => ?_)
      · refine x_iload (pc := 56) C dL_clock_56 rfl ?_
        refine x_topi (atR (GF V) c i) (by rw [atR, if_pos h44]) ?_
        exact J58
      · refine x_aload_n (pc := 47) C dL_clock_47 rfl ?_
        refine x_iload (pc := 48) C dL_clock_48 rfl ?_
        refine x_iconst (pc := 50) C (3) dL_clock_50 (by decide) ?_
        refine x_iadd (pc := 51) C dL_clock_51 ?_
        refine x_topi (nI (9 * i + 3)) (nI_add (9 * i) (3)) ?_
        refine x_iald (pc := 52) (o := 213) C dL_clock_52 (hI 213 rfl) ⟨rfl, rfl⟩ (show _ < 63 by omega) (by decide) ?_
        refine x_topi (GF V 3 i) (rfl) ?_
        refine x_goto (pc := 53) (tgt := 58) C dL_clock_53 (by decide) ?_
        refine x_topi (atR (GF V) c i) (by rw [atR, if_neg h44]) ?_
        exact J58
    · refine x_goto (pc := 33) (tgt := 263) C dL_clock_33 (by decide) ?_
      refine y_iinc (pc := 263) C (nI (i + 1)) dL_clock_263 rfl (by exact nI_1 i) (by decide) rfl ?_
      refine x_goto (pc := 266) (tgt := 8) C dL_clock_266 (by decide) ?_
      refine x_fgt 7 ?_
      refine x_fgt 8 ?_
      refine x_fgt 9 ?_
      refine x_mem (ckW_skip h30) ?_
      exact ih (i + 1) _ (by omega) (by rw [clkR, if_neg (fun z => h30 z.1), hinv])
set_option maxRecDepth 100000 in
set_option maxHeartbeats 4000000 in
theorem d_L_clock {l : Launch} {V : VV} {L : LL} {N : NN} {I : List Nat} (hI : PI I) (ho : 219 ∈ I) {n : Nat} (hn : V 212 1 = nI n) (hn6 : n ≤ 6) (hB : ∀ s, s < n → ShB (GF V) s) (d : Int32) : Runs l 1 0 0 yL_clock (Cond.code yL_clock cL_clock 10 (some .int)) [aI d, aR 210, aR 212, aR 213, aR 219] V L N I (Is (some (aI (clkR (GF V) (V 210) d n))) (ckW 219 V d n) (L) N I) := by
  refine run_of RL (by decide +kernel) rfl (Nat.le_of_ble_eq_true rfl) (fun E hE C hQ hN => ?_)
  subst hE
  refine x_aload_n (pc := 0) C dL_clock_0 rfl ?_
  refine x_iconst (pc := 1) C (0) dL_clock_1 (by decide) ?_
  refine x_topi (nI 0) (by decide) ?_
  refine x_iald (pc := 2) (o := 210) C dL_clock_2 (hI 210 rfl) ⟨rfl, rfl⟩ (show _ < 8 by decide) (by decide) ?_
  refine y_istore (pc := 3) C dL_clock_3 (by decide) rfl ?_
  refine x_iconst (pc := 5) C (0) dL_clock_5 (by decide) ?_
  refine y_istore (pc := 6) C dL_clock_6 (by decide) rfl ?_
  refine x_mem (ckW_0 (o := 219) (d := d)) ?_
  suffices keyk : ∀ (k i : Nat) (c : Int32), k + i = n → (c = clkR (GF V) (V 210) d i) → Wx E 8 [some (aI d), some (aR 210), some (aR 212), some (aR 213), some (aR 219), some (aI c), some (aI (nI i)), none, none, none] [] (ckW 219 V d i) L N I 0 0 by
    exact keyk (n) (0) _ (by omega) (rfl)
  intro k
  induction k with
  | zero =>
    intro i c hk hinv
    refine x_iload (pc := 8) C dL_clock_8 rfl ?_
    refine x_aload_n (pc := 10) C dL_clock_10 rfl ?_
    refine x_iconst (pc := 11) C (1) dL_clock_11 (by decide) ?_
    refine x_topi (nI 1) (by decide) ?_
    refine x_iald (pc := 12) (o := 212) C dL_clock_12 (hI 212 rfl) ⟨rfl, rfl⟩ (show _ < 3 by decide) (by decide) ?_
    refine x_topi (nI n) hn ?_
    refine x_icmp_ge (pc := 13) (tgt := 269) C dL_clock_13 (by decide) (fun h13 => ?_) (fun h13 => absurd (by exact nI_le (by omega) (by omega)) h13)
    refine x_iload (pc := 269) C dL_clock_269 rfl ?_
    exact x_iret (pc := 271) C hQ dL_clock_271 (is_iv (by rw [hinv, show i = n by omega]) (by rw [show i = n by omega])) (Nat.le_of_ble_eq_true rfl) (Nat.le_of_ble_eq_true rfl)
  | succ k ih =>
    intro i c hk hinv
    refine x_iload (pc := 8) C dL_clock_8 rfl ?_
    refine x_aload_n (pc := 10) C dL_clock_10 rfl ?_
    refine x_iconst (pc := 11) C (1) dL_clock_11 (by decide) ?_
    refine x_topi (nI 1) (by decide) ?_
    refine x_iald (pc := 12) (o := 212) C dL_clock_12 (hI 212 rfl) ⟨rfl, rfl⟩ (show _ < 3 by decide) (by decide) ?_
    refine x_topi (nI n) hn ?_
    refine x_icmp_ge (pc := 13) (tgt := 269) C dL_clock_13 (by decide) (fun h13 => absurd h13 (by exact nI_ge (by omega) (by omega))) (fun h13 => ?_)
    refine x_bipush (pc := 16) C (9) dL_clock_16 (by decide) ?_
    refine x_iload (pc := 18) C dL_clock_18 rfl ?_
    refine x_imul (pc := 20) C dL_clock_20 ?_
    refine x_topi (nI (9 * i)) (pk_mul (9) (i)) ?_
    refine y_istore (pc := 21) C dL_clock_21 (by decide) rfl ?_
    refine x_aload_n (pc := 23) C dL_clock_23 rfl ?_
    refine x_iload (pc := 24) C dL_clock_24 rfl ?_
    refine x_iconst (pc := 26) C (2) dL_clock_26 (by decide) ?_
    refine x_iadd (pc := 27) C dL_clock_27 ?_
    refine x_topi (nI (9 * i + 2)) (nI_add (9 * i) (2)) ?_
    refine x_iald (pc := 28) (o := 213) C dL_clock_28 (hI 213 rfl) ⟨rfl, rfl⟩ (show _ < 63 by omega) (by decide) ?_
    refine x_topi (GF V 2 i) (rfl) ?_
    refine x_iload_n (pc := 29) C dL_clock_29 rfl ?_
    refine x_icmp_eq (pc := 30) (tgt := 36) C dL_clock_30 (by decide) (fun h30 => ?_) (fun h30 => ?_)
    · refine x_iload (pc := 36) C dL_clock_36 rfl ?_
      refine x_aload_n (pc := 38) C dL_clock_38 rfl ?_
      refine x_iload (pc := 39) C dL_clock_39 rfl ?_
      refine x_iconst (pc := 41) C (3) dL_clock_41 (by decide) ?_
      refine x_iadd (pc := 42) C dL_clock_42 ?_
      refine x_topi (nI (9 * i + 3)) (nI_add (9 * i) (3)) ?_
      refine x_iald (pc := 43) (o := 213) C dL_clock_43 (hI 213 rfl) ⟨rfl, rfl⟩ (show _ < 63 by omega) (by decide) ?_
      refine x_topi (GF V 3 i) (rfl) ?_
      have J58 : Wx E 58 [some (aI d), some (aR 210), some (aR 212), some (aR 213), some (aR 219), some (aI c), some (aI (nI i)), some (aI (nI (9 * i))), none, none] [aI (atR (GF V) c i)] (ckW 219 V d i) L N I 0 0 := by
        refine y_istore (pc := 58) C dL_clock_58 (by decide) rfl ?_
        refine x_aload (pc := 60) C dL_clock_60 rfl ?_
        refine x_iconst (pc := 62) C (4) dL_clock_62 (by decide) ?_
        refine x_iload (pc := 63) C dL_clock_63 rfl ?_
        refine x_imul (pc := 65) C dL_clock_65 ?_
        refine x_topi (nI (4 * i)) (pk_mul (4) (i)) ?_
        refine x_iconst (pc := 66) C (-1) dL_clock_66 (by decide) ?_
        refine x_iast (pc := 67) (o := 219) C dL_clock_67 ho ⟨rfl, rfl⟩ (show _ < 28 by omega) (by decide) ?_
        refine x_aload (pc := 68) C dL_clock_68 rfl ?_
        refine x_iconst (pc := 70) C (4) dL_clock_70 (by decide) ?_
        refine x_iload (pc := 71) C dL_clock_71 rfl ?_
        refine x_imul (pc := 73) C dL_clock_73 ?_
        refine x_topi (nI (4 * i)) (pk_mul (4) (i)) ?_
        refine x_iconst (pc := 74) C (1) dL_clock_74 (by decide) ?_
        refine x_iadd (pc := 75) C dL_clock_75 ?_
        refine x_topi (nI (4 * i + 1)) (nI_add (4 * i) (1)) ?_
        refine x_iconst (pc := 76) C (0) dL_clock_76 (by decide) ?_
        refine x_iast (pc := 77) (o := 219) C dL_clock_77 ho ⟨rfl, rfl⟩ (show _ < 28 by omega) (by decide) ?_
        refine x_aload (pc := 78) C dL_clock_78 rfl ?_
        refine x_iconst (pc := 80) C (4) dL_clock_80 (by decide) ?_
        refine x_iload (pc := 81) C dL_clock_81 rfl ?_
        refine x_imul (pc := 83) C dL_clock_83 ?_
        refine x_topi (nI (4 * i)) (pk_mul (4) (i)) ?_
        refine x_iconst (pc := 84) C (2) dL_clock_84 (by decide) ?_
        refine x_iadd (pc := 85) C dL_clock_85 ?_
        refine x_topi (nI (4 * i + 2)) (nI_add (4 * i) (2)) ?_
        refine x_iload (pc := 86) C dL_clock_86 rfl ?_
        refine x_aload_n (pc := 88) C dL_clock_88 rfl ?_
        refine x_iload (pc := 89) C dL_clock_89 rfl ?_
        refine x_iconst (pc := 91) C (3) dL_clock_91 (by decide) ?_
        refine x_iadd (pc := 92) C dL_clock_92 ?_
        refine x_topi (nI (9 * i + 3)) (nI_add (9 * i) (3)) ?_
        refine x_iald (pc := 93) (o := 213) C dL_clock_93 (hI 213 rfl) ⟨rfl, rfl⟩ (show _ < 63 by omega) (by decide) ?_
        refine x_topi (GF V 3 i) (rfl) ?_
        refine x_isub (pc := 94) C dL_clock_94 ?_
        refine x_iast (pc := 95) (o := 219) C dL_clock_95 ho ⟨rfl, rfl⟩ (show _ < 28 by omega) (by decide) ?_
        refine x_aload (pc := 96) C dL_clock_96 rfl ?_
        refine x_iconst (pc := 98) C (4) dL_clock_98 (by decide) ?_
        refine x_iload (pc := 99) C dL_clock_99 rfl ?_
        refine x_imul (pc := 101) C dL_clock_101 ?_
        refine x_topi (nI (4 * i)) (pk_mul (4) (i)) ?_
        refine x_iconst (pc := 102) C (3) dL_clock_102 (by decide) ?_
        refine x_iadd (pc := 103) C dL_clock_103 ?_
        refine x_topi (nI (4 * i + 3)) (nI_add (4 * i) (3)) ?_
        refine x_iconst (pc := 104) C (2) dL_clock_104 (by decide) ?_
        refine x_iast (pc := 105) (o := 219) C dL_clock_105 ho ⟨rfl, rfl⟩ (show _ < 28 by omega) (by decide) ?_
        refine x_iload (pc := 106) C dL_clock_106 rfl ?_
        refine x_aload_n (pc := 108) C dL_clock_108 rfl ?_
        refine x_iload (pc := 109) C dL_clock_109 rfl ?_
        refine x_iconst (pc := 111) C (3) dL_clock_111 (by decide) ?_
        refine x_iadd (pc := 112) C dL_clock_112 ?_
        refine x_topi (nI (9 * i + 3)) (nI_add (9 * i) (3)) ?_
        refine x_iald (pc := 113) (o := 213) C dL_clock_113 (hI 213 rfl) ⟨rfl, rfl⟩ (show _ < 63 by omega) (by decide) ?_
        refine x_topi (GF V 3 i) (rfl) ?_
        refine x_isub (pc := 114) C dL_clock_114 ?_
        refine x_aload_n (pc := 115) C dL_clock_115 rfl ?_
        refine x_aload_n (pc := 116) C dL_clock_116 rfl ?_
        refine x_iload (pc := 117) C dL_clock_117 rfl ?_
        refine x_iald (pc := 119) (o := 213) C dL_clock_119 (hI 213 rfl) ⟨rfl, rfl⟩ (show _ < 63 by omega) (by decide) ?_
        refine x_topi (GF V 0 i) (rfl) ?_
        have J129 : Wx E 129 [some (aI d), some (aR 210), some (aR 212), some (aR 213), some (aR 219), some (aI c), some (aI (nI i)), some (aI (nI (9 * i))), some (aI (atR (GF V) c i)), none] [aI (patS (GF V) (V 210) i), aI ((atR (GF V) c i) - GF V 3 i)] (up (up (up (up (ckW 219 V d i) 219 (4 * i) (-1)) 219 (4 * i + 1) 0) 219 (4 * i + 2) ((atR (GF V) c i) - GF V 3 i)) 219 (4 * i + 3) 2) L N I 0 0 := by
          refine x_icmp_gt (pc := 129) (tgt := 263) C dL_clock_129 (by decide) (fun h129 => ?_) (fun h129 => ?_)
          · refine y_iinc (pc := 263) C (nI (i + 1)) dL_clock_263 rfl (by exact nI_1 i) (by decide) rfl ?_
            refine x_goto (pc := 266) (tgt := 8) C dL_clock_266 (by decide) ?_
            have hdr : drR (GF V) (V 210) c i = true := by first | exact dw_1 h129 | exact dw_2 (Int32.not_lt.mp h137)
            refine x_fgt 7 ?_
            refine x_fgt 8 ?_
            refine x_fgt 9 ?_
            refine x_mem (ck_dr (o := 219) h30 (by rw [← hinv]; exact hdr) (by rw [← hinv])) ?_
            exact ih (i + 1) _ (by omega) (by rw [clkR, if_neg (fun z => by rw [← hinv] at z; rw [hdr] at z; exact absurd z.2 (by decide)), hinv])
          · refine x_iload (pc := 132) C dL_clock_132 rfl ?_
            refine x_aload_n (pc := 134) C dL_clock_134 rfl ?_
            refine x_iconst (pc := 135) C (1) dL_clock_135 (by decide) ?_
            refine x_topi (nI 1) (by decide) ?_
            refine x_iald (pc := 136) (o := 210) C dL_clock_136 (hI 210 rfl) ⟨rfl, rfl⟩ (show _ < 8 by decide) (by decide) ?_
            refine x_topi (V 210 1) (rfl) ?_
            refine x_icmp_lt (pc := 137) (tgt := 143) C dL_clock_137 (by decide) (fun h137 => ?_) (fun h137 => ?_)
            · refine x_iload (pc := 143) C dL_clock_143 rfl ?_
              refine x_aload_n (pc := 145) C dL_clock_145 rfl ?_
              refine x_iload (pc := 146) C dL_clock_146 rfl ?_
              refine x_iconst (pc := 148) C (4) dL_clock_148 (by decide) ?_
              refine x_iadd (pc := 149) C dL_clock_149 ?_
              refine x_topi (nI (9 * i + 4)) (nI_add (9 * i) (4)) ?_
              refine x_iald (pc := 150) (o := 213) C dL_clock_150 (hI 213 rfl) ⟨rfl, rfl⟩ (show _ < 63 by omega) (by decide) ?_
              refine x_topi (GF V 4 i) (rfl) ?_
              refine x_aload_n (pc := 151) C dL_clock_151 rfl ?_
              refine x_iload (pc := 152) C dL_clock_152 rfl ?_
              refine x_bipush (pc := 154) C (6) dL_clock_154 (by decide) ?_
              refine x_iadd (pc := 156) C dL_clock_156 ?_
              refine x_topi (nI (9 * i + 6)) (nI_add (9 * i) (6)) ?_
              refine x_iald (pc := 157) (o := 213) C dL_clock_157 (hI 213 rfl) ⟨rfl, rfl⟩ (show _ < 63 by omega) (by decide) ?_
              refine x_topi (GF V 6 i) (rfl) ?_
              refine x_iadd (pc := 158) C dL_clock_158 ?_
              have J180 : Wx E 180 [some (aI d), some (aR 210), some (aR 212), some (aR 213), some (aR 219), some (aI c), some (aI (nI i)), some (aI (nI (9 * i))), some (aI (atR (GF V) c i)), none] [aI (wantR (GF V) i), aI (atR (GF V) c i)] (up (up (up (up (ckW 219 V d i) 219 (4 * i) (-1)) 219 (4 * i + 1) 0) 219 (4 * i + 2) ((atR (GF V) c i) - GF V 3 i)) 219 (4 * i + 3) 2) L N I 0 0 := by
                refine x_iadd (pc := 180) C dL_clock_180 ?_
                refine y_istore (pc := 181) C dL_clock_181 (by decide) rfl ?_
                refine x_aload (pc := 183) C dL_clock_183 rfl ?_
                refine x_iconst (pc := 185) C (4) dL_clock_185 (by decide) ?_
                refine x_iload (pc := 186) C dL_clock_186 rfl ?_
                refine x_imul (pc := 188) C dL_clock_188 ?_
                refine x_topi (nI (4 * i)) (pk_mul (4) (i)) ?_
                refine x_iload (pc := 189) C dL_clock_189 rfl ?_
                refine x_iast (pc := 191) (o := 219) C dL_clock_191 ho ⟨rfl, rfl⟩ (show _ < 28 by omega) (by decide) ?_
                refine x_aload (pc := 192) C dL_clock_192 rfl ?_
                refine x_iconst (pc := 194) C (4) dL_clock_194 (by decide) ?_
                refine x_iload (pc := 195) C dL_clock_195 rfl ?_
                refine x_imul (pc := 197) C dL_clock_197 ?_
                refine x_topi (nI (4 * i)) (pk_mul (4) (i)) ?_
                refine x_iconst (pc := 198) C (3) dL_clock_198 (by decide) ?_
                refine x_iadd (pc := 199) C dL_clock_199 ?_
                refine x_topi (nI (4 * i + 3)) (nI_add (4 * i) (3)) ?_
                refine x_iload (pc := 200) C dL_clock_200 rfl ?_
                refine x_aload_n (pc := 202) C dL_clock_202 rfl ?_
                refine x_iload (pc := 203) C dL_clock_203 rfl ?_
                refine x_iconst (pc := 205) C (3) dL_clock_205 (by decide) ?_
                refine x_iadd (pc := 206) C dL_clock_206 ?_
                refine x_topi (nI (9 * i + 3)) (nI_add (9 * i) (3)) ?_
                refine x_iald (pc := 207) (o := 213) C dL_clock_207 (hI 213 rfl) ⟨rfl, rfl⟩ (show _ < 63 by omega) (by decide) ?_
                refine x_topi (GF V 3 i) (rfl) ?_
                have J216 : Wx E 216 [some (aI d), some (aR 210), some (aR 212), some (aR 213), some (aR 219), some (aI c), some (aI (nI i)), some (aI (nI (9 * i))), some (aI (atR (GF V) c i)), some (aI ((atR (GF V) c i) + wantR (GF V) i))] [aI (b2i (decide (0 < (atR (GF V) c i) - GF V 3 i))), aI (nI (4 * i + 3)), aR 219] (up (up (up (up (up (ckW 219 V d i) 219 (4 * i) (-1)) 219 (4 * i + 1) 0) 219 (4 * i + 2) ((atR (GF V) c i) - GF V 3 i)) 219 (4 * i + 3) 2) 219 (4 * i) (atR (GF V) c i)) L N I 0 0 := by
                  refine x_iload (pc := 216) C dL_clock_216 rfl ?_
                  refine x_aload_n (pc := 218) C dL_clock_218 rfl ?_
                  refine x_iconst (pc := 219) C (1) dL_clock_219 (by decide) ?_
                  refine x_topi (nI 1) (by decide) ?_
                  refine x_iald (pc := 220) (o := 210) C dL_clock_220 (hI 210 rfl) ⟨rfl, rfl⟩ (show _ < 8 by decide) (by decide) ?_
                  refine x_topi (V 210 1) (rfl) ?_
                  have J229 : Wx E 229 [some (aI d), some (aR 210), some (aR 212), some (aR 213), some (aR 219), some (aI c), some (aI (nI i)), some (aI (nI (9 * i))), some (aI (atR (GF V) c i)), some (aI ((atR (GF V) c i) + wantR (GF V) i))] [aI (if cutR (GF V) (V 210) c i = true then 4 else 0), aI (b2i (decide (0 < (atR (GF V) c i) - GF V 3 i))), aI (nI (4 * i + 3)), aR 219] (up (up (up (up (up (ckW 219 V d i) 219 (4 * i) (-1)) 219 (4 * i + 1) 0) 219 (4 * i + 2) ((atR (GF V) c i) - GF V 3 i)) 219 (4 * i + 3) 2) 219 (4 * i) (atR (GF V) c i)) L N I 0 0 := by
                    refine x_iadd (pc := 229) C dL_clock_229 ?_
                    refine x_iast (pc := 230) (o := 219) C dL_clock_230 ho ⟨rfl, rfl⟩ (show _ < 28 by omega) (by decide) ?_
                    refine x_iload (pc := 231) C dL_clock_231 rfl ?_
                    refine x_aload_n (pc := 233) C dL_clock_233 rfl ?_
                    refine x_iconst (pc := 234) C (1) dL_clock_234 (by decide) ?_
                    refine x_topi (nI 1) (by decide) ?_
                    refine x_iald (pc := 235) (o := 210) C dL_clock_235 (hI 210 rfl) ⟨rfl, rfl⟩ (show _ < 8 by decide) (by decide) ?_
                    refine x_topi (V 210 1) (rfl) ?_
                    have J247 : Wx E 247 [some (aI d), some (aR 210), some (aR 212), some (aR 213), some (aR 219), some (aI c), some (aI (nI i)), some (aI (nI (9 * i))), some (aI (atR (GF V) c i)), some (aI ((atR (GF V) c i) + wantR (GF V) i))] [aI (if V 210 1 < ((atR (GF V) c i) + wantR (GF V) i) then V 210 1 else ((atR (GF V) c i) + wantR (GF V) i))] (up (up (up (up (up (up (ckW 219 V d i) 219 (4 * i) (-1)) 219 (4 * i + 1) 0) 219 (4 * i + 2) ((atR (GF V) c i) - GF V 3 i)) 219 (4 * i + 3) 2) 219 (4 * i) (atR (GF V) c i)) 219 (4 * i + 3) (sttR (GF V) (V 210) c i)) L N I 0 0 := by
                      refine y_istore (pc := 247) C dL_clock_247 (by decide) rfl ?_
                      refine x_aload (pc := 249) C dL_clock_249 rfl ?_
                      refine x_iconst (pc := 251) C (4) dL_clock_251 (by decide) ?_
                      refine x_iload (pc := 252) C dL_clock_252 rfl ?_
                      refine x_imul (pc := 254) C dL_clock_254 ?_
                      refine x_topi (nI (4 * i)) (pk_mul (4) (i)) ?_
                      refine x_iconst (pc := 255) C (1) dL_clock_255 (by decide) ?_
                      refine x_iadd (pc := 256) C dL_clock_256 ?_
                      refine x_topi (nI (4 * i + 1)) (nI_add (4 * i) (1)) ?_
                      refine x_iload (pc := 257) C dL_clock_257 rfl ?_
                      refine x_iload (pc := 259) C dL_clock_259 rfl ?_
                      refine x_isub (pc := 261) C dL_clock_261 ?_
                      refine x_iast (pc := 262) (o := 219) C dL_clock_262 ho ⟨rfl, rfl⟩ (show _ < 28 by omega) (by decide) ?_
                      refine y_iinc (pc := 263) C (nI (i + 1)) dL_clock_263 rfl (by exact nI_1 i) (by decide) rfl ?_
                      refine x_goto (pc := 266) (tgt := 8) C dL_clock_266 (by decide) ?_
                      have hcf := ck_for (F := GF V) (G := V 210) (c := c) (s := i) (x := (if V 210 1 < ((atR (GF V) c i) + wantR (GF V) i) then V 210 1 else ((atR (GF V) c i) + wantR (GF V) i))) rfl
                      have hnd : ¬ drR (GF V) (V 210) c i = true := dw_0 h129 (Int32.not_le.mpr h137)
                      refine x_fgt 7 ?_
                      refine x_fgt 8 ?_
                      refine x_fgt 9 ?_
                      refine x_mem (ck_on (o := 219) h30 (by rw [← hinv]; exact hnd) (by rw [← hinv]) (by rw [← hinv]) (by rw [← hinv]) (by rw [← hinv]; exact hcf.1)) ?_
                      exact ih (i + 1) _ (by omega) (hcf.2.trans (by rw [clkR, if_pos ⟨h30, by rw [← hinv]; exact Bool.eq_false_iff.mpr hnd⟩, ← hinv]))
                    refine x_icmp_le (pc := 236) (tgt := 245) C dL_clock_236 (by decide) (fun h236 => ?_) (fun h236 => ?_)
                    · refine x_iload (pc := 245) C dL_clock_245 rfl ?_
                      refine x_topi (if V 210 1 < ((atR (GF V) c i) + wantR (GF V) i) then V 210 1 else ((atR (GF V) c i) + wantR (GF V) i)) (by rw [if_neg (Int32.not_lt.mpr h236)]) ?_
                      exact J247
                    · refine x_aload_n (pc := 239) C dL_clock_239 rfl ?_
                      refine x_iconst (pc := 240) C (1) dL_clock_240 (by decide) ?_
                      refine x_topi (nI 1) (by decide) ?_
                      refine x_iald (pc := 241) (o := 210) C dL_clock_241 (hI 210 rfl) ⟨rfl, rfl⟩ (show _ < 8 by decide) (by decide) ?_
                      refine x_topi (V 210 1) (rfl) ?_
                      refine x_goto (pc := 242) (tgt := 247) C dL_clock_242 (by decide) ?_
                      refine x_topi (if V 210 1 < ((atR (GF V) c i) + wantR (GF V) i) then V 210 1 else ((atR (GF V) c i) + wantR (GF V) i)) (by rw [if_pos (Int32.not_le.mp h236)]) ?_
                      exact J247
                  refine x_icmp_le (pc := 221) (tgt := 228) C dL_clock_221 (by decide) (fun h221 => ?_) (fun h221 => ?_)
                  · refine x_iconst (pc := 228) C (0) dL_clock_228 (by decide) ?_
                    refine x_topi (if cutR (GF V) (V 210) c i = true then 4 else 0) ((if_neg (show ¬ cutR (GF V) (V 210) c i = true from fun z => absurd (of_decide_eq_true z) (Int32.not_lt.mpr h221))).symm) ?_
                    exact J229
                  · refine x_iconst (pc := 224) C (4) dL_clock_224 (by decide) ?_
                    refine x_goto (pc := 225) (tgt := 229) C dL_clock_225 (by decide) ?_
                    refine x_topi (if cutR (GF V) (V 210) c i = true then 4 else 0) ((if_pos (show cutR (GF V) (V 210) c i = true from decide_eq_true (Int32.not_le.mp h221))).symm) ?_
                    exact J229
                refine x_icmp_le (pc := 208) (tgt := 215) C dL_clock_208 (by decide) (fun h208 => ?_) (fun h208 => ?_)
                · refine x_iconst (pc := 215) C (0) dL_clock_215 (by decide) ?_
                  refine x_topi (b2i (decide (0 < (atR (GF V) c i) - GF V 3 i))) (by rw [b2i, if_neg (by rw [decide_eq_true_eq]; exact (at_del (hB i (by omega)).2.2.2.1.1).mp h208)]) ?_
                  exact J216
                · refine x_iconst (pc := 211) C (1) dL_clock_211 (by decide) ?_
                  refine x_goto (pc := 212) (tgt := 216) C dL_clock_212 (by decide) ?_
                  refine x_topi (b2i (decide (0 < (atR (GF V) c i) - GF V 3 i))) (by rw [b2i, if_pos (by rw [decide_eq_true_eq]; exact Decidable.not_not.mp (fun z => h208 ((at_del (hB i (by omega)).2.2.2.1.1).mpr z)))]) ?_
                  exact J216
              refine x_if_le (pc := 159) (tgt := 179) C dL_clock_159 (by decide) (fun h159 => ?_) (fun h159 => ?_)
              · refine x_iconst (pc := 179) C (1) dL_clock_179 (by decide) ?_
                refine x_topi (wantR (GF V) i) (by rw [wantR, if_pos (le_0 h159)]) ?_
                exact J180
              · refine x_aload_n (pc := 162) C dL_clock_162 rfl ?_
                refine x_iload (pc := 163) C dL_clock_163 rfl ?_
                refine x_iconst (pc := 165) C (4) dL_clock_165 (by decide) ?_
                refine x_iadd (pc := 166) C dL_clock_166 ?_
                refine x_topi (nI (9 * i + 4)) (nI_add (9 * i) (4)) ?_
                refine x_iald (pc := 167) (o := 213) C dL_clock_167 (hI 213 rfl) ⟨rfl, rfl⟩ (show _ < 63 by omega) (by decide) ?_
                refine x_topi (GF V 4 i) (rfl) ?_
                refine x_aload_n (pc := 168) C dL_clock_168 rfl ?_
                refine x_iload (pc := 169) C dL_clock_169 rfl ?_
                refine x_bipush (pc := 171) C (6) dL_clock_171 (by decide) ?_
                refine x_iadd (pc := 173) C dL_clock_173 ?_
                refine x_topi (nI (9 * i + 6)) (nI_add (9 * i) (6)) ?_
                refine x_iald (pc := 174) (o := 213) C dL_clock_174 (hI 213 rfl) ⟨rfl, rfl⟩ (show _ < 63 by omega) (by decide) ?_
                refine x_topi (GF V 6 i) (rfl) ?_
                refine x_iadd (pc := 175) C dL_clock_175 ?_
                refine x_goto (pc := 176) (tgt := 180) C dL_clock_176 (by decide) ?_
                refine x_topi (wantR (GF V) i) (by rw [wantR, if_neg (nle_0 h159)]) ?_
                exact J180
            · refine x_goto (pc := 140) (tgt := 263) C dL_clock_140 (by decide) ?_
              refine y_iinc (pc := 263) C (nI (i + 1)) dL_clock_263 rfl (by exact nI_1 i) (by decide) rfl ?_
              refine x_goto (pc := 266) (tgt := 8) C dL_clock_266 (by decide) ?_
              have hdr : drR (GF V) (V 210) c i = true := by first | exact dw_1 h129 | exact dw_2 (Int32.not_lt.mp h137)
              refine x_fgt 7 ?_
              refine x_fgt 8 ?_
              refine x_fgt 9 ?_
              refine x_mem (ck_dr (o := 219) h30 (by rw [← hinv]; exact hdr) (by rw [← hinv])) ?_
              exact ih (i + 1) _ (by omega) (by rw [clkR, if_neg (fun z => by rw [← hinv] at z; rw [hdr] at z; exact absurd z.2 (by decide)), hinv])
        refine x_if_ne (pc := 120) (tgt := 127) C dL_clock_120 (by decide) (fun h120 => ?_) (fun h120 => ?_)
        · refine x_iconst (pc := 127) C (3) dL_clock_127 (by decide) ?_
          refine x_topi (nI 3) (by decide) ?_
          refine x_iald (pc := 128) (o := 210) C dL_clock_128 (hI 210 rfl) ⟨rfl, rfl⟩ (show _ < 8 by decide) (by decide) ?_
          refine x_topi (V 210 3) (rfl) ?_
          refine x_topi (patS (GF V) (V 210) i) (by rw [patS, if_neg h120]) ?_
          exact J129
        · refine x_iconst (pc := 123) C (2) dL_clock_123 (by decide) ?_
          refine x_goto (pc := 124) (tgt := 128) C dL_clock_124 (by decide) ?_
          refine x_topi (nI 2) (by decide) ?_
          refine x_iald (pc := 128) (o := 210) C dL_clock_128 (hI 210 rfl) ⟨rfl, rfl⟩ (show _ < 8 by decide) (by decide) ?_
          refine x_topi (V 210 2) (rfl) ?_
          refine x_topi (patS (GF V) (V 210) i) (by rw [patS, if_pos h120]) ?_
          exact J129
      refine x_icmp_ge (pc := 44) (tgt := 56) C dL_clock_44 (by decide) (fun h44 => ?_) (fun h44 => ?_)
      · refine x_iload (pc := 56) C dL_clock_56 rfl ?_
        refine x_topi (atR (GF V) c i) (by rw [atR, if_pos h44]) ?_
        exact J58
      · refine x_aload_n (pc := 47) C dL_clock_47 rfl ?_
        refine x_iload (pc := 48) C dL_clock_48 rfl ?_
        refine x_iconst (pc := 50) C (3) dL_clock_50 (by decide) ?_
        refine x_iadd (pc := 51) C dL_clock_51 ?_
        refine x_topi (nI (9 * i + 3)) (nI_add (9 * i) (3)) ?_
        refine x_iald (pc := 52) (o := 213) C dL_clock_52 (hI 213 rfl) ⟨rfl, rfl⟩ (show _ < 63 by omega) (by decide) ?_
        refine x_topi (GF V 3 i) (rfl) ?_
        refine x_goto (pc := 53) (tgt := 58) C dL_clock_53 (by decide) ?_
        refine x_topi (atR (GF V) c i) (by rw [atR, if_neg h44]) ?_
        exact J58
    · refine x_goto (pc := 33) (tgt := 263) C dL_clock_33 (by decide) ?_
      refine y_iinc (pc := 263) C (nI (i + 1)) dL_clock_263 rfl (by exact nI_1 i) (by decide) rfl ?_
      refine x_goto (pc := 266) (tgt := 8) C dL_clock_266 (by decide) ?_
      refine x_fgt 7 ?_
      refine x_fgt 8 ?_
      refine x_fgt 9 ?_
      refine x_mem (ckW_skip h30) ?_
      exact ih (i + 1) _ (by omega) (by rw [clkR, if_neg (fun z => h30 z.1), hinv])
set_option maxRecDepth 100000 in
set_option maxHeartbeats 4000000 in
theorem c_L_aired {l : Launch} {V : VV} {L : LL} {N : NN} {I : List Nat} (hI : PI I) (ho : 218 ∈ I) {n : Nat} (hn : V 212 1 = nI n) (hn6 : n ≤ 6) {G : Nat → Int32} (hG : GB G) (hB : ∀ s, s < n → ShB (GF V) s) (d : Int32) (hA : ∀ s, s < n → GF V 2 s = d → ∀ k, k < 4 → AW 218 V k s = airR (GF V) G k s) (hh : Nat) (hh24 : hh < 24) : Runs l 1 0 0 yL_aired (Cond.code yL_aired cL_aired 8 (some .int)) [aI d, aI (nI hh), aR 212, aR 213, aR 218] V L N I (Is (some (aI (airedR (GF V) (AW 218 V) n d (nI hh)))) (V) (L) N I) := by
  refine run_of RL (by decide +kernel) rfl (Nat.le_of_ble_eq_true rfl) (fun E hE C hQ hN => ?_)
  subst hE
  refine x_iconst (pc := 0) C (0) dL_aired_0 (by decide) ?_
  refine y_istore (pc := 1) C dL_aired_1 (by decide) rfl ?_
  refine x_iconst (pc := 3) C (0) dL_aired_3 (by decide) ?_
  refine y_istore (pc := 4) C dL_aired_4 (by decide) rfl ?_
  suffices keyk : ∀ (k i : Nat) (s : Int32), k + i = n → (s = sumTo (fun s => cntA (GF V) (AW 218 V) d (nI hh) s (minN (GF V) (AW 218 V) s)) i) → Wx E 6 [some (aI d), some (aI (nI hh)), some (aR 212), some (aR 213), some (aR 218), some (aI s), some (aI (nI i)), none] [] V L N I 0 0 by
    exact keyk (n) (0) 0 (by omega) (rfl)
  intro k
  induction k with
  | zero =>
    intro i s hk hinv
    refine x_iload (pc := 6) C dL_aired_6 rfl ?_
    refine x_aload_n (pc := 8) C dL_aired_8 rfl ?_
    refine x_iconst (pc := 9) C (1) dL_aired_9 (by decide) ?_
    refine x_topi (nI 1) (by decide) ?_
    refine x_iald (pc := 10) (o := 212) C dL_aired_10 (hI 212 rfl) ⟨rfl, rfl⟩ (show _ < 3 by decide) (by decide) ?_
    refine x_topi (nI n) hn ?_
    refine x_icmp_ge (pc := 11) (tgt := 97) C dL_aired_11 (by decide) (fun h11 => ?_) (fun h11 => absurd (by exact nI_le (by omega) (by omega)) h11)
    refine x_iload (pc := 97) C dL_aired_97 rfl ?_
    exact x_iret (pc := 99) C hQ dL_aired_99 (is_i (by rw [hinv, show i = n by omega]; exact airM_eq hG hB hA (by omega))) (Nat.le_of_ble_eq_true rfl) (Nat.le_of_ble_eq_true rfl)
  | succ k ih =>
    intro i s hk hinv
    refine x_iload (pc := 6) C dL_aired_6 rfl ?_
    refine x_aload_n (pc := 8) C dL_aired_8 rfl ?_
    refine x_iconst (pc := 9) C (1) dL_aired_9 (by decide) ?_
    refine x_topi (nI 1) (by decide) ?_
    refine x_iald (pc := 10) (o := 212) C dL_aired_10 (hI 212 rfl) ⟨rfl, rfl⟩ (show _ < 3 by decide) (by decide) ?_
    refine x_topi (nI n) hn ?_
    refine x_icmp_ge (pc := 11) (tgt := 97) C dL_aired_11 (by decide) (fun h11 => absurd h11 (by exact nI_ge (by omega) (by omega))) (fun h11 => ?_)
    refine x_iconst (pc := 14) C (0) dL_aired_14 (by decide) ?_
    refine y_istore (pc := 15) C dL_aired_15 (by decide) rfl ?_
    suffices keyk2 : ∀ (k2 j : Nat) (s2 : Int32), k2 + j = minN (GF V) (AW 218 V) i → (s2 = sumTo (fun s => cntA (GF V) (AW 218 V) d (nI hh) s (minN (GF V) (AW 218 V) s)) i + cntA (GF V) (AW 218 V) d (nI hh) i j) → Wx E 17 [some (aI d), some (aI (nI hh)), some (aR 212), some (aR 213), some (aR 218), some (aI s2), some (aI (nI i)), some (aI (nI j))] [] V L N I 0 0 by
      exact keyk2 (minN (GF V) (AW 218 V) i) (0) _ (by omega) (by rw [hinv]; exact (Int32.add_zero _).symm)
    intro k2
    induction k2 with
    | zero =>
      intro j s2 hk2 hinv2
      refine x_iload (pc := 17) C dL_aired_17 rfl ?_
      refine x_aload_n (pc := 19) C dL_aired_19 rfl ?_
      refine x_bipush (pc := 20) C (9) dL_aired_20 (by decide) ?_
      refine x_iload (pc := 22) C dL_aired_22 rfl ?_
      refine x_imul (pc := 24) C dL_aired_24 ?_
      refine x_topi (nI (9 * i)) (pk_mul (9) (i)) ?_
      refine x_iconst (pc := 25) C (5) dL_aired_25 (by decide) ?_
      refine x_iadd (pc := 26) C dL_aired_26 ?_
      refine x_topi (nI (9 * i + 5)) (nI_add (9 * i) (5)) ?_
      refine x_iald (pc := 27) (o := 213) C dL_aired_27 (hI 213 rfl) ⟨rfl, rfl⟩ (show _ < 63 by omega) (by decide) ?_
      refine x_topi (GF V 5 i) (rfl) ?_
      refine x_icmp_ge (pc := 28) (tgt := 91) C dL_aired_28 (by decide) (fun h28 => ?_) (fun h28 => ?_)
      · refine y_iinc (pc := 91) C (nI (i + 1)) dL_aired_91 rfl (by exact nI_1 i) (by decide) rfl ?_
        refine x_goto (pc := 94) (tgt := 6) C dL_aired_94 (by decide) ?_
        refine x_fgt 7 ?_
        exact ih (i + 1) _ (by omega) (by rw [sumTo, hinv2, show j = minN (GF V) (AW 218 V) i by omega])
      · refine x_iload (pc := 31) C dL_aired_31 rfl ?_
        refine x_aload (pc := 33) C dL_aired_33 rfl ?_
        refine x_iconst (pc := 35) C (4) dL_aired_35 (by decide) ?_
        refine x_iload (pc := 36) C dL_aired_36 rfl ?_
        refine x_imul (pc := 38) C dL_aired_38 ?_
        refine x_topi (nI (4 * i)) (pk_mul (4) (i)) ?_
        refine x_iconst (pc := 39) C (1) dL_aired_39 (by decide) ?_
        refine x_iadd (pc := 40) C dL_aired_40 ?_
        refine x_topi (nI (4 * i + 1)) (nI_add (4 * i) (1)) ?_
        refine x_iald (pc := 41) (o := 218) C dL_aired_41 ho ⟨rfl, rfl⟩ (show _ < 28 by omega) (by decide) ?_
        refine x_topi (AW 218 V 1 i) (rfl) ?_
        refine x_icmp_ge (pc := 42) (tgt := 91) C dL_aired_42 (by decide) (fun h42 => ?_) (fun h42 => absurd (by exact cl_ge (x := AW 218 V 1 i) (by have := cl_b (GF V 5 i); have h9 : ¬ (GF V 5 i).toNatClampNeg ≤ j := fun z => h28 (cl_ge z (by unfold minN at hk2; omega)); unfold minN at hk2; omega) (by have := cl_b (GF V 5 i); unfold minN at hk2; omega)) h42)
        refine y_iinc (pc := 91) C (nI (i + 1)) dL_aired_91 rfl (by exact nI_1 i) (by decide) rfl ?_
        refine x_goto (pc := 94) (tgt := 6) C dL_aired_94 (by decide) ?_
        refine x_fgt 7 ?_
        exact ih (i + 1) _ (by omega) (by rw [sumTo, hinv2, show j = minN (GF V) (AW 218 V) i by omega])
    | succ k2 ih2 =>
      intro j s2 hk2 hinv2
      refine x_iload (pc := 17) C dL_aired_17 rfl ?_
      refine x_aload_n (pc := 19) C dL_aired_19 rfl ?_
      refine x_bipush (pc := 20) C (9) dL_aired_20 (by decide) ?_
      refine x_iload (pc := 22) C dL_aired_22 rfl ?_
      refine x_imul (pc := 24) C dL_aired_24 ?_
      refine x_topi (nI (9 * i)) (pk_mul (9) (i)) ?_
      refine x_iconst (pc := 25) C (5) dL_aired_25 (by decide) ?_
      refine x_iadd (pc := 26) C dL_aired_26 ?_
      refine x_topi (nI (9 * i + 5)) (nI_add (9 * i) (5)) ?_
      refine x_iald (pc := 27) (o := 213) C dL_aired_27 (hI 213 rfl) ⟨rfl, rfl⟩ (show _ < 63 by omega) (by decide) ?_
      refine x_topi (GF V 5 i) (rfl) ?_
      refine x_icmp_ge (pc := 28) (tgt := 91) C dL_aired_28 (by decide) (fun h28 => absurd h28 (by exact cl_lt (x := GF V 5 i) (by unfold minN at hk2; omega))) (fun h28 => ?_)
      refine x_iload (pc := 31) C dL_aired_31 rfl ?_
      refine x_aload (pc := 33) C dL_aired_33 rfl ?_
      refine x_iconst (pc := 35) C (4) dL_aired_35 (by decide) ?_
      refine x_iload (pc := 36) C dL_aired_36 rfl ?_
      refine x_imul (pc := 38) C dL_aired_38 ?_
      refine x_topi (nI (4 * i)) (pk_mul (4) (i)) ?_
      refine x_iconst (pc := 39) C (1) dL_aired_39 (by decide) ?_
      refine x_iadd (pc := 40) C dL_aired_40 ?_
      refine x_topi (nI (4 * i + 1)) (nI_add (4 * i) (1)) ?_
      refine x_iald (pc := 41) (o := 218) C dL_aired_41 ho ⟨rfl, rfl⟩ (show _ < 28 by omega) (by decide) ?_
      refine x_topi (AW 218 V 1 i) (rfl) ?_
      refine x_icmp_ge (pc := 42) (tgt := 91) C dL_aired_42 (by decide) (fun h42 => absurd h42 (by exact cl_lt (x := AW 218 V 1 i) (by unfold minN at hk2; omega))) (fun h42 => ?_)
      refine x_iload (pc := 45) C dL_aired_45 rfl ?_
      refine x_aload_n (pc := 47) C dL_aired_47 rfl ?_
      refine x_bipush (pc := 48) C (9) dL_aired_48 (by decide) ?_
      refine x_iload (pc := 50) C dL_aired_50 rfl ?_
      refine x_imul (pc := 52) C dL_aired_52 ?_
      refine x_topi (nI (9 * i)) (pk_mul (9) (i)) ?_
      refine x_iconst (pc := 53) C (2) dL_aired_53 (by decide) ?_
      refine x_iadd (pc := 54) C dL_aired_54 ?_
      refine x_topi (nI (9 * i + 2)) (nI_add (9 * i) (2)) ?_
      refine x_iald (pc := 55) (o := 213) C dL_aired_55 (hI 213 rfl) ⟨rfl, rfl⟩ (show _ < 63 by omega) (by decide) ?_
      refine x_topi (GF V 2 i) (rfl) ?_
      refine x_iload_n (pc := 56) C dL_aired_56 rfl ?_
      refine x_icmp_ne (pc := 57) (tgt := 81) C dL_aired_57 (by decide) (fun h57 => ?_) (fun h57 => ?_)
      · refine x_iconst (pc := 81) C (0) dL_aired_81 (by decide) ?_
        refine x_iadd (pc := 82) C dL_aired_82 ?_
        refine y_istore (pc := 83) C dL_aired_83 (by decide) rfl ?_
        refine y_iinc (pc := 85) C (nI (j + 1)) dL_aired_85 rfl (by exact nI_1 j) (by decide) rfl ?_
        refine x_goto (pc := 88) (tgt := 17) C dL_aired_88 (by decide) ?_
        exact ih2 (j + 1) _ (by omega) (by rw [hinv2, Int32.add_zero, cntA, cntA, sumTo, if_neg (fun z => h57 z.1), Int32.add_zero])
      · refine x_aload (pc := 60) C dL_aired_60 rfl ?_
        refine x_iconst (pc := 62) C (4) dL_aired_62 (by decide) ?_
        refine x_iload (pc := 63) C dL_aired_63 rfl ?_
        refine x_imul (pc := 65) C dL_aired_65 ?_
        refine x_topi (nI (4 * i)) (pk_mul (4) (i)) ?_
        refine x_iald (pc := 66) (o := 218) C dL_aired_66 ho ⟨rfl, rfl⟩ (show _ < 28 by omega) (by decide) ?_
        refine x_topi (AW 218 V 0 i) (rfl) ?_
        refine x_iload (pc := 67) C dL_aired_67 rfl ?_
        refine x_iadd (pc := 69) C dL_aired_69 ?_
        refine x_bipush (pc := 70) C (60) dL_aired_70 (by decide) ?_
        refine x_idiv (pc := 72) C dL_aired_72 (by decide) ?_
        refine x_iload_n (pc := 73) C dL_aired_73 rfl ?_
        refine x_icmp_ne (pc := 74) (tgt := 81) C dL_aired_74 (by decide) (fun h74 => ?_) (fun h74 => ?_)
        · refine x_iconst (pc := 81) C (0) dL_aired_81 (by decide) ?_
          refine x_iadd (pc := 82) C dL_aired_82 ?_
          refine y_istore (pc := 83) C dL_aired_83 (by decide) rfl ?_
          refine y_iinc (pc := 85) C (nI (j + 1)) dL_aired_85 rfl (by exact nI_1 j) (by decide) rfl ?_
          refine x_goto (pc := 88) (tgt := 17) C dL_aired_88 (by decide) ?_
          exact ih2 (j + 1) _ (by omega) (by rw [hinv2, Int32.add_zero, cntA, cntA, sumTo, if_neg (fun z => h74 z.2), Int32.add_zero])
        · refine x_iconst (pc := 77) C (1) dL_aired_77 (by decide) ?_
          refine x_goto (pc := 78) (tgt := 82) C dL_aired_78 (by decide) ?_
          refine x_iadd (pc := 82) C dL_aired_82 ?_
          refine y_istore (pc := 83) C dL_aired_83 (by decide) rfl ?_
          refine y_iinc (pc := 85) C (nI (j + 1)) dL_aired_85 rfl (by exact nI_1 j) (by decide) rfl ?_
          refine x_goto (pc := 88) (tgt := 17) C dL_aired_88 (by decide) ?_
          exact ih2 (j + 1) _ (by omega) (by rw [hinv2, cntA, cntA, sumTo, if_pos ⟨h57, h74⟩, Int32.add_assoc])
set_option maxRecDepth 100000 in
set_option maxHeartbeats 4000000 in
theorem d_L_aired {l : Launch} {V : VV} {L : LL} {N : NN} {I : List Nat} (hI : PI I) (ho : 219 ∈ I) {n : Nat} (hn : V 212 1 = nI n) (hn6 : n ≤ 6) {G : Nat → Int32} (hG : GB G) (hB : ∀ s, s < n → ShB (GF V) s) (d : Int32) (hA : ∀ s, s < n → GF V 2 s = d → ∀ k, k < 4 → AW 219 V k s = airR (GF V) G k s) (hh : Nat) (hh24 : hh < 24) : Runs l 1 0 0 yL_aired (Cond.code yL_aired cL_aired 8 (some .int)) [aI d, aI (nI hh), aR 212, aR 213, aR 219] V L N I (Is (some (aI (airedR (GF V) (AW 219 V) n d (nI hh)))) (V) (L) N I) := by
  refine run_of RL (by decide +kernel) rfl (Nat.le_of_ble_eq_true rfl) (fun E hE C hQ hN => ?_)
  subst hE
  refine x_iconst (pc := 0) C (0) dL_aired_0 (by decide) ?_
  refine y_istore (pc := 1) C dL_aired_1 (by decide) rfl ?_
  refine x_iconst (pc := 3) C (0) dL_aired_3 (by decide) ?_
  refine y_istore (pc := 4) C dL_aired_4 (by decide) rfl ?_
  suffices keyk : ∀ (k i : Nat) (s : Int32), k + i = n → (s = sumTo (fun s => cntA (GF V) (AW 219 V) d (nI hh) s (minN (GF V) (AW 219 V) s)) i) → Wx E 6 [some (aI d), some (aI (nI hh)), some (aR 212), some (aR 213), some (aR 219), some (aI s), some (aI (nI i)), none] [] V L N I 0 0 by
    exact keyk (n) (0) 0 (by omega) (rfl)
  intro k
  induction k with
  | zero =>
    intro i s hk hinv
    refine x_iload (pc := 6) C dL_aired_6 rfl ?_
    refine x_aload_n (pc := 8) C dL_aired_8 rfl ?_
    refine x_iconst (pc := 9) C (1) dL_aired_9 (by decide) ?_
    refine x_topi (nI 1) (by decide) ?_
    refine x_iald (pc := 10) (o := 212) C dL_aired_10 (hI 212 rfl) ⟨rfl, rfl⟩ (show _ < 3 by decide) (by decide) ?_
    refine x_topi (nI n) hn ?_
    refine x_icmp_ge (pc := 11) (tgt := 97) C dL_aired_11 (by decide) (fun h11 => ?_) (fun h11 => absurd (by exact nI_le (by omega) (by omega)) h11)
    refine x_iload (pc := 97) C dL_aired_97 rfl ?_
    exact x_iret (pc := 99) C hQ dL_aired_99 (is_i (by rw [hinv, show i = n by omega]; exact airM_eq hG hB hA (by omega))) (Nat.le_of_ble_eq_true rfl) (Nat.le_of_ble_eq_true rfl)
  | succ k ih =>
    intro i s hk hinv
    refine x_iload (pc := 6) C dL_aired_6 rfl ?_
    refine x_aload_n (pc := 8) C dL_aired_8 rfl ?_
    refine x_iconst (pc := 9) C (1) dL_aired_9 (by decide) ?_
    refine x_topi (nI 1) (by decide) ?_
    refine x_iald (pc := 10) (o := 212) C dL_aired_10 (hI 212 rfl) ⟨rfl, rfl⟩ (show _ < 3 by decide) (by decide) ?_
    refine x_topi (nI n) hn ?_
    refine x_icmp_ge (pc := 11) (tgt := 97) C dL_aired_11 (by decide) (fun h11 => absurd h11 (by exact nI_ge (by omega) (by omega))) (fun h11 => ?_)
    refine x_iconst (pc := 14) C (0) dL_aired_14 (by decide) ?_
    refine y_istore (pc := 15) C dL_aired_15 (by decide) rfl ?_
    suffices keyk2 : ∀ (k2 j : Nat) (s2 : Int32), k2 + j = minN (GF V) (AW 219 V) i → (s2 = sumTo (fun s => cntA (GF V) (AW 219 V) d (nI hh) s (minN (GF V) (AW 219 V) s)) i + cntA (GF V) (AW 219 V) d (nI hh) i j) → Wx E 17 [some (aI d), some (aI (nI hh)), some (aR 212), some (aR 213), some (aR 219), some (aI s2), some (aI (nI i)), some (aI (nI j))] [] V L N I 0 0 by
      exact keyk2 (minN (GF V) (AW 219 V) i) (0) _ (by omega) (by rw [hinv]; exact (Int32.add_zero _).symm)
    intro k2
    induction k2 with
    | zero =>
      intro j s2 hk2 hinv2
      refine x_iload (pc := 17) C dL_aired_17 rfl ?_
      refine x_aload_n (pc := 19) C dL_aired_19 rfl ?_
      refine x_bipush (pc := 20) C (9) dL_aired_20 (by decide) ?_
      refine x_iload (pc := 22) C dL_aired_22 rfl ?_
      refine x_imul (pc := 24) C dL_aired_24 ?_
      refine x_topi (nI (9 * i)) (pk_mul (9) (i)) ?_
      refine x_iconst (pc := 25) C (5) dL_aired_25 (by decide) ?_
      refine x_iadd (pc := 26) C dL_aired_26 ?_
      refine x_topi (nI (9 * i + 5)) (nI_add (9 * i) (5)) ?_
      refine x_iald (pc := 27) (o := 213) C dL_aired_27 (hI 213 rfl) ⟨rfl, rfl⟩ (show _ < 63 by omega) (by decide) ?_
      refine x_topi (GF V 5 i) (rfl) ?_
      refine x_icmp_ge (pc := 28) (tgt := 91) C dL_aired_28 (by decide) (fun h28 => ?_) (fun h28 => ?_)
      · refine y_iinc (pc := 91) C (nI (i + 1)) dL_aired_91 rfl (by exact nI_1 i) (by decide) rfl ?_
        refine x_goto (pc := 94) (tgt := 6) C dL_aired_94 (by decide) ?_
        refine x_fgt 7 ?_
        exact ih (i + 1) _ (by omega) (by rw [sumTo, hinv2, show j = minN (GF V) (AW 219 V) i by omega])
      · refine x_iload (pc := 31) C dL_aired_31 rfl ?_
        refine x_aload (pc := 33) C dL_aired_33 rfl ?_
        refine x_iconst (pc := 35) C (4) dL_aired_35 (by decide) ?_
        refine x_iload (pc := 36) C dL_aired_36 rfl ?_
        refine x_imul (pc := 38) C dL_aired_38 ?_
        refine x_topi (nI (4 * i)) (pk_mul (4) (i)) ?_
        refine x_iconst (pc := 39) C (1) dL_aired_39 (by decide) ?_
        refine x_iadd (pc := 40) C dL_aired_40 ?_
        refine x_topi (nI (4 * i + 1)) (nI_add (4 * i) (1)) ?_
        refine x_iald (pc := 41) (o := 219) C dL_aired_41 ho ⟨rfl, rfl⟩ (show _ < 28 by omega) (by decide) ?_
        refine x_topi (AW 219 V 1 i) (rfl) ?_
        refine x_icmp_ge (pc := 42) (tgt := 91) C dL_aired_42 (by decide) (fun h42 => ?_) (fun h42 => absurd (by exact cl_ge (x := AW 219 V 1 i) (by have := cl_b (GF V 5 i); have h9 : ¬ (GF V 5 i).toNatClampNeg ≤ j := fun z => h28 (cl_ge z (by unfold minN at hk2; omega)); unfold minN at hk2; omega) (by have := cl_b (GF V 5 i); unfold minN at hk2; omega)) h42)
        refine y_iinc (pc := 91) C (nI (i + 1)) dL_aired_91 rfl (by exact nI_1 i) (by decide) rfl ?_
        refine x_goto (pc := 94) (tgt := 6) C dL_aired_94 (by decide) ?_
        refine x_fgt 7 ?_
        exact ih (i + 1) _ (by omega) (by rw [sumTo, hinv2, show j = minN (GF V) (AW 219 V) i by omega])
    | succ k2 ih2 =>
      intro j s2 hk2 hinv2
      refine x_iload (pc := 17) C dL_aired_17 rfl ?_
      refine x_aload_n (pc := 19) C dL_aired_19 rfl ?_
      refine x_bipush (pc := 20) C (9) dL_aired_20 (by decide) ?_
      refine x_iload (pc := 22) C dL_aired_22 rfl ?_
      refine x_imul (pc := 24) C dL_aired_24 ?_
      refine x_topi (nI (9 * i)) (pk_mul (9) (i)) ?_
      refine x_iconst (pc := 25) C (5) dL_aired_25 (by decide) ?_
      refine x_iadd (pc := 26) C dL_aired_26 ?_
      refine x_topi (nI (9 * i + 5)) (nI_add (9 * i) (5)) ?_
      refine x_iald (pc := 27) (o := 213) C dL_aired_27 (hI 213 rfl) ⟨rfl, rfl⟩ (show _ < 63 by omega) (by decide) ?_
      refine x_topi (GF V 5 i) (rfl) ?_
      refine x_icmp_ge (pc := 28) (tgt := 91) C dL_aired_28 (by decide) (fun h28 => absurd h28 (by exact cl_lt (x := GF V 5 i) (by unfold minN at hk2; omega))) (fun h28 => ?_)
      refine x_iload (pc := 31) C dL_aired_31 rfl ?_
      refine x_aload (pc := 33) C dL_aired_33 rfl ?_
      refine x_iconst (pc := 35) C (4) dL_aired_35 (by decide) ?_
      refine x_iload (pc := 36) C dL_aired_36 rfl ?_
      refine x_imul (pc := 38) C dL_aired_38 ?_
      refine x_topi (nI (4 * i)) (pk_mul (4) (i)) ?_
      refine x_iconst (pc := 39) C (1) dL_aired_39 (by decide) ?_
      refine x_iadd (pc := 40) C dL_aired_40 ?_
      refine x_topi (nI (4 * i + 1)) (nI_add (4 * i) (1)) ?_
      refine x_iald (pc := 41) (o := 219) C dL_aired_41 ho ⟨rfl, rfl⟩ (show _ < 28 by omega) (by decide) ?_
      refine x_topi (AW 219 V 1 i) (rfl) ?_
      refine x_icmp_ge (pc := 42) (tgt := 91) C dL_aired_42 (by decide) (fun h42 => absurd h42 (by exact cl_lt (x := AW 219 V 1 i) (by unfold minN at hk2; omega))) (fun h42 => ?_)
      refine x_iload (pc := 45) C dL_aired_45 rfl ?_
      refine x_aload_n (pc := 47) C dL_aired_47 rfl ?_
      refine x_bipush (pc := 48) C (9) dL_aired_48 (by decide) ?_
      refine x_iload (pc := 50) C dL_aired_50 rfl ?_
      refine x_imul (pc := 52) C dL_aired_52 ?_
      refine x_topi (nI (9 * i)) (pk_mul (9) (i)) ?_
      refine x_iconst (pc := 53) C (2) dL_aired_53 (by decide) ?_
      refine x_iadd (pc := 54) C dL_aired_54 ?_
      refine x_topi (nI (9 * i + 2)) (nI_add (9 * i) (2)) ?_
      refine x_iald (pc := 55) (o := 213) C dL_aired_55 (hI 213 rfl) ⟨rfl, rfl⟩ (show _ < 63 by omega) (by decide) ?_
      refine x_topi (GF V 2 i) (rfl) ?_
      refine x_iload_n (pc := 56) C dL_aired_56 rfl ?_
      refine x_icmp_ne (pc := 57) (tgt := 81) C dL_aired_57 (by decide) (fun h57 => ?_) (fun h57 => ?_)
      · refine x_iconst (pc := 81) C (0) dL_aired_81 (by decide) ?_
        refine x_iadd (pc := 82) C dL_aired_82 ?_
        refine y_istore (pc := 83) C dL_aired_83 (by decide) rfl ?_
        refine y_iinc (pc := 85) C (nI (j + 1)) dL_aired_85 rfl (by exact nI_1 j) (by decide) rfl ?_
        refine x_goto (pc := 88) (tgt := 17) C dL_aired_88 (by decide) ?_
        exact ih2 (j + 1) _ (by omega) (by rw [hinv2, Int32.add_zero, cntA, cntA, sumTo, if_neg (fun z => h57 z.1), Int32.add_zero])
      · refine x_aload (pc := 60) C dL_aired_60 rfl ?_
        refine x_iconst (pc := 62) C (4) dL_aired_62 (by decide) ?_
        refine x_iload (pc := 63) C dL_aired_63 rfl ?_
        refine x_imul (pc := 65) C dL_aired_65 ?_
        refine x_topi (nI (4 * i)) (pk_mul (4) (i)) ?_
        refine x_iald (pc := 66) (o := 219) C dL_aired_66 ho ⟨rfl, rfl⟩ (show _ < 28 by omega) (by decide) ?_
        refine x_topi (AW 219 V 0 i) (rfl) ?_
        refine x_iload (pc := 67) C dL_aired_67 rfl ?_
        refine x_iadd (pc := 69) C dL_aired_69 ?_
        refine x_bipush (pc := 70) C (60) dL_aired_70 (by decide) ?_
        refine x_idiv (pc := 72) C dL_aired_72 (by decide) ?_
        refine x_iload_n (pc := 73) C dL_aired_73 rfl ?_
        refine x_icmp_ne (pc := 74) (tgt := 81) C dL_aired_74 (by decide) (fun h74 => ?_) (fun h74 => ?_)
        · refine x_iconst (pc := 81) C (0) dL_aired_81 (by decide) ?_
          refine x_iadd (pc := 82) C dL_aired_82 ?_
          refine y_istore (pc := 83) C dL_aired_83 (by decide) rfl ?_
          refine y_iinc (pc := 85) C (nI (j + 1)) dL_aired_85 rfl (by exact nI_1 j) (by decide) rfl ?_
          refine x_goto (pc := 88) (tgt := 17) C dL_aired_88 (by decide) ?_
          exact ih2 (j + 1) _ (by omega) (by rw [hinv2, Int32.add_zero, cntA, cntA, sumTo, if_neg (fun z => h74 z.2), Int32.add_zero])
        · refine x_iconst (pc := 77) C (1) dL_aired_77 (by decide) ?_
          refine x_goto (pc := 78) (tgt := 82) C dL_aired_78 (by decide) ?_
          refine x_iadd (pc := 82) C dL_aired_82 ?_
          refine y_istore (pc := 83) C dL_aired_83 (by decide) rfl ?_
          refine y_iinc (pc := 85) C (nI (j + 1)) dL_aired_85 rfl (by exact nI_1 j) (by decide) rfl ?_
          refine x_goto (pc := 88) (tgt := 17) C dL_aired_88 (by decide) ?_
          exact ih2 (j + 1) _ (by omega) (by rw [hinv2, cntA, cntA, sumTo, if_pos ⟨h57, h74⟩, Int32.add_assoc])
