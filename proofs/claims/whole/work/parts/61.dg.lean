set_option maxRecDepth 100000 in
set_option maxHeartbeats 4000000 in
theorem c_X7_digest {l : Launch} {V : VV} {L : LL} {N : NN} {I : List Nat} (hI : PI I) {n : Nat} (hn : V 201 39 = nI n) (hn24 : n ≤ 24) {l0 : Nat} (hl0 : V 200 5 = nI l0) (hl60 : l0 ≤ 60) (hsg : ∀ s, s < n → ∃ g, g < 6 ∧ RF V 1 s = nI g) (hdy : ∀ s, s < n → ∃ d, d < 7 ∧ RF V 2 s = nI d) (h1 : vf_n64 (FP.dmul FP.dconst1 (FP.i2d (wkN V n 2 7)))) (h2 : vf_n64 (shN V n)) (hv : Op.cmpValue (FP.dcmp (shN V n) (shN V n)) .l = 0) : Runs l 8 0 0 yX7_digest (Cond.code yX7_digest cX7_digest 3 (some .long)) [aR 200] V L N I (Pm (some (aL ((dgT (up V 200 0 0) (dg5 (up V 200 0 0) n L) l0) 200 17))) (fun V1 => SmF (up V 200 0 0) V1) (dgT (up V 200 0 0) (dg5 (up V 200 0 0) n L) l0) N I) := by
  refine run_of RX7 (by decide +kernel) rfl (Nat.le_of_ble_eq_true rfl) (fun E hE C hQ hN => ?_)
  subst hE
  have hn0 : ∀ V3, SmF (up V 200 0 0) V3 → V3 201 39 = nI n := fun V3 h => (congrFun h.z 39).trans hn
  have hz0 : (up V 200 0 0) 201 = V 201 := up_nf (by decide)
  have K224 : ∀ V3, SmF (up V 200 0 0) V3 → Wx E 224 [some (aR 200), none, none] [] V3 (dgT (up V 200 0 0) (dg5 (up V 200 0 0) n L) 0) N I 0 0 := by
    intro V3 h3
    refine x_iconst (pc := 224) C (0) dX7_digest_224 (by decide) ?_
    refine y_istore_n (pc := 225) C dX7_digest_225 (by decide) rfl ?_
    suffices key : ∀ (k i : Nat) (V3 : VV), k + i = l0 → SmF (up V 200 0 0) V3 → Wx E 226 [some (aR 200), some (aI (nI i)), none] [] V3 (dgT (up V 200 0 0) (dg5 (up V 200 0 0) n L) i) N I 0 0 by
      exact key l0 0 V3 (by omega) h3
    clear h3 V3
    intro k
    induction k with
    | zero =>
      intro i V3 hk h3
      refine x_iload_n (pc := 226) C dX7_digest_226 rfl ?_
      refine x_aload_n (pc := 227) C dX7_digest_227 rfl ?_
      refine x_getI (pc := 228) (o := 200) C f_X7_173 dX7_digest_228 (hI 200 rfl) ⟨rfl, rfl, rfl⟩ ?_
      refine x_topi (nI l0) ((h3 200 5 (by decide) (by decide)).trans hl0) ?_
      refine x_icmp_ge (pc := 231) (tgt := 251) C dX7_digest_231 (by decide) (fun h231 => ?_) (fun h231 => absurd (by exact nI_le (a := l0) (b := i) (by omega) (by omega)) h231)
      have e : i = l0 := by omega
      subst e
      refine x_aload_n (pc := 251) C dX7_digest_251 rfl ?_
      refine x_getL (pc := 252) (o := 200) C f_X7_268 dX7_digest_252 (hI 200 rfl) ⟨rfl, rfl, rfl⟩ ?_
      exact x_lret (pc := 255) C hQ dX7_digest_255 (⟨rfl, h3, rfl, rfl, rfl⟩) (Nat.le_of_ble_eq_true rfl) (Nat.le_of_ble_eq_true rfl)
    | succ k ih =>
      intro i V3 hk h3
      have h4 := h3
      refine x_iload_n (pc := 226) C dX7_digest_226 rfl ?_
      refine x_aload_n (pc := 227) C dX7_digest_227 rfl ?_
      refine x_getI (pc := 228) (o := 200) C f_X7_173 dX7_digest_228 (hI 200 rfl) ⟨rfl, rfl, rfl⟩ ?_
      refine x_topi (nI l0) ((h3 200 5 (by decide) (by decide)).trans hl0) ?_
      refine x_icmp_ge (pc := 231) (tgt := 251) C dX7_digest_231 (by decide) (fun h231 => absurd h231 (by exact nI_ge (a := i) (b := l0) (by omega) (by omega))) (fun h231 => ?_)
      refine x_aload_n (pc := 234) C dX7_digest_234 rfl ?_
      refine x_aload_n (pc := 235) C dX7_digest_235 rfl ?_
      refine x_getR (pc := 236) (o := 200) (j := 203) C f_X7_16 dX7_digest_236 (hI 200 rfl) ⟨rfl, rfl⟩ ?_
      refine x_iload_n (pc := 239) C dX7_digest_239 rfl ?_
      refine x_iald (pc := 240) (o := 203) C dX7_digest_240 (hI 203 rfl) ⟨rfl, rfl⟩ (show _ < 60 by omega) (by decide) ?_
      refine x_topi ((up V 200 0 0) 203 i) (h3 203 i (by decide) (by omega)) ?_
      refine x_i2l (pc := 241) C dX7_digest_241 ?_
      refine x_cV1 (pc := 242) (o := 200) C v_X7_272 dX7_digest_242 (c_X7_mix hI _) (hI 200 rfl) rfl (by decide) rfl ⟨Nat.le_refl _, Nat.le_refl _⟩ ?_
      refine y_iinc (pc := 245) C (nI (i + 1)) dX7_digest_245 rfl (by exact nI_1 i) (by decide) rfl ?_
      refine x_goto (pc := 248) (tgt := 226) C dX7_digest_248 (by decide) ?_
      exact ih (i + 1) _ (by omega) h4
  have K195 : ∀ V3, SmF (up V 200 0 0) V3 → Wx E 195 [some (aR 200), none, none] [] V3 (dgE (up V 200 0 0) n (mdD (up V 200 0 0) n (dgD (up V 200 0 0) n (dgC (up V 200 0 0) n (dgZ (up V 200 0 0) (dgA (up V 200 0 0) n (upL L 200 17 2099) 8) 8) 54) n) 7) 6) N I 0 0 := by
    intro V3 h3
    have hs3 : shN V3 n = shN (up V 200 0 0) n := shN_sm h3.z
    have hw3 : wkN V3 n 2 7 = wkN V n 2 7 := wkN_sm (h3.z.trans hz0)
    have hs30 : shN V3 n = shN V n := shN_sm (h3.z.trans hz0)
    refine x_aload_n (pc := 195) C dX7_digest_195 rfl ?_
    refine x_aload_n (pc := 196) C dX7_digest_196 rfl ?_
    refine x_pV0 (pc := 197) (o := 200) C v_X7_262 dX7_digest_197 (c_X7_shareNow (V := V3) hI (hn0 V3 h3) hn24 (by rw [hw3]; exact h1) (by rw [hs30]; exact h2)) (hI 200 rfl) rfl (by decide) rfl ⟨Nat.le_refl _, Nat.le_refl _⟩ (fun V4 hV4 => ?_)
    refine x_cO1 (pc := 200) C o_X7_281 dX7_digest_200 (c_Jxe99ae_doubleToLongBits_ccdee _ (by rw [hs30]; exact hv)) (by decide) rfl ⟨Nat.le_refl _, Nat.le_refl _⟩ ?_
    refine x_topl (shN (up V 200 0 0) n).toInt64 (by rw [hs3]) ?_
    refine x_cV1 (pc := 203) (o := 200) C v_X7_272 dX7_digest_203 (c_X7_mix hI _) (hI 200 rfl) rfl (by decide) rfl ⟨Nat.le_refl _, Nat.le_refl _⟩ ?_
    refine x_aload_n (pc := 206) C dX7_digest_206 rfl ?_
    refine x_aload_n (pc := 207) C dX7_digest_207 rfl ?_
    refine x_getI (pc := 208) (o := 200) C f_X7_139 dX7_digest_208 (hI 200 rfl) ⟨rfl, rfl, rfl⟩ ?_
    refine x_topi ((up V 200 0 0) 200 4) ((h3.t hV4.sf) 200 4 (by decide) (by decide)) ?_
    refine x_i2l (pc := 211) C dX7_digest_211 ?_
    refine x_cV1 (pc := 212) (o := 200) C v_X7_272 dX7_digest_212 (c_X7_mix hI _) (hI 200 rfl) rfl (by decide) rfl ⟨Nat.le_refl _, Nat.le_refl _⟩ ?_
    refine x_aload_n (pc := 215) C dX7_digest_215 rfl ?_
    refine x_aload_n (pc := 216) C dX7_digest_216 rfl ?_
    refine x_getI (pc := 217) (o := 200) C f_X7_173 dX7_digest_217 (hI 200 rfl) ⟨rfl, rfl, rfl⟩ ?_
    refine x_topi ((up V 200 0 0) 200 5) ((h3.t hV4.sf) 200 5 (by decide) (by decide)) ?_
    refine x_i2l (pc := 220) C dX7_digest_220 ?_
    refine x_cV1 (pc := 221) (o := 200) C v_X7_272 dX7_digest_221 (c_X7_mix hI _) (hI 200 rfl) rfl (by decide) rfl ⟨Nat.le_refl _, Nat.le_refl _⟩ ?_
    exact K224 V4 (h3.t hV4.sf)
  have K168 : ∀ V3, SmF (up V 200 0 0) V3 → Wx E 168 [some (aR 200), none, none] [] V3 (dgE (up V 200 0 0) n (mdD (up V 200 0 0) n (dgD (up V 200 0 0) n (dgC (up V 200 0 0) n (dgZ (up V 200 0 0) (dgA (up V 200 0 0) n (upL L 200 17 2099) 8) 8) 54) n) 7) 0) N I 0 0 := by
    intro V3 h3
    refine x_iconst (pc := 168) C (0) dX7_digest_168 (by decide) ?_
    refine y_istore_n (pc := 169) C dX7_digest_169 (by decide) rfl ?_
    suffices key : ∀ (k i : Nat) (V3 : VV), k + i = 6 → SmF (up V 200 0 0) V3 → Wx E 170 [some (aR 200), some (aI (nI i)), none] [] V3 (dgE (up V 200 0 0) n (mdD (up V 200 0 0) n (dgD (up V 200 0 0) n (dgC (up V 200 0 0) n (dgZ (up V 200 0 0) (dgA (up V 200 0 0) n (upL L 200 17 2099) 8) 8) 54) n) 7) i) N I 0 0 by
      exact key 6 0 V3 (by omega) h3
    clear h3 V3
    intro k
    induction k with
    | zero =>
      intro i V3 hk h3
      refine x_iload_n (pc := 170) C dX7_digest_170 rfl ?_
      refine x_bipush (pc := 171) C (6) dX7_digest_171 (by decide) ?_
      refine x_icmp_ge (pc := 173) (tgt := 195) C dX7_digest_173 (by decide) (fun h173 => ?_) (fun h173 => absurd (by exact nI_le (a := 6) (b := i) (by omega) (by omega)) h173)
      have e : i = 6 := by omega
      subst e
      refine x_fgt 1 ?_
      exact K195 V3 h3
    | succ k ih =>
      intro i V3 hk h3
      refine x_iload_n (pc := 170) C dX7_digest_170 rfl ?_
      refine x_bipush (pc := 171) C (6) dX7_digest_171 (by decide) ?_
      refine x_icmp_ge (pc := 173) (tgt := 195) C dX7_digest_173 (by decide) (fun h173 => absurd h173 (by exact nI_ge (a := i) (b := 6) (by omega) (by omega))) (fun h173 => ?_)
      refine x_aload_n (pc := 176) C dX7_digest_176 rfl ?_
      refine x_aload_n (pc := 177) C dX7_digest_177 rfl ?_
      refine x_iload_n (pc := 178) C dX7_digest_178 rfl ?_
      refine x_iconst (pc := 179) C (3) dX7_digest_179 (by decide) ?_
      refine x_bipush (pc := 180) C (30) dX7_digest_180 (by decide) ?_
      refine x_pV3 (pc := 182) (o := 200) C v_X7_250 dX7_digest_182 (c_X7_firstOf (V := V3) hI (hn0 V3 h3) hn24 i (by omega) 3 30) (hI 200 rfl) rfl (by decide) rfl ⟨Nat.le_refl _, Nat.le_refl _⟩ (fun V4 hV4 => ?_)
      refine x_topi (fotN (up V 200 0 0) n i 3 30 288 0) (fotN_sm h3.z) ?_
      have h4 := h3.t hV4
      refine x_i2l (pc := 185) C dX7_digest_185 ?_
      refine x_cV1 (pc := 186) (o := 200) C v_X7_272 dX7_digest_186 (c_X7_mix hI _) (hI 200 rfl) rfl (by decide) rfl ⟨Nat.le_refl _, Nat.le_refl _⟩ ?_
      refine y_iinc (pc := 189) C (nI (i + 1)) dX7_digest_189 rfl (by exact nI_1 i) (by decide) rfl ?_
      refine x_goto (pc := 192) (tgt := 170) C dX7_digest_192 (by decide) ?_
      exact ih (i + 1) _ (by omega) h4
  have K164 : ∀ V3, SmF (up V 200 0 0) V3 → Wx E 164 [some (aR 200), none, none] [] V3 (dgD (up V 200 0 0) n (dgC (up V 200 0 0) n (dgZ (up V 200 0 0) (dgA (up V 200 0 0) n (upL L 200 17 2099) 8) 8) 54) n) N I 0 0 := by
    intro V3 h3
    have hm3 : mdD V3 n (dgD (up V 200 0 0) n (dgC (up V 200 0 0) n (dgZ (up V 200 0 0) (dgA (up V 200 0 0) n (upL L 200 17 2099) 8) 8) 54) n) 7 = (mdD (up V 200 0 0) n (dgD (up V 200 0 0) n (dgC (up V 200 0 0) n (dgZ (up V 200 0 0) (dgA (up V 200 0 0) n (upL L 200 17 2099) 8) 8) 54) n) 7) := mdD_sm h3.z
    refine x_aload_n (pc := 164) C dX7_digest_164 rfl ?_
    refine x_pV0 (pc := 165) (o := 200) C v_X7_278 dX7_digest_165 (c_X7_mixDays (V := V3) hI (hn0 V3 h3) hn24) (hI 200 rfl) rfl (by decide) rfl ⟨Nat.le_refl _, Nat.le_refl _⟩ (fun V4 hV4 => ?_)
    rw [hm3]
    exact K168 V4 (h3.t hV4.sf)
  have K92 : ∀ V3, SmF (up V 200 0 0) V3 → Wx E 92 [some (aR 200), none, none] [] V3 (dgD (up V 200 0 0) n (dgC (up V 200 0 0) n (dgZ (up V 200 0 0) (dgA (up V 200 0 0) n (upL L 200 17 2099) 8) 8) 54) 0) N I 0 0 := by
    intro V3 h3
    refine x_iconst (pc := 92) C (0) dX7_digest_92 (by decide) ?_
    refine y_istore_n (pc := 93) C dX7_digest_93 (by decide) rfl ?_
    suffices key : ∀ (k i : Nat) (V3 : VV), k + i = n → SmF (up V 200 0 0) V3 → Wx E 94 [some (aR 200), some (aI (nI i)), none] [] V3 (dgD (up V 200 0 0) n (dgC (up V 200 0 0) n (dgZ (up V 200 0 0) (dgA (up V 200 0 0) n (upL L 200 17 2099) 8) 8) 54) i) N I 0 0 by
      exact key n 0 V3 (by omega) h3
    clear h3 V3
    intro k
    induction k with
    | zero =>
      intro i V3 hk h3
      refine x_iload_n (pc := 94) C dX7_digest_94 rfl ?_
      refine x_aload_n (pc := 95) C dX7_digest_95 rfl ?_
      refine x_getR (pc := 96) (o := 200) (j := 201) C f_X7_7 dX7_digest_96 (hI 200 rfl) ⟨rfl, rfl⟩ ?_
      refine x_bipush (pc := 99) C (39) dX7_digest_99 (by decide) ?_
      refine x_topi (nI 39) (by decide) ?_
      refine x_iald (pc := 101) (o := 201) C dX7_digest_101 (hI 201 rfl) ⟨rfl, rfl⟩ (show _ < 232 by decide) (by decide) ?_
      refine x_topi (nI n) (hn0 V3 h3) ?_
      refine x_icmp_ge (pc := 102) (tgt := 164) C dX7_digest_102 (by decide) (fun h102 => ?_) (fun h102 => absurd (by exact nI_le (by omega) (by omega)) h102)
      have e : i = n := by omega
      rw [e]
      refine x_fgt 1 ?_
      exact K164 V3 h3
    | succ k ih =>
      intro i V3 hk h3
      refine x_iload_n (pc := 94) C dX7_digest_94 rfl ?_
      refine x_aload_n (pc := 95) C dX7_digest_95 rfl ?_
      refine x_getR (pc := 96) (o := 200) (j := 201) C f_X7_7 dX7_digest_96 (hI 200 rfl) ⟨rfl, rfl⟩ ?_
      refine x_bipush (pc := 99) C (39) dX7_digest_99 (by decide) ?_
      refine x_topi (nI 39) (by decide) ?_
      refine x_iald (pc := 101) (o := 201) C dX7_digest_101 (hI 201 rfl) ⟨rfl, rfl⟩ (show _ < 232 by decide) (by decide) ?_
      refine x_topi (nI n) (hn0 V3 h3) ?_
      refine x_icmp_ge (pc := 102) (tgt := 164) C dX7_digest_102 (by decide) (fun h102 => absurd h102 (by exact nI_ge (by omega) (by omega))) (fun h102 => ?_)
      refine x_iconst (pc := 105) C (0) dX7_digest_105 (by decide) ?_
      refine y_istore_n (pc := 106) C dX7_digest_106 (by decide) rfl ?_
      suffices key2 : ∀ (q w : Nat) (V4 : VV), q + w = 12 → SmF (up V 200 0 0) V4 → Wx E 107 [some (aR 200), some (aI (nI i)), some (aI (nI w))] [] V4 (dgS (up V 200 0 0) i (dgD (up V 200 0 0) n (dgC (up V 200 0 0) n (dgZ (up V 200 0 0) (dgA (up V 200 0 0) n (upL L 200 17 2099) 8) 8) 54) i) w) N I 0 0 by
        exact key2 12 0 V3 (by omega) h3
      clear h3 V3
      intro q
      induction q with
      | zero =>
        intro w V4 hq h4
        refine x_iload_n (pc := 107) C dX7_digest_107 rfl ?_
        refine x_bipush (pc := 108) C (12) dX7_digest_108 (by decide) ?_
        refine x_icmp_ge (pc := 110) (tgt := 130) C dX7_digest_110 (by decide) (fun h110 => ?_) (fun h110 => absurd (by exact nI_le (a := 12) (b := w) (by omega) (by omega)) h110)
        have e12 : w = 12 := by omega
        subst e12
        obtain ⟨g, hg6, hog⟩ := hsg i (by omega)
        refine x_aload_n (pc := 130) C dX7_digest_130 rfl ?_
        refine x_aload_n (pc := 131) C dX7_digest_131 rfl ?_
        refine x_iload_n (pc := 132) C dX7_digest_132 rfl ?_
        refine x_pV1 (pc := 133) (o := 200) C v_X7_253 dX7_digest_133 (c_X7_repeatOf (V := V4) hI (hn0 V4 h4) hn24 i (by omega) hg6 (by rw [RF_z (h4.z.trans hz0)]; exact hog)) (hI 200 rfl) rfl (by decide) rfl ⟨Nat.le_refl _, Nat.le_refl _⟩ (fun V5 hV5 => ?_)
        have h5 := h4.t hV5
        refine x_topi (repN (up V 200 0 0) n (RF (up V 200 0 0) 1 i).toNatClampNeg i 2016 0) (by rw [repN_sm h4.z, RF_z hz0, hog, nI_clamp (by omega)]) ?_
        refine x_i2l (pc := 136) C dX7_digest_136 ?_
        refine x_cV1 (pc := 137) (o := 200) C v_X7_272 dX7_digest_137 (c_X7_mix hI _) (hI 200 rfl) rfl (by decide) rfl ⟨Nat.le_refl _, Nat.le_refl _⟩ ?_
        refine x_aload_n (pc := 140) C dX7_digest_140 rfl ?_
        refine x_iload_n (pc := 141) C dX7_digest_141 rfl ?_
        refine x_cV1 (pc := 142) (o := 200) C v_X7_164 dX7_digest_142 (c_X7_isLive (V := V5) hI i (by omega)) (hI 200 rfl) rfl (by decide) rfl ⟨Nat.le_refl _, Nat.le_refl _⟩ ?_
        refine x_if_eq (pc := 145) (tgt := 158) C dX7_digest_145 (by decide) (fun h145 => ?_) (fun h145 => ?_)
        · refine y_iinc (pc := 158) C (nI (i + 1)) dX7_digest_158 rfl (by exact nI_1 i) (by decide) rfl ?_
          refine x_goto (pc := 161) (tgt := 94) C dX7_digest_161 (by decide) ?_
          have e := dgD_f (V := (up V 200 0 0)) (n := n) (i := i) (L := (dgC (up V 200 0 0) n (dgZ (up V 200 0 0) (dgA (up V 200 0 0) n (upL L 200 17 2099) 8) 8) 54)) (by rw [← RF_z h5.z]; exact b2i_nd h145)
          have K := ih (i + 1) V5 (by omega) h5
          rw [e] at K
          refine x_fgt 2 ?_
          exact K
        · refine x_aload_n (pc := 148) C dX7_digest_148 rfl ?_
          refine x_aload_n (pc := 149) C dX7_digest_149 rfl ?_
          refine x_iload_n (pc := 150) C dX7_digest_150 rfl ?_
          refine x_pV1 (pc := 151) (o := 200) C v_X7_259 dX7_digest_151 (c_X7_mostOverrun (V := V5) hI (hn0 V5 h5) hn24 i (by omega)) (hI 200 rfl) rfl (by decide) rfl ⟨Nat.le_refl _, Nat.le_refl _⟩ (fun V6 hV6 => ?_)
          refine x_topi (mosS (up V 200 0 0) n i 181) (mosS_sm h5.z) ?_
          refine x_i2l (pc := 154) C dX7_digest_154 ?_
          refine x_cV1 (pc := 155) (o := 200) C v_X7_272 dX7_digest_155 (c_X7_mix hI _) (hI 200 rfl) rfl (by decide) rfl ⟨Nat.le_refl _, Nat.le_refl _⟩ ?_
          refine y_iinc (pc := 158) C (nI (i + 1)) dX7_digest_158 rfl (by exact nI_1 i) (by decide) rfl ?_
          refine x_goto (pc := 161) (tgt := 94) C dX7_digest_161 (by decide) ?_
          have e := dgD_t (V := (up V 200 0 0)) (n := n) (i := i) (L := (dgC (up V 200 0 0) n (dgZ (up V 200 0 0) (dgA (up V 200 0 0) n (upL L 200 17 2099) 8) 8) 54)) (by rw [← RF_z h5.z]; exact b2i_d h145)
          have K := ih (i + 1) V6 (by omega) (h5.t hV6.sf)
          rw [e] at K
          refine x_fgt 2 ?_
          exact K
      | succ q ihq =>
        intro w V4 hq h4
        refine x_iload_n (pc := 107) C dX7_digest_107 rfl ?_
        refine x_bipush (pc := 108) C (12) dX7_digest_108 (by decide) ?_
        refine x_icmp_ge (pc := 110) (tgt := 130) C dX7_digest_110 (by decide) (fun h110 => absurd h110 (by exact nI_ge (a := w) (b := 12) (by omega) (by omega))) (fun h110 => ?_)
        refine x_aload_n (pc := 113) C dX7_digest_113 rfl ?_
        refine x_aload_n (pc := 114) C dX7_digest_114 rfl ?_
        refine x_iload_n (pc := 115) C dX7_digest_115 rfl ?_
        refine x_iload_n (pc := 116) C dX7_digest_116 rfl ?_
        refine x_pV2 (pc := 117) (o := 200) C v_X7_224 dX7_digest_117 (c_X7_showNow (V := V4) hI (hn0 V4 h4) hn24 i w (by omega) (by omega)) (hI 200 rfl) rfl (by decide) rfl ⟨Nat.le_refl _, Nat.le_refl _⟩ (fun V5 hV5 => ?_)
        refine x_topi (showN (up V 200 0 0) i w) (showN_sm h4.z) ?_
        refine x_i2l (pc := 120) C dX7_digest_120 ?_
        refine x_cV1 (pc := 121) (o := 200) C v_X7_272 dX7_digest_121 (c_X7_mix hI _) (hI 200 rfl) rfl (by decide) rfl ⟨Nat.le_refl _, Nat.le_refl _⟩ ?_
        refine y_iinc (pc := 124) C (nI (w + 1)) dX7_digest_124 rfl (by exact nI_1 w) (by decide) rfl ?_
        refine x_goto (pc := 127) (tgt := 107) C dX7_digest_127 (by decide) ?_
        exact ihq (w + 1) V5 (by omega) (h4.t hV5.sf)
  have K61 : ∀ V3, SmF (up V 200 0 0) V3 → Wx E 61 [some (aR 200), none, none] [] V3 (dgC (up V 200 0 0) n (dgZ (up V 200 0 0) (dgA (up V 200 0 0) n (upL L 200 17 2099) 8) 8) 0) N I 0 0 := by
    intro V3 h3
    refine x_iconst (pc := 61) C (0) dX7_digest_61 (by decide) ?_
    refine y_istore_n (pc := 62) C dX7_digest_62 (by decide) rfl ?_
    suffices key : ∀ (k i : Nat) (V3 : VV), k + i = 54 → SmF (up V 200 0 0) V3 → Wx E 63 [some (aR 200), some (aI (nI i)), none] [] V3 (dgC (up V 200 0 0) n (dgZ (up V 200 0 0) (dgA (up V 200 0 0) n (upL L 200 17 2099) 8) 8) i) N I 0 0 by
      exact key 54 0 V3 (by omega) h3
    clear h3 V3
    intro k
    induction k with
    | zero =>
      intro i V3 hk h3
      refine x_iload_n (pc := 63) C dX7_digest_63 rfl ?_
      refine x_bipush (pc := 64) C (54) dX7_digest_64 (by decide) ?_
      refine x_icmp_ge (pc := 66) (tgt := 92) C dX7_digest_66 (by decide) (fun h66 => ?_) (fun h66 => absurd (by exact nI_le (a := 54) (b := i) (by omega) (by omega)) h66)
      have e : i = 54 := by omega
      subst e
      refine x_fgt 1 ?_
      exact K92 V3 h3
    | succ k ih =>
      intro i V3 hk h3
      refine x_iload_n (pc := 63) C dX7_digest_63 rfl ?_
      refine x_bipush (pc := 64) C (54) dX7_digest_64 (by decide) ?_
      refine x_icmp_ge (pc := 66) (tgt := 92) C dX7_digest_66 (by decide) (fun h66 => absurd h66 (by exact nI_ge (a := i) (b := 54) (by omega) (by omega))) (fun h66 => ?_)
      refine x_aload_n (pc := 69) C dX7_digest_69 rfl ?_
      refine x_aload_n (pc := 70) C dX7_digest_70 rfl ?_
      refine x_iload_n (pc := 71) C dX7_digest_71 rfl ?_
      refine x_bipush (pc := 72) C (9) dX7_digest_72 (by decide) ?_
      refine x_idiv (pc := 74) C dX7_digest_74 (by decide) ?_
      refine x_topi (nI (i / 9)) (pk_div (a := i) (d := 9) (by omega) (by decide) (by decide)) ?_
      refine x_iload_n (pc := 75) C dX7_digest_75 rfl ?_
      refine x_bipush (pc := 76) C (9) dX7_digest_76 (by decide) ?_
      refine x_irem (pc := 78) C dX7_digest_78 (by decide) ?_
      refine x_topi (nI (i % 9)) (pk_rem (a := i) (d := 9) (by omega) (by decide) (by decide)) ?_
      refine x_pV2 (pc := 79) (o := 200) C v_X7_230 dX7_digest_79 (c_X7_groupNow (V := V3) hI (hn0 V3 h3) hn24 (by rw [RF_z (h3.z.trans hz0)]; exact hdy) (i / 9) (i % 9) (by omega) (by omega)) (hI 200 rfl) rfl (by decide) rfl ⟨Nat.le_refl _, Nat.le_refl _⟩ (fun V4 hV4 => ?_)
      refine x_topi (grpN (up V 200 0 0) n (i / 9) (i % 9)) (grpN_sm h3.z) ?_
      have h4 := h3.t hV4.sf
      refine x_i2l (pc := 82) C dX7_digest_82 ?_
      refine x_cV1 (pc := 83) (o := 200) C v_X7_272 dX7_digest_83 (c_X7_mix hI _) (hI 200 rfl) rfl (by decide) rfl ⟨Nat.le_refl _, Nat.le_refl _⟩ ?_
      refine y_iinc (pc := 86) C (nI (i + 1)) dX7_digest_86 rfl (by exact nI_1 i) (by decide) rfl ?_
      refine x_goto (pc := 89) (tgt := 63) C dX7_digest_89 (by decide) ?_
      exact ih (i + 1) _ (by omega) h4
  have K36 : ∀ V3, SmF (up V 200 0 0) V3 → Wx E 36 [some (aR 200), none, none] [] V3 (dgZ (up V 200 0 0) (dgA (up V 200 0 0) n (upL L 200 17 2099) 8) 0) N I 0 0 := by
    intro V3 h3
    refine x_iconst (pc := 36) C (0) dX7_digest_36 (by decide) ?_
    refine y_istore_n (pc := 37) C dX7_digest_37 (by decide) rfl ?_
    suffices key : ∀ (k i : Nat) (V3 : VV), k + i = 8 → SmF (up V 200 0 0) V3 → Wx E 38 [some (aR 200), some (aI (nI i)), none] [] V3 (dgZ (up V 200 0 0) (dgA (up V 200 0 0) n (upL L 200 17 2099) 8) i) N I 0 0 by
      exact key 8 0 V3 (by omega) h3
    clear h3 V3
    intro k
    induction k with
    | zero =>
      intro i V3 hk h3
      refine x_iload_n (pc := 38) C dX7_digest_38 rfl ?_
      refine x_bipush (pc := 39) C (8) dX7_digest_39 (by decide) ?_
      refine x_icmp_ge (pc := 41) (tgt := 61) C dX7_digest_41 (by decide) (fun h41 => ?_) (fun h41 => absurd (by exact nI_le (a := 8) (b := i) (by omega) (by omega)) h41)
      have e : i = 8 := by omega
      subst e
      refine x_fgt 1 ?_
      exact K61 V3 h3
    | succ k ih =>
      intro i V3 hk h3
      have h4 := h3
      refine x_iload_n (pc := 38) C dX7_digest_38 rfl ?_
      refine x_bipush (pc := 39) C (8) dX7_digest_39 (by decide) ?_
      refine x_icmp_ge (pc := 41) (tgt := 61) C dX7_digest_41 (by decide) (fun h41 => absurd h41 (by exact nI_ge (a := i) (b := 8) (by omega) (by omega))) (fun h41 => ?_)
      refine x_aload_n (pc := 44) C dX7_digest_44 rfl ?_
      refine x_aload_n (pc := 45) C dX7_digest_45 rfl ?_
      refine x_getR (pc := 46) (o := 200) (j := 201) C f_X7_7 dX7_digest_46 (hI 200 rfl) ⟨rfl, rfl⟩ ?_
      refine x_iload_n (pc := 49) C dX7_digest_49 rfl ?_
      refine x_iald (pc := 50) (o := 201) C dX7_digest_50 (hI 201 rfl) ⟨rfl, rfl⟩ (show _ < 232 by omega) (by decide) ?_
      refine x_topi ((up V 200 0 0) 201 i) (congrFun h3.z i) ?_
      refine x_i2l (pc := 51) C dX7_digest_51 ?_
      refine x_cV1 (pc := 52) (o := 200) C v_X7_272 dX7_digest_52 (c_X7_mix hI _) (hI 200 rfl) rfl (by decide) rfl ⟨Nat.le_refl _, Nat.le_refl _⟩ ?_
      refine y_iinc (pc := 55) C (nI (i + 1)) dX7_digest_55 rfl (by exact nI_1 i) (by decide) rfl ?_
      refine x_goto (pc := 58) (tgt := 38) C dX7_digest_58 (by decide) ?_
      exact ih (i + 1) _ (by omega) h4
  have K12 : ∀ V3, SmF (up V 200 0 0) V3 → Wx E 12 [some (aR 200), none, none] [] V3 (dgA (up V 200 0 0) n (upL L 200 17 2099) 0) N I 0 0 := by
    intro V3 h3
    refine x_iconst (pc := 12) C (0) dX7_digest_12 (by decide) ?_
    refine y_istore_n (pc := 13) C dX7_digest_13 (by decide) rfl ?_
    suffices key : ∀ (k i : Nat) (V3 : VV), k + i = 8 → SmF (up V 200 0 0) V3 → Wx E 14 [some (aR 200), some (aI (nI i)), none] [] V3 (dgA (up V 200 0 0) n (upL L 200 17 2099) i) N I 0 0 by
      exact key 8 0 V3 (by omega) h3
    clear h3 V3
    intro k
    induction k with
    | zero =>
      intro i V3 hk h3
      refine x_iload_n (pc := 14) C dX7_digest_14 rfl ?_
      refine x_bipush (pc := 15) C (8) dX7_digest_15 (by decide) ?_
      refine x_icmp_ge (pc := 17) (tgt := 36) C dX7_digest_17 (by decide) (fun h17 => ?_) (fun h17 => absurd (by exact nI_le (a := 8) (b := i) (by omega) (by omega)) h17)
      have e : i = 8 := by omega
      subst e
      refine x_fgt 1 ?_
      exact K36 V3 h3
    | succ k ih =>
      intro i V3 hk h3
      refine x_iload_n (pc := 14) C dX7_digest_14 rfl ?_
      refine x_bipush (pc := 15) C (8) dX7_digest_15 (by decide) ?_
      refine x_icmp_ge (pc := 17) (tgt := 36) C dX7_digest_17 (by decide) (fun h17 => absurd h17 (by exact nI_ge (a := i) (b := 8) (by omega) (by omega))) (fun h17 => ?_)
      refine x_aload_n (pc := 20) C dX7_digest_20 rfl ?_
      refine x_aload_n (pc := 21) C dX7_digest_21 rfl ?_
      refine x_iload_n (pc := 22) C dX7_digest_22 rfl ?_
      refine x_pV1 (pc := 23) (o := 200) C v_X7_243 dX7_digest_23 (c_X7_counted (V := V3) hI (hn0 V3 h3) hn24 i (by omega)) (hI 200 rfl) rfl (by decide) rfl ⟨Nat.le_refl _, Nat.le_refl _⟩ (fun V4 hV4 => ?_)
      refine x_topi (cntV (up V 200 0 0) n i) (cntV_sm h3.z (smf_2 h3)) ?_
      have h4 := h3.t hV4.sf
      refine x_i2l (pc := 26) C dX7_digest_26 ?_
      refine x_cV1 (pc := 27) (o := 200) C v_X7_272 dX7_digest_27 (c_X7_mix hI _) (hI 200 rfl) rfl (by decide) rfl ⟨Nat.le_refl _, Nat.le_refl _⟩ ?_
      refine y_iinc (pc := 30) C (nI (i + 1)) dX7_digest_30 rfl (by exact nI_1 i) (by decide) rfl ?_
      refine x_goto (pc := 33) (tgt := 14) C dX7_digest_33 (by decide) ?_
      exact ih (i + 1) _ (by omega) h4
  refine x_aload_n (pc := 0) C dX7_digest_0 rfl ?_
  refine x_iconst (pc := 1) C (0) dX7_digest_1 (by decide) ?_
  refine x_putI (pc := 2) (o := 200) C p_X7_37 dX7_digest_2 (hI 200 rfl) ⟨rfl, rfl, rfl⟩ ?_
  refine x_aload_n (pc := 5) C dX7_digest_5 rfl ?_
  refine x_ldc2 (pc := 6) C dX7_digest_6 (show Cond.constantLong RX7 276 2099 ∈ U0 from u0_in 1323 (by decide +kernel) rfl) ?_
  refine x_putL (pc := 9) (o := 200) C p_X7_268 dX7_digest_9 (hI 200 rfl) ⟨rfl, rfl, rfl⟩ ?_
  exact K12 (up V 200 0 0) smf_r
