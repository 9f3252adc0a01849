set_option maxRecDepth 100000 in
set_option maxHeartbeats 4000000 in
theorem c_X7_isComplete {l : Launch} {V : VV} {L : LL} {N : NN} {I : List Nat} (hI : PI I) {t : Nat} (ht : V 200 15 = nI t) (ht15 : t ≤ 15) {s : Nat} (hs : V 200 13 = nI s) (hr : stR s) : Runs l 1 0 0 yX7_isComplete (Cond.code yX7_isComplete cX7_isComplete 2 (some .boolean)) [aR 200] V L N I (Is (some (aI (b2i (cmB V t s)))) (V) (L) N I) := by
  refine run_of RX7 (by decide +kernel) rfl (Nat.le_of_ble_eq_true rfl) (fun E hE C hQ hN => ?_)
  subst hE
  have hs31 : s < 2 ^ 31 := by unfold stR at hr; omega
  refine x_aload_n (pc := 0) C dX7_isComplete_0 rfl ?_
  refine x_getR (pc := 1) (o := 200) (j := 209) C f_X7_34 dX7_isComplete_1 (hI 200 rfl) ⟨rfl, rfl⟩ ?_
  refine x_bipush (pc := 4) C (6) dX7_isComplete_4 (by decide) ?_
  refine x_aload_n (pc := 6) C dX7_isComplete_6 rfl ?_
  refine x_getI (pc := 7) (o := 200) C f_X7_179 dX7_isComplete_7 (hI 200 rfl) ⟨rfl, rfl, rfl⟩ ?_
  refine x_topi (nI t) ht ?_
  refine x_imul (pc := 10) C dX7_isComplete_10 ?_
  refine x_topi (nI (6 * t)) (z_ixm (b := 6)) ?_
  refine x_iald (pc := 11) (o := 209) C dX7_isComplete_11 (hI 209 rfl) ⟨rfl, rfl⟩ (show _ < 96 by omega) (by decide) ?_
  refine x_iconst (pc := 12) C (2) dX7_isComplete_12 (by decide) ?_
  have J21 : Wx E 21 [some (aR 200), none] [aI (b2i (decide (V 209 (6 * t) = 2)))] V L N I 0 0 := by
    refine y_istore_n (pc := 21) C dX7_isComplete_21 (by decide) rfl ?_
    refine x_aload_n (pc := 22) C dX7_isComplete_22 rfl ?_
    refine x_getI (pc := 23) (o := 200) C f_X7_176 dX7_isComplete_23 (hI 200 rfl) ⟨rfl, rfl, rfl⟩ ?_
    refine x_topi (nI s) hs ?_
    refine x_bipush (pc := 26) C (21) dX7_isComplete_26 (by decide) ?_
    refine x_icmp_ne (pc := 28) (tgt := 35) C dX7_isComplete_28 (by decide) (fun h28 => ?_) (fun h28 => ?_)
    · refine x_aload_n (pc := 35) C dX7_isComplete_35 rfl ?_
      refine x_getI (pc := 36) (o := 200) C f_X7_176 dX7_isComplete_36 (hI 200 rfl) ⟨rfl, rfl, rfl⟩ ?_
      refine x_topi (nI s) hs ?_
      refine x_bipush (pc := 39) C (22) dX7_isComplete_39 (by decide) ?_
      refine x_icmp_eq (pc := 41) (tgt := 53) C dX7_isComplete_41 (by decide) (fun h41 => ?_) (fun h41 => ?_)
      · refine x_iconst (pc := 53) C (1) dX7_isComplete_53 (by decide) ?_
        refine x_goto (pc := 54) (tgt := 58) C dX7_isComplete_54 (by decide) ?_
        exact x_zret (pc := 58) C hQ dX7_isComplete_58 (by decide) (is_iv (by rw [cm_t2 ((nI_eq (b := 22) hs31 (by decide)).mp h41)]; rfl) rfl) (Nat.le_of_ble_eq_true rfl) (Nat.le_of_ble_eq_true rfl)
      · refine x_aload_n (pc := 44) C dX7_isComplete_44 rfl ?_
        refine x_getI (pc := 45) (o := 200) C f_X7_176 dX7_isComplete_45 (hI 200 rfl) ⟨rfl, rfl, rfl⟩ ?_
        refine x_topi (nI s) hs ?_
        refine x_bipush (pc := 48) C (23) dX7_isComplete_48 (by decide) ?_
        refine x_icmp_ne (pc := 50) (tgt := 57) C dX7_isComplete_50 (by decide) (fun h50 => ?_) (fun h50 => ?_)
        · refine x_iconst (pc := 57) C (0) dX7_isComplete_57 (by decide) ?_
          exact x_zret (pc := 58) C hQ dX7_isComplete_58 (by decide) (is_iv (by rw [cm_f2 (fun q => h28 (congrArg nI q)) (fun q => h41 (congrArg nI q)) (fun q => h50 (congrArg nI q))]; rfl) rfl) (Nat.le_of_ble_eq_true rfl) (Nat.le_of_ble_eq_true rfl)
        · refine x_iconst (pc := 53) C (1) dX7_isComplete_53 (by decide) ?_
          refine x_goto (pc := 54) (tgt := 58) C dX7_isComplete_54 (by decide) ?_
          exact x_zret (pc := 58) C hQ dX7_isComplete_58 (by decide) (is_iv (by rw [cm_t3 ((nI_eq (b := 23) hs31 (by decide)).mp h50)]; rfl) rfl) (Nat.le_of_ble_eq_true rfl) (Nat.le_of_ble_eq_true rfl)
    · refine x_iload_n (pc := 31) C dX7_isComplete_31 rfl ?_
      refine x_if_ne (pc := 32) (tgt := 53) C dX7_isComplete_32 (by decide) (fun h32 => ?_) (fun h32 => ?_)
      · refine x_iconst (pc := 53) C (1) dX7_isComplete_53 (by decide) ?_
        refine x_goto (pc := 54) (tgt := 58) C dX7_isComplete_54 (by decide) ?_
        exact x_zret (pc := 58) C hQ dX7_isComplete_58 (by decide) (is_iv (by rw [cm_t1 ((nI_eq (b := 21) hs31 (by decide)).mp h28) (b2i_d h32)]; rfl) rfl) (Nat.le_of_ble_eq_true rfl) (Nat.le_of_ble_eq_true rfl)
      · refine x_aload_n (pc := 35) C dX7_isComplete_35 rfl ?_
        refine x_getI (pc := 36) (o := 200) C f_X7_176 dX7_isComplete_36 (hI 200 rfl) ⟨rfl, rfl, rfl⟩ ?_
        refine x_topi (nI s) hs ?_
        refine x_bipush (pc := 39) C (22) dX7_isComplete_39 (by decide) ?_
        refine x_icmp_eq (pc := 41) (tgt := 53) C dX7_isComplete_41 (by decide) (fun h41 => absurd h41 (by rw [h28]; decide)) (fun h41 => ?_)
        refine x_aload_n (pc := 44) C dX7_isComplete_44 rfl ?_
        refine x_getI (pc := 45) (o := 200) C f_X7_176 dX7_isComplete_45 (hI 200 rfl) ⟨rfl, rfl, rfl⟩ ?_
        refine x_topi (nI s) hs ?_
        refine x_bipush (pc := 48) C (23) dX7_isComplete_48 (by decide) ?_
        refine x_icmp_ne (pc := 50) (tgt := 57) C dX7_isComplete_50 (by decide) (fun h50 => ?_) (fun h50 => absurd h50 (by rw [h28]; decide))
        refine x_iconst (pc := 57) C (0) dX7_isComplete_57 (by decide) ?_
        exact x_zret (pc := 58) C hQ dX7_isComplete_58 (by decide) (is_iv (by rw [cm_f1 ((nI_eq (b := 21) hs31 (by decide)).mp h28) (b2i_nd h32)]; rfl) rfl) (Nat.le_of_ble_eq_true rfl) (Nat.le_of_ble_eq_true rfl)
  refine x_icmp_ne (pc := 13) (tgt := 20) C dX7_isComplete_13 (by decide) (fun h13 => ?_) (fun h13 => ?_)
  · refine x_iconst (pc := 20) C (0) dX7_isComplete_20 (by decide) ?_
    refine x_topi (b2i (decide (V 209 (6 * t) = 2))) (b2i_cn h13).symm ?_
    exact J21
  · refine x_iconst (pc := 16) C (1) dX7_isComplete_16 (by decide) ?_
    refine x_goto (pc := 17) (tgt := 21) C dX7_isComplete_17 (by decide) ?_
    refine x_topi (b2i (decide (V 209 (6 * t) = 2))) (b2i_c h13).symm ?_
    exact J21
set_option maxRecDepth 100000 in
set_option maxHeartbeats 4000000 in
theorem c_X7_addRead {l : Launch} {V : VV} {L : LL} {N : NN} {I : List Nat} (hI : PI I) {n : Nat} (hn : V 201 39 = nI n) (hn24 : n ≤ 24) (hsg : ∀ s, s < n → ∃ g, g < 6 ∧ RF V 1 s = nI g) (k : Nat) (hk15 : k ≤ 15) : Runs l 6 0 0 yX7_addRead (Cond.code yX7_addRead cX7_addRead 4 (some .int)) [aR 200, aI (nI k)] V L N I (Is (some (aI (arC V n (6 * k)))) (arV V n (6 * k)) (L) N I) := by
  refine run_of RX7 (by decide +kernel) rfl (Nat.le_of_ble_eq_true rfl) (fun E hE C hQ hN => ?_)
  subst hE
  have J177 : arOk V n (6 * k) = true → ((arT V (6 * k)) 204 0 = 2 → (arT V (6 * k)) 204 7 = nI (arO V (6 * k)) ∧ arO V (6 * k) < 24) → (arT V (6 * k)) 204 1 = nI (arG V (6 * k)) → arG V (6 * k) < 6 → Wx E 177 [some (aR 200), some (aI (nI k)), some (aI (nI (6 * k))), none] [] (arT V (6 * k)) L N I 0 0 := by
    intro hok hk hg hg6
    refine x_aload_n (pc := 177) C dX7_addRead_177 rfl ?_
    refine x_cV0 (pc := 178) (o := 200) C v_X7_135 dX7_addRead_178 (c_X7_refusal (V := arT V (6 * k)) hI (by rw [arT_nf (by decide)]; exact hn) hn24 hk hg hg6) (hI 200 rfl) rfl (by decide) rfl ⟨Nat.le_refl _, Nat.le_refl _⟩ ?_
    refine x_topi (arR V n (6 * k)) rfl ?_
    refine y_istore_n (pc := 181) C dX7_addRead_181 (by decide) rfl ?_
    refine x_iload_n (pc := 182) C dX7_addRead_182 rfl ?_
    refine x_if_ne (pc := 183) (tgt := 191) C dX7_addRead_183 (by decide) (fun h183 => ?_) (fun h183 => ?_)
    · refine x_iload_n (pc := 191) C dX7_addRead_191 rfl ?_
      exact x_iret (pc := 192) C hQ dX7_addRead_192 (is_iv (by unfold arC; rw [if_pos hok]) (by unfold arV; rw [if_pos hok, if_neg h183])) (Nat.le_of_ble_eq_true rfl) (Nat.le_of_ble_eq_true rfl)
    · refine x_aload_n (pc := 186) C dX7_addRead_186 rfl ?_
      refine x_cV0 (pc := 187) (o := 200) C v_X7_142 dX7_addRead_187 (c_X7_putIn (V := arT V (6 * k)) hI (by rw [arT_nf (by decide)]; exact hn) hn24 (refR_lt hn24 h183)) (hI 200 rfl) rfl (by decide) rfl ⟨Nat.le_refl _, Nat.le_refl _⟩ ?_
      refine x_pop (pc := 190) C dX7_addRead_190 rfl ?_
      refine x_iload_n (pc := 191) C dX7_addRead_191 rfl ?_
      exact x_iret (pc := 192) C hQ dX7_addRead_192 (is_iv (by unfold arC; rw [if_pos hok]) (by unfold arV; rw [if_pos hok, if_pos h183]; rfl)) (Nat.le_of_ble_eq_true rfl) (Nat.le_of_ble_eq_true rfl)
  refine x_bipush (pc := 0) C (6) dX7_addRead_0 (by decide) ?_
  refine x_iload_n (pc := 2) C dX7_addRead_2 rfl ?_
  refine x_imul (pc := 3) C dX7_addRead_3 ?_
  refine x_topi (nI (6 * k)) (z_ixm (b := 6)) ?_
  refine y_istore_n (pc := 4) C dX7_addRead_4 (by decide) rfl ?_
  refine x_aload_n (pc := 5) C dX7_addRead_5 rfl ?_
  refine x_getR (pc := 6) (o := 200) (j := 209) C f_X7_34 dX7_addRead_6 (hI 200 rfl) ⟨rfl, rfl⟩ ?_
  refine x_iload_n (pc := 9) C dX7_addRead_9 rfl ?_
  refine x_iald (pc := 10) (o := 209) C dX7_addRead_10 (hI 209 rfl) ⟨rfl, rfl⟩ (show _ < 96 by omega) (by decide) ?_
  refine x_iconst (pc := 11) C (2) dX7_addRead_11 (by decide) ?_
  refine x_icmp_ne (pc := 12) (tgt := 78) C dX7_addRead_12 (by decide) (fun h12 => ?_) (fun h12 => ?_)
  · refine x_aload_n (pc := 78) C dX7_addRead_78 rfl ?_
    refine x_getR (pc := 79) (o := 200) (j := 209) C f_X7_34 dX7_addRead_79 (hI 200 rfl) ⟨rfl, rfl⟩ ?_
    refine x_iload_n (pc := 82) C dX7_addRead_82 rfl ?_
    refine x_iconst (pc := 83) C (1) dX7_addRead_83 (by decide) ?_
    refine x_iadd (pc := 84) C dX7_addRead_84 ?_
    refine x_topi (nI ((6 * k) + 1)) (nI_add (6 * k) 1) ?_
    refine x_iald (pc := 85) (o := 209) C dX7_addRead_85 (hI 209 rfl) ⟨rfl, rfl⟩ (show _ < 96 by omega) (by decide) ?_
    refine x_aload_n (pc := 86) C dX7_addRead_86 rfl ?_
    refine x_getR (pc := 87) (o := 200) (j := 209) C f_X7_34 dX7_addRead_87 (hI 200 rfl) ⟨rfl, rfl⟩ ?_
    refine x_iload_n (pc := 90) C dX7_addRead_90 rfl ?_
    refine x_iconst (pc := 91) C (2) dX7_addRead_91 (by decide) ?_
    refine x_iadd (pc := 92) C dX7_addRead_92 ?_
    refine x_topi (nI ((6 * k) + 2)) (nI_add (6 * k) 2) ?_
    refine x_iald (pc := 93) (o := 209) C dX7_addRead_93 (hI 209 rfl) ⟨rfl, rfl⟩ (show _ < 96 by omega) (by decide) ?_
    refine x_aload_n (pc := 94) C dX7_addRead_94 rfl ?_
    refine x_getR (pc := 95) (o := 200) (j := 209) C f_X7_34 dX7_addRead_95 (hI 200 rfl) ⟨rfl, rfl⟩ ?_
    refine x_iload_n (pc := 98) C dX7_addRead_98 rfl ?_
    refine x_iconst (pc := 99) C (3) dX7_addRead_99 (by decide) ?_
    refine x_iadd (pc := 100) C dX7_addRead_100 ?_
    refine x_topi (nI ((6 * k) + 3)) (nI_add (6 * k) 3) ?_
    refine x_iald (pc := 101) (o := 209) C dX7_addRead_101 (hI 209 rfl) ⟨rfl, rfl⟩ (show _ < 96 by omega) (by decide) ?_
    refine x_aload_n (pc := 102) C dX7_addRead_102 rfl ?_
    refine x_getR (pc := 103) (o := 200) (j := 209) C f_X7_34 dX7_addRead_103 (hI 200 rfl) ⟨rfl, rfl⟩ ?_
    refine x_iload_n (pc := 106) C dX7_addRead_106 rfl ?_
    refine x_iconst (pc := 107) C (4) dX7_addRead_107 (by decide) ?_
    refine x_iadd (pc := 108) C dX7_addRead_108 ?_
    refine x_topi (nI ((6 * k) + 4)) (nI_add (6 * k) 4) ?_
    refine x_iald (pc := 109) (o := 209) C dX7_addRead_109 (hI 209 rfl) ⟨rfl, rfl⟩ (show _ < 96 by omega) (by decide) ?_
    refine x_aload_n (pc := 110) C dX7_addRead_110 rfl ?_
    refine x_getR (pc := 111) (o := 200) (j := 209) C f_X7_34 dX7_addRead_111 (hI 200 rfl) ⟨rfl, rfl⟩ ?_
    refine x_iload_n (pc := 114) C dX7_addRead_114 rfl ?_
    refine x_iconst (pc := 115) C (5) dX7_addRead_115 (by decide) ?_
    refine x_iadd (pc := 116) C dX7_addRead_116 ?_
    refine x_topi (nI ((6 * k) + 5)) (nI_add (6 * k) 5) ?_
    refine x_iald (pc := 117) (o := 209) C dX7_addRead_117 (hI 209 rfl) ⟨rfl, rfl⟩ (show _ < 96 by omega) (by decide) ?_
    refine x_cS5 (pc := 118) C s_X7_145 dX7_addRead_118 (c_X7_areRight _ _ _ _ _) (by decide) rfl ⟨Nat.le_refl _, Nat.le_refl _⟩ ?_
    refine x_if_ne (pc := 121) (tgt := 127) C dX7_addRead_121 (by decide) (fun h121 => ?_) (fun h121 => ?_)
    · obtain ⟨g, hg6, hg1⟩ := right_g (b2i_t h121)
      have hG : arG V (6 * k) = g := by unfold arG; rw [if_neg h12, hg1]; exact nI_clamp (by omega)
      refine x_aload_n (pc := 127) C dX7_addRead_127 rfl ?_
      refine x_aload_n (pc := 128) C dX7_addRead_128 rfl ?_
      refine x_getR (pc := 129) (o := 200) (j := 209) C f_X7_34 dX7_addRead_129 (hI 200 rfl) ⟨rfl, rfl⟩ ?_
      refine x_iload_n (pc := 132) C dX7_addRead_132 rfl ?_
      refine x_iald (pc := 133) (o := 209) C dX7_addRead_133 (hI 209 rfl) ⟨rfl, rfl⟩ (show _ < 96 by omega) (by decide) ?_
      refine x_aload_n (pc := 134) C dX7_addRead_134 rfl ?_
      refine x_getR (pc := 135) (o := 200) (j := 209) C f_X7_34 dX7_addRead_135 (hI 200 rfl) ⟨rfl, rfl⟩ ?_
      refine x_iload_n (pc := 138) C dX7_addRead_138 rfl ?_
      refine x_iconst (pc := 139) C (1) dX7_addRead_139 (by decide) ?_
      refine x_iadd (pc := 140) C dX7_addRead_140 ?_
      refine x_topi (nI ((6 * k) + 1)) (nI_add (6 * k) 1) ?_
      refine x_iald (pc := 141) (o := 209) C dX7_addRead_141 (hI 209 rfl) ⟨rfl, rfl⟩ (show _ < 96 by omega) (by decide) ?_
      refine x_aload_n (pc := 142) C dX7_addRead_142 rfl ?_
      refine x_getR (pc := 143) (o := 200) (j := 209) C f_X7_34 dX7_addRead_143 (hI 200 rfl) ⟨rfl, rfl⟩ ?_
      refine x_iload_n (pc := 146) C dX7_addRead_146 rfl ?_
      refine x_iconst (pc := 147) C (2) dX7_addRead_147 (by decide) ?_
      refine x_iadd (pc := 148) C dX7_addRead_148 ?_
      refine x_topi (nI ((6 * k) + 2)) (nI_add (6 * k) 2) ?_
      refine x_iald (pc := 149) (o := 209) C dX7_addRead_149 (hI 209 rfl) ⟨rfl, rfl⟩ (show _ < 96 by omega) (by decide) ?_
      refine x_aload_n (pc := 150) C dX7_addRead_150 rfl ?_
      refine x_getR (pc := 151) (o := 200) (j := 209) C f_X7_34 dX7_addRead_151 (hI 200 rfl) ⟨rfl, rfl⟩ ?_
      refine x_iload_n (pc := 154) C dX7_addRead_154 rfl ?_
      refine x_iconst (pc := 155) C (3) dX7_addRead_155 (by decide) ?_
      refine x_iadd (pc := 156) C dX7_addRead_156 ?_
      refine x_topi (nI ((6 * k) + 3)) (nI_add (6 * k) 3) ?_
      refine x_iald (pc := 157) (o := 209) C dX7_addRead_157 (hI 209 rfl) ⟨rfl, rfl⟩ (show _ < 96 by omega) (by decide) ?_
      refine x_aload_n (pc := 158) C dX7_addRead_158 rfl ?_
      refine x_getR (pc := 159) (o := 200) (j := 209) C f_X7_34 dX7_addRead_159 (hI 200 rfl) ⟨rfl, rfl⟩ ?_
      refine x_iload_n (pc := 162) C dX7_addRead_162 rfl ?_
      refine x_iconst (pc := 163) C (4) dX7_addRead_163 (by decide) ?_
      refine x_iadd (pc := 164) C dX7_addRead_164 ?_
      refine x_topi (nI ((6 * k) + 4)) (nI_add (6 * k) 4) ?_
      refine x_iald (pc := 165) (o := 209) C dX7_addRead_165 (hI 209 rfl) ⟨rfl, rfl⟩ (show _ < 96 by omega) (by decide) ?_
      refine x_aload_n (pc := 166) C dX7_addRead_166 rfl ?_
      refine x_getR (pc := 167) (o := 200) (j := 209) C f_X7_34 dX7_addRead_167 (hI 200 rfl) ⟨rfl, rfl⟩ ?_
      refine x_iload_n (pc := 170) C dX7_addRead_170 rfl ?_
      refine x_iconst (pc := 171) C (5) dX7_addRead_171 (by decide) ?_
      refine x_iadd (pc := 172) C dX7_addRead_172 ?_
      refine x_topi (nI ((6 * k) + 5)) (nI_add (6 * k) 5) ?_
      refine x_iald (pc := 173) (o := 209) C dX7_addRead_173 (hI 209 rfl) ⟨rfl, rfl⟩ (show _ < 96 by omega) (by decide) ?_
      refine x_cV6 (pc := 174) (o := 200) C v_X7_49 dX7_addRead_174 (c_X7_tape hI _ _ _ _ _ _) (hI 200 rfl) rfl (by decide) rfl ⟨Nat.le_refl _, Nat.le_refl _⟩ ?_
      refine x_mem (show _ = arT V (6 * k) by unfold arT; rw [if_neg h12]) ?_
      exact J177 (arOk_4 h12 (b2i_t h121)) (fun q => absurd q (arT_k rfl h12)) (by unfold arT; rw [if_neg h12, hG, ← hg1]; rfl) (by omega)
    · refine x_bipush (pc := 124) C (20) dX7_addRead_124 (by decide) ?_
      exact x_iret (pc := 126) C hQ dX7_addRead_126 (is_iv (by unfold arC; rw [arOk_4 h12 (b2i_f h121)]; rfl) (by unfold arV; rw [arOk_4 h12 (b2i_f h121)]; rfl)) (Nat.le_of_ble_eq_true rfl) (Nat.le_of_ble_eq_true rfl)
  · refine x_aload_n (pc := 15) C dX7_addRead_15 rfl ?_
    refine x_aload_n (pc := 16) C dX7_addRead_16 rfl ?_
    refine x_getR (pc := 17) (o := 200) (j := 209) C f_X7_34 dX7_addRead_17 (hI 200 rfl) ⟨rfl, rfl⟩ ?_
    refine x_iload_n (pc := 20) C dX7_addRead_20 rfl ?_
    refine x_iconst (pc := 21) C (1) dX7_addRead_21 (by decide) ?_
    refine x_iadd (pc := 22) C dX7_addRead_22 ?_
    refine x_topi (nI ((6 * k) + 1)) (nI_add (6 * k) 1) ?_
    refine x_iald (pc := 23) (o := 209) C dX7_addRead_23 (hI 209 rfl) ⟨rfl, rfl⟩ (show _ < 96 by omega) (by decide) ?_
    refine x_cV1 (pc := 24) (o := 200) C v_X7_152 dX7_addRead_24 (c_X7_isShow hI hn hn24 _) (hI 200 rfl) rfl (by decide) rfl ⟨Nat.le_refl _, Nat.le_refl _⟩ ?_
    refine x_if_eq (pc := 27) (tgt := 44) C dX7_addRead_27 (by decide) (fun h27 => ?_) (fun h27 => ?_)
    · refine x_bipush (pc := 44) C (20) dX7_addRead_44 (by decide) ?_
      exact x_iret (pc := 46) C hQ dX7_addRead_46 (is_iv (by unfold arC; rw [arOk_1 h12 (b2i_f h27)]; rfl) (by unfold arV; rw [arOk_1 h12 (b2i_f h27)]; rfl)) (Nat.le_of_ble_eq_true rfl) (Nat.le_of_ble_eq_true rfl)
    · obtain ⟨o, ho, ho1⟩ := shNat hn24 (b2i_t h27)
      have hcl : arO V (6 * k) = o := by unfold arO; rw [ho1]; exact nI_clamp (by omega)
      obtain ⟨g, hg6, hog⟩ := hsg o ho
      have hG : arG V (6 * k) = g := by unfold arG; rw [if_pos h12, hcl, hog]; exact nI_clamp (by omega)
      refine x_aload_n (pc := 30) C dX7_addRead_30 rfl ?_
      refine x_getR (pc := 31) (o := 200) (j := 209) C f_X7_34 dX7_addRead_31 (hI 200 rfl) ⟨rfl, rfl⟩ ?_
      refine x_iload_n (pc := 34) C dX7_addRead_34 rfl ?_
      refine x_iconst (pc := 35) C (3) dX7_addRead_35 (by decide) ?_
      refine x_iadd (pc := 36) C dX7_addRead_36 ?_
      refine x_topi (nI ((6 * k) + 3)) (nI_add (6 * k) 3) ?_
      refine x_iald (pc := 37) (o := 209) C dX7_addRead_37 (hI 209 rfl) ⟨rfl, rfl⟩ (show _ < 96 by omega) (by decide) ?_
      refine x_cS1 (pc := 38) C s_X7_129 dX7_addRead_38 (c_X7_isStart _) (by decide) rfl ⟨Nat.le_refl _, Nat.le_refl _⟩ ?_
      refine x_if_ne (pc := 41) (tgt := 47) C dX7_addRead_41 (by decide) (fun h41 => ?_) (fun h41 => ?_)
      · refine x_aload_n (pc := 47) C dX7_addRead_47 rfl ?_
        refine x_aload_n (pc := 48) C dX7_addRead_48 rfl ?_
        refine x_getR (pc := 49) (o := 200) (j := 209) C f_X7_34 dX7_addRead_49 (hI 200 rfl) ⟨rfl, rfl⟩ ?_
        refine x_iload_n (pc := 52) C dX7_addRead_52 rfl ?_
        refine x_iconst (pc := 53) C (1) dX7_addRead_53 (by decide) ?_
        refine x_iadd (pc := 54) C dX7_addRead_54 ?_
        refine x_topi (nI ((6 * k) + 1)) (nI_add (6 * k) 1) ?_
        refine x_iald (pc := 55) (o := 209) C dX7_addRead_55 (hI 209 rfl) ⟨rfl, rfl⟩ (show _ < 96 by omega) (by decide) ?_
        refine x_topi (nI o) ho1 ?_
        refine x_aload_n (pc := 56) C dX7_addRead_56 rfl ?_
        refine x_getR (pc := 57) (o := 200) (j := 209) C f_X7_34 dX7_addRead_57 (hI 200 rfl) ⟨rfl, rfl⟩ ?_
        refine x_iload_n (pc := 60) C dX7_addRead_60 rfl ?_
        refine x_iconst (pc := 61) C (2) dX7_addRead_61 (by decide) ?_
        refine x_iadd (pc := 62) C dX7_addRead_62 ?_
        refine x_topi (nI ((6 * k) + 2)) (nI_add (6 * k) 2) ?_
        refine x_iald (pc := 63) (o := 209) C dX7_addRead_63 (hI 209 rfl) ⟨rfl, rfl⟩ (show _ < 96 by omega) (by decide) ?_
        refine x_aload_n (pc := 64) C dX7_addRead_64 rfl ?_
        refine x_getR (pc := 65) (o := 200) (j := 209) C f_X7_34 dX7_addRead_65 (hI 200 rfl) ⟨rfl, rfl⟩ ?_
        refine x_iload_n (pc := 68) C dX7_addRead_68 rfl ?_
        refine x_iconst (pc := 69) C (3) dX7_addRead_69 (by decide) ?_
        refine x_iadd (pc := 70) C dX7_addRead_70 ?_
        refine x_topi (nI ((6 * k) + 3)) (nI_add (6 * k) 3) ?_
        refine x_iald (pc := 71) (o := 209) C dX7_addRead_71 (hI 209 rfl) ⟨rfl, rfl⟩ (show _ < 96 by omega) (by decide) ?_
        refine x_cV3 (pc := 72) (o := 200) C v_X7_155 dX7_addRead_72 (c_X7_again hI o (by omega) _ _) (hI 200 rfl) rfl (by decide) rfl ⟨Nat.le_refl _, Nat.le_refl _⟩ ?_
        refine x_mem (show _ = arT V (6 * k) by unfold arT; rw [if_pos h12, hcl]) ?_
        refine x_goto (pc := 75) (tgt := 177) C dX7_addRead_75 (by decide) ?_
        exact J177 (arOk_3 h12 (b2i_t h27) (b2i_t h41)) (fun _ => ⟨by unfold arT; rw [if_pos h12]; rfl, by omega⟩) (by unfold arT; rw [if_pos h12, hG, hcl, ← hog]; rfl) (by omega)
      · refine x_bipush (pc := 44) C (20) dX7_addRead_44 (by decide) ?_
        exact x_iret (pc := 46) C hQ dX7_addRead_46 (is_iv (by unfold arC; rw [arOk_2 h12 (b2i_f h41)]; rfl) (by unfold arV; rw [arOk_2 h12 (b2i_f h41)]; rfl)) (Nat.le_of_ble_eq_true rfl) (Nat.le_of_ble_eq_true rfl)
