set_option maxRecDepth 100000 in
set_option maxHeartbeats 4000000 in
theorem c_X3_moveShow {l : Launch} {V : VV} {L : LL} {N : NN} {I : List Nat} (hI : PI I) (f t : Nat) (hf : f < 24) (ht : t < 24) : Runs l 1 0 0 yX3_moveShow (Cond.code yX3_moveShow cX3_moveShow 3 none) [aR 20, aI (nI f), aI (nI t)] V L N I (Is none (mvV V f t) (L) N I) := by
  refine run_of RX3 (by decide +kernel) rfl (Nat.le_of_ble_eq_true rfl) (fun E hE C hQ hN => ?_)
  subst hE
  refine x_aload_n (pc := 0) C dX3_moveShow_0 rfl ?_
  refine x_getR (pc := 1) (o := 20) (j := 29) C f_X3_30 dX3_moveShow_1 (hI 20 rfl) ⟨rfl, rfl⟩ ?_
  refine x_iload_n (pc := 4) C dX3_moveShow_4 rfl ?_
  refine x_aload_n (pc := 5) C dX3_moveShow_5 rfl ?_
  refine x_getR (pc := 6) (o := 20) (j := 29) C f_X3_30 dX3_moveShow_6 (hI 20 rfl) ⟨rfl, rfl⟩ ?_
  refine x_iload_n (pc := 9) C dX3_moveShow_9 rfl ?_
  refine x_iald (pc := 10) (o := 29) C dX3_moveShow_10 (hI 29 rfl) ⟨rfl, rfl⟩ (show _ < 24 by omega) (by decide) ?_
  refine x_iast (pc := 11) (o := 29) C dX3_moveShow_11 (hI 29 rfl) ⟨rfl, rfl⟩ (show _ < 24 by omega) (by decide) ?_
  refine x_aload_n (pc := 12) C dX3_moveShow_12 rfl ?_
  refine x_getR (pc := 13) (o := 20) (j := 30) C f_X3_33 dX3_moveShow_13 (hI 20 rfl) ⟨rfl, rfl⟩ ?_
  refine x_iload_n (pc := 16) C dX3_moveShow_16 rfl ?_
  refine x_aload_n (pc := 17) C dX3_moveShow_17 rfl ?_
  refine x_getR (pc := 18) (o := 20) (j := 30) C f_X3_33 dX3_moveShow_18 (hI 20 rfl) ⟨rfl, rfl⟩ ?_
  refine x_iload_n (pc := 21) C dX3_moveShow_21 rfl ?_
  refine x_iald (pc := 22) (o := 30) C dX3_moveShow_22 (hI 30 rfl) ⟨rfl, rfl⟩ (show _ < 24 by omega) (by decide) ?_
  refine x_iast (pc := 23) (o := 30) C dX3_moveShow_23 (hI 30 rfl) ⟨rfl, rfl⟩ (show _ < 24 by omega) (by decide) ?_
  refine x_aload_n (pc := 24) C dX3_moveShow_24 rfl ?_
  refine x_getR (pc := 25) (o := 20) (j := 31) C f_X3_36 dX3_moveShow_25 (hI 20 rfl) ⟨rfl, rfl⟩ ?_
  refine x_iload_n (pc := 28) C dX3_moveShow_28 rfl ?_
  refine x_aload_n (pc := 29) C dX3_moveShow_29 rfl ?_
  refine x_getR (pc := 30) (o := 20) (j := 31) C f_X3_36 dX3_moveShow_30 (hI 20 rfl) ⟨rfl, rfl⟩ ?_
  refine x_iload_n (pc := 33) C dX3_moveShow_33 rfl ?_
  refine x_iald (pc := 34) (o := 31) C dX3_moveShow_34 (hI 31 rfl) ⟨rfl, rfl⟩ (show _ < 24 by omega) (by decide) ?_
  refine x_iast (pc := 35) (o := 31) C dX3_moveShow_35 (hI 31 rfl) ⟨rfl, rfl⟩ (show _ < 24 by omega) (by decide) ?_
  refine x_aload_n (pc := 36) C dX3_moveShow_36 rfl ?_
  refine x_getR (pc := 37) (o := 20) (j := 32) C f_X3_39 dX3_moveShow_37 (hI 20 rfl) ⟨rfl, rfl⟩ ?_
  refine x_iload_n (pc := 40) C dX3_moveShow_40 rfl ?_
  refine x_aload_n (pc := 41) C dX3_moveShow_41 rfl ?_
  refine x_getR (pc := 42) (o := 20) (j := 32) C f_X3_39 dX3_moveShow_42 (hI 20 rfl) ⟨rfl, rfl⟩ ?_
  refine x_iload_n (pc := 45) C dX3_moveShow_45 rfl ?_
  refine x_iald (pc := 46) (o := 32) C dX3_moveShow_46 (hI 32 rfl) ⟨rfl, rfl⟩ (show _ < 24 by omega) (by decide) ?_
  refine x_iast (pc := 47) (o := 32) C dX3_moveShow_47 (hI 32 rfl) ⟨rfl, rfl⟩ (show _ < 24 by omega) (by decide) ?_
  refine x_aload_n (pc := 48) C dX3_moveShow_48 rfl ?_
  refine x_getR (pc := 49) (o := 20) (j := 33) C f_X3_42 dX3_moveShow_49 (hI 20 rfl) ⟨rfl, rfl⟩ ?_
  refine x_iload_n (pc := 52) C dX3_moveShow_52 rfl ?_
  refine x_aload_n (pc := 53) C dX3_moveShow_53 rfl ?_
  refine x_getR (pc := 54) (o := 20) (j := 33) C f_X3_42 dX3_moveShow_54 (hI 20 rfl) ⟨rfl, rfl⟩ ?_
  refine x_iload_n (pc := 57) C dX3_moveShow_57 rfl ?_
  refine x_iald (pc := 58) (o := 33) C dX3_moveShow_58 (hI 33 rfl) ⟨rfl, rfl⟩ (show _ < 24 by omega) (by decide) ?_
  refine x_iast (pc := 59) (o := 33) C dX3_moveShow_59 (hI 33 rfl) ⟨rfl, rfl⟩ (show _ < 24 by omega) (by decide) ?_
  refine x_aload_n (pc := 60) C dX3_moveShow_60 rfl ?_
  refine x_getR (pc := 61) (o := 20) (j := 34) C f_X3_45 dX3_moveShow_61 (hI 20 rfl) ⟨rfl, rfl⟩ ?_
  refine x_iload_n (pc := 64) C dX3_moveShow_64 rfl ?_
  refine x_aload_n (pc := 65) C dX3_moveShow_65 rfl ?_
  refine x_getR (pc := 66) (o := 20) (j := 34) C f_X3_45 dX3_moveShow_66 (hI 20 rfl) ⟨rfl, rfl⟩ ?_
  refine x_iload_n (pc := 69) C dX3_moveShow_69 rfl ?_
  refine x_iald (pc := 70) (o := 34) C dX3_moveShow_70 (hI 34 rfl) ⟨rfl, rfl⟩ (show _ < 24 by omega) (by decide) ?_
  refine x_iast (pc := 71) (o := 34) C dX3_moveShow_71 (hI 34 rfl) ⟨rfl, rfl⟩ (show _ < 24 by omega) (by decide) ?_
  refine x_aload_n (pc := 72) C dX3_moveShow_72 rfl ?_
  refine x_getR (pc := 73) (o := 20) (j := 35) C f_X3_48 dX3_moveShow_73 (hI 20 rfl) ⟨rfl, rfl⟩ ?_
  refine x_iload_n (pc := 76) C dX3_moveShow_76 rfl ?_
  refine x_aload_n (pc := 77) C dX3_moveShow_77 rfl ?_
  refine x_getR (pc := 78) (o := 20) (j := 35) C f_X3_48 dX3_moveShow_78 (hI 20 rfl) ⟨rfl, rfl⟩ ?_
  refine x_iload_n (pc := 81) C dX3_moveShow_81 rfl ?_
  refine x_iald (pc := 82) (o := 35) C dX3_moveShow_82 (hI 35 rfl) ⟨rfl, rfl⟩ (show _ < 24 by omega) (by decide) ?_
  refine x_iast (pc := 83) (o := 35) C dX3_moveShow_83 (hI 35 rfl) ⟨rfl, rfl⟩ (show _ < 24 by omega) (by decide) ?_
  refine x_aload_n (pc := 84) C dX3_moveShow_84 rfl ?_
  refine x_getR (pc := 85) (o := 20) (j := 36) C f_X3_51 dX3_moveShow_85 (hI 20 rfl) ⟨rfl, rfl⟩ ?_
  refine x_iload_n (pc := 88) C dX3_moveShow_88 rfl ?_
  refine x_aload_n (pc := 89) C dX3_moveShow_89 rfl ?_
  refine x_getR (pc := 90) (o := 20) (j := 36) C f_X3_51 dX3_moveShow_90 (hI 20 rfl) ⟨rfl, rfl⟩ ?_
  refine x_iload_n (pc := 93) C dX3_moveShow_93 rfl ?_
  refine x_iald (pc := 94) (o := 36) C dX3_moveShow_94 (hI 36 rfl) ⟨rfl, rfl⟩ (show _ < 24 by omega) (by decide) ?_
  refine x_iast (pc := 95) (o := 36) C dX3_moveShow_95 (hI 36 rfl) ⟨rfl, rfl⟩ (show _ < 24 by omega) (by decide) ?_
  exact x_vret (pc := 96) C hQ dX3_moveShow_96 (is_v mv_eq) (Nat.le_of_ble_eq_true rfl) (Nat.le_of_ble_eq_true rfl)
set_option maxRecDepth 100000 in
set_option maxHeartbeats 4000000 in
theorem c_X3_insert {l : Launch} {V : VV} {L : LL} {N : NN} {I : List Nat} (hI : PI I) {n : Nat} (hn : V 20 7 = nI n) (hn24 : n ≤ 24) (hlt : n < 24) : Runs l 2 0 0 yX3_insert (Cond.code yX3_insert cX3_insert 4 (some .int)) [aR 20, aR 5] V L N I (Is (some (aI (nI (cntN (befS (CF V) (V 5 2) (V 5 3)) n)))) (insV V n (cntN (befS (CF V) (V 5 2) (V 5 3)) n)) (L) N I) := by
  refine run_of RX3 (by decide +kernel) rfl (Nat.le_of_ble_eq_true rfl) (fun E hE C hQ hN => ?_)
  subst hE
  refine x_aload_n (pc := 0) C dX3_insert_0 rfl ?_
  refine x_getI (pc := 1) (o := 20) C f_X3_67 dX3_insert_1 (hI 20 rfl) ⟨rfl, rfl, rfl⟩ ?_
  refine x_topi (nI n) hn ?_
  refine x_bipush (pc := 4) C (24) dX3_insert_4 (by decide) ?_
  refine x_icmp_lt (pc := 6) (tgt := 11) C dX3_insert_6 (by decide) (fun h6 => ?_) (fun h6 => absurd (by exact nI_lt (a := n) (b := 24) (by omega) (by omega)) h6)
  refine x_aload_n (pc := 11) C dX3_insert_11 rfl ?_
  refine x_aload_n (pc := 12) C dX3_insert_12 rfl ?_
  refine x_getI (pc := 13) (o := 5) C f_X3_99 dX3_insert_13 (hI 5 rfl) ⟨rfl, rfl, rfl⟩ ?_
  refine x_aload_n (pc := 16) C dX3_insert_16 rfl ?_
  refine x_getI (pc := 17) (o := 5) C f_X3_96 dX3_insert_17 (hI 5 rfl) ⟨rfl, rfl, rfl⟩ ?_
  refine x_cV2 (pc := 20) (o := 20) C v_X3_139 dX3_insert_20 (c_X3_numberFor hI hn hn24 _ _) (hI 20 rfl) rfl (by decide) rfl ⟨Nat.le_refl _, Nat.le_refl _⟩ ?_
  refine y_istore_n (pc := 23) C dX3_insert_23 (by decide) rfl ?_
  refine x_aload_n (pc := 24) C dX3_insert_24 rfl ?_
  refine x_getI (pc := 25) (o := 20) C f_X3_67 dX3_insert_25 (hI 20 rfl) ⟨rfl, rfl, rfl⟩ ?_
  refine x_topi (nI n) hn ?_
  refine y_istore_n (pc := 28) C dX3_insert_28 (by decide) rfl ?_
  obtain ⟨p, hp⟩ : ∃ p, p = cntN (befS (CF V) (V 5 2) (V 5 3)) n := ⟨_, rfl⟩
  have hpn : p ≤ n := hp ▸ cntN_le _ _
  rw [← hp]
  suffices key : ∀ (k i : Nat), k + p = i → i ≤ n → Wx E 29 [some (aR 20), some (aR 5), some (aI (nI p)), some (aI (nI i))] [] (shV V i n) L N I 0 0 by
    have := key (n - p) n (by omega) (Nat.le_refl _)
    rw [shV_0] at this; exact this
  intro k
  induction k with
  | zero =>
    intro i hk hin
    have hip : i = p := by omega
    subst hip
    refine x_iload_n (pc := 29) C dX3_insert_29 rfl ?_
    refine x_iload_n (pc := 30) C dX3_insert_30 rfl ?_
    refine x_icmp_le (pc := 31) (tgt := 48) C dX3_insert_31 (by decide) (fun h31 => ?_) (fun h31 => absurd (by exact nI_le (by omega) (by omega)) h31)
    refine x_aload_n (pc := 48) C dX3_insert_48 rfl ?_
    refine x_dup (pc := 49) C dX3_insert_49 rfl ?_
    refine x_getI (pc := 50) (o := 20) C f_X3_67 dX3_insert_50 (hI 20 rfl) ⟨rfl, rfl, rfl⟩ ?_
    refine x_topi (nI n) (by rw [shV_no (by decide)]; exact hn) ?_
    refine x_iconst (pc := 53) C (1) dX3_insert_53 (by decide) ?_
    refine x_iadd (pc := 54) C dX3_insert_54 ?_
    refine x_topi (nI (n + 1)) (nI_1 n) ?_
    refine x_putI (pc := 55) (o := 20) C p_X3_67 dX3_insert_55 (hI 20 rfl) ⟨rfl, rfl, rfl⟩ ?_
    refine x_aload_n (pc := 58) C dX3_insert_58 rfl ?_
    refine x_getR (pc := 59) (o := 20) (j := 36) C f_X3_51 dX3_insert_59 (hI 20 rfl) ⟨rfl, rfl⟩ ?_
    refine x_iload_n (pc := 62) C dX3_insert_62 rfl ?_
    refine x_aload_n (pc := 63) C dX3_insert_63 rfl ?_
    refine x_getI (pc := 64) (o := 5) C f_X3_78 dX3_insert_64 (hI 5 rfl) ⟨rfl, rfl, rfl⟩ ?_
    refine x_topi (V 5 6) (by rw [up_no (by decide), shV_no (by decide)]) ?_
    refine x_iast (pc := 67) (o := 36) C dX3_insert_67 (hI 36 rfl) ⟨rfl, rfl⟩ (show _ < 24 by omega) (by decide) ?_
    refine x_iconst (pc := 68) C (0) dX3_insert_68 (by decide) ?_
    refine y_istore_n (pc := 69) C dX3_insert_69 (by decide) rfl ?_
    suffices key2 : ∀ (k j : Nat), k + j = n + 1 → Wx E 70 [some (aR 20), some (aR 5), some (aI (nI i)), some (aI (nI j))] [] (adjV (up (up (shV V i n) 20 7 (nI (n + 1))) 36 i (V 5 6)) i j) L N I 0 0 by
      have := key2 (n + 1) 0 (by omega)
      rw [adjV_0] at this; exact this
    intro k
    induction k with
    | zero =>
      intro j hk
      refine x_iload_n (pc := 70) C dX3_insert_70 rfl ?_
      refine x_aload_n (pc := 71) C dX3_insert_71 rfl ?_
      refine x_getI (pc := 72) (o := 20) C f_X3_67 dX3_insert_72 (hI 20 rfl) ⟨rfl, rfl, rfl⟩ ?_
      refine x_topi (nI (n + 1)) (by rw [adjV_no (by decide), up_no (by decide), up_ss]) ?_
      refine x_icmp_ge (pc := 75) (tgt := 104) C dX3_insert_75 (by decide) (fun h75 => ?_) (fun h75 => absurd (by exact nI_le (by omega) (by omega)) h75)
      refine x_aload_n (pc := 104) C dX3_insert_104 rfl ?_
      refine x_getR (pc := 105) (o := 20) (j := 29) C f_X3_30 dX3_insert_105 (hI 20 rfl) ⟨rfl, rfl⟩ ?_
      refine x_iload_n (pc := 108) C dX3_insert_108 rfl ?_
      refine x_aload_n (pc := 109) C dX3_insert_109 rfl ?_
      refine x_getI (pc := 110) (o := 5) C f_X3_93 dX3_insert_110 (hI 5 rfl) ⟨rfl, rfl, rfl⟩ ?_
      refine x_iast (pc := 113) (o := 29) C dX3_insert_113 (hI 29 rfl) ⟨rfl, rfl⟩ (show _ < 24 by omega) (by decide) ?_
      refine x_aload_n (pc := 114) C dX3_insert_114 rfl ?_
      refine x_getR (pc := 115) (o := 20) (j := 30) C f_X3_33 dX3_insert_115 (hI 20 rfl) ⟨rfl, rfl⟩ ?_
      refine x_iload_n (pc := 118) C dX3_insert_118 rfl ?_
      refine x_aload_n (pc := 119) C dX3_insert_119 rfl ?_
      refine x_getI (pc := 120) (o := 5) C f_X3_87 dX3_insert_120 (hI 5 rfl) ⟨rfl, rfl, rfl⟩ ?_
      refine x_iast (pc := 123) (o := 30) C dX3_insert_123 (hI 30 rfl) ⟨rfl, rfl⟩ (show _ < 24 by omega) (by decide) ?_
      refine x_aload_n (pc := 124) C dX3_insert_124 rfl ?_
      refine x_getR (pc := 125) (o := 20) (j := 31) C f_X3_36 dX3_insert_125 (hI 20 rfl) ⟨rfl, rfl⟩ ?_
      refine x_iload_n (pc := 128) C dX3_insert_128 rfl ?_
      refine x_aload_n (pc := 129) C dX3_insert_129 rfl ?_
      refine x_getI (pc := 130) (o := 5) C f_X3_99 dX3_insert_130 (hI 5 rfl) ⟨rfl, rfl, rfl⟩ ?_
      refine x_iast (pc := 133) (o := 31) C dX3_insert_133 (hI 31 rfl) ⟨rfl, rfl⟩ (show _ < 24 by omega) (by decide) ?_
      refine x_aload_n (pc := 134) C dX3_insert_134 rfl ?_
      refine x_getR (pc := 135) (o := 20) (j := 32) C f_X3_39 dX3_insert_135 (hI 20 rfl) ⟨rfl, rfl⟩ ?_
      refine x_iload_n (pc := 138) C dX3_insert_138 rfl ?_
      refine x_aload_n (pc := 139) C dX3_insert_139 rfl ?_
      refine x_getI (pc := 140) (o := 5) C f_X3_96 dX3_insert_140 (hI 5 rfl) ⟨rfl, rfl, rfl⟩ ?_
      refine x_iast (pc := 143) (o := 32) C dX3_insert_143 (hI 32 rfl) ⟨rfl, rfl⟩ (show _ < 24 by omega) (by decide) ?_
      refine x_aload_n (pc := 144) C dX3_insert_144 rfl ?_
      refine x_getR (pc := 145) (o := 20) (j := 33) C f_X3_42 dX3_insert_145 (hI 20 rfl) ⟨rfl, rfl⟩ ?_
      refine x_iload_n (pc := 148) C dX3_insert_148 rfl ?_
      refine x_aload_n (pc := 149) C dX3_insert_149 rfl ?_
      refine x_getI (pc := 150) (o := 5) C f_X3_90 dX3_insert_150 (hI 5 rfl) ⟨rfl, rfl, rfl⟩ ?_
      refine x_iast (pc := 153) (o := 33) C dX3_insert_153 (hI 33 rfl) ⟨rfl, rfl⟩ (show _ < 24 by omega) (by decide) ?_
      refine x_aload_n (pc := 154) C dX3_insert_154 rfl ?_
      refine x_getR (pc := 155) (o := 20) (j := 34) C f_X3_45 dX3_insert_155 (hI 20 rfl) ⟨rfl, rfl⟩ ?_
      refine x_iload_n (pc := 158) C dX3_insert_158 rfl ?_
      refine x_aload_n (pc := 159) C dX3_insert_159 rfl ?_
      refine x_getI (pc := 160) (o := 5) C f_X3_113 dX3_insert_160 (hI 5 rfl) ⟨rfl, rfl, rfl⟩ ?_
      refine x_iast (pc := 163) (o := 34) C dX3_insert_163 (hI 34 rfl) ⟨rfl, rfl⟩ (show _ < 24 by omega) (by decide) ?_
      refine x_aload_n (pc := 164) C dX3_insert_164 rfl ?_
      refine x_getR (pc := 165) (o := 20) (j := 35) C f_X3_48 dX3_insert_165 (hI 20 rfl) ⟨rfl, rfl⟩ ?_
      refine x_iload_n (pc := 168) C dX3_insert_168 rfl ?_
      refine x_iconst (pc := 169) C (0) dX3_insert_169 (by decide) ?_
      refine x_iast (pc := 170) (o := 35) C dX3_insert_170 (hI 35 rfl) ⟨rfl, rfl⟩ (show _ < 24 by omega) (by decide) ?_
      refine x_iload_n (pc := 171) C dX3_insert_171 rfl ?_
      exact x_iret (pc := 172) C hQ dX3_insert_172 (is_iv (by rw [← hp]) (by rw [← hp, show j = n + 1 by omega]; rfl)) (Nat.le_of_ble_eq_true rfl) (Nat.le_of_ble_eq_true rfl)
    | succ k ih2 =>
      intro j hk
      refine x_iload_n (pc := 70) C dX3_insert_70 rfl ?_
      refine x_aload_n (pc := 71) C dX3_insert_71 rfl ?_
      refine x_getI (pc := 72) (o := 20) C f_X3_67 dX3_insert_72 (hI 20 rfl) ⟨rfl, rfl, rfl⟩ ?_
      refine x_topi (nI (n + 1)) (by rw [adjV_no (by decide), up_no (by decide), up_ss]) ?_
      refine x_icmp_ge (pc := 75) (tgt := 104) C dX3_insert_75 (by decide) (fun h75 => absurd h75 (by exact nI_ge (by omega) (by omega))) (fun h75 => ?_)
      refine x_aload_n (pc := 78) C dX3_insert_78 rfl ?_
      refine x_getR (pc := 79) (o := 20) (j := 36) C f_X3_51 dX3_insert_79 (hI 20 rfl) ⟨rfl, rfl⟩ ?_
      refine x_iload_n (pc := 82) C dX3_insert_82 rfl ?_
      refine x_iald (pc := 83) (o := 36) C dX3_insert_83 (hI 36 rfl) ⟨rfl, rfl⟩ (show _ < 24 by omega) (by decide) ?_
      refine x_topi ((up (up (shV V i n) 20 7 (nI (n + 1))) 36 i (V 5 6)) 36 j) adjV_at ?_
      refine x_iload_n (pc := 84) C dX3_insert_84 rfl ?_
      refine x_icmp_lt (pc := 85) (tgt := 98) C dX3_insert_85 (by decide) (fun h85 => ?_) (fun h85 => ?_)
      · refine x_mem (adjV_f (Int32.not_le.mpr h85)) ?_
        refine y_iinc (pc := 98) C (nI (j + 1)) dX3_insert_98 rfl (by exact nI_1 j) (by decide) rfl ?_
        refine x_goto (pc := 101) (tgt := 70) C dX3_insert_101 (by decide) ?_
        exact ih2 (j + 1) (by omega)
      · refine x_aload_n (pc := 88) C dX3_insert_88 rfl ?_
        refine x_getR (pc := 89) (o := 20) (j := 36) C f_X3_51 dX3_insert_89 (hI 20 rfl) ⟨rfl, rfl⟩ ?_
        refine x_iload_n (pc := 92) C dX3_insert_92 rfl ?_
        refine x_dup2 (pc := 93) C dX3_insert_93 rfl rfl ?_
        refine x_iald (pc := 94) (o := 36) C dX3_insert_94 (hI 36 rfl) ⟨rfl, rfl⟩ (show _ < 24 by omega) (by decide) ?_
        refine x_topi ((up (up (shV V i n) 20 7 (nI (n + 1))) 36 i (V 5 6)) 36 j) adjV_at ?_
        refine x_iconst (pc := 95) C (1) dX3_insert_95 (by decide) ?_
        refine x_iadd (pc := 96) C dX3_insert_96 ?_
        refine x_iast (pc := 97) (o := 36) C dX3_insert_97 (hI 36 rfl) ⟨rfl, rfl⟩ (show _ < 24 by omega) (by decide) ?_
        refine x_mem (adjV_t (Int32.not_lt.mp h85)) ?_
        refine y_iinc (pc := 98) C (nI (j + 1)) dX3_insert_98 rfl (by exact nI_1 j) (by decide) rfl ?_
        refine x_goto (pc := 101) (tgt := 70) C dX3_insert_101 (by decide) ?_
        exact ih2 (j + 1) (by omega)
  | succ k ih =>
    intro i hk hin
    obtain ⟨i, rfl⟩ : ∃ j, i = j + 1 := ⟨i - 1, by omega⟩
    refine x_iload_n (pc := 29) C dX3_insert_29 rfl ?_
    refine x_iload_n (pc := 30) C dX3_insert_30 rfl ?_
    refine x_icmp_le (pc := 31) (tgt := 48) C dX3_insert_31 (by decide) (fun h31 => absurd h31 (by exact nI_ge (by omega) (by omega))) (fun h31 => ?_)
    refine x_aload_n (pc := 34) C dX3_insert_34 rfl ?_
    refine x_iload_n (pc := 35) C dX3_insert_35 rfl ?_
    refine x_iconst (pc := 36) C (1) dX3_insert_36 (by decide) ?_
    refine x_isub (pc := 37) C dX3_insert_37 ?_
    refine x_topi (nI i) (nI_pred i) ?_
    refine x_iload_n (pc := 38) C dX3_insert_38 rfl ?_
    refine x_cV2 (pc := 39) (o := 20) C v_X3_142 dX3_insert_39 (c_X3_moveShow hI i (i + 1) (by omega) (by omega)) (hI 20 rfl) rfl (by decide) rfl ⟨Nat.le_refl _, Nat.le_refl _⟩ ?_
    refine x_mem (shV_s hin) ?_
    refine y_iinc (pc := 42) C (nI i) dX3_insert_42 rfl (by exact pk_m1 i) (by decide) rfl ?_
    refine x_goto (pc := 45) (tgt := 29) C dX3_insert_45 (by decide) ?_
    exact ih i (by omega) (by omega)
set_option maxRecDepth 100000 in
set_option maxHeartbeats 4000000 in
theorem c_X3_takeOut {l : Launch} {V : VV} {L : LL} {N : NN} {I : List Nat} (hI : PI I) {n : Nat} (hn : V 20 7 = nI (n + 1)) (hn24 : n < 24) (p : Nat) (hp : p ≤ n) : Runs l 2 0 0 yX3_takeOut (Cond.code yX3_takeOut cX3_takeOut 3 none) [aR 20, aI (nI p)] V L N I (Is none (delV V n p) (L) N I) := by
  refine run_of RX3 (by decide +kernel) rfl (Nat.le_of_ble_eq_true rfl) (fun E hE C hQ hN => ?_)
  subst hE
  refine x_iload_n (pc := 0) C dX3_takeOut_0 rfl ?_
  refine y_istore_n (pc := 1) C dX3_takeOut_1 (by decide) rfl ?_
  suffices key : ∀ (k i : Nat), k + i = n → p ≤ i → Wx E 2 [some (aR 20), some (aI (nI p)), some (aI (nI i))] [] (slV V p i) L N I 0 0 by
    have := key (n - p) p (by omega) (Nat.le_refl _)
    rw [slV_0] at this; exact this
  intro k
  induction k with
  | zero =>
    intro i hk hpi
    have hin : i = n := by omega
    subst hin
    refine x_iload_n (pc := 2) C dX3_takeOut_2 rfl ?_
    refine x_aload_n (pc := 3) C dX3_takeOut_3 rfl ?_
    refine x_getI (pc := 4) (o := 20) C f_X3_67 dX3_takeOut_4 (hI 20 rfl) ⟨rfl, rfl, rfl⟩ ?_
    refine x_topi (nI (i + 1)) (by rw [slV_no (by decide)]; exact hn) ?_
    refine x_iconst (pc := 7) C (1) dX3_takeOut_7 (by decide) ?_
    refine x_isub (pc := 8) C dX3_takeOut_8 ?_
    refine x_topi (nI i) (nI_pred i) ?_
    refine x_icmp_ge (pc := 9) (tgt := 26) C dX3_takeOut_9 (by decide) (fun h9 => ?_) (fun h9 => absurd (by exact nI_le (by omega) (by omega)) h9)
    refine x_aload_n (pc := 26) C dX3_takeOut_26 rfl ?_
    refine x_dup (pc := 27) C dX3_takeOut_27 rfl ?_
    refine x_getI (pc := 28) (o := 20) C f_X3_67 dX3_takeOut_28 (hI 20 rfl) ⟨rfl, rfl, rfl⟩ ?_
    refine x_topi (nI (i + 1)) (by rw [slV_no (by decide)]; exact hn) ?_
    refine x_iconst (pc := 31) C (1) dX3_takeOut_31 (by decide) ?_
    refine x_isub (pc := 32) C dX3_takeOut_32 ?_
    refine x_topi (nI i) (nI_pred i) ?_
    refine x_putI (pc := 33) (o := 20) C p_X3_67 dX3_takeOut_33 (hI 20 rfl) ⟨rfl, rfl, rfl⟩ ?_
    refine x_iconst (pc := 36) C (0) dX3_takeOut_36 (by decide) ?_
    refine y_istore_n (pc := 37) C dX3_takeOut_37 (by decide) rfl ?_
    suffices key2 : ∀ (k j : Nat), k + j = i → Wx E 38 [some (aR 20), some (aI (nI p)), some (aI (nI j))] [] (dcV (up (slV V p i) 20 7 (nI i)) p j) L N I 0 0 by
      have := key2 i 0 (by omega)
      rw [dcV_0] at this; exact this
    intro k
    induction k with
    | zero =>
      intro j hk
      refine x_iload_n (pc := 38) C dX3_takeOut_38 rfl ?_
      refine x_aload_n (pc := 39) C dX3_takeOut_39 rfl ?_
      refine x_getI (pc := 40) (o := 20) C f_X3_67 dX3_takeOut_40 (hI 20 rfl) ⟨rfl, rfl, rfl⟩ ?_
      refine x_topi (nI i) (by rw [dcV_no (by decide), up_ss]) ?_
      refine x_icmp_ge (pc := 43) (tgt := 72) C dX3_takeOut_43 (by decide) (fun h43 => ?_) (fun h43 => absurd (by exact nI_le (by omega) (by omega)) h43)
      exact x_vret (pc := 72) C hQ dX3_takeOut_72 (is_v (by rw [show j = i by omega]; rfl)) (Nat.le_of_ble_eq_true rfl) (Nat.le_of_ble_eq_true rfl)
    | succ k ih2 =>
      intro j hk
      refine x_iload_n (pc := 38) C dX3_takeOut_38 rfl ?_
      refine x_aload_n (pc := 39) C dX3_takeOut_39 rfl ?_
      refine x_getI (pc := 40) (o := 20) C f_X3_67 dX3_takeOut_40 (hI 20 rfl) ⟨rfl, rfl, rfl⟩ ?_
      refine x_topi (nI i) (by rw [dcV_no (by decide), up_ss]) ?_
      refine x_icmp_ge (pc := 43) (tgt := 72) C dX3_takeOut_43 (by decide) (fun h43 => absurd h43 (by exact nI_ge (by omega) (by omega))) (fun h43 => ?_)
      refine x_aload_n (pc := 46) C dX3_takeOut_46 rfl ?_
      refine x_getR (pc := 47) (o := 20) (j := 36) C f_X3_51 dX3_takeOut_47 (hI 20 rfl) ⟨rfl, rfl⟩ ?_
      refine x_iload_n (pc := 50) C dX3_takeOut_50 rfl ?_
      refine x_iald (pc := 51) (o := 36) C dX3_takeOut_51 (hI 36 rfl) ⟨rfl, rfl⟩ (show _ < 24 by omega) (by decide) ?_
      refine x_topi ((up (slV V p i) 20 7 (nI i)) 36 j) dcV_at ?_
      refine x_iload_n (pc := 52) C dX3_takeOut_52 rfl ?_
      refine x_icmp_le (pc := 53) (tgt := 66) C dX3_takeOut_53 (by decide) (fun h53 => ?_) (fun h53 => ?_)
      · refine x_mem (dcV_f (Int32.not_lt.mpr h53)) ?_
        refine y_iinc (pc := 66) C (nI (j + 1)) dX3_takeOut_66 rfl (by exact nI_1 j) (by decide) rfl ?_
        refine x_goto (pc := 69) (tgt := 38) C dX3_takeOut_69 (by decide) ?_
        exact ih2 (j + 1) (by omega)
      · refine x_aload_n (pc := 56) C dX3_takeOut_56 rfl ?_
        refine x_getR (pc := 57) (o := 20) (j := 36) C f_X3_51 dX3_takeOut_57 (hI 20 rfl) ⟨rfl, rfl⟩ ?_
        refine x_iload_n (pc := 60) C dX3_takeOut_60 rfl ?_
        refine x_dup2 (pc := 61) C dX3_takeOut_61 rfl rfl ?_
        refine x_iald (pc := 62) (o := 36) C dX3_takeOut_62 (hI 36 rfl) ⟨rfl, rfl⟩ (show _ < 24 by omega) (by decide) ?_
        refine x_topi ((up (slV V p i) 20 7 (nI i)) 36 j) dcV_at ?_
        refine x_iconst (pc := 63) C (1) dX3_takeOut_63 (by decide) ?_
        refine x_isub (pc := 64) C dX3_takeOut_64 ?_
        refine x_iast (pc := 65) (o := 36) C dX3_takeOut_65 (hI 36 rfl) ⟨rfl, rfl⟩ (show _ < 24 by omega) (by decide) ?_
        refine x_mem (dcV_t (Int32.not_le.mp h53)) ?_
        refine y_iinc (pc := 66) C (nI (j + 1)) dX3_takeOut_66 rfl (by exact nI_1 j) (by decide) rfl ?_
        refine x_goto (pc := 69) (tgt := 38) C dX3_takeOut_69 (by decide) ?_
        exact ih2 (j + 1) (by omega)
  | succ k ih =>
    intro i hk hpi
    refine x_iload_n (pc := 2) C dX3_takeOut_2 rfl ?_
    refine x_aload_n (pc := 3) C dX3_takeOut_3 rfl ?_
    refine x_getI (pc := 4) (o := 20) C f_X3_67 dX3_takeOut_4 (hI 20 rfl) ⟨rfl, rfl, rfl⟩ ?_
    refine x_topi (nI (n + 1)) (by rw [slV_no (by decide)]; exact hn) ?_
    refine x_iconst (pc := 7) C (1) dX3_takeOut_7 (by decide) ?_
    refine x_isub (pc := 8) C dX3_takeOut_8 ?_
    refine x_topi (nI n) (nI_pred n) ?_
    refine x_icmp_ge (pc := 9) (tgt := 26) C dX3_takeOut_9 (by decide) (fun h9 => absurd h9 (by exact nI_ge (by omega) (by omega))) (fun h9 => ?_)
    refine x_aload_n (pc := 12) C dX3_takeOut_12 rfl ?_
    refine x_iload_n (pc := 13) C dX3_takeOut_13 rfl ?_
    refine x_iconst (pc := 14) C (1) dX3_takeOut_14 (by decide) ?_
    refine x_iadd (pc := 15) C dX3_takeOut_15 ?_
    refine x_topi (nI (i + 1)) (nI_1 i) ?_
    refine x_iload_n (pc := 16) C dX3_takeOut_16 rfl ?_
    refine x_cV2 (pc := 17) (o := 20) C v_X3_142 dX3_takeOut_17 (c_X3_moveShow hI (i + 1) i (by omega) (by omega)) (hI 20 rfl) rfl (by decide) rfl ⟨Nat.le_refl _, Nat.le_refl _⟩ ?_
    refine x_mem (slV_s hpi) ?_
    refine y_iinc (pc := 20) C (nI (i + 1)) dX3_takeOut_20 rfl (by exact nI_1 i) (by decide) rfl ?_
    refine x_goto (pc := 23) (tgt := 2) C dX3_takeOut_23 (by decide) ?_
    exact ih (i + 1) (by omega) (by omega)
set_option maxRecDepth 100000 in
set_option maxHeartbeats 4000000 in
theorem c_X3_takeOutWithRepeats {l : Launch} {V : VV} {L : LL} {N : NN} {I : List Nat} (hI : PI I) {n : Nat} (hn : V 20 7 = nI n) (hn24 : n ≤ 24) (p : Nat) (hp : p < n) : Runs l 3 0 0 yX3_takeOutWithRepeats (Cond.code yX3_takeOutWithRepeats cX3_takeOutWithRepeats 4 (some .int)) [aR 20, aI (nI p)] V L N I (Is (some (aI (nI n - nI ((remL p (n - 1 - p) V n).2 - 1)))) (delV (remL p (n - 1 - p) V n).1 ((remL p (n - 1 - p) V n).2 - 1) p) (L) N I) := by
  refine run_of RX3 (by decide +kernel) rfl (Nat.le_of_ble_eq_true rfl) (fun E hE C hQ hN => ?_)
  subst hE
  refine x_aload_n (pc := 0) C dX3_takeOutWithRepeats_0 rfl ?_
  refine x_getI (pc := 1) (o := 20) C f_X3_67 dX3_takeOutWithRepeats_1 (hI 20 rfl) ⟨rfl, rfl, rfl⟩ ?_
  refine x_topi (nI n) hn ?_
  refine y_istore_n (pc := 4) C dX3_takeOutWithRepeats_4 (by decide) rfl ?_
  refine x_aload_n (pc := 5) C dX3_takeOutWithRepeats_5 rfl ?_
  refine x_getI (pc := 6) (o := 20) C f_X3_67 dX3_takeOutWithRepeats_6 (hI 20 rfl) ⟨rfl, rfl, rfl⟩ ?_
  refine x_topi (nI n) hn ?_
  refine x_iconst (pc := 9) C (1) dX3_takeOutWithRepeats_9 (by decide) ?_
  refine x_isub (pc := 10) C dX3_takeOutWithRepeats_10 ?_
  refine x_topi (nI (n - 1)) (nI_predn (by omega)) ?_
  refine y_istore_n (pc := 11) C dX3_takeOutWithRepeats_11 (by decide) rfl ?_
  suffices key : ∀ (k : Nat) (V1 : VV) (n1 : Nat), p + k < n1 → n1 ≤ 24 → V1 20 7 = nI n1 → remL p k V1 n1 = remL p (n - 1 - p) V n → Wx E 12 [some (aR 20), some (aI (nI p)), some (aI (nI n)), some (aI (nI (p + k)))] [] V1 L N I 0 0 by
    have := key (n - 1 - p) V n (by omega) hn24 hn rfl
    rw [show p + (n - 1 - p) = n - 1 by omega] at this; exact this
  intro k
  induction k with
  | zero =>
    intro V1 n1 hk h24 hn1 hr
    obtain ⟨m, rfl⟩ : ∃ m, n1 = m + 1 := ⟨n1 - 1, by omega⟩
    have hr1 : V1 = (remL p (n - 1 - p) V n).1 := congrArg Prod.fst hr
    have hr2 : m + 1 = (remL p (n - 1 - p) V n).2 := congrArg Prod.snd hr
    refine x_iload_n (pc := 12) C dX3_takeOutWithRepeats_12 rfl ?_
    refine x_iload_n (pc := 13) C dX3_takeOutWithRepeats_13 rfl ?_
    refine x_icmp_le (pc := 14) (tgt := 38) C dX3_takeOutWithRepeats_14 (by decide) (fun h14 => ?_) (fun h14 => absurd (by exact nI_le (by omega) (by omega)) h14)
    refine x_aload_n (pc := 38) C dX3_takeOutWithRepeats_38 rfl ?_
    refine x_iload_n (pc := 39) C dX3_takeOutWithRepeats_39 rfl ?_
    refine x_cV1 (pc := 40) (o := 20) C v_X3_146 dX3_takeOutWithRepeats_40 (c_X3_takeOut (V := V1) hI hn1 (by omega) p (by omega)) (hI 20 rfl) rfl (by decide) rfl ⟨Nat.le_refl _, Nat.le_refl _⟩ ?_
    refine x_iload_n (pc := 43) C dX3_takeOutWithRepeats_43 rfl ?_
    refine x_aload_n (pc := 44) C dX3_takeOutWithRepeats_44 rfl ?_
    refine x_getI (pc := 45) (o := 20) C f_X3_67 dX3_takeOutWithRepeats_45 (hI 20 rfl) ⟨rfl, rfl, rfl⟩ ?_
    refine x_topi (nI m) delV_20 ?_
    refine x_isub (pc := 48) C dX3_takeOutWithRepeats_48 ?_
    exact x_iret (pc := 49) C hQ dX3_takeOutWithRepeats_49 (is_iv (by rw [← hr2]; rfl) (by rw [← hr1, ← hr2]; rfl)) (Nat.le_of_ble_eq_true rfl) (Nat.le_of_ble_eq_true rfl)
  | succ k ih =>
    intro V1 n1 hk h24 hn1 hr
    refine x_iload_n (pc := 12) C dX3_takeOutWithRepeats_12 rfl ?_
    refine x_iload_n (pc := 13) C dX3_takeOutWithRepeats_13 rfl ?_
    refine x_icmp_le (pc := 14) (tgt := 38) C dX3_takeOutWithRepeats_14 (by decide) (fun h14 => absurd h14 (by exact nI_ge (by omega) (by omega))) (fun h14 => ?_)
    refine x_aload_n (pc := 17) C dX3_takeOutWithRepeats_17 rfl ?_
    refine x_getR (pc := 18) (o := 20) (j := 36) C f_X3_51 dX3_takeOutWithRepeats_18 (hI 20 rfl) ⟨rfl, rfl⟩ ?_
    refine x_iload_n (pc := 21) C dX3_takeOutWithRepeats_21 rfl ?_
    refine x_iald (pc := 22) (o := 36) C dX3_takeOutWithRepeats_22 (hI 36 rfl) ⟨rfl, rfl⟩ (show _ < 24 by omega) (by decide) ?_
    refine x_iload_n (pc := 23) C dX3_takeOutWithRepeats_23 rfl ?_
    refine x_icmp_ne (pc := 24) (tgt := 32) C dX3_takeOutWithRepeats_24 (by decide) (fun h24b => ?_) (fun h24b => ?_)
    · refine y_iinc (pc := 32) C (nI (p + k)) dX3_takeOutWithRepeats_32 rfl (by exact pk_m1 (p + k)) (by decide) rfl ?_
      refine x_goto (pc := 35) (tgt := 12) C dX3_takeOutWithRepeats_35 (by decide) ?_
      exact ih _ _ (by omega) h24 hn1 (by rw [← hr, remL, if_neg h24b])
    · obtain ⟨m, rfl⟩ : ∃ m, n1 = m + 1 := ⟨n1 - 1, by omega⟩
      refine x_aload_n (pc := 27) C dX3_takeOutWithRepeats_27 rfl ?_
      refine x_iload_n (pc := 28) C dX3_takeOutWithRepeats_28 rfl ?_
      refine x_cV1 (pc := 29) (o := 20) C v_X3_146 dX3_takeOutWithRepeats_29 (c_X3_takeOut (V := V1) hI hn1 (by omega) (p + (k + 1)) (by omega)) (hI 20 rfl) rfl (by decide) rfl ⟨Nat.le_refl _, Nat.le_refl _⟩ ?_
      refine y_iinc (pc := 32) C (nI (p + k)) dX3_takeOutWithRepeats_32 rfl (by exact pk_m1 (p + k)) (by decide) rfl ?_
      refine x_goto (pc := 35) (tgt := 12) C dX3_takeOutWithRepeats_35 (by decide) ?_
      exact ih _ m (by omega) (by omega) delV_20 (by rw [← hr, remL, if_pos h24b]; rfl)
set_option maxRecDepth 100000 in
set_option maxHeartbeats 4000000 in
theorem c_X3_closeGroup {l : Launch} {V : VV} {L : LL} {N : NN} {I : List Nat} (hI : PI I) (g : Nat) (hg : g < 6) (w : Int32) : Runs l 2 0 0 yX3_closeGroup (Cond.code yX3_closeGroup cX3_closeGroup 5 none) [aR 20, aI (nI g), aI w] V L N I (Is none (cgV V g w) (L) N I) := by
  refine run_of RX3 (by decide +kernel) rfl (Nat.le_of_ble_eq_true rfl) (fun E hE C hQ hN => ?_)
  subst hE
  refine x_aload_n (pc := 0) C dX3_closeGroup_0 rfl ?_
  refine x_iload_n (pc := 1) C dX3_closeGroup_1 rfl ?_
  refine x_cV1 (pc := 2) (o := 20) C v_X3_122 dX3_closeGroup_2 (c_X3_allowance hI g hg) (hI 20 rfl) rfl (by decide) rfl ⟨Nat.le_refl _, Nat.le_refl _⟩ ?_
  refine x_iload_n (pc := 5) C dX3_closeGroup_5 rfl ?_
  refine x_isub (pc := 6) C dX3_closeGroup_6 ?_
  refine y_istore_n (pc := 7) C dX3_closeGroup_7 (by decide) rfl ?_
  refine x_aload_n (pc := 8) C dX3_closeGroup_8 rfl ?_
  refine x_getR (pc := 9) (o := 20) (j := 21) C f_X3_9 dX3_closeGroup_9 (hI 20 rfl) ⟨rfl, rfl⟩ ?_
  refine x_bipush (pc := 12) C (7) dX3_closeGroup_12 (by decide) ?_
  refine x_topi (nI 7) (by decide) ?_
  refine x_iald (pc := 14) (o := 21) C dX3_closeGroup_14 (hI 21 rfl) ⟨rfl, rfl⟩ (show _ < 8 by decide) (by decide) ?_
  refine y_istore (pc := 15) C dX3_closeGroup_15 (by decide) rfl ?_
  refine x_aload_n (pc := 17) C dX3_closeGroup_17 rfl ?_
  refine x_getR (pc := 18) (o := 20) (j := 23) C f_X3_18 dX3_closeGroup_18 (hI 20 rfl) ⟨rfl, rfl⟩ ?_
  refine x_iload_n (pc := 21) C dX3_closeGroup_21 rfl ?_
  refine x_iload (pc := 22) C dX3_closeGroup_22 rfl ?_
  refine x_ineg (pc := 24) C dX3_closeGroup_24 ?_
  refine x_iload (pc := 25) C dX3_closeGroup_25 rfl ?_
  refine x_iload_n (pc := 27) C dX3_closeGroup_27 rfl ?_
  refine x_mmin (pc := 28) C q_X3_150 dX3_closeGroup_28 (by decide) (Nat.le_of_ble_eq_true rfl) ⟨Nat.le_refl _, Nat.le_refl _⟩ ?_ mm_min.1 mm_min.2.1 mm_min.2.2
  refine x_mmax (pc := 31) C q_X3_131 dX3_closeGroup_31 (by decide) (Nat.le_of_ble_eq_true rfl) ⟨Nat.le_refl _, Nat.le_refl _⟩ ?_ mm_max.1 mm_max.2.1 mm_max.2.2
  refine x_iast (pc := 34) (o := 23) C dX3_closeGroup_34 (hI 23 rfl) ⟨rfl, rfl⟩ (show _ < 6 by omega) (by decide) ?_
  refine x_aload_n (pc := 35) C dX3_closeGroup_35 rfl ?_
  refine x_getR (pc := 36) (o := 20) (j := 26) C f_X3_27 dX3_closeGroup_36 (hI 20 rfl) ⟨rfl, rfl⟩ ?_
  refine x_iload_n (pc := 39) C dX3_closeGroup_39 rfl ?_
  refine x_dup2 (pc := 40) C dX3_closeGroup_40 rfl rfl ?_
  refine x_iald (pc := 41) (o := 26) C dX3_closeGroup_41 (hI 26 rfl) ⟨rfl, rfl⟩ (show _ < 6 by omega) (by decide) ?_
  refine x_topi (V 26 g) (by simp [up]) ?_
  refine x_iload_n (pc := 42) C dX3_closeGroup_42 rfl ?_
  refine x_aload_n (pc := 43) C dX3_closeGroup_43 rfl ?_
  refine x_getR (pc := 44) (o := 20) (j := 23) C f_X3_18 dX3_closeGroup_44 (hI 20 rfl) ⟨rfl, rfl⟩ ?_
  refine x_iload_n (pc := 47) C dX3_closeGroup_47 rfl ?_
  refine x_iald (pc := 48) (o := 23) C dX3_closeGroup_48 (hI 23 rfl) ⟨rfl, rfl⟩ (show _ < 6 by omega) (by decide) ?_
  refine x_topi (maxF (-(V 21 7)) (minF (V 21 7) (V 22 g + V 23 g - w))) (by simp [up]; rfl) ?_
  refine x_isub (pc := 49) C dX3_closeGroup_49 ?_
  refine x_iadd (pc := 50) C dX3_closeGroup_50 ?_
  refine x_iast (pc := 51) (o := 26) C dX3_closeGroup_51 (hI 26 rfl) ⟨rfl, rfl⟩ (show _ < 6 by omega) (by decide) ?_
  refine x_aload_n (pc := 52) C dX3_closeGroup_52 rfl ?_
  refine x_getR (pc := 53) (o := 20) (j := 25) C f_X3_24 dX3_closeGroup_53 (hI 20 rfl) ⟨rfl, rfl⟩ ?_
  refine x_iload_n (pc := 56) C dX3_closeGroup_56 rfl ?_
  refine x_dup2 (pc := 57) C dX3_closeGroup_57 rfl rfl ?_
  refine x_iald (pc := 58) (o := 25) C dX3_closeGroup_58 (hI 25 rfl) ⟨rfl, rfl⟩ (show _ < 6 by omega) (by decide) ?_
  refine x_topi (V 25 g) (by simp [up]) ?_
  refine x_iload_n (pc := 59) C dX3_closeGroup_59 rfl ?_
  refine x_iadd (pc := 60) C dX3_closeGroup_60 ?_
  refine x_iast (pc := 61) (o := 25) C dX3_closeGroup_61 (hI 25 rfl) ⟨rfl, rfl⟩ (show _ < 6 by omega) (by decide) ?_
  refine x_aload_n (pc := 62) C dX3_closeGroup_62 rfl ?_
  refine x_getR (pc := 63) (o := 20) (j := 24) C f_X3_21 dX3_closeGroup_63 (hI 20 rfl) ⟨rfl, rfl⟩ ?_
  refine x_iload_n (pc := 66) C dX3_closeGroup_66 rfl ?_
  refine x_dup2 (pc := 67) C dX3_closeGroup_67 rfl rfl ?_
  refine x_iald (pc := 68) (o := 24) C dX3_closeGroup_68 (hI 24 rfl) ⟨rfl, rfl⟩ (show _ < 6 by omega) (by decide) ?_
  refine x_topi (V 24 g) (by simp [up]) ?_
  refine x_aload_n (pc := 69) C dX3_closeGroup_69 rfl ?_
  refine x_getR (pc := 70) (o := 20) (j := 22) C f_X3_15 dX3_closeGroup_70 (hI 20 rfl) ⟨rfl, rfl⟩ ?_
  refine x_iload_n (pc := 73) C dX3_closeGroup_73 rfl ?_
  refine x_iald (pc := 74) (o := 22) C dX3_closeGroup_74 (hI 22 rfl) ⟨rfl, rfl⟩ (show _ < 6 by omega) (by decide) ?_
  refine x_topi (V 22 g) (by simp [up]) ?_
  refine x_iadd (pc := 75) C dX3_closeGroup_75 ?_
  refine x_iast (pc := 76) (o := 24) C dX3_closeGroup_76 (hI 24 rfl) ⟨rfl, rfl⟩ (show _ < 6 by omega) (by decide) ?_
  exact x_vret (pc := 77) C hQ dX3_closeGroup_77 (is_v rfl) (Nat.le_of_ble_eq_true rfl) (Nat.le_of_ble_eq_true rfl)
set_option maxRecDepth 100000 in
set_option maxHeartbeats 4000000 in
theorem c_X3_beginNextWeek {l : Launch} {V : VV} {L : LL} {N : NN} {I : List Nat} (hI : PI I) {n : Nat} (hn : V 20 7 = nI n) (hn24 : n ≤ 24) : Runs l 1 0 0 yX3_beginNextWeek (Cond.code yX3_beginNextWeek cX3_beginNextWeek 2 none) [aR 20] V L N I (Is none (bwV V n) (L) N I) := by
  refine run_of RX3 (by decide +kernel) rfl (Nat.le_of_ble_eq_true rfl) (fun E hE C hQ hN => ?_)
  subst hE
  refine x_iconst (pc := 0) C (0) dX3_beginNextWeek_0 (by decide) ?_
  refine y_istore_n (pc := 1) C dX3_beginNextWeek_1 (by decide) rfl ?_
  suffices key : ∀ (k i : Nat) (V1 : VV), k + i = n → (V1 = zeroV V i) → Wx E 2 [some (aR 20), some (aI (nI i))] [] V1 L N I 0 0 by
    exact key (n) 0 V (by omega) (zeroV_0.symm)
  intro k
  induction k with
  | zero =>
    intro i V1 hk hinv
    refine x_iload_n (pc := 2) C dX3_beginNextWeek_2 rfl ?_
    refine x_aload_n (pc := 3) C dX3_beginNextWeek_3 rfl ?_
    refine x_getI (pc := 4) (o := 20) C f_X3_67 dX3_beginNextWeek_4 (hI 20 rfl) ⟨rfl, rfl, rfl⟩ ?_
    refine x_topi (nI n) (by rw [hinv]; exact hn) ?_
    refine x_icmp_ge (pc := 7) (tgt := 23) C dX3_beginNextWeek_7 (by decide) (fun h7 => ?_) (fun h7 => absurd (by exact nI_le (by omega) (by omega)) h7)
    refine x_aload_n (pc := 23) C dX3_beginNextWeek_23 rfl ?_
    refine x_dup (pc := 24) C dX3_beginNextWeek_24 rfl ?_
    refine x_getI (pc := 25) (o := 20) C f_X3_63 dX3_beginNextWeek_25 (hI 20 rfl) ⟨rfl, rfl, rfl⟩ ?_
    refine x_iconst (pc := 28) C (1) dX3_beginNextWeek_28 (by decide) ?_
    refine x_iadd (pc := 29) C dX3_beginNextWeek_29 ?_
    refine x_putI (pc := 30) (o := 20) C p_X3_63 dX3_beginNextWeek_30 (hI 20 rfl) ⟨rfl, rfl, rfl⟩ ?_
    exact x_vret (pc := 33) C hQ dX3_beginNextWeek_33 (is_v (by rw [hinv, show i = n by omega]; rfl)) (Nat.le_of_ble_eq_true rfl) (Nat.le_of_ble_eq_true rfl)
  | succ k ih =>
    intro i V1 hk hinv
    refine x_iload_n (pc := 2) C dX3_beginNextWeek_2 rfl ?_
    refine x_aload_n (pc := 3) C dX3_beginNextWeek_3 rfl ?_
    refine x_getI (pc := 4) (o := 20) C f_X3_67 dX3_beginNextWeek_4 (hI 20 rfl) ⟨rfl, rfl, rfl⟩ ?_
    refine x_topi (nI n) (by rw [hinv]; exact hn) ?_
    refine x_icmp_ge (pc := 7) (tgt := 23) C dX3_beginNextWeek_7 (by decide) (fun h7 => absurd h7 (by exact nI_ge (by omega) (by omega))) (fun h7 => ?_)
    refine x_aload_n (pc := 10) C dX3_beginNextWeek_10 rfl ?_
    refine x_getR (pc := 11) (o := 20) (j := 35) C f_X3_48 dX3_beginNextWeek_11 (hI 20 rfl) ⟨rfl, rfl⟩ ?_
    refine x_iload_n (pc := 14) C dX3_beginNextWeek_14 rfl ?_
    refine x_iconst (pc := 15) C (0) dX3_beginNextWeek_15 (by decide) ?_
    refine x_iast (pc := 16) (o := 35) C dX3_beginNextWeek_16 (hI 35 rfl) ⟨rfl, rfl⟩ (show _ < 24 by omega) (by decide) ?_
    refine y_iinc (pc := 17) C (nI (i + 1)) dX3_beginNextWeek_17 rfl (by exact nI_1 i) (by decide) rfl ?_
    refine x_goto (pc := 20) (tgt := 2) C dX3_beginNextWeek_20 (by decide) ?_
    exact ih (i + 1) _ (by omega) (by rw [hinv]; exact zeroV_s)
