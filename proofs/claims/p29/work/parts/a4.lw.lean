set_option maxRecDepth 100000 in
set_option maxHeartbeats 4000000 in
theorem c_L_sink {l : Launch} {V : VV} {L : LL} {N : NN} {I : List Nat} (hI : PI I) {n : Nat} (hn : V 212 1 = nI n) (hn6 : n + 1 ≤ 6) : Runs l 1 0 0 yL_sink (Cond.code yL_sink cL_sink 5 (some .int)) [aR 212, aR 213] V L N I (Is (some (aI (nI (plcR (keyS (GF V)) (keyS (GF V) n) n)))) (snkV V n (plcR (keyS (GF V)) (keyS (GF V) n) n)) (L) N I) := by
  refine run_of RL (by decide +kernel) rfl (Nat.le_of_ble_eq_true rfl) (fun E hE C hQ hN => ?_)
  subst hE
  refine x_aload_n (pc := 0) C dL_sink_0 rfl ?_
  refine x_iconst (pc := 1) C (1) dL_sink_1 (by decide) ?_
  refine x_topi (nI 1) (by decide) ?_
  refine x_iald (pc := 2) (o := 212) C dL_sink_2 (hI 212 rfl) ⟨rfl, rfl⟩ (show _ < 3 by decide) (by decide) ?_
  refine x_topi (nI n) hn ?_
  refine y_istore_n (pc := 3) C dL_sink_3 (by decide) rfl ?_
  refine x_aload_n (pc := 4) C dL_sink_4 rfl ?_
  refine x_iconst (pc := 5) C (1) dL_sink_5 (by decide) ?_
  refine x_dup2 (pc := 6) C dL_sink_6 rfl rfl ?_
  refine x_topi (nI 1) (by decide) ?_
  refine x_iald (pc := 7) (o := 212) C dL_sink_7 (hI 212 rfl) ⟨rfl, rfl⟩ (show _ < 3 by decide) (by decide) ?_
  refine x_topi (nI n) hn ?_
  refine x_iconst (pc := 8) C (1) dL_sink_8 (by decide) ?_
  refine x_iadd (pc := 9) C dL_sink_9 ?_
  refine x_topi (nI (n + 1)) (nI_add (n) (1)) ?_
  refine x_top2i (nI 1) (by decide) ?_
  refine x_iast (pc := 10) (o := 212) C dL_sink_10 (hI 212 rfl) ⟨rfl, rfl⟩ (show _ < 3 by decide) (by decide) ?_
  refine x_mem (snk_n (n := n)) ?_
  suffices key : ∀ (k : Nat), k ≤ n → plcR (keyS (GF V)) (keyS (GF V) n) n = plcR (keyS (GF V)) (keyS (GF V) n) k → Wx E 11 [some (aR 212), some (aR 213), some (aI (nI k)), none, none] [] (snkV V n k) L N I 0 0 by
    exact key n (Nat.le_refl n) rfl
  intro k
  induction k with
  | zero =>
    intro hk hp
    refine x_iload_n (pc := 11) C dL_sink_11 rfl ?_
    refine x_if_le (pc := 12) (tgt := 124) C dL_sink_12 (by decide) (fun h12 => ?_) (fun h12 => absurd (by decide) h12)
    refine x_iload_n (pc := 124) C dL_sink_124 rfl ?_
    exact x_iret (pc := 125) C hQ dL_sink_125 (is_iv (by rw [hp]; rfl) (by rw [hp]; rfl)) (Nat.le_of_ble_eq_true rfl) (Nat.le_of_ble_eq_true rfl)
  | succ k ih =>
    intro hk hp
    refine x_iload_n (pc := 11) C dL_sink_11 rfl ?_
    refine x_if_le (pc := 12) (tgt := 124) C dL_sink_12 (by decide) (fun h12 => absurd h12 (by exact fun z => absurd ((nI_leI (a := k + 1) (b := 0) (by omega) (by decide)).mp z) (by omega))) (fun h12 => ?_)
    refine x_sipush (pc := 15) C (1440) dL_sink_15 (by decide) ?_
    refine x_aload_n (pc := 18) C dL_sink_18 rfl ?_
    refine x_bipush (pc := 19) C (9) dL_sink_19 (by decide) ?_
    refine x_iload_n (pc := 21) C dL_sink_21 rfl ?_
    refine x_imul (pc := 22) C dL_sink_22 ?_
    refine x_topi (nI (9 * (k + 1))) (pk_mul (9) (k + 1)) ?_
    refine x_bipush (pc := 23) C (7) dL_sink_23 (by decide) ?_
    refine x_isub (pc := 25) C dL_sink_25 ?_
    refine x_topi (nI (9 * k + 2)) ((nI_subn (a := 9 * (k + 1)) (b := 7) (by omega)).trans (congrArg nI (by omega))) ?_
    refine x_iald (pc := 26) (o := 213) C dL_sink_26 (hI 213 rfl) ⟨rfl, rfl⟩ (show _ < 63 by omega) (by decide) ?_
    refine x_topi (GF V 2 k) (snk_lo (k := k + 1) (by omega) (by decide)) ?_
    refine x_imul (pc := 27) C dL_sink_27 ?_
    refine x_aload_n (pc := 28) C dL_sink_28 rfl ?_
    refine x_bipush (pc := 29) C (9) dL_sink_29 (by decide) ?_
    refine x_iload_n (pc := 31) C dL_sink_31 rfl ?_
    refine x_imul (pc := 32) C dL_sink_32 ?_
    refine x_topi (nI (9 * (k + 1))) (pk_mul (9) (k + 1)) ?_
    refine x_bipush (pc := 33) C (6) dL_sink_33 (by decide) ?_
    refine x_isub (pc := 35) C dL_sink_35 ?_
    refine x_topi (nI (9 * k + 3)) ((nI_subn (a := 9 * (k + 1)) (b := 6) (by omega)).trans (congrArg nI (by omega))) ?_
    refine x_iald (pc := 36) (o := 213) C dL_sink_36 (hI 213 rfl) ⟨rfl, rfl⟩ (show _ < 63 by omega) (by decide) ?_
    refine x_topi (GF V 3 k) (snk_lo (k := k + 1) (by omega) (by decide)) ?_
    refine x_iadd (pc := 37) C dL_sink_37 ?_
    refine x_sipush (pc := 38) C (1440) dL_sink_38 (by decide) ?_
    refine x_aload_n (pc := 41) C dL_sink_41 rfl ?_
    refine x_bipush (pc := 42) C (9) dL_sink_42 (by decide) ?_
    refine x_iload_n (pc := 44) C dL_sink_44 rfl ?_
    refine x_imul (pc := 45) C dL_sink_45 ?_
    refine x_topi (nI (9 * (k + 1))) (pk_mul (9) (k + 1)) ?_
    refine x_iconst (pc := 46) C (2) dL_sink_46 (by decide) ?_
    refine x_iadd (pc := 47) C dL_sink_47 ?_
    refine x_topi (nI (9 * (k + 1) + 2)) (nI_add (9 * (k + 1)) (2)) ?_
    refine x_iald (pc := 48) (o := 213) C dL_sink_48 (hI 213 rfl) ⟨rfl, rfl⟩ (show _ < 63 by omega) (by decide) ?_
    refine x_topi (GF V 2 n) (snk_at (k := k + 1) (by omega) (by decide)) ?_
    refine x_imul (pc := 49) C dL_sink_49 ?_
    refine x_aload_n (pc := 50) C dL_sink_50 rfl ?_
    refine x_bipush (pc := 51) C (9) dL_sink_51 (by decide) ?_
    refine x_iload_n (pc := 53) C dL_sink_53 rfl ?_
    refine x_imul (pc := 54) C dL_sink_54 ?_
    refine x_topi (nI (9 * (k + 1))) (pk_mul (9) (k + 1)) ?_
    refine x_iconst (pc := 55) C (3) dL_sink_55 (by decide) ?_
    refine x_iadd (pc := 56) C dL_sink_56 ?_
    refine x_topi (nI (9 * (k + 1) + 3)) (nI_add (9 * (k + 1)) (3)) ?_
    refine x_iald (pc := 57) (o := 213) C dL_sink_57 (hI 213 rfl) ⟨rfl, rfl⟩ (show _ < 63 by omega) (by decide) ?_
    refine x_topi (GF V 3 n) (snk_at (k := k + 1) (by omega) (by decide)) ?_
    refine x_iadd (pc := 58) C dL_sink_58 ?_
    refine x_icmp_le (pc := 59) (tgt := 124) C dL_sink_59 (by decide) (fun h59 => ?_) (fun h59 => ?_)
    · refine x_iload_n (pc := 124) C dL_sink_124 rfl ?_
      exact x_iret (pc := 125) C hQ dL_sink_125 (is_iv (by rw [hp]; unfold plcR; rw [if_neg (show ¬ keyS (GF V) n < keyS (GF V) k from Int32.not_lt.mpr h59)]) (by rw [hp]; unfold plcR; rw [if_neg (show ¬ keyS (GF V) n < keyS (GF V) k from Int32.not_lt.mpr h59)])) (Nat.le_of_ble_eq_true rfl) (Nat.le_of_ble_eq_true rfl)
    · refine x_iconst (pc := 62) C (0) dL_sink_62 (by decide) ?_
      refine y_istore_n (pc := 63) C dL_sink_63 (by decide) rfl ?_
      have hp2 : plcR (keyS (GF V)) (keyS (GF V) n) n = plcR (keyS (GF V)) (keyS (GF V) n) k := by rw [hp]; rw [plcR, if_pos (show keyS (GF V) n < keyS (GF V) k from Int32.not_le.mp h59)]
      refine x_mem (swV_0 (k := k)) ?_
      suffices keyk9 : ∀ (k9 i : Nat) , k9 + i = 9 → (True) → Wx E 64 [some (aR 212), some (aR 213), some (aI (nI (k + 1))), some (aI (nI i)), none] [] (swV (snkV V n (k + 1)) k i) L N I 0 0 by
        exact keyk9 (9) (0)  (by omega) (trivial)
      intro k9
      induction k9 with
      | zero =>
        intro i  hk9 hinv9
        refine x_iload_n (pc := 64) C dL_sink_64 rfl ?_
        refine x_bipush (pc := 65) C (9) dL_sink_65 (by decide) ?_
        refine x_icmp_ge (pc := 67) (tgt := 118) C dL_sink_67 (by decide) (fun h67 => ?_) (fun h67 => absurd (by exact nI_le (a := 9) (b := i) (by omega) (by omega)) h67)
        refine y_iinc (pc := 118) C (nI k) dL_sink_118 rfl (by exact pk_m1 k) (by decide) rfl ?_
        refine x_goto (pc := 121) (tgt := 11) C dL_sink_121 (by decide) ?_
        refine x_fgt 3 ?_
        refine x_fgt 4 ?_
        obtain rfl : i = 9 := by omega
        refine x_mem (snk_s (by omega)) ?_
        exact ih (by omega) hp2
      | succ k9 ih9 =>
        intro i  hk9 hinv9
        refine x_iload_n (pc := 64) C dL_sink_64 rfl ?_
        refine x_bipush (pc := 65) C (9) dL_sink_65 (by decide) ?_
        refine x_icmp_ge (pc := 67) (tgt := 118) C dL_sink_67 (by decide) (fun h67 => absurd h67 (by exact nI_ge (a := i) (b := 9) (by omega) (by omega))) (fun h67 => ?_)
        refine x_aload_n (pc := 70) C dL_sink_70 rfl ?_
        refine x_bipush (pc := 71) C (9) dL_sink_71 (by decide) ?_
        refine x_iload_n (pc := 73) C dL_sink_73 rfl ?_
        refine x_imul (pc := 74) C dL_sink_74 ?_
        refine x_topi (nI (9 * (k + 1))) (pk_mul (9) (k + 1)) ?_
        refine x_iload_n (pc := 75) C dL_sink_75 rfl ?_
        refine x_iadd (pc := 76) C dL_sink_76 ?_
        refine x_topi (nI (9 * (k + 1) + i)) (nI_add (9 * (k + 1)) (i)) ?_
        refine x_iald (pc := 77) (o := 213) C dL_sink_77 (hI 213 rfl) ⟨rfl, rfl⟩ (show _ < 63 by omega) (by decide) ?_
        refine y_istore (pc := 78) C dL_sink_78 (by decide) rfl ?_
        refine x_aload_n (pc := 80) C dL_sink_80 rfl ?_
        refine x_bipush (pc := 81) C (9) dL_sink_81 (by decide) ?_
        refine x_iload_n (pc := 83) C dL_sink_83 rfl ?_
        refine x_imul (pc := 84) C dL_sink_84 ?_
        refine x_topi (nI (9 * (k + 1))) (pk_mul (9) (k + 1)) ?_
        refine x_iload_n (pc := 85) C dL_sink_85 rfl ?_
        refine x_iadd (pc := 86) C dL_sink_86 ?_
        refine x_topi (nI (9 * (k + 1) + i)) (nI_add (9 * (k + 1)) (i)) ?_
        refine x_aload_n (pc := 87) C dL_sink_87 rfl ?_
        refine x_bipush (pc := 88) C (9) dL_sink_88 (by decide) ?_
        refine x_iload_n (pc := 90) C dL_sink_90 rfl ?_
        refine x_imul (pc := 91) C dL_sink_91 ?_
        refine x_topi (nI (9 * (k + 1))) (pk_mul (9) (k + 1)) ?_
        refine x_bipush (pc := 92) C (9) dL_sink_92 (by decide) ?_
        refine x_isub (pc := 94) C dL_sink_94 ?_
        refine x_topi (nI (9 * k)) ((nI_subn (a := 9 * (k + 1)) (b := 9) (by omega)).trans (congrArg nI (by omega))) ?_
        refine x_iload_n (pc := 95) C dL_sink_95 rfl ?_
        refine x_iadd (pc := 96) C dL_sink_96 ?_
        refine x_topi (nI (9 * k + i)) (nI_add (9 * k) (i)) ?_
        refine x_iald (pc := 97) (o := 213) C dL_sink_97 (hI 213 rfl) ⟨rfl, rfl⟩ (show _ < 63 by omega) (by decide) ?_
        refine x_iast (pc := 98) (o := 213) C dL_sink_98 (hI 213 rfl) ⟨rfl, rfl⟩ (show _ < 63 by omega) (by decide) ?_
        refine x_aload_n (pc := 99) C dL_sink_99 rfl ?_
        refine x_bipush (pc := 100) C (9) dL_sink_100 (by decide) ?_
        refine x_iload_n (pc := 102) C dL_sink_102 rfl ?_
        refine x_imul (pc := 103) C dL_sink_103 ?_
        refine x_topi (nI (9 * (k + 1))) (pk_mul (9) (k + 1)) ?_
        refine x_bipush (pc := 104) C (9) dL_sink_104 (by decide) ?_
        refine x_isub (pc := 106) C dL_sink_106 ?_
        refine x_topi (nI (9 * k)) ((nI_subn (a := 9 * (k + 1)) (b := 9) (by omega)).trans (congrArg nI (by omega))) ?_
        refine x_iload_n (pc := 107) C dL_sink_107 rfl ?_
        refine x_iadd (pc := 108) C dL_sink_108 ?_
        refine x_topi (nI (9 * k + i)) (nI_add (9 * k) (i)) ?_
        refine x_iload (pc := 109) C dL_sink_109 rfl ?_
        refine x_iast (pc := 111) (o := 213) C dL_sink_111 (hI 213 rfl) ⟨rfl, rfl⟩ (show _ < 63 by omega) (by decide) ?_
        refine y_iinc (pc := 112) C (nI (i + 1)) dL_sink_112 rfl (by exact nI_1 i) (by decide) rfl ?_
        refine x_goto (pc := 115) (tgt := 64) C dL_sink_115 (by decide) ?_
        refine x_fgt 4 ?_
        refine x_mem (swV_s (by omega)) ?_
        exact ih9 (i + 1) (by omega) trivial
