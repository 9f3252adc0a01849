set_option maxRecDepth 100000 in
set_option maxHeartbeats 4000000 in
theorem c_X6_closeWeek {l : Launch} {V : VV} {L : LL} {N : NN} {I : List Nat} {o m : Nat} (hH : HH V N I o m) {n : Nat} (hn : V 20 7 = nI n) (hn24 : n ≤ 24) (hdy : ∀ s, s < n → ∃ d, d < 7 ∧ V 31 s = nI d) : Runs l 6 15 246 yX6_closeWeek (Cond.code yX6_closeWeek cX6_closeWeek 2 (some .int)) [aR 0] V L N I (Ei (decide (V 20 6 < 1000)) "java/lang/IllegalStateException" (fun r1 V3 L3 N3 I3 => ∃ V1 V2, SavP V N o m V1 N3 ∧ AirI 6 V1 V2 (V1 35) n ∧ V3 = bwV (clN n V2 6) n ∧ r1 = .inl (some (aI (V 20 6 + 1))) ∧ L3 = L ∧ IN N3 I3) V L N I) := by
  refine run_of RX6 (by decide +kernel) rfl (Nat.le_of_ble_eq_true rfl) (fun E hE C hQ hN => ?_)
  subst hE
  have hI := hH.1.1
  refine x_aload_n (pc := 0) C dX6_closeWeek_0 rfl ?_
  refine x_getR (pc := 1) (o := 0) (j := 20) C f_X6_10 dX6_closeWeek_1 (hI 0 rfl) ⟨rfl, rfl⟩ ?_
  refine x_getI (pc := 4) (o := 20) C f_X6_135 dX6_closeWeek_4 (hI 20 rfl) ⟨rfl, rfl, rfl⟩ ?_
  refine x_sipush (pc := 7) C (1000) dX6_closeWeek_7 (by decide) ?_
  refine x_icmp_lt (pc := 10) (tgt := 23) C dX6_closeWeek_10 (by decide) (fun h10 => ?_) (fun h10 => ?_)
  · have hw := decide_eq_true h10
    refine x_aload_n (pc := 23) C dX6_closeWeek_23 rfl ?_
    refine x_getR (pc := 24) (o := 0) (j := 1) C f_X6_19 dX6_closeWeek_24 (hI 0 rfl) ⟨rfl, rfl⟩ ?_
    refine x_aload_n (pc := 27) C dX6_closeWeek_27 rfl ?_
    refine x_getR (pc := 28) (o := 0) (j := 20) C f_X6_10 dX6_closeWeek_28 (hI 0 rfl) ⟨rfl, rfl⟩ ?_
    refine x_save (pc := 31) C dX6_closeWeek_31 v_X6_74 hH (by decide) rfl ⟨by decide, by decide⟩ (fun V1 N1 I1 hs hIN1 => ?_)
    have hI := hIN1.1
    have hn1 : V1 20 7 = nI n := by rw [hs.no (Or.inl (by decide)) (by decide)]; exact hn
    have hdy1 : ∀ s, s < n → ∃ d, d < 7 ∧ V1 31 s = nI d := by rw [hs.no (Or.inl (by decide)) (by decide)]; exact hdy
    refine x_aload_n (pc := 34) C dX6_closeWeek_34 rfl ?_
    refine x_getR (pc := 35) (o := 0) (j := 6) C f_X6_40 dX6_closeWeek_35 (hI 0 rfl) ⟨rfl, rfl⟩ ?_
    refine x_aload_n (pc := 38) C dX6_closeWeek_38 rfl ?_
    refine x_getR (pc := 39) (o := 0) (j := 20) C f_X6_10 dX6_closeWeek_39 (hI 0 rfl) ⟨rfl, rfl⟩ ?_
    refine x_pV1 (pc := 42) (o := 6) C v_X6_140 dX6_closeWeek_42 (c_X0_play (V := V1) hI hn1 hn24 hdy1) (hI 6 rfl) rfl (by decide) rfl ⟨by decide, by decide⟩ (fun V2 hV2 => ?_)
    have hn2 : V2 20 7 = nI n := by rw [hV2.1 20 (by decide)]; exact hn1
    refine x_iconst (pc := 45) C (0) dX6_closeWeek_45 (by decide) ?_
    refine y_istore_n (pc := 46) C dX6_closeWeek_46 (by decide) rfl ?_
    suffices key : ∀ (k i : Nat) , k + i = 6 → (True) → Wx E 47 [some (aR 0), some (aI (nI i))] [] (clN n V2 i) L N1 I1 15 246 by
      exact key (6) 0  (by omega) (trivial)
    intro k
    induction k with
    | zero =>
      intro i  hk hinv
      refine x_iload_n (pc := 47) C dX6_closeWeek_47 rfl ?_
      refine x_bipush (pc := 48) C (6) dX6_closeWeek_48 (by decide) ?_
      refine x_icmp_ge (pc := 50) (tgt := 79) C dX6_closeWeek_50 (by decide) (fun h50 => ?_) (fun h50 => absurd (by exact nI_le (a := 6) (b := i) (by omega) (by omega)) h50)
      obtain rfl : i = 6 := by omega
      refine x_aload_n (pc := 79) C dX6_closeWeek_79 rfl ?_
      refine x_getR (pc := 80) (o := 0) (j := 20) C f_X6_10 dX6_closeWeek_80 (hI 0 rfl) ⟨rfl, rfl⟩ ?_
      refine x_cV0 (pc := 83) (o := 20) C v_X6_151 dX6_closeWeek_83 (c_X3_beginNextWeek (V := clN n V2 6) hI (by rw [clN_nf (by decide)]; exact hn2) hn24) (hI 20 rfl) rfl (by decide) rfl ⟨by decide, by decide⟩ ?_
      refine x_aload_n (pc := 86) C dX6_closeWeek_86 rfl ?_
      refine x_getR (pc := 87) (o := 0) (j := 20) C f_X6_10 dX6_closeWeek_87 (hI 0 rfl) ⟨rfl, rfl⟩ ?_
      refine x_getI (pc := 90) (o := 20) C f_X6_135 dX6_closeWeek_90 (hI 20 rfl) ⟨rfl, rfl, rfl⟩ ?_
      refine x_topi (V 20 6 + 1) (by show bwV (clN n V2 6) n 20 6 = _; unfold bwV; rw [up_ss, clN_nf (by decide), hV2.1 20 (by decide), hs.no (Or.inl (by decide)) (by decide)]) ?_
      exact x_iret (pc := 93) C hQ dX6_closeWeek_93 (ei_t hw ⟨V1, V2, hs, hV2, rfl, rfl, rfl, hIN1⟩) (Nat.le_of_ble_eq_true rfl) (Nat.le_of_ble_eq_true rfl)
    | succ k ih =>
      intro i  hk hinv
      refine x_iload_n (pc := 47) C dX6_closeWeek_47 rfl ?_
      refine x_bipush (pc := 48) C (6) dX6_closeWeek_48 (by decide) ?_
      refine x_icmp_ge (pc := 50) (tgt := 79) C dX6_closeWeek_50 (by decide) (fun h50 => absurd h50 (by exact nI_ge (a := i) (b := 6) (by omega) (by omega))) (fun h50 => ?_)
      refine x_aload_n (pc := 53) C dX6_closeWeek_53 rfl ?_
      refine x_getR (pc := 54) (o := 0) (j := 20) C f_X6_10 dX6_closeWeek_54 (hI 0 rfl) ⟨rfl, rfl⟩ ?_
      refine x_iload_n (pc := 57) C dX6_closeWeek_57 rfl ?_
      refine x_aload_n (pc := 58) C dX6_closeWeek_58 rfl ?_
      refine x_getR (pc := 59) (o := 0) (j := 6) C f_X6_40 dX6_closeWeek_59 (hI 0 rfl) ⟨rfl, rfl⟩ ?_
      refine x_aload_n (pc := 62) C dX6_closeWeek_62 rfl ?_
      refine x_getR (pc := 63) (o := 0) (j := 20) C f_X6_10 dX6_closeWeek_63 (hI 0 rfl) ⟨rfl, rfl⟩ ?_
      refine x_iload_n (pc := 66) C dX6_closeWeek_66 rfl ?_
      refine x_cV2 (pc := 67) (o := 6) C v_X6_143 dX6_closeWeek_67 (c_X0_worthOfGroup (V := clN n V2 i) hI (by rw [clN_nf (by decide)]; exact hn2) hn24 (nI i)) (hI 6 rfl) rfl (by decide) rfl ⟨by decide, by decide⟩ ?_
      refine x_cV2 (pc := 70) (o := 20) C v_X6_147 dX6_closeWeek_70 (c_X3_closeGroup (V := clN n V2 i) hI i (by omega) _) (hI 20 rfl) rfl (by decide) rfl ⟨by decide, by decide⟩ ?_
      refine y_iinc (pc := 73) C (nI (i + 1)) dX6_closeWeek_73 rfl (by exact nI_1 i) (by decide) rfl ?_
      refine x_goto (pc := 76) (tgt := 47) C dX6_closeWeek_76 (by decide) ?_
      exact ih (i + 1)  (by omega) (trivial)
  · exact x_throw (pc := 13) C hQ hN t_X6_127_138_131 dX6_closeWeek_13 dX6_closeWeek_16 dX6_closeWeek_17 dX6_closeWeek_19 dX6_closeWeek_22 (by decide) rfl ⟨by decide, by decide, by decide, by decide⟩ (ei_f (decide_eq_false h10))
