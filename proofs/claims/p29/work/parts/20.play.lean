set_option maxRecDepth 100000 in
set_option maxHeartbeats 4000000 in
theorem c_X0_playWith {l : Launch} {V : VV} {L : LL} {N : NN} {I : List Nat} (hI : PI I) {n : Nat} (hn : V 20 7 = nI n) (hn24 : n ≤ 24) (hdy : ∀ s, s < n → ∃ d, d < 7 ∧ V 31 s = nI d) (ch by0 : Int32) : Runs l 3 0 0 yX0_playWith (Cond.code yX0_playWith cX0_playWith 5 none) [aR 6, aR 20, aI ch, aI by0] V L N I (Pm none (fun V1 => AirI 6 V V1 (fun s => if nI s = ch then by0 else V 35 s) n) L N I) := by
  refine run_of RX0 (by decide +kernel) rfl (Nat.le_of_ble_eq_true rfl) (fun E hE C hQ hN => ?_)
  subst hE
  refine x_iconst (pc := 0) C (0) dX0_playWith_0 (by decide) ?_
  refine y_istore (pc := 1) C dX0_playWith_1 (by decide) rfl ?_
  suffices key : ∀ (k i : Nat) (V1 : VV), k + i = 7 → (SmA 6 V V1 ∧ ∀ e, e < i → V1 11 e = V 21 0) → Wx E 3 [some (aR 6), some (aR 20), some (aI ch), some (aI by0), some (aI (nI i))] [] V1 L N I 0 0 by
    exact key 7 0 _ (by omega) ⟨fun _ _ => rfl, fun e he => absurd he (Nat.not_lt_zero e)⟩
  intro k
  induction k with
  | zero =>
    intro i V1 hk hinv
    refine x_iload (pc := 3) C dX0_playWith_3 rfl ?_
    refine x_bipush (pc := 5) C (7) dX0_playWith_5 (by decide) ?_
    refine x_icmp_ge (pc := 7) (tgt := 29) C dX0_playWith_7 (by decide) (fun h7 => ?_) (fun h7 => absurd (by exact nI_le (a := 7) (b := i) (by omega) (by omega)) h7)
    refine x_iconst (pc := 29) C (0) dX0_playWith_29 (by decide) ?_
    refine y_istore (pc := 30) C dX0_playWith_30 (by decide) rfl ?_
    suffices key : ∀ (k i : Nat) (V1 : VV), k + i = n → (AirI 6 V V1 (fun s => if nI s = ch then by0 else V 35 s) i) → Wx E 32 [some (aR 6), some (aR 20), some (aI ch), some (aI by0), some (aI (nI i))] [] V1 L N I 0 0 by
      exact key (n) 0 _ (by omega) (⟨hinv.1, fun s hs => absurd hs (Nat.not_lt_zero s), fun d hd => hinv.2 d (by omega)⟩)
    intro k
    induction k with
    | zero =>
      intro i V1 hk hinv
      refine x_iload (pc := 32) C dX0_playWith_32 rfl ?_
      refine x_aload_n (pc := 34) C dX0_playWith_34 rfl ?_
      refine x_getI (pc := 35) (o := 20) C f_X0_37 dX0_playWith_35 (hI 20 rfl) ⟨rfl, rfl, rfl⟩ ?_
      refine x_topi (nI n) (by rw [hinv.1 20 (by decide)]; exact hn) ?_
      refine x_icmp_ge (pc := 38) (tgt := 71) C dX0_playWith_38 (by decide) (fun h38 => ?_) (fun h38 => absurd (by exact nI_le (by omega) (by omega)) h38)
      exact x_vret (pc := 71) C hQ dX0_playWith_71 (pm_v (by rw [show n = i by omega]; exact hinv)) (Nat.le_of_ble_eq_true rfl) (Nat.le_of_ble_eq_true rfl)
    | succ k ih =>
      intro i V1 hk hinv
      refine x_iload (pc := 32) C dX0_playWith_32 rfl ?_
      refine x_aload_n (pc := 34) C dX0_playWith_34 rfl ?_
      refine x_getI (pc := 35) (o := 20) C f_X0_37 dX0_playWith_35 (hI 20 rfl) ⟨rfl, rfl, rfl⟩ ?_
      refine x_topi (nI n) (by rw [hinv.1 20 (by decide)]; exact hn) ?_
      refine x_icmp_ge (pc := 38) (tgt := 71) C dX0_playWith_38 (by decide) (fun h38 => absurd h38 (by exact nI_ge (by omega) (by omega))) (fun h38 => ?_)
      obtain ⟨d, hd7, hday⟩ := hdy i (by omega)
      refine x_aload_n (pc := 41) C dX0_playWith_41 rfl ?_
      refine x_aload_n (pc := 42) C dX0_playWith_42 rfl ?_
      refine x_iload (pc := 43) C dX0_playWith_43 rfl ?_
      refine x_iload (pc := 45) C dX0_playWith_45 rfl ?_
      refine x_iload_n (pc := 47) C dX0_playWith_47 rfl ?_
      refine x_icmp_ne (pc := 48) (tgt := 55) C dX0_playWith_48 (by decide) (fun h48 => ?_) (fun h48 => ?_)
      · refine x_aload_n (pc := 55) C dX0_playWith_55 rfl ?_
        refine x_getR (pc := 56) (o := 20) (j := 35) C f_X0_41 dX0_playWith_56 (hI 20 rfl) ⟨rfl, rfl⟩ ?_
        refine x_iload (pc := 59) C dX0_playWith_59 rfl ?_
        refine x_iald (pc := 61) (o := 35) C dX0_playWith_61 (hI 35 rfl) ⟨rfl, rfl⟩ (show _ < 24 by omega) (by decide) ?_
        refine x_topi (if nI i = ch then by0 else V 35 i) (by rw [hinv.1 35 (by decide)]; exact ne_nI h48) ?_
        refine x_cV3 (pc := 62) (o := 6) C v_X0_44 dX0_playWith_62 (c_X0_playShow hI i d (by omega) hd7 (by rw [hinv.1 31 (by decide)]; exact hday) _) (hI 6 rfl) rfl (by decide) rfl ⟨Nat.le_refl _, Nat.le_refl _⟩ ?_
        refine y_iinc (pc := 65) C (nI (i + 1)) dX0_playWith_65 rfl (by exact nI_1 i) (by decide) rfl ?_
        refine x_goto (pc := 68) (tgt := 32) C dX0_playWith_68 (by decide) ?_
        exact ih (i + 1) _ (by omega) (airI_step (b := 6) (V := V) (V1 := V1) (ov := (fun s => if nI s = ch then by0 else V 35 s)) (i := i) (d := d) (by decide) hd7 hday hinv)
      · refine x_iload_n (pc := 51) C dX0_playWith_51 rfl ?_
        refine x_topi (if nI i = ch then by0 else V 35 i) (eq_nI h48) ?_
        refine x_goto (pc := 52) (tgt := 62) C dX0_playWith_52 (by decide) ?_
        refine x_cV3 (pc := 62) (o := 6) C v_X0_44 dX0_playWith_62 (c_X0_playShow hI i d (by omega) hd7 (by rw [hinv.1 31 (by decide)]; exact hday) _) (hI 6 rfl) rfl (by decide) rfl ⟨Nat.le_refl _, Nat.le_refl _⟩ ?_
        refine y_iinc (pc := 65) C (nI (i + 1)) dX0_playWith_65 rfl (by exact nI_1 i) (by decide) rfl ?_
        refine x_goto (pc := 68) (tgt := 32) C dX0_playWith_68 (by decide) ?_
        exact ih (i + 1) _ (by omega) (airI_step (b := 6) (V := V) (V1 := V1) (ov := (fun s => if nI s = ch then by0 else V 35 s)) (i := i) (d := d) (by decide) hd7 hday hinv)
  | succ k ih =>
    intro i V1 hk hinv
    refine x_iload (pc := 3) C dX0_playWith_3 rfl ?_
    refine x_bipush (pc := 5) C (7) dX0_playWith_5 (by decide) ?_
    refine x_icmp_ge (pc := 7) (tgt := 29) C dX0_playWith_7 (by decide) (fun h7 => absurd h7 (by exact nI_ge (a := i) (b := 7) (by omega) (by omega))) (fun h7 => ?_)
    refine x_aload_n (pc := 10) C dX0_playWith_10 rfl ?_
    refine x_getR (pc := 11) (o := 6) (j := 11) C f_X0_25 dX0_playWith_11 (hI 6 rfl) ⟨rfl, rfl⟩ ?_
    refine x_iload (pc := 14) C dX0_playWith_14 rfl ?_
    refine x_aload_n (pc := 16) C dX0_playWith_16 rfl ?_
    refine x_getR (pc := 17) (o := 20) (j := 21) C f_X0_32 dX0_playWith_17 (hI 20 rfl) ⟨rfl, rfl⟩ ?_
    refine x_iconst (pc := 20) C (0) dX0_playWith_20 (by decide) ?_
    refine x_topi (nI 0) (by decide) ?_
    refine x_iald (pc := 21) (o := 21) C dX0_playWith_21 (hI 21 rfl) ⟨rfl, rfl⟩ (show _ < 8 by decide) (by decide) ?_
    refine x_topi (V 21 0) (by rw [hinv.1 21 (by decide)]) ?_
    refine x_iast (pc := 22) (o := 11) C dX0_playWith_22 (hI 11 rfl) ⟨rfl, rfl⟩ (show _ < 7 by omega) (by decide) ?_
    refine y_iinc (pc := 23) C (nI (i + 1)) dX0_playWith_23 rfl (by exact nI_1 i) (by decide) rfl ?_
    refine x_goto (pc := 26) (tgt := 3) C dX0_playWith_26 (by decide) ?_
    exact ih (i + 1) _ (by omega) ⟨fun j hj => (up_nf (by omega)).trans (hinv.1 j hj), fun e he => by simp only [up]; by_cases q : e = i <;> simp [q]; exact hinv.2 e (by omega)⟩
set_option maxRecDepth 100000 in
set_option maxHeartbeats 4000000 in
theorem c_X0_play {l : Launch} {V : VV} {L : LL} {N : NN} {I : List Nat} (hI : PI I) {n : Nat} (hn : V 20 7 = nI n) (hn24 : n ≤ 24) (hdy : ∀ s, s < n → ∃ d, d < 7 ∧ V 31 s = nI d) : Runs l 4 0 0 yX0_play (Cond.code yX0_play cX0_play 2 none) [aR 6, aR 20] V L N I (Pm none (fun V1 => AirI 6 V V1 (V 35) n) L N I) := by
  refine run_of RX0 (by decide +kernel) rfl (Nat.le_of_ble_eq_true rfl) (fun E hE C hQ hN => ?_)
  subst hE
  refine x_aload_n (pc := 0) C dX0_play_0 rfl ?_
  refine x_aload_n (pc := 1) C dX0_play_1 rfl ?_
  refine x_iconst (pc := 2) C (-1) dX0_play_2 (by decide) ?_
  refine x_iconst (pc := 3) C (0) dX0_play_3 (by decide) ?_
  refine x_pV3 (pc := 4) (o := 6) C v_X0_28 dX0_play_4 (c_X0_playWith hI hn hn24 hdy _ _) (hI 6 rfl) rfl (by decide) rfl ⟨Nat.le_refl _, Nat.le_refl _⟩ (fun V1 => ?_)
  intro hV1
  exact x_vret (pc := 7) C hQ dX0_play_7 (pm_v (airI_ov (by decide) hn24 hV1)) (Nat.le_of_ble_eq_true rfl) (Nat.le_of_ble_eq_true rfl)
set_option maxRecDepth 100000 in
set_option maxHeartbeats 4000000 in
theorem u_X0_playWith {l : Launch} {V : VV} {L : LL} {N : NN} {I : List Nat} (hI : PI I) {n : Nat} (hn : V 20 7 = nI n) (hn24 : n ≤ 24) (hdy : ∀ s, s < n → ∃ d, d < 7 ∧ V 31 s = nI d) (ch by0 : Int32) : Runs l 3 0 0 yX0_playWith (Cond.code yX0_playWith cX0_playWith 5 none) [aR 12, aR 20, aI ch, aI by0] V L N I (Pm none (fun V1 => AirI 12 V V1 (fun s => if nI s = ch then by0 else V 35 s) n) L N I) := by
  refine run_of RX0 (by decide +kernel) rfl (Nat.le_of_ble_eq_true rfl) (fun E hE C hQ hN => ?_)
  subst hE
  refine x_iconst (pc := 0) C (0) dX0_playWith_0 (by decide) ?_
  refine y_istore (pc := 1) C dX0_playWith_1 (by decide) rfl ?_
  suffices key : ∀ (k i : Nat) (V1 : VV), k + i = 7 → (SmA 12 V V1 ∧ ∀ e, e < i → V1 17 e = V 21 0) → Wx E 3 [some (aR 12), some (aR 20), some (aI ch), some (aI by0), some (aI (nI i))] [] V1 L N I 0 0 by
    exact key 7 0 _ (by omega) ⟨fun _ _ => rfl, fun e he => absurd he (Nat.not_lt_zero e)⟩
  intro k
  induction k with
  | zero =>
    intro i V1 hk hinv
    refine x_iload (pc := 3) C dX0_playWith_3 rfl ?_
    refine x_bipush (pc := 5) C (7) dX0_playWith_5 (by decide) ?_
    refine x_icmp_ge (pc := 7) (tgt := 29) C dX0_playWith_7 (by decide) (fun h7 => ?_) (fun h7 => absurd (by exact nI_le (a := 7) (b := i) (by omega) (by omega)) h7)
    refine x_iconst (pc := 29) C (0) dX0_playWith_29 (by decide) ?_
    refine y_istore (pc := 30) C dX0_playWith_30 (by decide) rfl ?_
    suffices key : ∀ (k i : Nat) (V1 : VV), k + i = n → (AirI 12 V V1 (fun s => if nI s = ch then by0 else V 35 s) i) → Wx E 32 [some (aR 12), some (aR 20), some (aI ch), some (aI by0), some (aI (nI i))] [] V1 L N I 0 0 by
      exact key (n) 0 _ (by omega) (⟨hinv.1, fun s hs => absurd hs (Nat.not_lt_zero s), fun d hd => hinv.2 d (by omega)⟩)
    intro k
    induction k with
    | zero =>
      intro i V1 hk hinv
      refine x_iload (pc := 32) C dX0_playWith_32 rfl ?_
      refine x_aload_n (pc := 34) C dX0_playWith_34 rfl ?_
      refine x_getI (pc := 35) (o := 20) C f_X0_37 dX0_playWith_35 (hI 20 rfl) ⟨rfl, rfl, rfl⟩ ?_
      refine x_topi (nI n) (by rw [hinv.1 20 (by decide)]; exact hn) ?_
      refine x_icmp_ge (pc := 38) (tgt := 71) C dX0_playWith_38 (by decide) (fun h38 => ?_) (fun h38 => absurd (by exact nI_le (by omega) (by omega)) h38)
      exact x_vret (pc := 71) C hQ dX0_playWith_71 (pm_v (by rw [show n = i by omega]; exact hinv)) (Nat.le_of_ble_eq_true rfl) (Nat.le_of_ble_eq_true rfl)
    | succ k ih =>
      intro i V1 hk hinv
      refine x_iload (pc := 32) C dX0_playWith_32 rfl ?_
      refine x_aload_n (pc := 34) C dX0_playWith_34 rfl ?_
      refine x_getI (pc := 35) (o := 20) C f_X0_37 dX0_playWith_35 (hI 20 rfl) ⟨rfl, rfl, rfl⟩ ?_
      refine x_topi (nI n) (by rw [hinv.1 20 (by decide)]; exact hn) ?_
      refine x_icmp_ge (pc := 38) (tgt := 71) C dX0_playWith_38 (by decide) (fun h38 => absurd h38 (by exact nI_ge (by omega) (by omega))) (fun h38 => ?_)
      obtain ⟨d, hd7, hday⟩ := hdy i (by omega)
      refine x_aload_n (pc := 41) C dX0_playWith_41 rfl ?_
      refine x_aload_n (pc := 42) C dX0_playWith_42 rfl ?_
      refine x_iload (pc := 43) C dX0_playWith_43 rfl ?_
      refine x_iload (pc := 45) C dX0_playWith_45 rfl ?_
      refine x_iload_n (pc := 47) C dX0_playWith_47 rfl ?_
      refine x_icmp_ne (pc := 48) (tgt := 55) C dX0_playWith_48 (by decide) (fun h48 => ?_) (fun h48 => ?_)
      · refine x_aload_n (pc := 55) C dX0_playWith_55 rfl ?_
        refine x_getR (pc := 56) (o := 20) (j := 35) C f_X0_41 dX0_playWith_56 (hI 20 rfl) ⟨rfl, rfl⟩ ?_
        refine x_iload (pc := 59) C dX0_playWith_59 rfl ?_
        refine x_iald (pc := 61) (o := 35) C dX0_playWith_61 (hI 35 rfl) ⟨rfl, rfl⟩ (show _ < 24 by omega) (by decide) ?_
        refine x_topi (if nI i = ch then by0 else V 35 i) (by rw [hinv.1 35 (by decide)]; exact ne_nI h48) ?_
        refine x_cV3 (pc := 62) (o := 12) C v_X0_44 dX0_playWith_62 (u_X0_playShow hI i d (by omega) hd7 (by rw [hinv.1 31 (by decide)]; exact hday) _) (hI 12 rfl) rfl (by decide) rfl ⟨Nat.le_refl _, Nat.le_refl _⟩ ?_
        refine y_iinc (pc := 65) C (nI (i + 1)) dX0_playWith_65 rfl (by exact nI_1 i) (by decide) rfl ?_
        refine x_goto (pc := 68) (tgt := 32) C dX0_playWith_68 (by decide) ?_
        exact ih (i + 1) _ (by omega) (airI_step (b := 12) (V := V) (V1 := V1) (ov := (fun s => if nI s = ch then by0 else V 35 s)) (i := i) (d := d) (by decide) hd7 hday hinv)
      · refine x_iload_n (pc := 51) C dX0_playWith_51 rfl ?_
        refine x_topi (if nI i = ch then by0 else V 35 i) (eq_nI h48) ?_
        refine x_goto (pc := 52) (tgt := 62) C dX0_playWith_52 (by decide) ?_
        refine x_cV3 (pc := 62) (o := 12) C v_X0_44 dX0_playWith_62 (u_X0_playShow hI i d (by omega) hd7 (by rw [hinv.1 31 (by decide)]; exact hday) _) (hI 12 rfl) rfl (by decide) rfl ⟨Nat.le_refl _, Nat.le_refl _⟩ ?_
        refine y_iinc (pc := 65) C (nI (i + 1)) dX0_playWith_65 rfl (by exact nI_1 i) (by decide) rfl ?_
        refine x_goto (pc := 68) (tgt := 32) C dX0_playWith_68 (by decide) ?_
        exact ih (i + 1) _ (by omega) (airI_step (b := 12) (V := V) (V1 := V1) (ov := (fun s => if nI s = ch then by0 else V 35 s)) (i := i) (d := d) (by decide) hd7 hday hinv)
  | succ k ih =>
    intro i V1 hk hinv
    refine x_iload (pc := 3) C dX0_playWith_3 rfl ?_
    refine x_bipush (pc := 5) C (7) dX0_playWith_5 (by decide) ?_
    refine x_icmp_ge (pc := 7) (tgt := 29) C dX0_playWith_7 (by decide) (fun h7 => absurd h7 (by exact nI_ge (a := i) (b := 7) (by omega) (by omega))) (fun h7 => ?_)
    refine x_aload_n (pc := 10) C dX0_playWith_10 rfl ?_
    refine x_getR (pc := 11) (o := 12) (j := 17) C f_X0_25 dX0_playWith_11 (hI 12 rfl) ⟨rfl, rfl⟩ ?_
    refine x_iload (pc := 14) C dX0_playWith_14 rfl ?_
    refine x_aload_n (pc := 16) C dX0_playWith_16 rfl ?_
    refine x_getR (pc := 17) (o := 20) (j := 21) C f_X0_32 dX0_playWith_17 (hI 20 rfl) ⟨rfl, rfl⟩ ?_
    refine x_iconst (pc := 20) C (0) dX0_playWith_20 (by decide) ?_
    refine x_topi (nI 0) (by decide) ?_
    refine x_iald (pc := 21) (o := 21) C dX0_playWith_21 (hI 21 rfl) ⟨rfl, rfl⟩ (show _ < 8 by decide) (by decide) ?_
    refine x_topi (V 21 0) (by rw [hinv.1 21 (by decide)]) ?_
    refine x_iast (pc := 22) (o := 17) C dX0_playWith_22 (hI 17 rfl) ⟨rfl, rfl⟩ (show _ < 7 by omega) (by decide) ?_
    refine y_iinc (pc := 23) C (nI (i + 1)) dX0_playWith_23 rfl (by exact nI_1 i) (by decide) rfl ?_
    refine x_goto (pc := 26) (tgt := 3) C dX0_playWith_26 (by decide) ?_
    exact ih (i + 1) _ (by omega) ⟨fun j hj => (up_nf (by omega)).trans (hinv.1 j hj), fun e he => by simp only [up]; by_cases q : e = i <;> simp [q]; exact hinv.2 e (by omega)⟩
