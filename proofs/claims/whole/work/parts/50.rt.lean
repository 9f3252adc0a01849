set_option maxRecDepth 100000 in
set_option maxHeartbeats 4000000 in
theorem c_X7_readText {l : Launch} {V : VV} {L : LL} {N : NN} {I : List Nat} (hI : PI I) {l0 : Nat} (hl0 : V 200 5 = nI l0) (hl60 : l0 ≤ 60) : Runs l 4 0 0 yX7_readText (Cond.code yX7_readText cX7_readText 2 (some .int)) [aR 200] V L N I (Is (some (aI (nI (rtT V l0).1))) ((rtT V l0).2) (L) N I) := by
  refine run_of RX7 (by decide +kernel) rfl (Nat.le_of_ble_eq_true rfl) (fun E hE C hQ hN => ?_)
  subst hE
  refine x_aload_n (pc := 0) C dX7_readText_0 rfl ?_
  refine x_iconst (pc := 1) C (0) dX7_readText_1 (by decide) ?_
  refine x_putI (pc := 2) (o := 200) C p_X7_176 dX7_readText_2 (hI 200 rfl) ⟨rfl, rfl, rfl⟩ ?_
  refine x_aload_n (pc := 5) C dX7_readText_5 rfl ?_
  refine x_iconst (pc := 6) C (0) dX7_readText_6 (by decide) ?_
  refine x_putI (pc := 7) (o := 200) C p_X7_179 dX7_readText_7 (hI 200 rfl) ⟨rfl, rfl, rfl⟩ ?_
  refine x_mem (show _ = rt0 V from rfl) ?_
  refine x_iconst (pc := 10) C (0) dX7_readText_10 (by decide) ?_
  refine y_istore_n (pc := 11) C dX7_readText_11 (by decide) rfl ?_
  suffices key : ∀ (n i t s : Nat) (V1 : VV), n + i = l0 → Au V1 t s i → Sau V V1 → rtT V l0 = rtP n V1 i → Wx E 12 [some (aR 200), some (aI (nI i))] [] V1 L N I 0 0 by
    exact key l0 0 0 0 (rt0 V) (by omega) au_0 sau_0 rfl
  intro n
  induction n with
  | zero =>
    intro i t s V1 hk hA hS hr
    refine x_iload_n (pc := 12) C dX7_readText_12 rfl ?_
    refine x_aload_n (pc := 13) C dX7_readText_13 rfl ?_
    refine x_getI (pc := 14) (o := 200) C f_X7_173 dX7_readText_14 (hI 200 rfl) ⟨rfl, rfl, rfl⟩ ?_
    refine x_topi (nI l0) ((hS.1 5 (by decide) (by decide) (by decide)).trans hl0) ?_
    refine x_icmp_ge (pc := 17) (tgt := 39) C dX7_readText_17 (by decide) (fun h17 => ?_) (fun h17 => absurd (by exact nI_le (by omega) (by omega)) h17)
    refine x_iload_n (pc := 39) C dX7_readText_39 rfl ?_
    exact x_iret (pc := 40) C hQ dX7_readText_40 (is_iv (by rw [hr]; rfl) (by rw [hr]; rfl)) (Nat.le_of_ble_eq_true rfl) (Nat.le_of_ble_eq_true rfl)
  | succ n ih =>
    intro i t s V1 hk hA hS hr
    have hts := au_s (c := V1 203 i) hA (by omega)
    have hr2 : rtT V l0 = if (tkP V1 t s (V1 203 i)).1 = true then rtP n (tkP V1 t s (V1 203 i)).2 (i + 1) else (i, (tkP V1 t s (V1 203 i)).2) := by rw [hr, rtP, hts]
    refine x_iload_n (pc := 12) C dX7_readText_12 rfl ?_
    refine x_aload_n (pc := 13) C dX7_readText_13 rfl ?_
    refine x_getI (pc := 14) (o := 200) C f_X7_173 dX7_readText_14 (hI 200 rfl) ⟨rfl, rfl, rfl⟩ ?_
    refine x_topi (nI l0) ((hS.1 5 (by decide) (by decide) (by decide)).trans hl0) ?_
    refine x_icmp_ge (pc := 17) (tgt := 39) C dX7_readText_17 (by decide) (fun h17 => absurd h17 (by exact nI_ge (by omega) (by omega))) (fun h17 => ?_)
    refine x_aload_n (pc := 20) C dX7_readText_20 rfl ?_
    refine x_aload_n (pc := 21) C dX7_readText_21 rfl ?_
    refine x_getR (pc := 22) (o := 200) (j := 203) C f_X7_16 dX7_readText_22 (hI 200 rfl) ⟨rfl, rfl⟩ ?_
    refine x_iload_n (pc := 25) C dX7_readText_25 rfl ?_
    refine x_iald (pc := 26) (o := 203) C dX7_readText_26 (hI 203 rfl) ⟨rfl, rfl⟩ (show _ < 60 by omega) (by decide) ?_
    refine x_cV1 (pc := 27) (o := 200) C v_X7_212 dX7_readText_27 (c_X7_takes hI hA.1 (by have := hA.2.2.2; omega) hA.2.1 hA.2.2.1 (V1 203 i)) (hI 200 rfl) rfl (by decide) rfl ⟨Nat.le_refl _, Nat.le_refl _⟩ ?_
    refine x_if_eq (pc := 30) (tgt := 39) C dX7_readText_30 (by decide) (fun h30 => ?_) (fun h30 => ?_)
    · refine x_iload_n (pc := 39) C dX7_readText_39 rfl ?_
      exact x_iret (pc := 40) C hQ dX7_readText_40 (is_iv (by rw [hr2, if_neg (b2i_n h30)]) (by rw [hr2, if_neg (b2i_n h30)])) (Nat.le_of_ble_eq_true rfl) (Nat.le_of_ble_eq_true rfl)
    · obtain ⟨t2, s2, hA2⟩ := au_tk hA (b2i_t h30)
      refine y_iinc (pc := 33) C (nI (i + 1)) dX7_readText_33 rfl (by exact nI_1 i) (by decide) rfl ?_
      refine x_goto (pc := 36) (tgt := 12) C dX7_readText_36 (by decide) ?_
      exact ih (i + 1) t2 s2 _ (by omega) hA2 (sau_t hS sau_tk) (by rw [hr2, if_pos (b2i_t h30)])
set_option maxRecDepth 100000 in
set_option maxHeartbeats 4000000 in
theorem c_X7_firstError {l : Launch} {V : VV} {L : LL} {N : NN} {I : List Nat} (hI : PI I) {l0 : Nat} (hl0 : V 200 5 = nI l0) (hl60 : l0 ≤ 60) : Runs l 5 0 0 yX7_firstError (Cond.code yX7_firstError cX7_firstError 1 (some .int)) [aR 200] V L N I (Is (some (aI (nI (rtT (up V 200 0 0) l0).1))) ((rtT (up V 200 0 0) l0).2) (L) N I) := by
  refine run_of RX7 (by decide +kernel) rfl (Nat.le_of_ble_eq_true rfl) (fun E hE C hQ hN => ?_)
  subst hE
  refine x_aload_n (pc := 0) C dX7_firstError_0 rfl ?_
  refine x_iconst (pc := 1) C (0) dX7_firstError_1 (by decide) ?_
  refine x_putI (pc := 2) (o := 200) C p_X7_37 dX7_firstError_2 (hI 200 rfl) ⟨rfl, rfl, rfl⟩ ?_
  refine x_aload_n (pc := 5) C dX7_firstError_5 rfl ?_
  refine x_cV0 (pc := 6) (o := 200) C v_X7_215 dX7_firstError_6 (c_X7_readText (V := up V 200 0 0) hI ((up_nk (by decide)).trans hl0) hl60) (hI 200 rfl) rfl (by decide) rfl ⟨Nat.le_refl _, Nat.le_refl _⟩ ?_
  exact x_iret (pc := 9) C hQ dX7_firstError_9 (is_iv rfl rfl) (Nat.le_of_ble_eq_true rfl) (Nat.le_of_ble_eq_true rfl)
