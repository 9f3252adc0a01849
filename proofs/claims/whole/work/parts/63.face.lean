set_option maxRecDepth 100000 in
set_option maxHeartbeats 4000000 in
theorem c_X6_reason {l : Launch} {V : VV} {L : LL} {N : NN} {I : List Nat} (hI : PI I) : Runs l 1 0 0 yX6_reason (Cond.code yX6_reason cX6_reason 1 (some .int)) [aR 0] V L N I (Is (some (aI (V 0 6))) (V) (L) N I) := by
  refine run_of RX6 (by decide +kernel) rfl (Nat.le_of_ble_eq_true rfl) (fun E hE C hQ hN => ?_)
  subst hE
  refine x_aload_n (pc := 0) C dX6_reason_0 rfl ?_
  refine x_getI (pc := 1) (o := 0) C f_X6_47 dX6_reason_1 (hI 0 rfl) ⟨rfl, rfl, rfl⟩ ?_
  exact x_iret (pc := 4) C hQ dX6_reason_4 (is_i rfl) (Nat.le_of_ble_eq_true rfl) (Nat.le_of_ble_eq_true rfl)
set_option maxRecDepth 100000 in
set_option maxHeartbeats 4000000 in
theorem c_X6_clearBuffer {l : Launch} {V : VV} {L : LL} {N : NN} {I : List Nat} (hI : PI I) : Runs l 1 0 0 yX6_clearBuffer (Cond.code yX6_clearBuffer cX6_clearBuffer 2 (some .int)) [aR 0] V L N I (Is (some (aI (V 3 1))) (up V 3 1 0) (L) N I) := by
  refine run_of RX6 (by decide +kernel) rfl (Nat.le_of_ble_eq_true rfl) (fun E hE C hQ hN => ?_)
  subst hE
  refine x_aload_n (pc := 0) C dX6_clearBuffer_0 rfl ?_
  refine x_getR (pc := 1) (o := 0) (j := 3) C f_X6_26 dX6_clearBuffer_1 (hI 0 rfl) ⟨rfl, rfl⟩ ?_
  refine x_getI (pc := 4) (o := 3) C f_X6_156 dX6_clearBuffer_4 (hI 3 rfl) ⟨rfl, rfl, rfl⟩ ?_
  refine y_istore_n (pc := 7) C dX6_clearBuffer_7 (by decide) rfl ?_
  refine x_aload_n (pc := 8) C dX6_clearBuffer_8 rfl ?_
  refine x_getR (pc := 9) (o := 0) (j := 3) C f_X6_26 dX6_clearBuffer_9 (hI 0 rfl) ⟨rfl, rfl⟩ ?_
  refine x_iconst (pc := 12) C (0) dX6_clearBuffer_12 (by decide) ?_
  refine x_putI (pc := 13) (o := 3) C p_X6_156 dX6_clearBuffer_13 (hI 3 rfl) ⟨rfl, rfl, rfl⟩ ?_
  refine x_iload_n (pc := 16) C dX6_clearBuffer_16 rfl ?_
  exact x_iret (pc := 17) C hQ dX6_clearBuffer_17 (is_iv rfl rfl) (Nat.le_of_ble_eq_true rfl) (Nat.le_of_ble_eq_true rfl)
set_option maxRecDepth 100000 in
set_option maxHeartbeats 4000000 in
theorem c_X6_firstError {l : Launch} {V : VV} {L : LL} {N : NN} {I : List Nat} (hI : PI I) {l0 : Nat} (hl0 : V 3 1 = nI l0) (hl60 : l0 ≤ 60) {a : Nat} (ha : V 3 2 = nI a) : Runs l 7 0 0 yX6_firstError (Cond.code yX6_firstError cX6_firstError 1 (some .int)) [aR 0] V L N I (Is (some (aI (nI (allT l0 60 V 0 (V 3 3)).2.2.1))) (stT (allT l0 60 V 0 (V 3 3)).2.1 (allT l0 60 V 0 (V 3 3)).2.2.1 (allT l0 60 V 0 (V 3 3)).2.2.2) (L) N I) := by
  refine run_of RX6 (by decide +kernel) rfl (Nat.le_of_ble_eq_true rfl) (fun E hE C hQ hN => ?_)
  subst hE
  refine x_aload_n (pc := 0) C dX6_firstError_0 rfl ?_
  refine x_getR (pc := 1) (o := 0) (j := 3) C f_X6_26 dX6_firstError_1 (hI 0 rfl) ⟨rfl, rfl⟩ ?_
  refine x_aload_n (pc := 4) C dX6_firstError_4 rfl ?_
  refine x_getR (pc := 5) (o := 0) (j := 5) C f_X6_33 dX6_firstError_5 (hI 0 rfl) ⟨rfl, rfl⟩ ?_
  refine x_mem (stT_id ha) ?_
  refine x_cV1 (pc := 8) (o := 3) C v_X6_164 dX6_firstError_8 (c_X5_readAll (V := V) hI hl0 hl60 a (V 3 3)) (hI 3 rfl) rfl (by decide) rfl ⟨Nat.le_refl _, Nat.le_refl _⟩ ?_
  refine x_pop (pc := 11) C dX6_firstError_11 rfl ?_
  refine x_aload_n (pc := 12) C dX6_firstError_12 rfl ?_
  refine x_getR (pc := 13) (o := 0) (j := 3) C f_X6_26 dX6_firstError_13 (hI 0 rfl) ⟨rfl, rfl⟩ ?_
  refine x_getI (pc := 16) (o := 3) C f_X6_167 dX6_firstError_16 (hI 3 rfl) ⟨rfl, rfl, rfl⟩ ?_
  refine x_topi (nI (allT l0 60 V 0 (V 3 3)).2.2.1) stT_2 ?_
  exact x_iret (pc := 19) C hQ dX6_firstError_19 (is_iv rfl rfl) (Nat.le_of_ble_eq_true rfl) (Nat.le_of_ble_eq_true rfl)
