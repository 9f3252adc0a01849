set_option maxRecDepth 100000 in
set_option maxHeartbeats 4000000 in
theorem c_X6_reason {l : Launch} {V : VV} {L : LL} {N : NN} {I : List Nat} (hI : PI I) : Runs l 1 0 0 yX6_reason (Cond.code yX6_reason cX6_reason 1 (some .int)) [aR 0] V L N I (Is (some (aI (V 0 6))) (V) (L) N I) := by
  refine run_of RX6 (by decide +kernel) rfl (Nat.le_of_ble_eq_true rfl) (fun E hE C hQ hN => ?_)
  subst hE
  refine x_aload_n (pc := 0) C dX6_reason_0 rfl ?_
  refine x_getI (pc := 1) (o := 0) C f_X6_47 dX6_reason_1 (hI 0 rfl) ⟨rfl, rfl, rfl⟩ ?_
  exact x_iret (pc := 4) C hQ dX6_reason_4 (is_i rfl) (Nat.le_of_ble_eq_true rfl) (Nat.le_of_ble_eq_true rfl)
