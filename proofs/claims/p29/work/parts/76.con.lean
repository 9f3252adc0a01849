def cS (i : Nat) : Nat → Int32 := fun j => if j < i then stVal 2 j else 0
def cQ (i : Nat) : Nat → Int32 := fun j => if j < i then 300 else 0
theorem cS_s (i : Nat) : upd (cS i) i (stVal 2 i) = cS (i + 1) := by
  funext j; unfold upd cS
  by_cases h : j = i
  · subst h; rw [if_pos rfl, if_pos (by omega)]
  · rw [if_neg h]
    by_cases q : j < i
    · rw [if_pos q, if_pos (by omega)]
    · rw [if_neg q, if_neg (by omega)]
theorem cQ_s (i : Nat) : upd (cQ i) i 300 = cQ (i + 1) := by
  funext j; unfold upd cQ
  by_cases h : j = i
  · subst h; rw [if_pos rfl, if_pos (by omega)]
  · rw [if_neg h]
    by_cases q : j < i
    · rw [if_pos q, if_pos (by omega)]
    · rw [if_neg q, if_neg (by omega)]
theorem cS_0 : cS 0 = fun _ => 0 := by funext j; unfold cS; rw [if_neg (by omega)]
theorem cQ_0 : cQ 0 = fun _ => 0 := by funext j; unfold cQ; rw [if_neg (by omega)]
abbrev z0 : Nat → Int32 := fun _ => 0
/-- a new plan; i of the settings and j of the quotas are set -/
def planW (c0 : ClassId) (h : Nat) (q : Nat → Nat) (i j : Nat) : va_W := [(h, .inr (3, [.ref (q 0), .ref (q 1), .ref (q 2), .ref (q 3), .ref (q 4), .ref (q 5), .int 0, .int 0, .ref (q 8), .ref (q 9), .ref (q 10), .ref (q 11), .ref (q 12), .ref (q 13), .ref (q 14), .ref (q 15)])), (q 0, .inl (c0, 8, .inl (cS i))), (q 1, .inl (c0, 6, .inl (cQ j))), (q 2, .inl (c0, 6, .inl (z0))), (q 3, .inl (c0, 6, .inl (z0))), (q 4, .inl (c0, 6, .inl (z0))), (q 5, .inl (c0, 6, .inl (z0))), (q 8, .inl (c0, 24, .inl (z0))), (q 9, .inl (c0, 24, .inl (z0))), (q 10, .inl (c0, 24, .inl (z0))), (q 11, .inl (c0, 24, .inl (z0))), (q 12, .inl (c0, 24, .inl (z0))), (q 13, .inl (c0, 24, .inl (z0))), (q 14, .inl (c0, 24, .inl (z0))), (q 15, .inl (c0, 24, .inl (z0)))]
set_option maxRecDepth 100000 in
set_option maxHeartbeats 4000000 in
theorem k_X3_init {l : Launch} (h : Nat) : RunsK l 2 14 230 yX3_init (Cond.code yX3_init cX3_init 2 none) h (3, [.null, .null, .null, .null, .null, .null, .int 0, .int 0, .null, .null, .null, .null, .null, .null, .null, .null]) zT (fun ca w1 => ∃ q, w1 = planW (ca 0) h q 8 6) := by
  refine run_ofK RX3 (by decide +kernel) rfl rfl (Nat.le_of_ble_eq_true rfl) (fun E lsa H hE C hin hZ hP hD hS hl => ?_)
  subst hE
  refine lv_aload_n (pc := 0) C.1 C.2.1 dX3_init_0 rfl (hl.2.2 0 (aQ h) rfl) ?_
  refine k_objI (pc := 1) C (u0_in 48 (by decide +kernel) rfl) (by decide) (by decide) hl.1 dX3_init_1 ?_
  refine lv_aload_n (pc := 4) C.1 C.2.1 dX3_init_4 rfl (hl.2.2 0 (aQ h) rfl) ?_
  refine lv_bipush (pc := 5) C.1 C.2.1 dX3_init_5 (show (Int8.ofInt 8).toInt32 = nI 8 by decide) ?_
  refine k_newI (pc := 7) (n := 8) C (by decide) dX3_init_7 ⟨by decide, by decide⟩ hP hD hS (fun q0 H hP hD hS => ?_)
  refine va_putF (pc := 9) (D := eD E) (ci := 3) (v := .ref q0) (ty := .array .int) (C := RX3) (T := TX3) (N := 16) C.1 C.2.1 C.2.2.2.2.1 (cl_words _ (List.mem_of_getElem? (i := 3) rfl)) tyX3 tyX3_ok nmX3 C.2.2.2.1 C.2.2.2.2.2.1 hP hD hS 0 rfl rfl 0 (by decide) (C.2.2.2.2.1 _ (u0_in 51 (by decide +kernel) rfl)) (fun _ h9 => h9) rfl hin rfl (by decide +kernel) rfl rfl (Nat.le_of_ble_eq_true rfl) dX3_init_9 (fun H locs hP hD hS => ?_)
  have hP : va_P (eD E) vwCl [(h, .inr (3, [.ref q0, .null, .null, .null, .null, .null, .int 0, .int 0, .null, .null, .null, .null, .null, .null, .null, .null])), (q0, .inl (eK E 0, 8, .inl (fun _ => 0)))] H := hP
  have hD : va_D (eF E) [(h, .inr (3, [.ref q0, .null, .null, .null, .null, .null, .int 0, .int 0, .null, .null, .null, .null, .null, .null, .null, .null])), (q0, .inl (eK E 0, 8, .inl (fun _ => 0)))] := hD
  refine lv_aload_n (pc := 12) C.1 C.2.1 dX3_init_12 rfl (hl.2.2 0 (aQ h) rfl) ?_
  refine lv_bipush (pc := 13) C.1 C.2.1 dX3_init_13 (show (Int8.ofInt 6).toInt32 = nI 6 by decide) ?_
  refine k_newI (pc := 15) (n := 6) C (by decide) dX3_init_15 ⟨by decide, by decide⟩ hP hD hS (fun q1 H hP hD hS => ?_)
  refine va_putF (pc := 17) (D := eD E) (ci := 3) (v := .ref q1) (ty := .array .int) (C := RX3) (T := TX3) (N := 16) C.1 C.2.1 C.2.2.2.2.1 (cl_words _ (List.mem_of_getElem? (i := 3) rfl)) tyX3 tyX3_ok nmX3 C.2.2.2.1 C.2.2.2.2.2.1 hP hD hS 0 rfl rfl 1 (by decide) (C.2.2.2.2.1 _ (u0_in 54 (by decide +kernel) rfl)) (fun _ h9 => h9) rfl hin rfl (by decide +kernel) rfl rfl (Nat.le_of_ble_eq_true rfl) dX3_init_17 (fun H locs hP hD hS => ?_)
  have hP : va_P (eD E) vwCl [(h, .inr (3, [.ref q0, .ref q1, .null, .null, .null, .null, .int 0, .int 0, .null, .null, .null, .null, .null, .null, .null, .null])), (q0, .inl (eK E 0, 8, .inl (fun _ => 0))), (q1, .inl (eK E 0, 6, .inl (fun _ => 0)))] H := hP
  have hD : va_D (eF E) [(h, .inr (3, [.ref q0, .ref q1, .null, .null, .null, .null, .int 0, .int 0, .null, .null, .null, .null, .null, .null, .null, .null])), (q0, .inl (eK E 0, 8, .inl (fun _ => 0))), (q1, .inl (eK E 0, 6, .inl (fun _ => 0)))] := hD
  refine lv_aload_n (pc := 20) C.1 C.2.1 dX3_init_20 rfl (hl.2.2 0 (aQ h) rfl) ?_
  refine lv_bipush (pc := 21) C.1 C.2.1 dX3_init_21 (show (Int8.ofInt 6).toInt32 = nI 6 by decide) ?_
  refine k_newI (pc := 23) (n := 6) C (by decide) dX3_init_23 ⟨by decide, by decide⟩ hP hD hS (fun q2 H hP hD hS => ?_)
  refine va_putF (pc := 25) (D := eD E) (ci := 3) (v := .ref q2) (ty := .array .int) (C := RX3) (T := TX3) (N := 16) C.1 C.2.1 C.2.2.2.2.1 (cl_words _ (List.mem_of_getElem? (i := 3) rfl)) tyX3 tyX3_ok nmX3 C.2.2.2.1 C.2.2.2.2.2.1 hP hD hS 0 rfl rfl 2 (by decide) (C.2.2.2.2.1 _ (u0_in 56 (by decide +kernel) rfl)) (fun _ h9 => h9) rfl hin rfl (by decide +kernel) rfl rfl (Nat.le_of_ble_eq_true rfl) dX3_init_25 (fun H locs hP hD hS => ?_)
  have hP : va_P (eD E) vwCl [(h, .inr (3, [.ref q0, .ref q1, .ref q2, .null, .null, .null, .int 0, .int 0, .null, .null, .null, .null, .null, .null, .null, .null])), (q0, .inl (eK E 0, 8, .inl (fun _ => 0))), (q1, .inl (eK E 0, 6, .inl (fun _ => 0))), (q2, .inl (eK E 0, 6, .inl (fun _ => 0)))] H := hP
  have hD : va_D (eF E) [(h, .inr (3, [.ref q0, .ref q1, .ref q2, .null, .null, .null, .int 0, .int 0, .null, .null, .null, .null, .null, .null, .null, .null])), (q0, .inl (eK E 0, 8, .inl (fun _ => 0))), (q1, .inl (eK E 0, 6, .inl (fun _ => 0))), (q2, .inl (eK E 0, 6, .inl (fun _ => 0)))] := hD
  refine lv_aload_n (pc := 28) C.1 C.2.1 dX3_init_28 rfl (hl.2.2 0 (aQ h) rfl) ?_
  refine lv_bipush (pc := 29) C.1 C.2.1 dX3_init_29 (show (Int8.ofInt 6).toInt32 = nI 6 by decide) ?_
  refine k_newI (pc := 31) (n := 6) C (by decide) dX3_init_31 ⟨by decide, by decide⟩ hP hD hS (fun q3 H hP hD hS => ?_)
  refine va_putF (pc := 33) (D := eD E) (ci := 3) (v := .ref q3) (ty := .array .int) (C := RX3) (T := TX3) (N := 16) C.1 C.2.1 C.2.2.2.2.1 (cl_words _ (List.mem_of_getElem? (i := 3) rfl)) tyX3 tyX3_ok nmX3 C.2.2.2.1 C.2.2.2.2.2.1 hP hD hS 0 rfl rfl 3 (by decide) (C.2.2.2.2.1 _ (u0_in 58 (by decide +kernel) rfl)) (fun _ h9 => h9) rfl hin rfl (by decide +kernel) rfl rfl (Nat.le_of_ble_eq_true rfl) dX3_init_33 (fun H locs hP hD hS => ?_)
  have hP : va_P (eD E) vwCl [(h, .inr (3, [.ref q0, .ref q1, .ref q2, .ref q3, .null, .null, .int 0, .int 0, .null, .null, .null, .null, .null, .null, .null, .null])), (q0, .inl (eK E 0, 8, .inl (fun _ => 0))), (q1, .inl (eK E 0, 6, .inl (fun _ => 0))), (q2, .inl (eK E 0, 6, .inl (fun _ => 0))), (q3, .inl (eK E 0, 6, .inl (fun _ => 0)))] H := hP
  have hD : va_D (eF E) [(h, .inr (3, [.ref q0, .ref q1, .ref q2, .ref q3, .null, .null, .int 0, .int 0, .null, .null, .null, .null, .null, .null, .null, .null])), (q0, .inl (eK E 0, 8, .inl (fun _ => 0))), (q1, .inl (eK E 0, 6, .inl (fun _ => 0))), (q2, .inl (eK E 0, 6, .inl (fun _ => 0))), (q3, .inl (eK E 0, 6, .inl (fun _ => 0)))] := hD
  refine lv_aload_n (pc := 36) C.1 C.2.1 dX3_init_36 rfl (hl.2.2 0 (aQ h) rfl) ?_
  refine lv_bipush (pc := 37) C.1 C.2.1 dX3_init_37 (show (Int8.ofInt 6).toInt32 = nI 6 by decide) ?_
  refine k_newI (pc := 39) (n := 6) C (by decide) dX3_init_39 ⟨by decide, by decide⟩ hP hD hS (fun q4 H hP hD hS => ?_)
  refine va_putF (pc := 41) (D := eD E) (ci := 3) (v := .ref q4) (ty := .array .int) (C := RX3) (T := TX3) (N := 16) C.1 C.2.1 C.2.2.2.2.1 (cl_words _ (List.mem_of_getElem? (i := 3) rfl)) tyX3 tyX3_ok nmX3 C.2.2.2.1 C.2.2.2.2.2.1 hP hD hS 0 rfl rfl 4 (by decide) (C.2.2.2.2.1 _ (u0_in 60 (by decide +kernel) rfl)) (fun _ h9 => h9) rfl hin rfl (by decide +kernel) rfl rfl (Nat.le_of_ble_eq_true rfl) dX3_init_41 (fun H locs hP hD hS => ?_)
  have hP : va_P (eD E) vwCl [(h, .inr (3, [.ref q0, .ref q1, .ref q2, .ref q3, .ref q4, .null, .int 0, .int 0, .null, .null, .null, .null, .null, .null, .null, .null])), (q0, .inl (eK E 0, 8, .inl (fun _ => 0))), (q1, .inl (eK E 0, 6, .inl (fun _ => 0))), (q2, .inl (eK E 0, 6, .inl (fun _ => 0))), (q3, .inl (eK E 0, 6, .inl (fun _ => 0))), (q4, .inl (eK E 0, 6, .inl (fun _ => 0)))] H := hP
  have hD : va_D (eF E) [(h, .inr (3, [.ref q0, .ref q1, .ref q2, .ref q3, .ref q4, .null, .int 0, .int 0, .null, .null, .null, .null, .null, .null, .null, .null])), (q0, .inl (eK E 0, 8, .inl (fun _ => 0))), (q1, .inl (eK E 0, 6, .inl (fun _ => 0))), (q2, .inl (eK E 0, 6, .inl (fun _ => 0))), (q3, .inl (eK E 0, 6, .inl (fun _ => 0))), (q4, .inl (eK E 0, 6, .inl (fun _ => 0)))] := hD
  refine lv_aload_n (pc := 44) C.1 C.2.1 dX3_init_44 rfl (hl.2.2 0 (aQ h) rfl) ?_
  refine lv_bipush (pc := 45) C.1 C.2.1 dX3_init_45 (show (Int8.ofInt 6).toInt32 = nI 6 by decide) ?_
  refine k_newI (pc := 47) (n := 6) C (by decide) dX3_init_47 ⟨by decide, by decide⟩ hP hD hS (fun q5 H hP hD hS => ?_)
  refine va_putF (pc := 49) (D := eD E) (ci := 3) (v := .ref q5) (ty := .array .int) (C := RX3) (T := TX3) (N := 16) C.1 C.2.1 C.2.2.2.2.1 (cl_words _ (List.mem_of_getElem? (i := 3) rfl)) tyX3 tyX3_ok nmX3 C.2.2.2.1 C.2.2.2.2.2.1 hP hD hS 0 rfl rfl 5 (by decide) (C.2.2.2.2.1 _ (u0_in 62 (by decide +kernel) rfl)) (fun _ h9 => h9) rfl hin rfl (by decide +kernel) rfl rfl (Nat.le_of_ble_eq_true rfl) dX3_init_49 (fun H locs hP hD hS => ?_)
  have hP : va_P (eD E) vwCl [(h, .inr (3, [.ref q0, .ref q1, .ref q2, .ref q3, .ref q4, .ref q5, .int 0, .int 0, .null, .null, .null, .null, .null, .null, .null, .null])), (q0, .inl (eK E 0, 8, .inl (fun _ => 0))), (q1, .inl (eK E 0, 6, .inl (fun _ => 0))), (q2, .inl (eK E 0, 6, .inl (fun _ => 0))), (q3, .inl (eK E 0, 6, .inl (fun _ => 0))), (q4, .inl (eK E 0, 6, .inl (fun _ => 0))), (q5, .inl (eK E 0, 6, .inl (fun _ => 0)))] H := hP
  have hD : va_D (eF E) [(h, .inr (3, [.ref q0, .ref q1, .ref q2, .ref q3, .ref q4, .ref q5, .int 0, .int 0, .null, .null, .null, .null, .null, .null, .null, .null])), (q0, .inl (eK E 0, 8, .inl (fun _ => 0))), (q1, .inl (eK E 0, 6, .inl (fun _ => 0))), (q2, .inl (eK E 0, 6, .inl (fun _ => 0))), (q3, .inl (eK E 0, 6, .inl (fun _ => 0))), (q4, .inl (eK E 0, 6, .inl (fun _ => 0))), (q5, .inl (eK E 0, 6, .inl (fun _ => 0)))] := hD
  refine lv_aload_n (pc := 52) C.1 C.2.1 dX3_init_52 rfl (hl.2.2 0 (aQ h) rfl) ?_
  refine lv_bipush (pc := 53) C.1 C.2.1 dX3_init_53 (show (Int8.ofInt 24).toInt32 = nI 24 by decide) ?_
  refine k_newI (pc := 55) (n := 24) C (by decide) dX3_init_55 ⟨by decide, by decide⟩ hP hD hS (fun q8 H hP hD hS => ?_)
  refine va_putF (pc := 57) (D := eD E) (ci := 3) (v := .ref q8) (ty := .array .int) (C := RX3) (T := TX3) (N := 16) C.1 C.2.1 C.2.2.2.2.1 (cl_words _ (List.mem_of_getElem? (i := 3) rfl)) tyX3 tyX3_ok nmX3 C.2.2.2.1 C.2.2.2.2.2.1 hP hD hS 0 rfl rfl 8 (by decide) (C.2.2.2.2.1 _ (u0_in 69 (by decide +kernel) rfl)) (fun _ h9 => h9) rfl hin rfl (by decide +kernel) rfl rfl (Nat.le_of_ble_eq_true rfl) dX3_init_57 (fun H locs hP hD hS => ?_)
  have hP : va_P (eD E) vwCl [(h, .inr (3, [.ref q0, .ref q1, .ref q2, .ref q3, .ref q4, .ref q5, .int 0, .int 0, .ref q8, .null, .null, .null, .null, .null, .null, .null])), (q0, .inl (eK E 0, 8, .inl (fun _ => 0))), (q1, .inl (eK E 0, 6, .inl (fun _ => 0))), (q2, .inl (eK E 0, 6, .inl (fun _ => 0))), (q3, .inl (eK E 0, 6, .inl (fun _ => 0))), (q4, .inl (eK E 0, 6, .inl (fun _ => 0))), (q5, .inl (eK E 0, 6, .inl (fun _ => 0))), (q8, .inl (eK E 0, 24, .inl (fun _ => 0)))] H := hP
  have hD : va_D (eF E) [(h, .inr (3, [.ref q0, .ref q1, .ref q2, .ref q3, .ref q4, .ref q5, .int 0, .int 0, .ref q8, .null, .null, .null, .null, .null, .null, .null])), (q0, .inl (eK E 0, 8, .inl (fun _ => 0))), (q1, .inl (eK E 0, 6, .inl (fun _ => 0))), (q2, .inl (eK E 0, 6, .inl (fun _ => 0))), (q3, .inl (eK E 0, 6, .inl (fun _ => 0))), (q4, .inl (eK E 0, 6, .inl (fun _ => 0))), (q5, .inl (eK E 0, 6, .inl (fun _ => 0))), (q8, .inl (eK E 0, 24, .inl (fun _ => 0)))] := hD
  refine lv_aload_n (pc := 60) C.1 C.2.1 dX3_init_60 rfl (hl.2.2 0 (aQ h) rfl) ?_
  refine lv_bipush (pc := 61) C.1 C.2.1 dX3_init_61 (show (Int8.ofInt 24).toInt32 = nI 24 by decide) ?_
  refine k_newI (pc := 63) (n := 24) C (by decide) dX3_init_63 ⟨by decide, by decide⟩ hP hD hS (fun q9 H hP hD hS => ?_)
  refine va_putF (pc := 65) (D := eD E) (ci := 3) (v := .ref q9) (ty := .array .int) (C := RX3) (T := TX3) (N := 16) C.1 C.2.1 C.2.2.2.2.1 (cl_words _ (List.mem_of_getElem? (i := 3) rfl)) tyX3 tyX3_ok nmX3 C.2.2.2.1 C.2.2.2.2.2.1 hP hD hS 0 rfl rfl 9 (by decide) (C.2.2.2.2.1 _ (u0_in 72 (by decide +kernel) rfl)) (fun _ h9 => h9) rfl hin rfl (by decide +kernel) rfl rfl (Nat.le_of_ble_eq_true rfl) dX3_init_65 (fun H locs hP hD hS => ?_)
  have hP : va_P (eD E) vwCl [(h, .inr (3, [.ref q0, .ref q1, .ref q2, .ref q3, .ref q4, .ref q5, .int 0, .int 0, .ref q8, .ref q9, .null, .null, .null, .null, .null, .null])), (q0, .inl (eK E 0, 8, .inl (fun _ => 0))), (q1, .inl (eK E 0, 6, .inl (fun _ => 0))), (q2, .inl (eK E 0, 6, .inl (fun _ => 0))), (q3, .inl (eK E 0, 6, .inl (fun _ => 0))), (q4, .inl (eK E 0, 6, .inl (fun _ => 0))), (q5, .inl (eK E 0, 6, .inl (fun _ => 0))), (q8, .inl (eK E 0, 24, .inl (fun _ => 0))), (q9, .inl (eK E 0, 24, .inl (fun _ => 0)))] H := hP
  have hD : va_D (eF E) [(h, .inr (3, [.ref q0, .ref q1, .ref q2, .ref q3, .ref q4, .ref q5, .int 0, .int 0, .ref q8, .ref q9, .null, .null, .null, .null, .null, .null])), (q0, .inl (eK E 0, 8, .inl (fun _ => 0))), (q1, .inl (eK E 0, 6, .inl (fun _ => 0))), (q2, .inl (eK E 0, 6, .inl (fun _ => 0))), (q3, .inl (eK E 0, 6, .inl (fun _ => 0))), (q4, .inl (eK E 0, 6, .inl (fun _ => 0))), (q5, .inl (eK E 0, 6, .inl (fun _ => 0))), (q8, .inl (eK E 0, 24, .inl (fun _ => 0))), (q9, .inl (eK E 0, 24, .inl (fun _ => 0)))] := hD
  refine lv_aload_n (pc := 68) C.1 C.2.1 dX3_init_68 rfl (hl.2.2 0 (aQ h) rfl) ?_
  refine lv_bipush (pc := 69) C.1 C.2.1 dX3_init_69 (show (Int8.ofInt 24).toInt32 = nI 24 by decide) ?_
  refine k_newI (pc := 71) (n := 24) C (by decide) dX3_init_71 ⟨by decide, by decide⟩ hP hD hS (fun q10 H hP hD hS => ?_)
  refine va_putF (pc := 73) (D := eD E) (ci := 3) (v := .ref q10) (ty := .array .int) (C := RX3) (T := TX3) (N := 16) C.1 C.2.1 C.2.2.2.2.1 (cl_words _ (List.mem_of_getElem? (i := 3) rfl)) tyX3 tyX3_ok nmX3 C.2.2.2.1 C.2.2.2.2.2.1 hP hD hS 0 rfl rfl 10 (by decide) (C.2.2.2.2.1 _ (u0_in 75 (by decide +kernel) rfl)) (fun _ h9 => h9) rfl hin rfl (by decide +kernel) rfl rfl (Nat.le_of_ble_eq_true rfl) dX3_init_73 (fun H locs hP hD hS => ?_)
  have hP : va_P (eD E) vwCl [(h, .inr (3, [.ref q0, .ref q1, .ref q2, .ref q3, .ref q4, .ref q5, .int 0, .int 0, .ref q8, .ref q9, .ref q10, .null, .null, .null, .null, .null])), (q0, .inl (eK E 0, 8, .inl (fun _ => 0))), (q1, .inl (eK E 0, 6, .inl (fun _ => 0))), (q2, .inl (eK E 0, 6, .inl (fun _ => 0))), (q3, .inl (eK E 0, 6, .inl (fun _ => 0))), (q4, .inl (eK E 0, 6, .inl (fun _ => 0))), (q5, .inl (eK E 0, 6, .inl (fun _ => 0))), (q8, .inl (eK E 0, 24, .inl (fun _ => 0))), (q9, .inl (eK E 0, 24, .inl (fun _ => 0))), (q10, .inl (eK E 0, 24, .inl (fun _ => 0)))] H := hP
  have hD : va_D (eF E) [(h, .inr (3, [.ref q0, .ref q1, .ref q2, .ref q3, .ref q4, .ref q5, .int 0, .int 0, .ref q8, .ref q9, .ref q10, .null, .null, .null, .null, .null])), (q0, .inl (eK E 0, 8, .inl (fun _ => 0))), (q1, .inl (eK E 0, 6, .inl (fun _ => 0))), (q2, .inl (eK E 0, 6, .inl (fun _ => 0))), (q3, .inl (eK E 0, 6, .inl (fun _ => 0))), (q4, .inl (eK E 0, 6, .inl (fun _ => 0))), (q5, .inl (eK E 0, 6, .inl (fun _ => 0))), (q8, .inl (eK E 0, 24, .inl (fun _ => 0))), (q9, .inl (eK E 0, 24, .inl (fun _ => 0))), (q10, .inl (eK E 0, 24, .inl (fun _ => 0)))] := hD
  refine lv_aload_n (pc := 76) C.1 C.2.1 dX3_init_76 rfl (hl.2.2 0 (aQ h) rfl) ?_
  refine lv_bipush (pc := 77) C.1 C.2.1 dX3_init_77 (show (Int8.ofInt 24).toInt32 = nI 24 by decide) ?_
  refine k_newI (pc := 79) (n := 24) C (by decide) dX3_init_79 ⟨by decide, by decide⟩ hP hD hS (fun q11 H hP hD hS => ?_)
  refine va_putF (pc := 81) (D := eD E) (ci := 3) (v := .ref q11) (ty := .array .int) (C := RX3) (T := TX3) (N := 16) C.1 C.2.1 C.2.2.2.2.1 (cl_words _ (List.mem_of_getElem? (i := 3) rfl)) tyX3 tyX3_ok nmX3 C.2.2.2.1 C.2.2.2.2.2.1 hP hD hS 0 rfl rfl 11 (by decide) (C.2.2.2.2.1 _ (u0_in 78 (by decide +kernel) rfl)) (fun _ h9 => h9) rfl hin rfl (by decide +kernel) rfl rfl (Nat.le_of_ble_eq_true rfl) dX3_init_81 (fun H locs hP hD hS => ?_)
  have hP : va_P (eD E) vwCl [(h, .inr (3, [.ref q0, .ref q1, .ref q2, .ref q3, .ref q4, .ref q5, .int 0, .int 0, .ref q8, .ref q9, .ref q10, .ref q11, .null, .null, .null, .null])), (q0, .inl (eK E 0, 8, .inl (fun _ => 0))), (q1, .inl (eK E 0, 6, .inl (fun _ => 0))), (q2, .inl (eK E 0, 6, .inl (fun _ => 0))), (q3, .inl (eK E 0, 6, .inl (fun _ => 0))), (q4, .inl (eK E 0, 6, .inl (fun _ => 0))), (q5, .inl (eK E 0, 6, .inl (fun _ => 0))), (q8, .inl (eK E 0, 24, .inl (fun _ => 0))), (q9, .inl (eK E 0, 24, .inl (fun _ => 0))), (q10, .inl (eK E 0, 24, .inl (fun _ => 0))), (q11, .inl (eK E 0, 24, .inl (fun _ => 0)))] H := hP
  have hD : va_D (eF E) [(h, .inr (3, [.ref q0, .ref q1, .ref q2, .ref q3, .ref q4, .ref q5, .int 0, .int 0, .ref q8, .ref q9, .ref q10, .ref q11, .null, .null, .null, .null])), (q0, .inl (eK E 0, 8, .inl (fun _ => 0))), (q1, .inl (eK E 0, 6, .inl (fun _ => 0))), (q2, .inl (eK E 0, 6, .inl (fun _ => 0))), (q3, .inl (eK E 0, 6, .inl (fun _ => 0))), (q4, .inl (eK E 0, 6, .inl (fun _ => 0))), (q5, .inl (eK E 0, 6, .inl (fun _ => 0))), (q8, .inl (eK E 0, 24, .inl (fun _ => 0))), (q9, .inl (eK E 0, 24, .inl (fun _ => 0))), (q10, .inl (eK E 0, 24, .inl (fun _ => 0))), (q11, .inl (eK E 0, 24, .inl (fun _ => 0)))] := hD
  refine lv_aload_n (pc := 84) C.1 C.2.1 dX3_init_84 rfl (hl.2.2 0 (aQ h) rfl) ?_
  refine lv_bipush (pc := 85) C.1 C.2.1 dX3_init_85 (show (Int8.ofInt 24).toInt32 = nI 24 by decide) ?_
  refine k_newI (pc := 87) (n := 24) C (by decide) dX3_init_87 ⟨by decide, by decide⟩ hP hD hS (fun q12 H hP hD hS => ?_)
  refine va_putF (pc := 89) (D := eD E) (ci := 3) (v := .ref q12) (ty := .array .int) (C := RX3) (T := TX3) (N := 16) C.1 C.2.1 C.2.2.2.2.1 (cl_words _ (List.mem_of_getElem? (i := 3) rfl)) tyX3 tyX3_ok nmX3 C.2.2.2.1 C.2.2.2.2.2.1 hP hD hS 0 rfl rfl 12 (by decide) (C.2.2.2.2.1 _ (u0_in 81 (by decide +kernel) rfl)) (fun _ h9 => h9) rfl hin rfl (by decide +kernel) rfl rfl (Nat.le_of_ble_eq_true rfl) dX3_init_89 (fun H locs hP hD hS => ?_)
  have hP : va_P (eD E) vwCl [(h, .inr (3, [.ref q0, .ref q1, .ref q2, .ref q3, .ref q4, .ref q5, .int 0, .int 0, .ref q8, .ref q9, .ref q10, .ref q11, .ref q12, .null, .null, .null])), (q0, .inl (eK E 0, 8, .inl (fun _ => 0))), (q1, .inl (eK E 0, 6, .inl (fun _ => 0))), (q2, .inl (eK E 0, 6, .inl (fun _ => 0))), (q3, .inl (eK E 0, 6, .inl (fun _ => 0))), (q4, .inl (eK E 0, 6, .inl (fun _ => 0))), (q5, .inl (eK E 0, 6, .inl (fun _ => 0))), (q8, .inl (eK E 0, 24, .inl (fun _ => 0))), (q9, .inl (eK E 0, 24, .inl (fun _ => 0))), (q10, .inl (eK E 0, 24, .inl (fun _ => 0))), (q11, .inl (eK E 0, 24, .inl (fun _ => 0))), (q12, .inl (eK E 0, 24, .inl (fun _ => 0)))] H := hP
  have hD : va_D (eF E) [(h, .inr (3, [.ref q0, .ref q1, .ref q2, .ref q3, .ref q4, .ref q5, .int 0, .int 0, .ref q8, .ref q9, .ref q10, .ref q11, .ref q12, .null, .null, .null])), (q0, .inl (eK E 0, 8, .inl (fun _ => 0))), (q1, .inl (eK E 0, 6, .inl (fun _ => 0))), (q2, .inl (eK E 0, 6, .inl (fun _ => 0))), (q3, .inl (eK E 0, 6, .inl (fun _ => 0))), (q4, .inl (eK E 0, 6, .inl (fun _ => 0))), (q5, .inl (eK E 0, 6, .inl (fun _ => 0))), (q8, .inl (eK E 0, 24, .inl (fun _ => 0))), (q9, .inl (eK E 0, 24, .inl (fun _ => 0))), (q10, .inl (eK E 0, 24, .inl (fun _ => 0))), (q11, .inl (eK E 0, 24, .inl (fun _ => 0))), (q12, .inl (eK E 0, 24, .inl (fun _ => 0)))] := hD
  refine lv_aload_n (pc := 92) C.1 C.2.1 dX3_init_92 rfl (hl.2.2 0 (aQ h) rfl) ?_
  refine lv_bipush (pc := 93) C.1 C.2.1 dX3_init_93 (show (Int8.ofInt 24).toInt32 = nI 24 by decide) ?_
  refine k_newI (pc := 95) (n := 24) C (by decide) dX3_init_95 ⟨by decide, by decide⟩ hP hD hS (fun q13 H hP hD hS => ?_)
  refine va_putF (pc := 97) (D := eD E) (ci := 3) (v := .ref q13) (ty := .array .int) (C := RX3) (T := TX3) (N := 16) C.1 C.2.1 C.2.2.2.2.1 (cl_words _ (List.mem_of_getElem? (i := 3) rfl)) tyX3 tyX3_ok nmX3 C.2.2.2.1 C.2.2.2.2.2.1 hP hD hS 0 rfl rfl 13 (by decide) (C.2.2.2.2.1 _ (u0_in 84 (by decide +kernel) rfl)) (fun _ h9 => h9) rfl hin rfl (by decide +kernel) rfl rfl (Nat.le_of_ble_eq_true rfl) dX3_init_97 (fun H locs hP hD hS => ?_)
  have hP : va_P (eD E) vwCl [(h, .inr (3, [.ref q0, .ref q1, .ref q2, .ref q3, .ref q4, .ref q5, .int 0, .int 0, .ref q8, .ref q9, .ref q10, .ref q11, .ref q12, .ref q13, .null, .null])), (q0, .inl (eK E 0, 8, .inl (fun _ => 0))), (q1, .inl (eK E 0, 6, .inl (fun _ => 0))), (q2, .inl (eK E 0, 6, .inl (fun _ => 0))), (q3, .inl (eK E 0, 6, .inl (fun _ => 0))), (q4, .inl (eK E 0, 6, .inl (fun _ => 0))), (q5, .inl (eK E 0, 6, .inl (fun _ => 0))), (q8, .inl (eK E 0, 24, .inl (fun _ => 0))), (q9, .inl (eK E 0, 24, .inl (fun _ => 0))), (q10, .inl (eK E 0, 24, .inl (fun _ => 0))), (q11, .inl (eK E 0, 24, .inl (fun _ => 0))), (q12, .inl (eK E 0, 24, .inl (fun _ => 0))), (q13, .inl (eK E 0, 24, .inl (fun _ => 0)))] H := hP
  have hD : va_D (eF E) [(h, .inr (3, [.ref q0, .ref q1, .ref q2, .ref q3, .ref q4, .ref q5, .int 0, .int 0, .ref q8, .ref q9, .ref q10, .ref q11, .ref q12, .ref q13, .null, .null])), (q0, .inl (eK E 0, 8, .inl (fun _ => 0))), (q1, .inl (eK E 0, 6, .inl (fun _ => 0))), (q2, .inl (eK E 0, 6, .inl (fun _ => 0))), (q3, .inl (eK E 0, 6, .inl (fun _ => 0))), (q4, .inl (eK E 0, 6, .inl (fun _ => 0))), (q5, .inl (eK E 0, 6, .inl (fun _ => 0))), (q8, .inl (eK E 0, 24, .inl (fun _ => 0))), (q9, .inl (eK E 0, 24, .inl (fun _ => 0))), (q10, .inl (eK E 0, 24, .inl (fun _ => 0))), (q11, .inl (eK E 0, 24, .inl (fun _ => 0))), (q12, .inl (eK E 0, 24, .inl (fun _ => 0))), (q13, .inl (eK E 0, 24, .inl (fun _ => 0)))] := hD
  refine lv_aload_n (pc := 100) C.1 C.2.1 dX3_init_100 rfl (hl.2.2 0 (aQ h) rfl) ?_
  refine lv_bipush (pc := 101) C.1 C.2.1 dX3_init_101 (show (Int8.ofInt 24).toInt32 = nI 24 by decide) ?_
  refine k_newI (pc := 103) (n := 24) C (by decide) dX3_init_103 ⟨by decide, by decide⟩ hP hD hS (fun q14 H hP hD hS => ?_)
  refine va_putF (pc := 105) (D := eD E) (ci := 3) (v := .ref q14) (ty := .array .int) (C := RX3) (T := TX3) (N := 16) C.1 C.2.1 C.2.2.2.2.1 (cl_words _ (List.mem_of_getElem? (i := 3) rfl)) tyX3 tyX3_ok nmX3 C.2.2.2.1 C.2.2.2.2.2.1 hP hD hS 0 rfl rfl 14 (by decide) (C.2.2.2.2.1 _ (u0_in 87 (by decide +kernel) rfl)) (fun _ h9 => h9) rfl hin rfl (by decide +kernel) rfl rfl (Nat.le_of_ble_eq_true rfl) dX3_init_105 (fun H locs hP hD hS => ?_)
  have hP : va_P (eD E) vwCl [(h, .inr (3, [.ref q0, .ref q1, .ref q2, .ref q3, .ref q4, .ref q5, .int 0, .int 0, .ref q8, .ref q9, .ref q10, .ref q11, .ref q12, .ref q13, .ref q14, .null])), (q0, .inl (eK E 0, 8, .inl (fun _ => 0))), (q1, .inl (eK E 0, 6, .inl (fun _ => 0))), (q2, .inl (eK E 0, 6, .inl (fun _ => 0))), (q3, .inl (eK E 0, 6, .inl (fun _ => 0))), (q4, .inl (eK E 0, 6, .inl (fun _ => 0))), (q5, .inl (eK E 0, 6, .inl (fun _ => 0))), (q8, .inl (eK E 0, 24, .inl (fun _ => 0))), (q9, .inl (eK E 0, 24, .inl (fun _ => 0))), (q10, .inl (eK E 0, 24, .inl (fun _ => 0))), (q11, .inl (eK E 0, 24, .inl (fun _ => 0))), (q12, .inl (eK E 0, 24, .inl (fun _ => 0))), (q13, .inl (eK E 0, 24, .inl (fun _ => 0))), (q14, .inl (eK E 0, 24, .inl (fun _ => 0)))] H := hP
  have hD : va_D (eF E) [(h, .inr (3, [.ref q0, .ref q1, .ref q2, .ref q3, .ref q4, .ref q5, .int 0, .int 0, .ref q8, .ref q9, .ref q10, .ref q11, .ref q12, .ref q13, .ref q14, .null])), (q0, .inl (eK E 0, 8, .inl (fun _ => 0))), (q1, .inl (eK E 0, 6, .inl (fun _ => 0))), (q2, .inl (eK E 0, 6, .inl (fun _ => 0))), (q3, .inl (eK E 0, 6, .inl (fun _ => 0))), (q4, .inl (eK E 0, 6, .inl (fun _ => 0))), (q5, .inl (eK E 0, 6, .inl (fun _ => 0))), (q8, .inl (eK E 0, 24, .inl (fun _ => 0))), (q9, .inl (eK E 0, 24, .inl (fun _ => 0))), (q10, .inl (eK E 0, 24, .inl (fun _ => 0))), (q11, .inl (eK E 0, 24, .inl (fun _ => 0))), (q12, .inl (eK E 0, 24, .inl (fun _ => 0))), (q13, .inl (eK E 0, 24, .inl (fun _ => 0))), (q14, .inl (eK E 0, 24, .inl (fun _ => 0)))] := hD
  refine lv_aload_n (pc := 108) C.1 C.2.1 dX3_init_108 rfl (hl.2.2 0 (aQ h) rfl) ?_
  refine lv_bipush (pc := 109) C.1 C.2.1 dX3_init_109 (show (Int8.ofInt 24).toInt32 = nI 24 by decide) ?_
  refine k_newI (pc := 111) (n := 24) C (by decide) dX3_init_111 ⟨by decide, by decide⟩ hP hD hS (fun q15 H hP hD hS => ?_)
  refine va_putF (pc := 113) (D := eD E) (ci := 3) (v := .ref q15) (ty := .array .int) (C := RX3) (T := TX3) (N := 16) C.1 C.2.1 C.2.2.2.2.1 (cl_words _ (List.mem_of_getElem? (i := 3) rfl)) tyX3 tyX3_ok nmX3 C.2.2.2.1 C.2.2.2.2.2.1 hP hD hS 0 rfl rfl 15 (by decide) (C.2.2.2.2.1 _ (u0_in 90 (by decide +kernel) rfl)) (fun _ h9 => h9) rfl hin rfl (by decide +kernel) rfl rfl (Nat.le_of_ble_eq_true rfl) dX3_init_113 (fun H locs hP hD hS => ?_)
  have hP : va_P (eD E) vwCl [(h, .inr (3, [.ref q0, .ref q1, .ref q2, .ref q3, .ref q4, .ref q5, .int 0, .int 0, .ref q8, .ref q9, .ref q10, .ref q11, .ref q12, .ref q13, .ref q14, .ref q15])), (q0, .inl (eK E 0, 8, .inl (fun _ => 0))), (q1, .inl (eK E 0, 6, .inl (fun _ => 0))), (q2, .inl (eK E 0, 6, .inl (fun _ => 0))), (q3, .inl (eK E 0, 6, .inl (fun _ => 0))), (q4, .inl (eK E 0, 6, .inl (fun _ => 0))), (q5, .inl (eK E 0, 6, .inl (fun _ => 0))), (q8, .inl (eK E 0, 24, .inl (fun _ => 0))), (q9, .inl (eK E 0, 24, .inl (fun _ => 0))), (q10, .inl (eK E 0, 24, .inl (fun _ => 0))), (q11, .inl (eK E 0, 24, .inl (fun _ => 0))), (q12, .inl (eK E 0, 24, .inl (fun _ => 0))), (q13, .inl (eK E 0, 24, .inl (fun _ => 0))), (q14, .inl (eK E 0, 24, .inl (fun _ => 0))), (q15, .inl (eK E 0, 24, .inl (fun _ => 0)))] H := hP
  have hD : va_D (eF E) [(h, .inr (3, [.ref q0, .ref q1, .ref q2, .ref q3, .ref q4, .ref q5, .int 0, .int 0, .ref q8, .ref q9, .ref q10, .ref q11, .ref q12, .ref q13, .ref q14, .ref q15])), (q0, .inl (eK E 0, 8, .inl (fun _ => 0))), (q1, .inl (eK E 0, 6, .inl (fun _ => 0))), (q2, .inl (eK E 0, 6, .inl (fun _ => 0))), (q3, .inl (eK E 0, 6, .inl (fun _ => 0))), (q4, .inl (eK E 0, 6, .inl (fun _ => 0))), (q5, .inl (eK E 0, 6, .inl (fun _ => 0))), (q8, .inl (eK E 0, 24, .inl (fun _ => 0))), (q9, .inl (eK E 0, 24, .inl (fun _ => 0))), (q10, .inl (eK E 0, 24, .inl (fun _ => 0))), (q11, .inl (eK E 0, 24, .inl (fun _ => 0))), (q12, .inl (eK E 0, 24, .inl (fun _ => 0))), (q13, .inl (eK E 0, 24, .inl (fun _ => 0))), (q14, .inl (eK E 0, 24, .inl (fun _ => 0))), (q15, .inl (eK E 0, 24, .inl (fun _ => 0)))] := hD
  have hP : va_P (eD E) vwCl (planW (eK E 0) h (fun k => if k = 0 then q0 else if k = 1 then q1 else if k = 2 then q2 else if k = 3 then q3 else if k = 4 then q4 else if k = 5 then q5 else if k = 8 then q8 else if k = 9 then q9 else if k = 10 then q10 else if k = 11 then q11 else if k = 12 then q12 else if k = 13 then q13 else if k = 14 then q14 else q15) 0 0) H := by rw [planW, cS_0, cQ_0]; exact hP
  have hD : va_D (eF E) (planW (eK E 0) h (fun k => if k = 0 then q0 else if k = 1 then q1 else if k = 2 then q2 else if k = 3 then q3 else if k = 4 then q4 else if k = 5 then q5 else if k = 8 then q8 else if k = 9 then q9 else if k = 10 then q10 else if k = 11 then q11 else if k = 12 then q12 else if k = 13 then q13 else if k = 14 then q14 else q15) 0 0) := by rw [planW, cS_0, cQ_0]; exact hD
  generalize (fun k => if k = 0 then q0 else if k = 1 then q1 else if k = 2 then q2 else if k = 3 then q3 else if k = 4 then q4 else if k = 5 then q5 else if k = 8 then q8 else if k = 9 then q9 else if k = 10 then q10 else if k = 11 then q11 else if k = 12 then q12 else if k = 13 then q13 else if k = 14 then q14 else q15) = q at hP hD
  refine lv_iconst (pc := 116) C.1 C.2.1 dX3_init_116 (show Int32.ofInt 0 = nI 0 by decide) ?_
  refine lv_istore_n (pc := 117) (x := nI 0) C.1 C.2.1 dX3_init_117 rfl hl.has (C.nl ▸ (by decide)) rfl (fun ls1 h1 => ?_)
  have hl : LH ls1 (eN E) zk [some (aQ h), some (aI (nI 0))] := LH_st1 (v := aI (nI 0)) rfl h1
  suffices key118 : ∀ (n i : Nat) (H : Heap) (locs : List Loc) (lsa : Array Slot), n + i = 8 → va_P (eD E) vwCl (planW (eK E 0) h q i 0) H → va_D (eF E) (planW (eK E 0) h q i 0) → va_S (eF E) (eS E).heap H locs → LH lsa (eN E) zk [some (aQ h), some (aI (nI i))] → WE E _ H locs _ _ 118 lsa [] by
    exact key118 8 0 _ _ _ rfl hP hD hS hl
  clear hP hD hS hl
  intro n
  induction n with
  | zero =>
    intro i H locs lsa hn hP hD hS hl
    obtain rfl : i = 8 := by omega
    refine lv_iload_n (pc := 118) C.1 C.2.1 dX3_init_118 rfl (hl.2.2 1 (aI (nI 8)) rfl) ?_
    refine lv_bipush (pc := 119) C.1 C.2.1 dX3_init_119 (show (Int8.ofInt 8).toInt32 = nI 8 by decide) ?_
    refine lv_icmp_ge (pc := 121) (tgt := 141) C.1 C.2.1 dX3_init_121 (by decide) (fun _ => ?_) (fun hh => absurd (Int32.le_refl _) hh)
    refine lv_iconst (pc := 141) C.1 C.2.1 dX3_init_141 (show Int32.ofInt 0 = nI 0 by decide) ?_
    refine lv_istore_n (pc := 142) (x := nI 0) C.1 C.2.1 dX3_init_142 rfl hl.has (C.nl ▸ (by decide)) rfl (fun ls1 h1 => ?_)
    have hl : LH ls1 (eN E) zk [some (aQ h), some (aI (nI 0))] := LH_st1 (v := aI (nI 0)) rfl h1
    suffices key143 : ∀ (n i : Nat) (H : Heap) (locs : List Loc) (lsa : Array Slot), n + i = 6 → va_P (eD E) vwCl (planW (eK E 0) h q 8 i) H → va_D (eF E) (planW (eK E 0) h q 8 i) → va_S (eF E) (eS E).heap H locs → LH lsa (eN E) zk [some (aQ h), some (aI (nI i))] → WE E _ H locs _ _ 143 lsa [] by
      exact key143 6 0 _ _ _ rfl hP hD hS hl
    clear hP hD hS hl
    intro n
    induction n with
    | zero =>
      intro i H locs lsa hn hP hD hS hl
      obtain rfl : i = 6 := by omega
      refine lv_iload_n (pc := 143) C.1 C.2.1 dX3_init_143 rfl (hl.2.2 1 (aI (nI 6)) rfl) ?_
      refine lv_bipush (pc := 144) C.1 C.2.1 dX3_init_144 (show (Int8.ofInt 6).toInt32 = nI 6 by decide) ?_
      refine lv_icmp_ge (pc := 146) (tgt := 164) C.1 C.2.1 dX3_init_146 (by decide) (fun _ => ?_) (fun hh => absurd (Int32.le_refl _) hh)
      refine W.widen (k := 14) (n := 230) (by decide) (by decide) ?_
      exact W.vret (pc := 164) C.1 C.2.1 C.rt (fun t ht hW => ⟨⟨_, rfl, ⟨q, rfl⟩, ht ▸ hP, hD⟩, hS.F ht⟩) (fun z hz => hS.2.2 z hz) dX3_init_164 C.lk
    | succ n ih =>
      intro i H locs lsa hn hP hD hS hl
      refine lv_iload_n (pc := 143) C.1 C.2.1 dX3_init_143 rfl (hl.2.2 1 (aI (nI i)) rfl) ?_
      refine lv_bipush (pc := 144) C.1 C.2.1 dX3_init_144 (show (Int8.ofInt 6).toInt32 = nI 6 by decide) ?_
      refine lv_icmp_ge (pc := 146) (tgt := 164) C.1 C.2.1 dX3_init_146 (by decide) (fun hh => absurd hh (nI_ge (by omega) (by decide))) (fun _ => ?_)
      refine lv_aload_n (pc := 149) C.1 C.2.1 dX3_init_149 rfl (hl.2.2 0 (aQ h) rfl) ?_
      refine va_get (pc := 150) (D := eD E) (ci := 3) (v := .ref (q 1)) (C := RX3) (T := TX3) (N := 16) C.1 C.2.1 C.2.2.2.2.1 (cl_words _ (List.mem_of_getElem? (i := 3) rfl)) C.2.2.2.1 C.2.2.2.2.2.1 hP 0 rfl rfl 1 (by decide) (C.2.2.2.2.1 _ (u0_in 54 (by decide +kernel) rfl)) (fun _ h9 => h9) rfl dX3_init_150 ?_
      refine lv_iload_n (pc := 153) C.1 C.2.1 dX3_init_153 rfl (hl.2.2 1 (aI (nI i)) rfl) ?_
      refine lv_sipush (pc := 154) C.1 C.2.1 dX3_init_154 (show (Int16.ofInt 300).toInt32 = 300 by decide) ?_
      refine va_iast (pc := 157) C.1 C.2.1 C.2.2.2.2.2.1 hP hD hS 2 0 rfl rfl (vp_in_nI (show i < 6 by omega) (by decide)) dX3_init_157 (fun H locs hP hD hS => ?_)
      rw [nI_clamp (by omega), cQ_s] at hP hD
      have hP : va_P (eD E) vwCl (planW (eK E 0) h q 8 (i + 1)) H := hP
      have hD : va_D (eF E) (planW (eK E 0) h q 8 (i + 1)) := hD
      obtain ⟨jj, hj⟩ := List.getElem?_of_mem (toL_mem (ad := zk) (k := 1) (ls := [some (aQ h), some (aI (nI i))]) (v := aI (nI i)) rfl)
      refine lv_iinc (pc := 158) (v := nI (i + 1)) C.1 C.2.1 dX3_init_158 hl.has hj (nI_1 i) (C.nl ▸ (by decide)) rfl (fun ls1 h1 => ?_)
      have hl : LH ls1 (eN E) zk [some (aQ h), some (aI (nI (i + 1)))] := LH_st1 (v := aI (nI (i + 1))) rfl h1
      refine lv_goto (pc := 161) (tgt := 143) C.1 C.2.1 dX3_init_161 (by decide) ?_
      exact ih (i + 1) _ _ _ (by omega) hP hD hS hl
  | succ n ih =>
    intro i H locs lsa hn hP hD hS hl
    refine lv_iload_n (pc := 118) C.1 C.2.1 dX3_init_118 rfl (hl.2.2 1 (aI (nI i)) rfl) ?_
    refine lv_bipush (pc := 119) C.1 C.2.1 dX3_init_119 (show (Int8.ofInt 8).toInt32 = nI 8 by decide) ?_
    refine lv_icmp_ge (pc := 121) (tgt := 141) C.1 C.2.1 dX3_init_121 (by decide) (fun hh => absurd hh (nI_ge (by omega) (by decide))) (fun _ => ?_)
    refine lv_aload_n (pc := 124) C.1 C.2.1 dX3_init_124 rfl (hl.2.2 0 (aQ h) rfl) ?_
    refine va_get (pc := 125) (D := eD E) (ci := 3) (v := .ref (q 0)) (C := RX3) (T := TX3) (N := 16) C.1 C.2.1 C.2.2.2.2.1 (cl_words _ (List.mem_of_getElem? (i := 3) rfl)) C.2.2.2.1 C.2.2.2.2.2.1 hP 0 rfl rfl 0 (by decide) (C.2.2.2.2.1 _ (u0_in 51 (by decide +kernel) rfl)) (fun _ h9 => h9) rfl dX3_init_125 ?_
    refine lv_iload_n (pc := 128) C.1 C.2.1 dX3_init_128 rfl (hl.2.2 1 (aI (nI i)) rfl) ?_
    obtain ⟨ts, hts1, hts2⟩ := C.2.2.2.2.2.2.2.1.2.2 2 (by decide)
    refine va_getsN (pc := 129) (host := "StudioAirtime") C.1 C.2.1 hts1 hS C.2.2.2.1 (va_tabs rfl rfl (C.2.2.2.2.2.2.2.2.1.1 _ (List.mem_of_getElem? (i := 29) (by decide +kernel)) rfl)) (fun x h => h) dX3_init_129 ?_
    refine lv_iload_n (pc := 132) C.1 C.2.1 dX3_init_132 rfl (hl.2.2 1 (aI (nI i)) rfl) ?_
    refine va_ti (pc := 133) C.1 C.2.1 hts2 hS (vp_in_nI (by omega) (by decide)) (v := .int (stVal 2 i)) (by rw [nI_clamp (by omega)]) dX3_init_133 ?_
    refine va_iast (pc := 134) C.1 C.2.1 C.2.2.2.2.2.1 hP hD hS 1 0 rfl rfl (vp_in_nI (show i < 8 by omega) (by decide)) dX3_init_134 (fun H locs hP hD hS => ?_)
    rw [nI_clamp (by omega), cS_s] at hP hD
    have hP : va_P (eD E) vwCl (planW (eK E 0) h q (i + 1) 0) H := hP
    have hD : va_D (eF E) (planW (eK E 0) h q (i + 1) 0) := hD
    obtain ⟨jj, hj⟩ := List.getElem?_of_mem (toL_mem (ad := zk) (k := 1) (ls := [some (aQ h), some (aI (nI i))]) (v := aI (nI i)) rfl)
    refine lv_iinc (pc := 135) (v := nI (i + 1)) C.1 C.2.1 dX3_init_135 hl.has hj (nI_1 i) (C.nl ▸ (by decide)) rfl (fun ls1 h1 => ?_)
    have hl : LH ls1 (eN E) zk [some (aQ h), some (aI (nI (i + 1)))] := LH_st1 (v := aI (nI (i + 1))) rfl h1
    refine lv_goto (pc := 138) (tgt := 118) C.1 C.2.1 dX3_init_138 (by decide) ?_
    exact ih (i + 1) _ _ _ (by omega) hP hD hS hl
def airW (c0 c1 : ClassId) (h : Nat) (q : Nat → Nat) : va_W := [(h, .inr (0, [.ref (q 0), .ref (q 1), .ref (q 2), .ref (q 3), .ref (q 4)])), (q 0, .inl (c0, 24, .inl z0)), (q 1, .inl (c0, 24, .inl z0)), (q 2, .inl (c0, 24, .inl z0)), (q 3, .inl (c1, 24, .inl z0)), (q 4, .inl (c0, 7, .inl z0))]
set_option maxRecDepth 100000 in
set_option maxHeartbeats 4000000 in
theorem k_X0_init {l : Launch} (h : Nat) : RunsK l 2 5 103 yX0_init (Cond.code yX0_init cX0_init 1 none) h (0, [.null, .null, .null, .null, .null]) zT (fun ca w1 => ∃ q, w1 = airW (ca 0) (ca 1) h q) := by
  refine run_ofK RX0 (by decide +kernel) rfl rfl (Nat.le_of_ble_eq_true rfl) (fun E lsa H hE C hin hZ hP hD hS hl => ?_)
  subst hE
  refine lv_aload_n (pc := 0) C.1 C.2.1 dX0_init_0 rfl (hl.2.2 0 (aQ h) rfl) ?_
  refine k_objI (pc := 1) C (u0_in 201 (by decide +kernel) rfl) (by decide) (by decide) hl.1 dX0_init_1 ?_
  refine lv_aload_n (pc := 4) C.1 C.2.1 dX0_init_4 rfl (hl.2.2 0 (aQ h) rfl) ?_
  refine lv_bipush (pc := 5) C.1 C.2.1 dX0_init_5 (show (Int8.ofInt 24).toInt32 = nI 24 by decide) ?_
  refine k_newI (pc := 7) (n := 24) C (by decide) dX0_init_7 ⟨by decide, by decide⟩ hP hD hS (fun q0 H hP hD hS => ?_)
  refine va_putF (pc := 9) (D := eD E) (ci := 0) (v := .ref q0) (ty := .array .int) (C := RX0) (T := TX0) (N := 5) C.1 C.2.1 C.2.2.2.2.1 (cl_words _ (List.mem_of_getElem? (i := 0) rfl)) tyX0 tyX0_ok nmX0 C.2.2.2.1 C.2.2.2.2.2.1 hP hD hS 0 rfl rfl 0 (by decide) (C.2.2.2.2.1 _ (u0_in 202 (by decide +kernel) rfl)) (fun _ h9 => h9) rfl hin rfl (by decide +kernel) rfl rfl (Nat.le_of_ble_eq_true rfl) dX0_init_9 (fun H locs hP hD hS => ?_)
  have hP : va_P (eD E) vwCl [(h, .inr (0, [.ref q0, .null, .null, .null, .null])), (q0, .inl (eK E 0, 24, .inl (fun _ => 0)))] H := hP
  have hD : va_D (eF E) [(h, .inr (0, [.ref q0, .null, .null, .null, .null])), (q0, .inl (eK E 0, 24, .inl (fun _ => 0)))] := hD
  refine lv_aload_n (pc := 12) C.1 C.2.1 dX0_init_12 rfl (hl.2.2 0 (aQ h) rfl) ?_
  refine lv_bipush (pc := 13) C.1 C.2.1 dX0_init_13 (show (Int8.ofInt 24).toInt32 = nI 24 by decide) ?_
  refine k_newI (pc := 15) (n := 24) C (by decide) dX0_init_15 ⟨by decide, by decide⟩ hP hD hS (fun q1 H hP hD hS => ?_)
  refine va_putF (pc := 17) (D := eD E) (ci := 0) (v := .ref q1) (ty := .array .int) (C := RX0) (T := TX0) (N := 5) C.1 C.2.1 C.2.2.2.2.1 (cl_words _ (List.mem_of_getElem? (i := 0) rfl)) tyX0 tyX0_ok nmX0 C.2.2.2.1 C.2.2.2.2.2.1 hP hD hS 0 rfl rfl 1 (by decide) (C.2.2.2.2.1 _ (u0_in 204 (by decide +kernel) rfl)) (fun _ h9 => h9) rfl hin rfl (by decide +kernel) rfl rfl (Nat.le_of_ble_eq_true rfl) dX0_init_17 (fun H locs hP hD hS => ?_)
  have hP : va_P (eD E) vwCl [(h, .inr (0, [.ref q0, .ref q1, .null, .null, .null])), (q0, .inl (eK E 0, 24, .inl (fun _ => 0))), (q1, .inl (eK E 0, 24, .inl (fun _ => 0)))] H := hP
  have hD : va_D (eF E) [(h, .inr (0, [.ref q0, .ref q1, .null, .null, .null])), (q0, .inl (eK E 0, 24, .inl (fun _ => 0))), (q1, .inl (eK E 0, 24, .inl (fun _ => 0)))] := hD
  refine lv_aload_n (pc := 20) C.1 C.2.1 dX0_init_20 rfl (hl.2.2 0 (aQ h) rfl) ?_
  refine lv_bipush (pc := 21) C.1 C.2.1 dX0_init_21 (show (Int8.ofInt 24).toInt32 = nI 24 by decide) ?_
  refine k_newI (pc := 23) (n := 24) C (by decide) dX0_init_23 ⟨by decide, by decide⟩ hP hD hS (fun q2 H hP hD hS => ?_)
  refine va_putF (pc := 25) (D := eD E) (ci := 0) (v := .ref q2) (ty := .array .int) (C := RX0) (T := TX0) (N := 5) C.1 C.2.1 C.2.2.2.2.1 (cl_words _ (List.mem_of_getElem? (i := 0) rfl)) tyX0 tyX0_ok nmX0 C.2.2.2.1 C.2.2.2.2.2.1 hP hD hS 0 rfl rfl 2 (by decide) (C.2.2.2.2.1 _ (u0_in 206 (by decide +kernel) rfl)) (fun _ h9 => h9) rfl hin rfl (by decide +kernel) rfl rfl (Nat.le_of_ble_eq_true rfl) dX0_init_25 (fun H locs hP hD hS => ?_)
  have hP : va_P (eD E) vwCl [(h, .inr (0, [.ref q0, .ref q1, .ref q2, .null, .null])), (q0, .inl (eK E 0, 24, .inl (fun _ => 0))), (q1, .inl (eK E 0, 24, .inl (fun _ => 0))), (q2, .inl (eK E 0, 24, .inl (fun _ => 0)))] H := hP
  have hD : va_D (eF E) [(h, .inr (0, [.ref q0, .ref q1, .ref q2, .null, .null])), (q0, .inl (eK E 0, 24, .inl (fun _ => 0))), (q1, .inl (eK E 0, 24, .inl (fun _ => 0))), (q2, .inl (eK E 0, 24, .inl (fun _ => 0)))] := hD
  refine lv_aload_n (pc := 28) C.1 C.2.1 dX0_init_28 rfl (hl.2.2 0 (aQ h) rfl) ?_
  refine lv_bipush (pc := 29) C.1 C.2.1 dX0_init_29 (show (Int8.ofInt 24).toInt32 = nI 24 by decide) ?_
  refine k_newZ (pc := 31) (n := 24) C (by decide) dX0_init_31 ⟨by decide, by decide⟩ hP hD hS (fun q3 H hP hD hS => ?_)
  refine va_putF (pc := 33) (D := eD E) (ci := 0) (v := .ref q3) (ty := .array .boolean) (C := RX0) (T := TX0) (N := 5) C.1 C.2.1 C.2.2.2.2.1 (cl_words _ (List.mem_of_getElem? (i := 0) rfl)) tyX0 tyX0_ok nmX0 C.2.2.2.1 C.2.2.2.2.2.1 hP hD hS 0 rfl rfl 3 (by decide) (C.2.2.2.2.1 _ (u0_in 208 (by decide +kernel) rfl)) (fun _ h9 => h9) rfl hin rfl (by decide +kernel) rfl rfl (Nat.le_of_ble_eq_true rfl) dX0_init_33 (fun H locs hP hD hS => ?_)
  have hP : va_P (eD E) vwCl [(h, .inr (0, [.ref q0, .ref q1, .ref q2, .ref q3, .null])), (q0, .inl (eK E 0, 24, .inl (fun _ => 0))), (q1, .inl (eK E 0, 24, .inl (fun _ => 0))), (q2, .inl (eK E 0, 24, .inl (fun _ => 0))), (q3, .inl (eK E 1, 24, .inl (fun _ => 0)))] H := hP
  have hD : va_D (eF E) [(h, .inr (0, [.ref q0, .ref q1, .ref q2, .ref q3, .null])), (q0, .inl (eK E 0, 24, .inl (fun _ => 0))), (q1, .inl (eK E 0, 24, .inl (fun _ => 0))), (q2, .inl (eK E 0, 24, .inl (fun _ => 0))), (q3, .inl (eK E 1, 24, .inl (fun _ => 0)))] := hD
  refine lv_aload_n (pc := 36) C.1 C.2.1 dX0_init_36 rfl (hl.2.2 0 (aQ h) rfl) ?_
  refine lv_bipush (pc := 37) C.1 C.2.1 dX0_init_37 (show (Int8.ofInt 7).toInt32 = nI 7 by decide) ?_
  refine k_newI (pc := 39) (n := 7) C (by decide) dX0_init_39 ⟨by decide, by decide⟩ hP hD hS (fun q4 H hP hD hS => ?_)
  refine va_putF (pc := 41) (D := eD E) (ci := 0) (v := .ref q4) (ty := .array .int) (C := RX0) (T := TX0) (N := 5) C.1 C.2.1 C.2.2.2.2.1 (cl_words _ (List.mem_of_getElem? (i := 0) rfl)) tyX0 tyX0_ok nmX0 C.2.2.2.1 C.2.2.2.2.2.1 hP hD hS 0 rfl rfl 4 (by decide) (C.2.2.2.2.1 _ (u0_in 209 (by decide +kernel) rfl)) (fun _ h9 => h9) rfl hin rfl (by decide +kernel) rfl rfl (Nat.le_of_ble_eq_true rfl) dX0_init_41 (fun H locs hP hD hS => ?_)
  have hP : va_P (eD E) vwCl [(h, .inr (0, [.ref q0, .ref q1, .ref q2, .ref q3, .ref q4])), (q0, .inl (eK E 0, 24, .inl (fun _ => 0))), (q1, .inl (eK E 0, 24, .inl (fun _ => 0))), (q2, .inl (eK E 0, 24, .inl (fun _ => 0))), (q3, .inl (eK E 1, 24, .inl (fun _ => 0))), (q4, .inl (eK E 0, 7, .inl (fun _ => 0)))] H := hP
  have hD : va_D (eF E) [(h, .inr (0, [.ref q0, .ref q1, .ref q2, .ref q3, .ref q4])), (q0, .inl (eK E 0, 24, .inl (fun _ => 0))), (q1, .inl (eK E 0, 24, .inl (fun _ => 0))), (q2, .inl (eK E 0, 24, .inl (fun _ => 0))), (q3, .inl (eK E 1, 24, .inl (fun _ => 0))), (q4, .inl (eK E 0, 7, .inl (fun _ => 0)))] := hD
  refine W.widen (k := 5) (n := 103) (by decide) (by decide) ?_
  exact W.vret (pc := 44) C.1 C.2.1 C.rt (fun t ht hW => ⟨⟨_, rfl, ⟨fun k => if k = 0 then q0 else if k = 1 then q1 else if k = 2 then q2 else if k = 3 then q3 else q4, rfl⟩, ht ▸ hP, hD⟩, hS.F ht⟩) (fun z hz => hS.2.2 z hz) dX0_init_44 C.lk
def txtW (c0 : ClassId) (h q : Nat) : va_W := [(h, .inr (5, [.ref q, .int 0, .int 0, .int 0])), (q, .inl (c0, 60, .inl z0))]
set_option maxRecDepth 100000 in
set_option maxHeartbeats 4000000 in
theorem k_X5_init {l : Launch} (h : Nat) : RunsK l 2 1 60 yX5_init (Cond.code yX5_init cX5_init 1 none) h (5, [.null, .int 0, .int 0, .int 0]) zT (fun ca w1 => ∃ q, w1 = txtW (ca 0) h q) := by
  refine run_ofK RX5 (by decide +kernel) rfl rfl (Nat.le_of_ble_eq_true rfl) (fun E lsa H hE C hin hZ hP hD hS hl => ?_)
  subst hE
  refine lv_aload_n (pc := 0) C.1 C.2.1 dX5_init_0 rfl (hl.2.2 0 (aQ h) rfl) ?_
  refine k_objI (pc := 1) C (u0_in 150 (by decide +kernel) rfl) (by decide) (by decide) hl.1 dX5_init_1 ?_
  refine lv_aload_n (pc := 4) C.1 C.2.1 dX5_init_4 rfl (hl.2.2 0 (aQ h) rfl) ?_
  refine lv_bipush (pc := 5) C.1 C.2.1 dX5_init_5 (show (Int8.ofInt 60).toInt32 = nI 60 by decide) ?_
  refine k_newI (pc := 7) (n := 60) C (by decide) dX5_init_7 ⟨by decide, by decide⟩ hP hD hS (fun q0 H hP hD hS => ?_)
  refine va_putF (pc := 9) (D := eD E) (ci := 5) (v := .ref q0) (ty := .array .int) (C := RX5) (T := TX5) (N := 4) C.1 C.2.1 C.2.2.2.2.1 (cl_words _ (List.mem_of_getElem? (i := 5) rfl)) tyX5 tyX5_ok nmX5 C.2.2.2.1 C.2.2.2.2.2.1 hP hD hS 0 rfl rfl 0 (by decide) (C.2.2.2.2.1 _ (u0_in 151 (by decide +kernel) rfl)) (fun _ h9 => h9) rfl hin rfl (by decide +kernel) rfl rfl (Nat.le_of_ble_eq_true rfl) dX5_init_9 (fun H locs hP hD hS => ?_)
  have hP : va_P (eD E) vwCl [(h, .inr (5, [.ref q0, .int 0, .int 0, .int 0])), (q0, .inl (eK E 0, 60, .inl (fun _ => 0)))] H := hP
  have hD : va_D (eF E) [(h, .inr (5, [.ref q0, .int 0, .int 0, .int 0])), (q0, .inl (eK E 0, 60, .inl (fun _ => 0)))] := hD
  refine W.widen (k := 1) (n := 60) (by decide) (by decide) ?_
  exact W.vret (pc := 12) C.1 C.2.1 C.rt (fun t ht hW => ⟨⟨_, rfl, ⟨q0, rfl⟩, ht ▸ hP, hD⟩, hS.F ht⟩) (fun z hz => hS.2.2 z hz) dX5_init_12 C.lk
def prpW (h : Nat) : va_W := [(h, .inr (4, [.int 0, .int 0, .int 0, .int 0, .int 0, .int 0, .int 0]))]
set_option maxRecDepth 100000 in
set_option maxHeartbeats 4000000 in
theorem k_X4_init {l : Launch} (h : Nat) : RunsK l 2 0 0 yX4_init (Cond.code yX4_init cX4_init 1 none) h (4, [.int 0, .int 0, .int 0, .int 0, .int 0, .int 0, .int 0]) zT (fun _ w1 => w1 = prpW h) := by
  refine run_ofK RX4 (by decide +kernel) rfl rfl (Nat.le_of_ble_eq_true rfl) (fun E lsa H hE C hin hZ hP hD hS hl => ?_)
  subst hE
  refine lv_aload_n (pc := 0) C.1 C.2.1 dX4_init_0 rfl (hl.2.2 0 (aQ h) rfl) ?_
  refine k_objI (pc := 1) C (u0_in 166 (by decide +kernel) rfl) (by decide) (by decide) hl.1 dX4_init_1 ?_
  refine W.widen (k := 0) (n := 0) (by decide) (by decide) ?_
  exact W.vret (pc := 4) C.1 C.2.1 C.rt (fun t ht hW => ⟨⟨_, rfl, rfl, ht ▸ hP, hD⟩, hS.F ht⟩) (fun z hz => hS.2.2 z hz) dX4_init_4 C.lk
def hisW (c2 : ClassId) (h q : Nat) : va_W := [(h, .inr (2, [.ref q, .int 0, .int 0])), (q, .inl (c2, 6, .inr (.inr (.inr (.inr (fun _ => none))))))]
set_option maxRecDepth 100000 in
set_option maxHeartbeats 4000000 in
theorem k_X2_init {l : Launch} (h : Nat) : RunsK l 2 1 6 yX2_init (Cond.code yX2_init cX2_init 1 none) h (2, [.null, .int 0, .int 0]) zA (fun ca w1 => ∃ q, w1 = hisW (ca 2) h q) := by
  refine run_ofK RX2 (by decide +kernel) rfl rfl (Nat.le_of_ble_eq_true rfl) (fun E lsa H hE C hin hZ hP hD hS hl => ?_)
  subst hE
  refine lv_aload_n (pc := 0) C.1 C.2.1 dX2_init_0 rfl (hl.2.2 0 (aQ h) rfl) ?_
  refine k_objI (pc := 1) C (u0_in 131 (by decide +kernel) rfl) (by decide) (by decide) hl.1 dX2_init_1 ?_
  refine lv_aload_n (pc := 4) C.1 C.2.1 dX2_init_4 rfl (hl.2.2 0 (aQ h) rfl) ?_
  refine lv_bipush (pc := 5) C.1 C.2.1 dX2_init_5 (show (Int8.ofInt 6).toInt32 = nI 6 by decide) ?_
  refine va_newq (pc := 7) (C := RX3) C.1 C.2.1 C.2.2.2.1 (C.2.2.2.2.1 _ (u0_in 132 (by decide +kernel) rfl)) hZ C.2.2.2.2.2.1 hP hD hS C.2.2.2.2.2.2.1 (N' := 6) (by decide) (by decide) (by decide) (Nat.le_trans (by decide) C.2.2.2.2.2.2.2.2.2.2.2.2.2.1) (Nat.le_trans (by decide) C.2.2.2.2.2.2.2.2.2.2.2.2.2.2.1) dX2_init_7 (fun q0 cA H hK2 hP hD hS => ?_)
  obtain rfl := k_ca C (k := 2) rfl hK2
  refine va_putF (pc := 10) (D := eD E) (ci := 2) (v := .ref q0) (ty := .array (.object RX3)) (C := RX2) (T := TX2) (N := 3) C.1 C.2.1 C.2.2.2.2.1 (cl_words _ (List.mem_of_getElem? (i := 2) rfl)) tyX2 tyX2_ok nmX2 C.2.2.2.1 C.2.2.2.2.2.1 hP hD hS 0 rfl rfl 0 (by decide) (C.2.2.2.2.1 _ (u0_in 134 (by decide +kernel) rfl)) (fun _ h9 => h9) rfl hin rfl (by decide +kernel) rfl rfl (Nat.le_of_ble_eq_true rfl) dX2_init_10 (fun H locs hP hD hS => ?_)
  have hP : va_P (eD E) vwCl [(h, .inr (2, [.ref q0, .int 0, .int 0])), (q0, .inl (eK E 2, 6, .inr (.inr (.inr (.inr (fun _ => none))))))] H := hP
  have hD : va_D (eF E) [(h, .inr (2, [.ref q0, .int 0, .int 0])), (q0, .inl (eK E 2, 6, .inr (.inr (.inr (.inr (fun _ => none))))))] := hD
  refine W.widen (k := 1) (n := 6) (by decide) (by decide) ?_
  exact W.vret (pc := 13) C.1 C.2.1 C.rt (fun t ht hW => ⟨⟨_, rfl, ⟨q0, rfl⟩, ht ▸ hP, hD⟩, hS.F ht⟩) (fun z hz => hS.2.2 z hz) dX2_init_13 C.lk
