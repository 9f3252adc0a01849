/-- the law's way of calling: 0 and the answer kept, or which exception -/
def LwP (P : PP) (cs : List String) : PP := fun r V2 L2 N2 I2 => (∃ (v : Int32) (L' : LL), P (.inl (some (aI v))) V2 L' N2 I2 ∧ r = .inl (some (aI 0)) ∧ L2 = upL L' 210 0 v.toInt64) ∨ ∃ (X : String) (k : Nat), P (.inr X) V2 L2 N2 I2 ∧ cs[k]? = some X ∧ r = .inl (some (aI (nI (k + 1))))
set_option maxRecDepth 100000 in
set_option maxHeartbeats 4000000 in
theorem c_L_set {l : Launch} {V : VV} {L : LL} {N : NN} {I : List Nat} (hI : PI I) {D1 mc ms : Nat} {P : PP} (p0 p1 : Int32) (hR : Runs l D1 mc ms yX6_set (Cond.code yX6_set cX6_set 4 (some .int)) [aR 0, aI p0, aI p1] V L N I P) (hP : ∀ r V2 L2 N2 I2, P r V2 L2 N2 I2 → PI I2 ∧ ((∃ v, r = .inl (some (aI v))) ∨ r = .inr "java/lang/IndexOutOfBoundsException" ∨ r = .inr "java/lang/IllegalArgumentException")) :
    Runs l (D1 + 1) mc ms yL_set (Cond.codeWith yL_set cL_set 5 (some .int) [(0, 10, 13, 13), (0, 10, 17, 15)]) [aR 0, aI p0, aI p1, aR 210] V L N I (LwP P ["java/lang/IndexOutOfBoundsException", "java/lang/IllegalArgumentException"]) := by
  refine run_ofW RL (by decide +kernel) rfl (Nat.le_of_ble_eq_true rfl) (fun E hE C hQ hT => ?_)
  subst hE
  refine x_aload_n (pc := 0) C dL_set_0 rfl ?_
  refine x_iconst (pc := 1) C (0) dL_set_1 (by decide) ?_
  refine x_aload_n (pc := 2) C dL_set_2 rfl ?_
  refine x_iload_n (pc := 3) C dL_set_3 rfl ?_
  refine x_iload_n (pc := 4) C dL_set_4 rfl ?_
  refine x_callV (pc := 5) (o := 0) (As := [aI p0, aI p1]) (st := [aI 0, aR 210]) C v_L_7 dL_set_5 hR (hI 0 rfl) rfl rfl (Nat.le_refl _) (okB_s rfl) (by decide) ⟨by omega, by omega⟩ (fun X V2 L2 N2 I2 h => ?_) (fun r V2 L2 N2 I2 h => ?_)
  · obtain ⟨hI2, hc⟩ := hP _ _ _ _ _ h
    rcases hc with ⟨v, e⟩ | e | e
    · cases e
    · cases e
      refine x_catch C hT [] (⟨0, 10, 13, 13⟩ : ExceptionTableEntry) [(⟨0, 10, 17, 15⟩ : ExceptionTableEntry)] rfl (fun z hz => absurd hz List.not_mem_nil) (by decide) (by decide) (u0_in 571 (by decide +kernel) rfl) (List.mem_of_getElem? (i := 500) (by decide +kernel)) (fun q => ?_)
      refine y_astoreq (pc := 13) C dL_set_13 (by decide) rfl ?_
      refine x_iconst (pc := 15) C (nI 1) dL_set_15 (by decide) ?_
      exact x_iret (pc := 16) C hQ dL_set_16 (Or.inr ⟨_, 0, h, rfl, rfl⟩) (by omega) (by omega)
    · cases e
      refine x_catch C hT [(⟨0, 10, 13, 13⟩ : ExceptionTableEntry)] (⟨0, 10, 17, 15⟩ : ExceptionTableEntry) [] rfl (fun z hz => by
        simp only [List.mem_cons, List.not_mem_nil, or_false] at hz
        rcases hz with rfl
        · exact ⟨by decide, "java/lang/IndexOutOfBoundsException", u0_in 571 (by decide +kernel) rfl, by decide⟩) (by decide) (by decide) (u0_in 572 (by decide +kernel) rfl) (List.mem_of_getElem? (i := 572) (by decide +kernel)) (fun q => ?_)
      refine y_astoreq (pc := 17) C dL_set_17 (by decide) rfl ?_
      refine x_iconst (pc := 19) C (nI 2) dL_set_19 (by decide) ?_
      exact x_iret (pc := 20) C hQ dL_set_20 (Or.inr ⟨_, 1, h, rfl, rfl⟩) (by omega) (by omega)
  · obtain ⟨hI2, hc⟩ := hP _ _ _ _ _ h
    have hv : ∃ v, r = some (aI v) := by
      rcases hc with ⟨v, e⟩ | e | e
      · cases e; exact ⟨v, rfl⟩
      · cases e
      · cases e
    obtain ⟨v, rfl⟩ := hv
    refine x_i2l (pc := 8) C dL_set_8 ?_
    refine x_last (pc := 9) (o := 210) C dL_set_9 (hI2 210 rfl) ⟨rfl, rfl⟩ ?_
    refine x_goto (pc := 10) (tgt := 21) C dL_set_10 (by decide) ?_
    refine x_iconst (pc := 21) C (0) dL_set_21 (by decide) ?_
    exact x_iret (pc := 22) C hQ dL_set_22 (Or.inl ⟨v, L2, h, rfl, rfl⟩) (by omega) (by omega)
set_option maxRecDepth 100000 in
set_option maxHeartbeats 4000000 in
theorem c_L_setQuota {l : Launch} {V : VV} {L : LL} {N : NN} {I : List Nat} (hI : PI I) {D1 mc ms : Nat} {P : PP} (p0 p1 : Int32) (hR : Runs l D1 mc ms yX6_setQuota (Cond.code yX6_setQuota cX6_setQuota 4 (some .int)) [aR 0, aI p0, aI p1] V L N I P) (hP : ∀ r V2 L2 N2 I2, P r V2 L2 N2 I2 → PI I2 ∧ ((∃ v, r = .inl (some (aI v))) ∨ r = .inr "java/lang/IndexOutOfBoundsException" ∨ r = .inr "java/lang/IllegalArgumentException")) :
    Runs l (D1 + 1) mc ms yL_setQuota (Cond.codeWith yL_setQuota cL_setQuota 5 (some .int) [(0, 10, 13, 13), (0, 10, 17, 15)]) [aR 0, aI p0, aI p1, aR 210] V L N I (LwP P ["java/lang/IndexOutOfBoundsException", "java/lang/IllegalArgumentException"]) := by
  refine run_ofW RL (by decide +kernel) rfl (Nat.le_of_ble_eq_true rfl) (fun E hE C hQ hT => ?_)
  subst hE
  refine x_aload_n (pc := 0) C dL_setQuota_0 rfl ?_
  refine x_iconst (pc := 1) C (0) dL_setQuota_1 (by decide) ?_
  refine x_aload_n (pc := 2) C dL_setQuota_2 rfl ?_
  refine x_iload_n (pc := 3) C dL_setQuota_3 rfl ?_
  refine x_iload_n (pc := 4) C dL_setQuota_4 rfl ?_
  refine x_callV (pc := 5) (o := 0) (As := [aI p0, aI p1]) (st := [aI 0, aR 210]) C v_L_17 dL_setQuota_5 hR (hI 0 rfl) rfl rfl (Nat.le_refl _) (okB_s rfl) (by decide) ⟨by omega, by omega⟩ (fun X V2 L2 N2 I2 h => ?_) (fun r V2 L2 N2 I2 h => ?_)
  · obtain ⟨hI2, hc⟩ := hP _ _ _ _ _ h
    rcases hc with ⟨v, e⟩ | e | e
    · cases e
    · cases e
      refine x_catch C hT [] (⟨0, 10, 13, 13⟩ : ExceptionTableEntry) [(⟨0, 10, 17, 15⟩ : ExceptionTableEntry)] rfl (fun z hz => absurd hz List.not_mem_nil) (by decide) (by decide) (u0_in 571 (by decide +kernel) rfl) (List.mem_of_getElem? (i := 500) (by decide +kernel)) (fun q => ?_)
      refine y_astoreq (pc := 13) C dL_setQuota_13 (by decide) rfl ?_
      refine x_iconst (pc := 15) C (nI 1) dL_setQuota_15 (by decide) ?_
      exact x_iret (pc := 16) C hQ dL_setQuota_16 (Or.inr ⟨_, 0, h, rfl, rfl⟩) (by omega) (by omega)
    · cases e
      refine x_catch C hT [(⟨0, 10, 13, 13⟩ : ExceptionTableEntry)] (⟨0, 10, 17, 15⟩ : ExceptionTableEntry) [] rfl (fun z hz => by
        simp only [List.mem_cons, List.not_mem_nil, or_false] at hz
        rcases hz with rfl
        · exact ⟨by decide, "java/lang/IndexOutOfBoundsException", u0_in 571 (by decide +kernel) rfl, by decide⟩) (by decide) (by decide) (u0_in 572 (by decide +kernel) rfl) (List.mem_of_getElem? (i := 572) (by decide +kernel)) (fun q => ?_)
      refine y_astoreq (pc := 17) C dL_setQuota_17 (by decide) rfl ?_
      refine x_iconst (pc := 19) C (nI 2) dL_setQuota_19 (by decide) ?_
      exact x_iret (pc := 20) C hQ dL_setQuota_20 (Or.inr ⟨_, 1, h, rfl, rfl⟩) (by omega) (by omega)
  · obtain ⟨hI2, hc⟩ := hP _ _ _ _ _ h
    have hv : ∃ v, r = some (aI v) := by
      rcases hc with ⟨v, e⟩ | e | e
      · cases e; exact ⟨v, rfl⟩
      · cases e
      · cases e
    obtain ⟨v, rfl⟩ := hv
    refine x_i2l (pc := 8) C dL_setQuota_8 ?_
    refine x_last (pc := 9) (o := 210) C dL_setQuota_9 (hI2 210 rfl) ⟨rfl, rfl⟩ ?_
    refine x_goto (pc := 10) (tgt := 21) C dL_setQuota_10 (by decide) ?_
    refine x_iconst (pc := 21) C (0) dL_setQuota_21 (by decide) ?_
    exact x_iret (pc := 22) C hQ dL_setQuota_22 (Or.inl ⟨v, L2, h, rfl, rfl⟩) (by omega) (by omega)
set_option maxRecDepth 100000 in
set_option maxHeartbeats 4000000 in
theorem c_L_add {l : Launch} {V : VV} {L : LL} {N : NN} {I : List Nat} (hI : PI I) {D1 mc ms : Nat} {P : PP} (p0 p1 p2 p3 p4 p5 : Int32) (hR : Runs l D1 mc ms yX6_add (Cond.code yX6_add cX6_add 7 (some .int)) [aR 0, aI p0, aI p1, aI p2, aI p3, aI p4, aI p5] V L N I P) (hP : ∀ r V2 L2 N2 I2, P r V2 L2 N2 I2 → PI I2 ∧ ((∃ v, r = .inl (some (aI v))) ∨ r = .inr "java/lang/IllegalArgumentException" ∨ r = .inr "java/lang/IllegalStateException")) :
    Runs l (D1 + 1) mc ms yL_add (Cond.codeWith yL_add cL_add 9 (some .int) [(0, 18, 21, 15), (0, 18, 25, 24)]) [aR 0, aI p0, aI p1, aI p2, aI p3, aI p4, aI p5, aR 210] V L N I (LwP P ["java/lang/IllegalArgumentException", "java/lang/IllegalStateException"]) := by
  refine run_ofW RL (by decide +kernel) rfl (Nat.le_of_ble_eq_true rfl) (fun E hE C hQ hT => ?_)
  subst hE
  refine x_aload (pc := 0) C dL_add_0 rfl ?_
  refine x_iconst (pc := 2) C (0) dL_add_2 (by decide) ?_
  refine x_aload_n (pc := 3) C dL_add_3 rfl ?_
  refine x_iload_n (pc := 4) C dL_add_4 rfl ?_
  refine x_iload_n (pc := 5) C dL_add_5 rfl ?_
  refine x_iload_n (pc := 6) C dL_add_6 rfl ?_
  refine x_iload (pc := 7) C dL_add_7 rfl ?_
  refine x_iload (pc := 9) C dL_add_9 rfl ?_
  refine x_iload (pc := 11) C dL_add_11 rfl ?_
  refine x_callV (pc := 13) (o := 0) (As := [aI p0, aI p1, aI p2, aI p3, aI p4, aI p5]) (st := [aI 0, aR 210]) C v_L_20 dL_add_13 hR (hI 0 rfl) rfl rfl (Nat.le_refl _) (okB_s rfl) (by decide) ⟨by omega, by omega⟩ (fun X V2 L2 N2 I2 h => ?_) (fun r V2 L2 N2 I2 h => ?_)
  · obtain ⟨hI2, hc⟩ := hP _ _ _ _ _ h
    rcases hc with ⟨v, e⟩ | e | e
    · cases e
    · cases e
      refine x_catch C hT [] (⟨0, 18, 21, 15⟩ : ExceptionTableEntry) [(⟨0, 18, 25, 24⟩ : ExceptionTableEntry)] rfl (fun z hz => absurd hz List.not_mem_nil) (by decide) (by decide) (u0_in 572 (by decide +kernel) rfl) (List.mem_of_getElem? (i := 572) (by decide +kernel)) (fun q => ?_)
      refine y_astoreq (pc := 21) C dL_add_21 (by decide) rfl ?_
      refine x_iconst (pc := 23) C (nI 1) dL_add_23 (by decide) ?_
      exact x_iret (pc := 24) C hQ dL_add_24 (Or.inr ⟨_, 0, h, rfl, rfl⟩) (by omega) (by omega)
    · cases e
      refine x_catch C hT [(⟨0, 18, 21, 15⟩ : ExceptionTableEntry)] (⟨0, 18, 25, 24⟩ : ExceptionTableEntry) [] rfl (fun z hz => by
        simp only [List.mem_cons, List.not_mem_nil, or_false] at hz
        rcases hz with rfl
        · exact ⟨by decide, "java/lang/IllegalArgumentException", u0_in 572 (by decide +kernel) rfl, by decide⟩) (by decide) (by decide) (u0_in 690 (by decide +kernel) rfl) (List.mem_of_getElem? (i := 637) (by decide +kernel)) (fun q => ?_)
      refine y_astoreq (pc := 25) C dL_add_25 (by decide) rfl ?_
      refine x_iconst (pc := 27) C (nI 2) dL_add_27 (by decide) ?_
      exact x_iret (pc := 28) C hQ dL_add_28 (Or.inr ⟨_, 1, h, rfl, rfl⟩) (by omega) (by omega)
  · obtain ⟨hI2, hc⟩ := hP _ _ _ _ _ h
    have hv : ∃ v, r = some (aI v) := by
      rcases hc with ⟨v, e⟩ | e | e
      · cases e; exact ⟨v, rfl⟩
      · cases e
      · cases e
    obtain ⟨v, rfl⟩ := hv
    refine x_i2l (pc := 16) C dL_add_16 ?_
    refine x_last (pc := 17) (o := 210) C dL_add_17 (hI2 210 rfl) ⟨rfl, rfl⟩ ?_
    refine x_goto (pc := 18) (tgt := 29) C dL_add_18 (by decide) ?_
    refine x_iconst (pc := 29) C (0) dL_add_29 (by decide) ?_
    exact x_iret (pc := 30) C hQ dL_add_30 (Or.inl ⟨v, L2, h, rfl, rfl⟩) (by omega) (by omega)
set_option maxRecDepth 100000 in
set_option maxHeartbeats 4000000 in
theorem c_L_repeat {l : Launch} {V : VV} {L : LL} {N : NN} {I : List Nat} (hI : PI I) {D1 mc ms : Nat} {P : PP} (p0 p1 p2 : Int32) (hR : Runs l D1 mc ms yX6_repeat (Cond.code yX6_repeat cX6_repeat 4 (some .int)) [aR 0, aI p0, aI p1, aI p2] V L N I P) (hP : ∀ r V2 L2 N2 I2, P r V2 L2 N2 I2 → PI I2 ∧ ((∃ v, r = .inl (some (aI v))) ∨ r = .inr "java/lang/IndexOutOfBoundsException" ∨ r = .inr "java/lang/IllegalArgumentException" ∨ r = .inr "java/lang/IllegalStateException")) :
    Runs l (D1 + 1) mc ms yL_repeat (Cond.codeWith yL_repeat cL_repeat 6 (some .int) [(0, 12, 15, 13), (0, 12, 19, 15), (0, 12, 23, 24)]) [aR 0, aI p0, aI p1, aI p2, aR 210] V L N I (LwP P ["java/lang/IndexOutOfBoundsException", "java/lang/IllegalArgumentException", "java/lang/IllegalStateException"]) := by
  refine run_ofW RL (by decide +kernel) rfl (Nat.le_of_ble_eq_true rfl) (fun E hE C hQ hT => ?_)
  subst hE
  refine x_aload (pc := 0) C dL_repeat_0 rfl ?_
  refine x_iconst (pc := 2) C (0) dL_repeat_2 (by decide) ?_
  refine x_aload_n (pc := 3) C dL_repeat_3 rfl ?_
  refine x_iload_n (pc := 4) C dL_repeat_4 rfl ?_
  refine x_iload_n (pc := 5) C dL_repeat_5 rfl ?_
  refine x_iload_n (pc := 6) C dL_repeat_6 rfl ?_
  refine x_callV (pc := 7) (o := 0) (As := [aI p0, aI p1, aI p2]) (st := [aI 0, aR 210]) C v_L_26 dL_repeat_7 hR (hI 0 rfl) rfl rfl (Nat.le_refl _) (okB_s rfl) (by decide) ⟨by omega, by omega⟩ (fun X V2 L2 N2 I2 h => ?_) (fun r V2 L2 N2 I2 h => ?_)
  · obtain ⟨hI2, hc⟩ := hP _ _ _ _ _ h
    rcases hc with ⟨v, e⟩ | e | e | e
    · cases e
    · cases e
      refine x_catch C hT [] (⟨0, 12, 15, 13⟩ : ExceptionTableEntry) [(⟨0, 12, 19, 15⟩ : ExceptionTableEntry), (⟨0, 12, 23, 24⟩ : ExceptionTableEntry)] rfl (fun z hz => absurd hz List.not_mem_nil) (by decide) (by decide) (u0_in 571 (by decide +kernel) rfl) (List.mem_of_getElem? (i := 500) (by decide +kernel)) (fun q => ?_)
      refine y_astoreq (pc := 15) C dL_repeat_15 (by decide) rfl ?_
      refine x_iconst (pc := 17) C (nI 1) dL_repeat_17 (by decide) ?_
      exact x_iret (pc := 18) C hQ dL_repeat_18 (Or.inr ⟨_, 0, h, rfl, rfl⟩) (by omega) (by omega)
    · cases e
      refine x_catch C hT [(⟨0, 12, 15, 13⟩ : ExceptionTableEntry)] (⟨0, 12, 19, 15⟩ : ExceptionTableEntry) [(⟨0, 12, 23, 24⟩ : ExceptionTableEntry)] rfl (fun z hz => by
        simp only [List.mem_cons, List.not_mem_nil, or_false] at hz
        rcases hz with rfl
        · exact ⟨by decide, "java/lang/IndexOutOfBoundsException", u0_in 571 (by decide +kernel) rfl, by decide⟩) (by decide) (by decide) (u0_in 572 (by decide +kernel) rfl) (List.mem_of_getElem? (i := 572) (by decide +kernel)) (fun q => ?_)
      refine y_astoreq (pc := 19) C dL_repeat_19 (by decide) rfl ?_
      refine x_iconst (pc := 21) C (nI 2) dL_repeat_21 (by decide) ?_
      exact x_iret (pc := 22) C hQ dL_repeat_22 (Or.inr ⟨_, 1, h, rfl, rfl⟩) (by omega) (by omega)
    · cases e
      refine x_catch C hT [(⟨0, 12, 15, 13⟩ : ExceptionTableEntry), (⟨0, 12, 19, 15⟩ : ExceptionTableEntry)] (⟨0, 12, 23, 24⟩ : ExceptionTableEntry) [] rfl (fun z hz => by
        simp only [List.mem_cons, List.not_mem_nil, or_false] at hz
        rcases hz with rfl | rfl
        · exact ⟨by decide, "java/lang/IndexOutOfBoundsException", u0_in 571 (by decide +kernel) rfl, by decide⟩
        · exact ⟨by decide, "java/lang/IllegalArgumentException", u0_in 572 (by decide +kernel) rfl, by decide⟩) (by decide) (by decide) (u0_in 690 (by decide +kernel) rfl) (List.mem_of_getElem? (i := 637) (by decide +kernel)) (fun q => ?_)
      refine y_astoreq (pc := 23) C dL_repeat_23 (by decide) rfl ?_
      refine x_iconst (pc := 25) C (nI 3) dL_repeat_25 (by decide) ?_
      exact x_iret (pc := 26) C hQ dL_repeat_26 (Or.inr ⟨_, 2, h, rfl, rfl⟩) (by omega) (by omega)
  · obtain ⟨hI2, hc⟩ := hP _ _ _ _ _ h
    have hv : ∃ v, r = some (aI v) := by
      rcases hc with ⟨v, e⟩ | e | e | e
      · cases e; exact ⟨v, rfl⟩
      · cases e
      · cases e
      · cases e
    obtain ⟨v, rfl⟩ := hv
    refine x_i2l (pc := 10) C dL_repeat_10 ?_
    refine x_last (pc := 11) (o := 210) C dL_repeat_11 (hI2 210 rfl) ⟨rfl, rfl⟩ ?_
    refine x_goto (pc := 12) (tgt := 27) C dL_repeat_12 (by decide) ?_
    refine x_iconst (pc := 27) C (0) dL_repeat_27 (by decide) ?_
    exact x_iret (pc := 28) C hQ dL_repeat_28 (Or.inl ⟨v, L2, h, rfl, rfl⟩) (by omega) (by omega)
set_option maxRecDepth 100000 in
set_option maxHeartbeats 4000000 in
theorem c_L_remove {l : Launch} {V : VV} {L : LL} {N : NN} {I : List Nat} (hI : PI I) {D1 mc ms : Nat} {P : PP} (p0 : Int32) (hR : Runs l D1 mc ms yX6_remove (Cond.code yX6_remove cX6_remove 2 (some .int)) [aR 0, aI p0] V L N I P) (hP : ∀ r V2 L2 N2 I2, P r V2 L2 N2 I2 → PI I2 ∧ ((∃ v, r = .inl (some (aI v))) ∨ r = .inr "java/lang/IndexOutOfBoundsException")) :
    Runs l (D1 + 1) mc ms yL_remove (Cond.codeWith yL_remove cL_remove 4 (some .int) [(0, 9, 12, 13)]) [aR 0, aI p0, aR 210] V L N I (LwP P ["java/lang/IndexOutOfBoundsException"]) := by
  refine run_ofW RL (by decide +kernel) rfl (Nat.le_of_ble_eq_true rfl) (fun E hE C hQ hT => ?_)
  subst hE
  refine x_aload_n (pc := 0) C dL_remove_0 rfl ?_
  refine x_iconst (pc := 1) C (0) dL_remove_1 (by decide) ?_
  refine x_aload_n (pc := 2) C dL_remove_2 rfl ?_
  refine x_iload_n (pc := 3) C dL_remove_3 rfl ?_
  refine x_callV (pc := 4) (o := 0) (As := [aI p0]) (st := [aI 0, aR 210]) C v_L_30 dL_remove_4 hR (hI 0 rfl) rfl rfl (Nat.le_refl _) (okB_s rfl) (by decide) ⟨by omega, by omega⟩ (fun X V2 L2 N2 I2 h => ?_) (fun r V2 L2 N2 I2 h => ?_)
  · obtain ⟨hI2, hc⟩ := hP _ _ _ _ _ h
    rcases hc with ⟨v, e⟩ | e
    · cases e
    · cases e
      refine x_catch C hT [] (⟨0, 9, 12, 13⟩ : ExceptionTableEntry) [] rfl (fun z hz => absurd hz List.not_mem_nil) (by decide) (by decide) (u0_in 571 (by decide +kernel) rfl) (List.mem_of_getElem? (i := 500) (by decide +kernel)) (fun q => ?_)
      refine y_astore_nq (pc := 12) C dL_remove_12 (by decide) rfl ?_
      refine x_iconst (pc := 13) C (nI 1) dL_remove_13 (by decide) ?_
      exact x_iret (pc := 14) C hQ dL_remove_14 (Or.inr ⟨_, 0, h, rfl, rfl⟩) (by omega) (by omega)
  · obtain ⟨hI2, hc⟩ := hP _ _ _ _ _ h
    have hv : ∃ v, r = some (aI v) := by
      rcases hc with ⟨v, e⟩ | e
      · cases e; exact ⟨v, rfl⟩
      · cases e
    obtain ⟨v, rfl⟩ := hv
    refine x_i2l (pc := 7) C dL_remove_7 ?_
    refine x_last (pc := 8) (o := 210) C dL_remove_8 (hI2 210 rfl) ⟨rfl, rfl⟩ ?_
    refine x_goto (pc := 9) (tgt := 15) C dL_remove_9 (by decide) ?_
    refine x_iconst (pc := 15) C (0) dL_remove_15 (by decide) ?_
    exact x_iret (pc := 16) C hQ dL_remove_16 (Or.inl ⟨v, L2, h, rfl, rfl⟩) (by omega) (by omega)
set_option maxRecDepth 100000 in
set_option maxHeartbeats 4000000 in
theorem c_L_overrun {l : Launch} {V : VV} {L : LL} {N : NN} {I : List Nat} (hI : PI I) {D1 mc ms : Nat} {P : PP} (p0 p1 : Int32) (hR : Runs l D1 mc ms yX6_overrun (Cond.code yX6_overrun cX6_overrun 4 (some .int)) [aR 0, aI p0, aI p1] V L N I P) (hP : ∀ r V2 L2 N2 I2, P r V2 L2 N2 I2 → PI I2 ∧ ((∃ v, r = .inl (some (aI v))) ∨ r = .inr "java/lang/IndexOutOfBoundsException" ∨ r = .inr "java/lang/IllegalArgumentException" ∨ r = .inr "java/lang/IllegalStateException")) :
    Runs l (D1 + 1) mc ms yL_overrun (Cond.codeWith yL_overrun cL_overrun 5 (some .int) [(0, 10, 13, 13), (0, 10, 17, 15), (0, 10, 21, 24)]) [aR 0, aI p0, aI p1, aR 210] V L N I (LwP P ["java/lang/IndexOutOfBoundsException", "java/lang/IllegalArgumentException", "java/lang/IllegalStateException"]) := by
  refine run_ofW RL (by decide +kernel) rfl (Nat.le_of_ble_eq_true rfl) (fun E hE C hQ hT => ?_)
  subst hE
  refine x_aload_n (pc := 0) C dL_overrun_0 rfl ?_
  refine x_iconst (pc := 1) C (0) dL_overrun_1 (by decide) ?_
  refine x_aload_n (pc := 2) C dL_overrun_2 rfl ?_
  refine x_iload_n (pc := 3) C dL_overrun_3 rfl ?_
  refine x_iload_n (pc := 4) C dL_overrun_4 rfl ?_
  refine x_callV (pc := 5) (o := 0) (As := [aI p0, aI p1]) (st := [aI 0, aR 210]) C v_L_34 dL_overrun_5 hR (hI 0 rfl) rfl rfl (Nat.le_refl _) (okB_s rfl) (by decide) ⟨by omega, by omega⟩ (fun X V2 L2 N2 I2 h => ?_) (fun r V2 L2 N2 I2 h => ?_)
  · obtain ⟨hI2, hc⟩ := hP _ _ _ _ _ h
    rcases hc with ⟨v, e⟩ | e | e | e
    · cases e
    · cases e
      refine x_catch C hT [] (⟨0, 10, 13, 13⟩ : ExceptionTableEntry) [(⟨0, 10, 17, 15⟩ : ExceptionTableEntry), (⟨0, 10, 21, 24⟩ : ExceptionTableEntry)] rfl (fun z hz => absurd hz List.not_mem_nil) (by decide) (by decide) (u0_in 571 (by decide +kernel) rfl) (List.mem_of_getElem? (i := 500) (by decide +kernel)) (fun q => ?_)
      refine y_astoreq (pc := 13) C dL_overrun_13 (by decide) rfl ?_
      refine x_iconst (pc := 15) C (nI 1) dL_overrun_15 (by decide) ?_
      exact x_iret (pc := 16) C hQ dL_overrun_16 (Or.inr ⟨_, 0, h, rfl, rfl⟩) (by omega) (by omega)
    · cases e
      refine x_catch C hT [(⟨0, 10, 13, 13⟩ : ExceptionTableEntry)] (⟨0, 10, 17, 15⟩ : ExceptionTableEntry) [(⟨0, 10, 21, 24⟩ : ExceptionTableEntry)] rfl (fun z hz => by
        simp only [List.mem_cons, List.not_mem_nil, or_false] at hz
        rcases hz with rfl
        · exact ⟨by decide, "java/lang/IndexOutOfBoundsException", u0_in 571 (by decide +kernel) rfl, by decide⟩) (by decide) (by decide) (u0_in 572 (by decide +kernel) rfl) (List.mem_of_getElem? (i := 572) (by decide +kernel)) (fun q => ?_)
      refine y_astoreq (pc := 17) C dL_overrun_17 (by decide) rfl ?_
      refine x_iconst (pc := 19) C (nI 2) dL_overrun_19 (by decide) ?_
      exact x_iret (pc := 20) C hQ dL_overrun_20 (Or.inr ⟨_, 1, h, rfl, rfl⟩) (by omega) (by omega)
    · cases e
      refine x_catch C hT [(⟨0, 10, 13, 13⟩ : ExceptionTableEntry), (⟨0, 10, 17, 15⟩ : ExceptionTableEntry)] (⟨0, 10, 21, 24⟩ : ExceptionTableEntry) [] rfl (fun z hz => by
        simp only [List.mem_cons, List.not_mem_nil, or_false] at hz
        rcases hz with rfl | rfl
        · exact ⟨by decide, "java/lang/IndexOutOfBoundsException", u0_in 571 (by decide +kernel) rfl, by decide⟩
        · exact ⟨by decide, "java/lang/IllegalArgumentException", u0_in 572 (by decide +kernel) rfl, by decide⟩) (by decide) (by decide) (u0_in 690 (by decide +kernel) rfl) (List.mem_of_getElem? (i := 637) (by decide +kernel)) (fun q => ?_)
      refine y_astoreq (pc := 21) C dL_overrun_21 (by decide) rfl ?_
      refine x_iconst (pc := 23) C (nI 3) dL_overrun_23 (by decide) ?_
      exact x_iret (pc := 24) C hQ dL_overrun_24 (Or.inr ⟨_, 2, h, rfl, rfl⟩) (by omega) (by omega)
  · obtain ⟨hI2, hc⟩ := hP _ _ _ _ _ h
    have hv : ∃ v, r = some (aI v) := by
      rcases hc with ⟨v, e⟩ | e | e | e
      · cases e; exact ⟨v, rfl⟩
      · cases e
      · cases e
      · cases e
    obtain ⟨v, rfl⟩ := hv
    refine x_i2l (pc := 8) C dL_overrun_8 ?_
    refine x_last (pc := 9) (o := 210) C dL_overrun_9 (hI2 210 rfl) ⟨rfl, rfl⟩ ?_
    refine x_goto (pc := 10) (tgt := 25) C dL_overrun_10 (by decide) ?_
    refine x_iconst (pc := 25) C (0) dL_overrun_25 (by decide) ?_
    exact x_iret (pc := 26) C hQ dL_overrun_26 (Or.inl ⟨v, L2, h, rfl, rfl⟩) (by omega) (by omega)
set_option maxRecDepth 100000 in
set_option maxHeartbeats 4000000 in
theorem c_L_closeWeek {l : Launch} {V : VV} {L : LL} {N : NN} {I : List Nat} (hI : PI I) {D1 mc ms : Nat} {P : PP} (hR : Runs l D1 mc ms yX6_closeWeek (Cond.code yX6_closeWeek cX6_closeWeek 2 (some .int)) [aR 0] V L N I P) (hP : ∀ r V2 L2 N2 I2, P r V2 L2 N2 I2 → PI I2 ∧ ((∃ v, r = .inl (some (aI v))) ∨ r = .inr "java/lang/IllegalStateException")) :
    Runs l (D1 + 1) mc ms yL_closeWeek (Cond.codeWith yL_closeWeek cL_closeWeek 3 (some .int) [(0, 8, 11, 24)]) [aR 0, aR 210] V L N I (LwP P ["java/lang/IllegalStateException"]) := by
  refine run_ofW RL (by decide +kernel) rfl (Nat.le_of_ble_eq_true rfl) (fun E hE C hQ hT => ?_)
  subst hE
  refine x_aload_n (pc := 0) C dL_closeWeek_0 rfl ?_
  refine x_iconst (pc := 1) C (0) dL_closeWeek_1 (by decide) ?_
  refine x_aload_n (pc := 2) C dL_closeWeek_2 rfl ?_
  refine x_callV (pc := 3) (o := 0) (As := []) (st := [aI 0, aR 210]) C v_L_37 dL_closeWeek_3 hR (hI 0 rfl) rfl rfl (Nat.le_refl _) (okB_s rfl) (by decide) ⟨by omega, by omega⟩ (fun X V2 L2 N2 I2 h => ?_) (fun r V2 L2 N2 I2 h => ?_)
  · obtain ⟨hI2, hc⟩ := hP _ _ _ _ _ h
    rcases hc with ⟨v, e⟩ | e
    · cases e
    · cases e
      refine x_catch C hT [] (⟨0, 8, 11, 24⟩ : ExceptionTableEntry) [] rfl (fun z hz => absurd hz List.not_mem_nil) (by decide) (by decide) (u0_in 690 (by decide +kernel) rfl) (List.mem_of_getElem? (i := 637) (by decide +kernel)) (fun q => ?_)
      refine y_astore_nq (pc := 11) C dL_closeWeek_11 (by decide) rfl ?_
      refine x_iconst (pc := 12) C (nI 1) dL_closeWeek_12 (by decide) ?_
      exact x_iret (pc := 13) C hQ dL_closeWeek_13 (Or.inr ⟨_, 0, h, rfl, rfl⟩) (by omega) (by omega)
  · obtain ⟨hI2, hc⟩ := hP _ _ _ _ _ h
    have hv : ∃ v, r = some (aI v) := by
      rcases hc with ⟨v, e⟩ | e
      · cases e; exact ⟨v, rfl⟩
      · cases e
    obtain ⟨v, rfl⟩ := hv
    refine x_i2l (pc := 6) C dL_closeWeek_6 ?_
    refine x_last (pc := 7) (o := 210) C dL_closeWeek_7 (hI2 210 rfl) ⟨rfl, rfl⟩ ?_
    refine x_goto (pc := 8) (tgt := 14) C dL_closeWeek_8 (by decide) ?_
    refine x_iconst (pc := 14) C (0) dL_closeWeek_14 (by decide) ?_
    exact x_iret (pc := 15) C hQ dL_closeWeek_15 (Or.inl ⟨v, L2, h, rfl, rfl⟩) (by omega) (by omega)
set_option maxRecDepth 100000 in
set_option maxHeartbeats 4000000 in
theorem c_L_append {l : Launch} {V : VV} {L : LL} {N : NN} {I : List Nat} (hI : PI I) {D1 mc ms : Nat} {P : PP} (p0 : Int32) (hR : Runs l D1 mc ms yX6_append (Cond.code yX6_append cX6_append 2 (some .int)) [aR 0, aI p0] V L N I P) (hP : ∀ r V2 L2 N2 I2, P r V2 L2 N2 I2 → PI I2 ∧ ((∃ v, r = .inl (some (aI v))) ∨ r = .inr "java/lang/IllegalArgumentException" ∨ r = .inr "java/lang/IllegalStateException")) :
    Runs l (D1 + 1) mc ms yL_append (Cond.codeWith yL_append cL_append 4 (some .int) [(0, 9, 12, 15), (0, 9, 15, 24)]) [aR 0, aI p0, aR 210] V L N I (LwP P ["java/lang/IllegalArgumentException", "java/lang/IllegalStateException"]) := by
  refine run_ofW RL (by decide +kernel) rfl (Nat.le_of_ble_eq_true rfl) (fun E hE C hQ hT => ?_)
  subst hE
  refine x_aload_n (pc := 0) C dL_append_0 rfl ?_
  refine x_iconst (pc := 1) C (0) dL_append_1 (by decide) ?_
  refine x_aload_n (pc := 2) C dL_append_2 rfl ?_
  refine x_iload_n (pc := 3) C dL_append_3 rfl ?_
  refine x_callV (pc := 4) (o := 0) (As := [aI p0]) (st := [aI 0, aR 210]) C v_L_41 dL_append_4 hR (hI 0 rfl) rfl rfl (Nat.le_refl _) (okB_s rfl) (by decide) ⟨by omega, by omega⟩ (fun X V2 L2 N2 I2 h => ?_) (fun r V2 L2 N2 I2 h => ?_)
  · obtain ⟨hI2, hc⟩ := hP _ _ _ _ _ h
    rcases hc with ⟨v, e⟩ | e | e
    · cases e
    · cases e
      refine x_catch C hT [] (⟨0, 9, 12, 15⟩ : ExceptionTableEntry) [(⟨0, 9, 15, 24⟩ : ExceptionTableEntry)] rfl (fun z hz => absurd hz List.not_mem_nil) (by decide) (by decide) (u0_in 572 (by decide +kernel) rfl) (List.mem_of_getElem? (i := 572) (by decide +kernel)) (fun q => ?_)
      refine y_astore_nq (pc := 12) C dL_append_12 (by decide) rfl ?_
      refine x_iconst (pc := 13) C (nI 1) dL_append_13 (by decide) ?_
      exact x_iret (pc := 14) C hQ dL_append_14 (Or.inr ⟨_, 0, h, rfl, rfl⟩) (by omega) (by omega)
    · cases e
      refine x_catch C hT [(⟨0, 9, 12, 15⟩ : ExceptionTableEntry)] (⟨0, 9, 15, 24⟩ : ExceptionTableEntry) [] rfl (fun z hz => by
        simp only [List.mem_cons, List.not_mem_nil, or_false] at hz
        rcases hz with rfl
        · exact ⟨by decide, "java/lang/IllegalArgumentException", u0_in 572 (by decide +kernel) rfl, by decide⟩) (by decide) (by decide) (u0_in 690 (by decide +kernel) rfl) (List.mem_of_getElem? (i := 637) (by decide +kernel)) (fun q => ?_)
      refine y_astore_nq (pc := 15) C dL_append_15 (by decide) rfl ?_
      refine x_iconst (pc := 16) C (nI 2) dL_append_16 (by decide) ?_
      exact x_iret (pc := 17) C hQ dL_append_17 (Or.inr ⟨_, 1, h, rfl, rfl⟩) (by omega) (by omega)
  · obtain ⟨hI2, hc⟩ := hP _ _ _ _ _ h
    have hv : ∃ v, r = some (aI v) := by
      rcases hc with ⟨v, e⟩ | e | e
      · cases e; exact ⟨v, rfl⟩
      · cases e
      · cases e
    obtain ⟨v, rfl⟩ := hv
    refine x_i2l (pc := 7) C dL_append_7 ?_
    refine x_last (pc := 8) (o := 210) C dL_append_8 (hI2 210 rfl) ⟨rfl, rfl⟩ ?_
    refine x_goto (pc := 9) (tgt := 18) C dL_append_9 (by decide) ?_
    refine x_iconst (pc := 18) C (0) dL_append_18 (by decide) ?_
    exact x_iret (pc := 19) C hQ dL_append_19 (Or.inl ⟨v, L2, h, rfl, rfl⟩) (by omega) (by omega)
set_option maxRecDepth 100000 in
set_option maxHeartbeats 4000000 in
theorem c_L_load {l : Launch} {V : VV} {L : LL} {N : NN} {I : List Nat} (hI : PI I) {D1 mc ms : Nat} {P : PP} (hR : Runs l D1 mc ms yX6_load (Cond.code yX6_load cX6_load 3 (some .int)) [aR 0] V L N I P) (hP : ∀ r V2 L2 N2 I2, P r V2 L2 N2 I2 → PI I2 ∧ ((∃ v, r = .inl (some (aI v))) ∨ r = .inr "java/lang/IllegalArgumentException")) :
    Runs l (D1 + 1) mc ms yL_load (Cond.codeWith yL_load cL_load 3 (some .int) [(0, 8, 11, 15)]) [aR 0, aR 210] V L N I (LwP P ["java/lang/IllegalArgumentException"]) := by
  refine run_ofW RL (by decide +kernel) rfl (Nat.le_of_ble_eq_true rfl) (fun E hE C hQ hT => ?_)
  subst hE
  refine x_aload_n (pc := 0) C dL_load_0 rfl ?_
  refine x_iconst (pc := 1) C (0) dL_load_1 (by decide) ?_
  refine x_aload_n (pc := 2) C dL_load_2 rfl ?_
  refine x_callV (pc := 3) (o := 0) (As := []) (st := [aI 0, aR 210]) C v_L_44 dL_load_3 hR (hI 0 rfl) rfl rfl (Nat.le_refl _) (okB_s rfl) (by decide) ⟨by omega, by omega⟩ (fun X V2 L2 N2 I2 h => ?_) (fun r V2 L2 N2 I2 h => ?_)
  · obtain ⟨hI2, hc⟩ := hP _ _ _ _ _ h
    rcases hc with ⟨v, e⟩ | e
    · cases e
    · cases e
      refine x_catch C hT [] (⟨0, 8, 11, 15⟩ : ExceptionTableEntry) [] rfl (fun z hz => absurd hz List.not_mem_nil) (by decide) (by decide) (u0_in 572 (by decide +kernel) rfl) (List.mem_of_getElem? (i := 572) (by decide +kernel)) (fun q => ?_)
      refine y_astore_nq (pc := 11) C dL_load_11 (by decide) rfl ?_
      refine x_iconst (pc := 12) C (nI 1) dL_load_12 (by decide) ?_
      exact x_iret (pc := 13) C hQ dL_load_13 (Or.inr ⟨_, 0, h, rfl, rfl⟩) (by omega) (by omega)
  · obtain ⟨hI2, hc⟩ := hP _ _ _ _ _ h
    have hv : ∃ v, r = some (aI v) := by
      rcases hc with ⟨v, e⟩ | e
      · cases e; exact ⟨v, rfl⟩
      · cases e
    obtain ⟨v, rfl⟩ := hv
    refine x_i2l (pc := 6) C dL_load_6 ?_
    refine x_last (pc := 7) (o := 210) C dL_load_7 (hI2 210 rfl) ⟨rfl, rfl⟩ ?_
    refine x_goto (pc := 8) (tgt := 14) C dL_load_8 (by decide) ?_
    refine x_iconst (pc := 14) C (0) dL_load_14 (by decide) ?_
    exact x_iret (pc := 15) C hQ dL_load_15 (Or.inl ⟨v, L2, h, rfl, rfl⟩) (by omega) (by omega)
set_option maxRecDepth 100000 in
set_option maxHeartbeats 4000000 in
theorem c_L_undo {l : Launch} {V : VV} {L : LL} {N : NN} {I : List Nat} (hI : PI I) {D1 mc ms : Nat} {P : PP} (hR : Runs l D1 mc ms yX6_undo (Cond.code yX6_undo cX6_undo 1 (some .int)) [aR 0] V L N I P) (hP : ∀ r V2 L2 N2 I2, P r V2 L2 N2 I2 → PI I2 ∧ ((∃ v, r = .inl (some (aI v))) ∨ r = .inr "java/lang/IllegalStateException")) :
    Runs l (D1 + 1) mc ms yL_undo (Cond.codeWith yL_undo cL_undo 3 (some .int) [(0, 8, 11, 24)]) [aR 0, aR 210] V L N I (LwP P ["java/lang/IllegalStateException"]) := by
  refine run_ofW RL (by decide +kernel) rfl (Nat.le_of_ble_eq_true rfl) (fun E hE C hQ hT => ?_)
  subst hE
  refine x_aload_n (pc := 0) C dL_undo_0 rfl ?_
  refine x_iconst (pc := 1) C (0) dL_undo_1 (by decide) ?_
  refine x_aload_n (pc := 2) C dL_undo_2 rfl ?_
  refine x_callV (pc := 3) (o := 0) (As := []) (st := [aI 0, aR 210]) C v_L_47 dL_undo_3 hR (hI 0 rfl) rfl rfl (Nat.le_refl _) (okB_s rfl) (by decide) ⟨by omega, by omega⟩ (fun X V2 L2 N2 I2 h => ?_) (fun r V2 L2 N2 I2 h => ?_)
  · obtain ⟨hI2, hc⟩ := hP _ _ _ _ _ h
    rcases hc with ⟨v, e⟩ | e
    · cases e
    · cases e
      refine x_catch C hT [] (⟨0, 8, 11, 24⟩ : ExceptionTableEntry) [] rfl (fun z hz => absurd hz List.not_mem_nil) (by decide) (by decide) (u0_in 690 (by decide +kernel) rfl) (List.mem_of_getElem? (i := 637) (by decide +kernel)) (fun q => ?_)
      refine y_astore_nq (pc := 11) C dL_undo_11 (by decide) rfl ?_
      refine x_iconst (pc := 12) C (nI 1) dL_undo_12 (by decide) ?_
      exact x_iret (pc := 13) C hQ dL_undo_13 (Or.inr ⟨_, 0, h, rfl, rfl⟩) (by omega) (by omega)
  · obtain ⟨hI2, hc⟩ := hP _ _ _ _ _ h
    have hv : ∃ v, r = some (aI v) := by
      rcases hc with ⟨v, e⟩ | e
      · cases e; exact ⟨v, rfl⟩
      · cases e
    obtain ⟨v, rfl⟩ := hv
    refine x_i2l (pc := 6) C dL_undo_6 ?_
    refine x_last (pc := 7) (o := 210) C dL_undo_7 (hI2 210 rfl) ⟨rfl, rfl⟩ ?_
    refine x_goto (pc := 8) (tgt := 14) C dL_undo_8 (by decide) ?_
    refine x_iconst (pc := 14) C (0) dL_undo_14 (by decide) ?_
    exact x_iret (pc := 15) C hQ dL_undo_15 (Or.inl ⟨v, L2, h, rfl, rfl⟩) (by omega) (by omega)
set_option maxRecDepth 100000 in
set_option maxHeartbeats 4000000 in
theorem c_L_show {l : Launch} {V : VV} {L : LL} {N : NN} {I : List Nat} (hI : PI I) {D1 mc ms : Nat} {P : PP} (p0 p1 : Int32) (hR : Runs l D1 mc ms yX6_show (Cond.code yX6_show cX6_show 3 (some .int)) [aR 0, aI p0, aI p1] V L N I P) (hP : ∀ r V2 L2 N2 I2, P r V2 L2 N2 I2 → PI I2 ∧ ((∃ v, r = .inl (some (aI v))) ∨ r = .inr "java/lang/IndexOutOfBoundsException" ∨ r = .inr "java/lang/IllegalArgumentException")) :
    Runs l (D1 + 1) mc ms yL_show (Cond.codeWith yL_show cL_show 5 (some .int) [(0, 10, 13, 13), (0, 10, 17, 15)]) [aR 0, aI p0, aI p1, aR 210] V L N I (LwP P ["java/lang/IndexOutOfBoundsException", "java/lang/IllegalArgumentException"]) := by
  refine run_ofW RL (by decide +kernel) rfl (Nat.le_of_ble_eq_true rfl) (fun E hE C hQ hT => ?_)
  subst hE
  refine x_aload_n (pc := 0) C dL_show_0 rfl ?_
  refine x_iconst (pc := 1) C (0) dL_show_1 (by decide) ?_
  refine x_aload_n (pc := 2) C dL_show_2 rfl ?_
  refine x_iload_n (pc := 3) C dL_show_3 rfl ?_
  refine x_iload_n (pc := 4) C dL_show_4 rfl ?_
  refine x_callV (pc := 5) (o := 0) (As := [aI p0, aI p1]) (st := [aI 0, aR 210]) C v_L_50 dL_show_5 hR (hI 0 rfl) rfl rfl (Nat.le_refl _) (okB_s rfl) (by decide) ⟨by omega, by omega⟩ (fun X V2 L2 N2 I2 h => ?_) (fun r V2 L2 N2 I2 h => ?_)
  · obtain ⟨hI2, hc⟩ := hP _ _ _ _ _ h
    rcases hc with ⟨v, e⟩ | e | e
    · cases e
    · cases e
      refine x_catch C hT [] (⟨0, 10, 13, 13⟩ : ExceptionTableEntry) [(⟨0, 10, 17, 15⟩ : ExceptionTableEntry)] rfl (fun z hz => absurd hz List.not_mem_nil) (by decide) (by decide) (u0_in 571 (by decide +kernel) rfl) (List.mem_of_getElem? (i := 500) (by decide +kernel)) (fun q => ?_)
      refine y_astoreq (pc := 13) C dL_show_13 (by decide) rfl ?_
      refine x_iconst (pc := 15) C (nI 1) dL_show_15 (by decide) ?_
      exact x_iret (pc := 16) C hQ dL_show_16 (Or.inr ⟨_, 0, h, rfl, rfl⟩) (by omega) (by omega)
    · cases e
      refine x_catch C hT [(⟨0, 10, 13, 13⟩ : ExceptionTableEntry)] (⟨0, 10, 17, 15⟩ : ExceptionTableEntry) [] rfl (fun z hz => by
        simp only [List.mem_cons, List.not_mem_nil, or_false] at hz
        rcases hz with rfl
        · exact ⟨by decide, "java/lang/IndexOutOfBoundsException", u0_in 571 (by decide +kernel) rfl, by decide⟩) (by decide) (by decide) (u0_in 572 (by decide +kernel) rfl) (List.mem_of_getElem? (i := 572) (by decide +kernel)) (fun q => ?_)
      refine y_astoreq (pc := 17) C dL_show_17 (by decide) rfl ?_
      refine x_iconst (pc := 19) C (nI 2) dL_show_19 (by decide) ?_
      exact x_iret (pc := 20) C hQ dL_show_20 (Or.inr ⟨_, 1, h, rfl, rfl⟩) (by omega) (by omega)
  · obtain ⟨hI2, hc⟩ := hP _ _ _ _ _ h
    have hv : ∃ v, r = some (aI v) := by
      rcases hc with ⟨v, e⟩ | e | e
      · cases e; exact ⟨v, rfl⟩
      · cases e
      · cases e
    obtain ⟨v, rfl⟩ := hv
    refine x_i2l (pc := 8) C dL_show_8 ?_
    refine x_last (pc := 9) (o := 210) C dL_show_9 (hI2 210 rfl) ⟨rfl, rfl⟩ ?_
    refine x_goto (pc := 10) (tgt := 21) C dL_show_10 (by decide) ?_
    refine x_iconst (pc := 21) C (0) dL_show_21 (by decide) ?_
    exact x_iret (pc := 22) C hQ dL_show_22 (Or.inl ⟨v, L2, h, rfl, rfl⟩) (by omega) (by omega)
set_option maxRecDepth 100000 in
set_option maxHeartbeats 4000000 in
theorem c_L_group {l : Launch} {V : VV} {L : LL} {N : NN} {I : List Nat} (hI : PI I) {D1 mc ms : Nat} {P : PP} (p0 p1 : Int32) (hR : Runs l D1 mc ms yX6_group (Cond.code yX6_group cX6_group 3 (some .int)) [aR 0, aI p0, aI p1] V L N I P) (hP : ∀ r V2 L2 N2 I2, P r V2 L2 N2 I2 → PI I2 ∧ ((∃ v, r = .inl (some (aI v))) ∨ r = .inr "java/lang/IndexOutOfBoundsException" ∨ r = .inr "java/lang/IllegalArgumentException")) :
    Runs l (D1 + 1) mc ms yL_group (Cond.codeWith yL_group cL_group 5 (some .int) [(0, 10, 13, 13), (0, 10, 17, 15)]) [aR 0, aI p0, aI p1, aR 210] V L N I (LwP P ["java/lang/IndexOutOfBoundsException", "java/lang/IllegalArgumentException"]) := by
  refine run_ofW RL (by decide +kernel) rfl (Nat.le_of_ble_eq_true rfl) (fun E hE C hQ hT => ?_)
  subst hE
  refine x_aload_n (pc := 0) C dL_group_0 rfl ?_
  refine x_iconst (pc := 1) C (0) dL_group_1 (by decide) ?_
  refine x_aload_n (pc := 2) C dL_group_2 rfl ?_
  refine x_iload_n (pc := 3) C dL_group_3 rfl ?_
  refine x_iload_n (pc := 4) C dL_group_4 rfl ?_
  refine x_callV (pc := 5) (o := 0) (As := [aI p0, aI p1]) (st := [aI 0, aR 210]) C v_L_53 dL_group_5 hR (hI 0 rfl) rfl rfl (Nat.le_refl _) (okB_s rfl) (by decide) ⟨by omega, by omega⟩ (fun X V2 L2 N2 I2 h => ?_) (fun r V2 L2 N2 I2 h => ?_)
  · obtain ⟨hI2, hc⟩ := hP _ _ _ _ _ h
    rcases hc with ⟨v, e⟩ | e | e
    · cases e
    · cases e
      refine x_catch C hT [] (⟨0, 10, 13, 13⟩ : ExceptionTableEntry) [(⟨0, 10, 17, 15⟩ : ExceptionTableEntry)] rfl (fun z hz => absurd hz List.not_mem_nil) (by decide) (by decide) (u0_in 571 (by decide +kernel) rfl) (List.mem_of_getElem? (i := 500) (by decide +kernel)) (fun q => ?_)
      refine y_astoreq (pc := 13) C dL_group_13 (by decide) rfl ?_
      refine x_iconst (pc := 15) C (nI 1) dL_group_15 (by decide) ?_
      exact x_iret (pc := 16) C hQ dL_group_16 (Or.inr ⟨_, 0, h, rfl, rfl⟩) (by omega) (by omega)
    · cases e
      refine x_catch C hT [(⟨0, 10, 13, 13⟩ : ExceptionTableEntry)] (⟨0, 10, 17, 15⟩ : ExceptionTableEntry) [] rfl (fun z hz => by
        simp only [List.mem_cons, List.not_mem_nil, or_false] at hz
        rcases hz with rfl
        · exact ⟨by decide, "java/lang/IndexOutOfBoundsException", u0_in 571 (by decide +kernel) rfl, by decide⟩) (by decide) (by decide) (u0_in 572 (by decide +kernel) rfl) (List.mem_of_getElem? (i := 572) (by decide +kernel)) (fun q => ?_)
      refine y_astoreq (pc := 17) C dL_group_17 (by decide) rfl ?_
      refine x_iconst (pc := 19) C (nI 2) dL_group_19 (by decide) ?_
      exact x_iret (pc := 20) C hQ dL_group_20 (Or.inr ⟨_, 1, h, rfl, rfl⟩) (by omega) (by omega)
  · obtain ⟨hI2, hc⟩ := hP _ _ _ _ _ h
    have hv : ∃ v, r = some (aI v) := by
      rcases hc with ⟨v, e⟩ | e | e
      · cases e; exact ⟨v, rfl⟩
      · cases e
      · cases e
    obtain ⟨v, rfl⟩ := hv
    refine x_i2l (pc := 8) C dL_group_8 ?_
    refine x_last (pc := 9) (o := 210) C dL_group_9 (hI2 210 rfl) ⟨rfl, rfl⟩ ?_
    refine x_goto (pc := 10) (tgt := 21) C dL_group_10 (by decide) ?_
    refine x_iconst (pc := 21) C (0) dL_group_21 (by decide) ?_
    exact x_iret (pc := 22) C hQ dL_group_22 (Or.inl ⟨v, L2, h, rfl, rfl⟩) (by omega) (by omega)
set_option maxRecDepth 100000 in
set_option maxHeartbeats 4000000 in
theorem c_L_sponsors {l : Launch} {V : VV} {L : LL} {N : NN} {I : List Nat} (hI : PI I) {D1 mc ms : Nat} {P : PP} (p0 p1 p2 : Int32) (hR : Runs l D1 mc ms yX6_sponsors (Cond.code yX6_sponsors cX6_sponsors 4 (some .int)) [aR 0, aI p0, aI p1, aI p2] V L N I P) (hP : ∀ r V2 L2 N2 I2, P r V2 L2 N2 I2 → PI I2 ∧ ((∃ v, r = .inl (some (aI v))) ∨ r = .inr "java/lang/IndexOutOfBoundsException")) :
    Runs l (D1 + 1) mc ms yL_sponsors (Cond.codeWith yL_sponsors cL_sponsors 6 (some .int) [(0, 12, 15, 13)]) [aR 0, aI p0, aI p1, aI p2, aR 210] V L N I (LwP P ["java/lang/IndexOutOfBoundsException"]) := by
  refine run_ofW RL (by decide +kernel) rfl (Nat.le_of_ble_eq_true rfl) (fun E hE C hQ hT => ?_)
  subst hE
  refine x_aload (pc := 0) C dL_sponsors_0 rfl ?_
  refine x_iconst (pc := 2) C (0) dL_sponsors_2 (by decide) ?_
  refine x_aload_n (pc := 3) C dL_sponsors_3 rfl ?_
  refine x_iload_n (pc := 4) C dL_sponsors_4 rfl ?_
  refine x_iload_n (pc := 5) C dL_sponsors_5 rfl ?_
  refine x_iload_n (pc := 6) C dL_sponsors_6 rfl ?_
  refine x_callV (pc := 7) (o := 0) (As := [aI p0, aI p1, aI p2]) (st := [aI 0, aR 210]) C v_L_56 dL_sponsors_7 hR (hI 0 rfl) rfl rfl (Nat.le_refl _) (okB_s rfl) (by decide) ⟨by omega, by omega⟩ (fun X V2 L2 N2 I2 h => ?_) (fun r V2 L2 N2 I2 h => ?_)
  · obtain ⟨hI2, hc⟩ := hP _ _ _ _ _ h
    rcases hc with ⟨v, e⟩ | e
    · cases e
    · cases e
      refine x_catch C hT [] (⟨0, 12, 15, 13⟩ : ExceptionTableEntry) [] rfl (fun z hz => absurd hz List.not_mem_nil) (by decide) (by decide) (u0_in 571 (by decide +kernel) rfl) (List.mem_of_getElem? (i := 500) (by decide +kernel)) (fun q => ?_)
      refine y_astoreq (pc := 15) C dL_sponsors_15 (by decide) rfl ?_
      refine x_iconst (pc := 17) C (nI 1) dL_sponsors_17 (by decide) ?_
      exact x_iret (pc := 18) C hQ dL_sponsors_18 (Or.inr ⟨_, 0, h, rfl, rfl⟩) (by omega) (by omega)
  · obtain ⟨hI2, hc⟩ := hP _ _ _ _ _ h
    have hv : ∃ v, r = some (aI v) := by
      rcases hc with ⟨v, e⟩ | e
      · cases e; exact ⟨v, rfl⟩
      · cases e
    obtain ⟨v, rfl⟩ := hv
    refine x_i2l (pc := 10) C dL_sponsors_10 ?_
    refine x_last (pc := 11) (o := 210) C dL_sponsors_11 (hI2 210 rfl) ⟨rfl, rfl⟩ ?_
    refine x_goto (pc := 12) (tgt := 19) C dL_sponsors_12 (by decide) ?_
    refine x_iconst (pc := 19) C (0) dL_sponsors_19 (by decide) ?_
    exact x_iret (pc := 20) C hQ dL_sponsors_20 (Or.inl ⟨v, L2, h, rfl, rfl⟩) (by omega) (by omega)
set_option maxRecDepth 100000 in
set_option maxHeartbeats 4000000 in
theorem c_L_day {l : Launch} {V : VV} {L : LL} {N : NN} {I : List Nat} (hI : PI I) {D1 mc ms : Nat} {P : PP} (p0 p1 : Int32) (hR : Runs l D1 mc ms yX6_day (Cond.code yX6_day cX6_day 3 (some .int)) [aR 0, aI p0, aI p1] V L N I P) (hP : ∀ r V2 L2 N2 I2, P r V2 L2 N2 I2 → PI I2 ∧ ((∃ v, r = .inl (some (aI v))) ∨ r = .inr "java/lang/IndexOutOfBoundsException" ∨ r = .inr "java/lang/IllegalArgumentException")) :
    Runs l (D1 + 1) mc ms yL_day (Cond.codeWith yL_day cL_day 5 (some .int) [(0, 10, 13, 13), (0, 10, 17, 15)]) [aR 0, aI p0, aI p1, aR 210] V L N I (LwP P ["java/lang/IndexOutOfBoundsException", "java/lang/IllegalArgumentException"]) := by
  refine run_ofW RL (by decide +kernel) rfl (Nat.le_of_ble_eq_true rfl) (fun E hE C hQ hT => ?_)
  subst hE
  refine x_aload_n (pc := 0) C dL_day_0 rfl ?_
  refine x_iconst (pc := 1) C (0) dL_day_1 (by decide) ?_
  refine x_aload_n (pc := 2) C dL_day_2 rfl ?_
  refine x_iload_n (pc := 3) C dL_day_3 rfl ?_
  refine x_iload_n (pc := 4) C dL_day_4 rfl ?_
  refine x_callV (pc := 5) (o := 0) (As := [aI p0, aI p1]) (st := [aI 0, aR 210]) C v_L_60 dL_day_5 hR (hI 0 rfl) rfl rfl (Nat.le_refl _) (okB_s rfl) (by decide) ⟨by omega, by omega⟩ (fun X V2 L2 N2 I2 h => ?_) (fun r V2 L2 N2 I2 h => ?_)
  · obtain ⟨hI2, hc⟩ := hP _ _ _ _ _ h
    rcases hc with ⟨v, e⟩ | e | e
    · cases e
    · cases e
      refine x_catch C hT [] (⟨0, 10, 13, 13⟩ : ExceptionTableEntry) [(⟨0, 10, 17, 15⟩ : ExceptionTableEntry)] rfl (fun z hz => absurd hz List.not_mem_nil) (by decide) (by decide) (u0_in 571 (by decide +kernel) rfl) (List.mem_of_getElem? (i := 500) (by decide +kernel)) (fun q => ?_)
      refine y_astoreq (pc := 13) C dL_day_13 (by decide) rfl ?_
      refine x_iconst (pc := 15) C (nI 1) dL_day_15 (by decide) ?_
      exact x_iret (pc := 16) C hQ dL_day_16 (Or.inr ⟨_, 0, h, rfl, rfl⟩) (by omega) (by omega)
    · cases e
      refine x_catch C hT [(⟨0, 10, 13, 13⟩ : ExceptionTableEntry)] (⟨0, 10, 17, 15⟩ : ExceptionTableEntry) [] rfl (fun z hz => by
        simp only [List.mem_cons, List.not_mem_nil, or_false] at hz
        rcases hz with rfl
        · exact ⟨by decide, "java/lang/IndexOutOfBoundsException", u0_in 571 (by decide +kernel) rfl, by decide⟩) (by decide) (by decide) (u0_in 572 (by decide +kernel) rfl) (List.mem_of_getElem? (i := 572) (by decide +kernel)) (fun q => ?_)
      refine y_astoreq (pc := 17) C dL_day_17 (by decide) rfl ?_
      refine x_iconst (pc := 19) C (nI 2) dL_day_19 (by decide) ?_
      exact x_iret (pc := 20) C hQ dL_day_20 (Or.inr ⟨_, 1, h, rfl, rfl⟩) (by omega) (by omega)
  · obtain ⟨hI2, hc⟩ := hP _ _ _ _ _ h
    have hv : ∃ v, r = some (aI v) := by
      rcases hc with ⟨v, e⟩ | e | e
      · cases e; exact ⟨v, rfl⟩
      · cases e
      · cases e
    obtain ⟨v, rfl⟩ := hv
    refine x_i2l (pc := 8) C dL_day_8 ?_
    refine x_last (pc := 9) (o := 210) C dL_day_9 (hI2 210 rfl) ⟨rfl, rfl⟩ ?_
    refine x_goto (pc := 10) (tgt := 21) C dL_day_10 (by decide) ?_
    refine x_iconst (pc := 21) C (0) dL_day_21 (by decide) ?_
    exact x_iret (pc := 22) C hQ dL_day_22 (Or.inl ⟨v, L2, h, rfl, rfl⟩) (by omega) (by omega)
set_option maxRecDepth 100000 in
set_option maxHeartbeats 4000000 in
theorem c_L_count {l : Launch} {V : VV} {L : LL} {N : NN} {I : List Nat} (hI : PI I) {D1 mc ms : Nat} {P : PP} (p0 : Int32) (hR : Runs l D1 mc ms yX6_count (Cond.code yX6_count cX6_count 2 (some .int)) [aR 0, aI p0] V L N I P) (hP : ∀ r V2 L2 N2 I2, P r V2 L2 N2 I2 → PI I2 ∧ ((∃ v, r = .inl (some (aI v))) ∨ r = .inr "java/lang/IllegalArgumentException")) :
    Runs l (D1 + 1) mc ms yL_count (Cond.codeWith yL_count cL_count 4 (some .int) [(0, 9, 12, 15)]) [aR 0, aI p0, aR 210] V L N I (LwP P ["java/lang/IllegalArgumentException"]) := by
  refine run_ofW RL (by decide +kernel) rfl (Nat.le_of_ble_eq_true rfl) (fun E hE C hQ hT => ?_)
  subst hE
  refine x_aload_n (pc := 0) C dL_count_0 rfl ?_
  refine x_iconst (pc := 1) C (0) dL_count_1 (by decide) ?_
  refine x_aload_n (pc := 2) C dL_count_2 rfl ?_
  refine x_iload_n (pc := 3) C dL_count_3 rfl ?_
  refine x_callV (pc := 4) (o := 0) (As := [aI p0]) (st := [aI 0, aR 210]) C v_L_63 dL_count_4 hR (hI 0 rfl) rfl rfl (Nat.le_refl _) (okB_s rfl) (by decide) ⟨by omega, by omega⟩ (fun X V2 L2 N2 I2 h => ?_) (fun r V2 L2 N2 I2 h => ?_)
  · obtain ⟨hI2, hc⟩ := hP _ _ _ _ _ h
    rcases hc with ⟨v, e⟩ | e
    · cases e
    · cases e
      refine x_catch C hT [] (⟨0, 9, 12, 15⟩ : ExceptionTableEntry) [] rfl (fun z hz => absurd hz List.not_mem_nil) (by decide) (by decide) (u0_in 572 (by decide +kernel) rfl) (List.mem_of_getElem? (i := 572) (by decide +kernel)) (fun q => ?_)
      refine y_astore_nq (pc := 12) C dL_count_12 (by decide) rfl ?_
      refine x_iconst (pc := 13) C (nI 1) dL_count_13 (by decide) ?_
      exact x_iret (pc := 14) C hQ dL_count_14 (Or.inr ⟨_, 0, h, rfl, rfl⟩) (by omega) (by omega)
  · obtain ⟨hI2, hc⟩ := hP _ _ _ _ _ h
    have hv : ∃ v, r = some (aI v) := by
      rcases hc with ⟨v, e⟩ | e
      · cases e; exact ⟨v, rfl⟩
      · cases e
    obtain ⟨v, rfl⟩ := hv
    refine x_i2l (pc := 7) C dL_count_7 ?_
    refine x_last (pc := 8) (o := 210) C dL_count_8 (hI2 210 rfl) ⟨rfl, rfl⟩ ?_
    refine x_goto (pc := 9) (tgt := 15) C dL_count_9 (by decide) ?_
    refine x_iconst (pc := 15) C (0) dL_count_15 (by decide) ?_
    exact x_iret (pc := 16) C hQ dL_count_16 (Or.inl ⟨v, L2, h, rfl, rfl⟩) (by omega) (by omega)
set_option maxRecDepth 100000 in
set_option maxHeartbeats 4000000 in
theorem c_L_setting {l : Launch} {V : VV} {L : LL} {N : NN} {I : List Nat} (hI : PI I) {D1 mc ms : Nat} {P : PP} (p0 : Int32) (hR : Runs l D1 mc ms yX6_setting (Cond.code yX6_setting cX6_setting 2 (some .int)) [aR 0, aI p0] V L N I P) (hP : ∀ r V2 L2 N2 I2, P r V2 L2 N2 I2 → PI I2 ∧ ((∃ v, r = .inl (some (aI v))) ∨ r = .inr "java/lang/IndexOutOfBoundsException")) :
    Runs l (D1 + 1) mc ms yL_setting (Cond.codeWith yL_setting cL_setting 4 (some .int) [(0, 9, 12, 13)]) [aR 0, aI p0, aR 210] V L N I (LwP P ["java/lang/IndexOutOfBoundsException"]) := by
  refine run_ofW RL (by decide +kernel) rfl (Nat.le_of_ble_eq_true rfl) (fun E hE C hQ hT => ?_)
  subst hE
  refine x_aload_n (pc := 0) C dL_setting_0 rfl ?_
  refine x_iconst (pc := 1) C (0) dL_setting_1 (by decide) ?_
  refine x_aload_n (pc := 2) C dL_setting_2 rfl ?_
  refine x_iload_n (pc := 3) C dL_setting_3 rfl ?_
  refine x_callV (pc := 4) (o := 0) (As := [aI p0]) (st := [aI 0, aR 210]) C v_L_66 dL_setting_4 hR (hI 0 rfl) rfl rfl (Nat.le_refl _) (okB_s rfl) (by decide) ⟨by omega, by omega⟩ (fun X V2 L2 N2 I2 h => ?_) (fun r V2 L2 N2 I2 h => ?_)
  · obtain ⟨hI2, hc⟩ := hP _ _ _ _ _ h
    rcases hc with ⟨v, e⟩ | e
    · cases e
    · cases e
      refine x_catch C hT [] (⟨0, 9, 12, 13⟩ : ExceptionTableEntry) [] rfl (fun z hz => absurd hz List.not_mem_nil) (by decide) (by decide) (u0_in 571 (by decide +kernel) rfl) (List.mem_of_getElem? (i := 500) (by decide +kernel)) (fun q => ?_)
      refine y_astore_nq (pc := 12) C dL_setting_12 (by decide) rfl ?_
      refine x_iconst (pc := 13) C (nI 1) dL_setting_13 (by decide) ?_
      exact x_iret (pc := 14) C hQ dL_setting_14 (Or.inr ⟨_, 0, h, rfl, rfl⟩) (by omega) (by omega)
  · obtain ⟨hI2, hc⟩ := hP _ _ _ _ _ h
    have hv : ∃ v, r = some (aI v) := by
      rcases hc with ⟨v, e⟩ | e
      · cases e; exact ⟨v, rfl⟩
      · cases e
    obtain ⟨v, rfl⟩ := hv
    refine x_i2l (pc := 7) C dL_setting_7 ?_
    refine x_last (pc := 8) (o := 210) C dL_setting_8 (hI2 210 rfl) ⟨rfl, rfl⟩ ?_
    refine x_goto (pc := 9) (tgt := 15) C dL_setting_9 (by decide) ?_
    refine x_iconst (pc := 15) C (0) dL_setting_15 (by decide) ?_
    exact x_iret (pc := 16) C hQ dL_setting_16 (Or.inl ⟨v, L2, h, rfl, rfl⟩) (by omega) (by omega)
set_option maxRecDepth 100000 in
set_option maxHeartbeats 4000000 in
theorem c_L_why {l : Launch} {V : VV} {L : LL} {N : NN} {I : List Nat} (hI : PI I) {D1 mc ms : Nat} {P : PP} (p0 p1 p2 p3 : Int32) (hR : Runs l D1 mc ms yX6_why (Cond.code yX6_why cX6_why 5 (some .int)) [aR 0, aI p0, aI p1, aI p2, aI p3] V L N I P) (hP : ∀ r V2 L2 N2 I2, P r V2 L2 N2 I2 → PI I2 ∧ ((∃ v, r = .inl (some (aI v))) ∨ r = .inr "java/lang/IllegalArgumentException")) :
    Runs l (D1 + 1) mc ms yL_why (Cond.codeWith yL_why cL_why 7 (some .int) [(0, 14, 17, 15)]) [aR 0, aI p0, aI p1, aI p2, aI p3, aR 210] V L N I (LwP P ["java/lang/IllegalArgumentException"]) := by
  refine run_ofW RL (by decide +kernel) rfl (Nat.le_of_ble_eq_true rfl) (fun E hE C hQ hT => ?_)
  subst hE
  refine x_aload (pc := 0) C dL_why_0 rfl ?_
  refine x_iconst (pc := 2) C (0) dL_why_2 (by decide) ?_
  refine x_aload_n (pc := 3) C dL_why_3 rfl ?_
  refine x_iload_n (pc := 4) C dL_why_4 rfl ?_
  refine x_iload_n (pc := 5) C dL_why_5 rfl ?_
  refine x_iload_n (pc := 6) C dL_why_6 rfl ?_
  refine x_iload (pc := 7) C dL_why_7 rfl ?_
  refine x_callV (pc := 9) (o := 0) (As := [aI p0, aI p1, aI p2, aI p3]) (st := [aI 0, aR 210]) C v_L_69 dL_why_9 hR (hI 0 rfl) rfl rfl (Nat.le_refl _) (okB_s rfl) (by decide) ⟨by omega, by omega⟩ (fun X V2 L2 N2 I2 h => ?_) (fun r V2 L2 N2 I2 h => ?_)
  · obtain ⟨hI2, hc⟩ := hP _ _ _ _ _ h
    rcases hc with ⟨v, e⟩ | e
    · cases e
    · cases e
      refine x_catch C hT [] (⟨0, 14, 17, 15⟩ : ExceptionTableEntry) [] rfl (fun z hz => absurd hz List.not_mem_nil) (by decide) (by decide) (u0_in 572 (by decide +kernel) rfl) (List.mem_of_getElem? (i := 572) (by decide +kernel)) (fun q => ?_)
      refine y_astoreq (pc := 17) C dL_why_17 (by decide) rfl ?_
      refine x_iconst (pc := 19) C (nI 1) dL_why_19 (by decide) ?_
      exact x_iret (pc := 20) C hQ dL_why_20 (Or.inr ⟨_, 0, h, rfl, rfl⟩) (by omega) (by omega)
  · obtain ⟨hI2, hc⟩ := hP _ _ _ _ _ h
    have hv : ∃ v, r = some (aI v) := by
      rcases hc with ⟨v, e⟩ | e
      · cases e; exact ⟨v, rfl⟩
      · cases e
    obtain ⟨v, rfl⟩ := hv
    refine x_i2l (pc := 12) C dL_why_12 ?_
    refine x_last (pc := 13) (o := 210) C dL_why_13 (hI2 210 rfl) ⟨rfl, rfl⟩ ?_
    refine x_goto (pc := 14) (tgt := 21) C dL_why_14 (by decide) ?_
    refine x_iconst (pc := 21) C (0) dL_why_21 (by decide) ?_
    exact x_iret (pc := 22) C hQ dL_why_22 (Or.inl ⟨v, L2, h, rfl, rfl⟩) (by omega) (by omega)
set_option maxRecDepth 100000 in
set_option maxHeartbeats 4000000 in
theorem c_L_firstTime {l : Launch} {V : VV} {L : LL} {N : NN} {I : List Nat} (hI : PI I) {D1 mc ms : Nat} {P : PP} (p0 p1 p2 : Int32) (hR : Runs l D1 mc ms yX6_firstTime (Cond.code yX6_firstTime cX6_firstTime 4 (some .int)) [aR 0, aI p0, aI p1, aI p2] V L N I P) (hP : ∀ r V2 L2 N2 I2, P r V2 L2 N2 I2 → PI I2 ∧ ((∃ v, r = .inl (some (aI v))) ∨ r = .inr "java/lang/IllegalArgumentException")) :
    Runs l (D1 + 1) mc ms yL_firstTime (Cond.codeWith yL_firstTime cL_firstTime 6 (some .int) [(0, 12, 15, 15)]) [aR 0, aI p0, aI p1, aI p2, aR 210] V L N I (LwP P ["java/lang/IllegalArgumentException"]) := by
  refine run_ofW RL (by decide +kernel) rfl (Nat.le_of_ble_eq_true rfl) (fun E hE C hQ hT => ?_)
  subst hE
  refine x_aload (pc := 0) C dL_firstTime_0 rfl ?_
  refine x_iconst (pc := 2) C (0) dL_firstTime_2 (by decide) ?_
  refine x_aload_n (pc := 3) C dL_firstTime_3 rfl ?_
  refine x_iload_n (pc := 4) C dL_firstTime_4 rfl ?_
  refine x_iload_n (pc := 5) C dL_firstTime_5 rfl ?_
  refine x_iload_n (pc := 6) C dL_firstTime_6 rfl ?_
  refine x_callV (pc := 7) (o := 0) (As := [aI p0, aI p1, aI p2]) (st := [aI 0, aR 210]) C v_L_73 dL_firstTime_7 hR (hI 0 rfl) rfl rfl (Nat.le_refl _) (okB_s rfl) (by decide) ⟨by omega, by omega⟩ (fun X V2 L2 N2 I2 h => ?_) (fun r V2 L2 N2 I2 h => ?_)
  · obtain ⟨hI2, hc⟩ := hP _ _ _ _ _ h
    rcases hc with ⟨v, e⟩ | e
    · cases e
    · cases e
      refine x_catch C hT [] (⟨0, 12, 15, 15⟩ : ExceptionTableEntry) [] rfl (fun z hz => absurd hz List.not_mem_nil) (by decide) (by decide) (u0_in 572 (by decide +kernel) rfl) (List.mem_of_getElem? (i := 572) (by decide +kernel)) (fun q => ?_)
      refine y_astoreq (pc := 15) C dL_firstTime_15 (by decide) rfl ?_
      refine x_iconst (pc := 17) C (nI 1) dL_firstTime_17 (by decide) ?_
      exact x_iret (pc := 18) C hQ dL_firstTime_18 (Or.inr ⟨_, 0, h, rfl, rfl⟩) (by omega) (by omega)
  · obtain ⟨hI2, hc⟩ := hP _ _ _ _ _ h
    have hv : ∃ v, r = some (aI v) := by
      rcases hc with ⟨v, e⟩ | e
      · cases e; exact ⟨v, rfl⟩
      · cases e
    obtain ⟨v, rfl⟩ := hv
    refine x_i2l (pc := 10) C dL_firstTime_10 ?_
    refine x_last (pc := 11) (o := 210) C dL_firstTime_11 (hI2 210 rfl) ⟨rfl, rfl⟩ ?_
    refine x_goto (pc := 12) (tgt := 19) C dL_firstTime_12 (by decide) ?_
    refine x_iconst (pc := 19) C (0) dL_firstTime_19 (by decide) ?_
    exact x_iret (pc := 20) C hQ dL_firstTime_20 (Or.inl ⟨v, L2, h, rfl, rfl⟩) (by omega) (by omega)
set_option maxRecDepth 100000 in
set_option maxHeartbeats 4000000 in
theorem c_L_firstRepeat {l : Launch} {V : VV} {L : LL} {N : NN} {I : List Nat} (hI : PI I) {D1 mc ms : Nat} {P : PP} (p0 : Int32) (hR : Runs l D1 mc ms yX6_firstRepeat (Cond.code yX6_firstRepeat cX6_firstRepeat 2 (some .int)) [aR 0, aI p0] V L N I P) (hP : ∀ r V2 L2 N2 I2, P r V2 L2 N2 I2 → PI I2 ∧ ((∃ v, r = .inl (some (aI v))) ∨ r = .inr "java/lang/IndexOutOfBoundsException")) :
    Runs l (D1 + 1) mc ms yL_firstRepeat (Cond.codeWith yL_firstRepeat cL_firstRepeat 4 (some .int) [(0, 9, 12, 13)]) [aR 0, aI p0, aR 210] V L N I (LwP P ["java/lang/IndexOutOfBoundsException"]) := by
  refine run_ofW RL (by decide +kernel) rfl (Nat.le_of_ble_eq_true rfl) (fun E hE C hQ hT => ?_)
  subst hE
  refine x_aload_n (pc := 0) C dL_firstRepeat_0 rfl ?_
  refine x_iconst (pc := 1) C (0) dL_firstRepeat_1 (by decide) ?_
  refine x_aload_n (pc := 2) C dL_firstRepeat_2 rfl ?_
  refine x_iload_n (pc := 3) C dL_firstRepeat_3 rfl ?_
  refine x_callV (pc := 4) (o := 0) (As := [aI p0]) (st := [aI 0, aR 210]) C v_L_76 dL_firstRepeat_4 hR (hI 0 rfl) rfl rfl (Nat.le_refl _) (okB_s rfl) (by decide) ⟨by omega, by omega⟩ (fun X V2 L2 N2 I2 h => ?_) (fun r V2 L2 N2 I2 h => ?_)
  · obtain ⟨hI2, hc⟩ := hP _ _ _ _ _ h
    rcases hc with ⟨v, e⟩ | e
    · cases e
    · cases e
      refine x_catch C hT [] (⟨0, 9, 12, 13⟩ : ExceptionTableEntry) [] rfl (fun z hz => absurd hz List.not_mem_nil) (by decide) (by decide) (u0_in 571 (by decide +kernel) rfl) (List.mem_of_getElem? (i := 500) (by decide +kernel)) (fun q => ?_)
      refine y_astore_nq (pc := 12) C dL_firstRepeat_12 (by decide) rfl ?_
      refine x_iconst (pc := 13) C (nI 1) dL_firstRepeat_13 (by decide) ?_
      exact x_iret (pc := 14) C hQ dL_firstRepeat_14 (Or.inr ⟨_, 0, h, rfl, rfl⟩) (by omega) (by omega)
  · obtain ⟨hI2, hc⟩ := hP _ _ _ _ _ h
    have hv : ∃ v, r = some (aI v) := by
      rcases hc with ⟨v, e⟩ | e
      · cases e; exact ⟨v, rfl⟩
      · cases e
    obtain ⟨v, rfl⟩ := hv
    refine x_i2l (pc := 7) C dL_firstRepeat_7 ?_
    refine x_last (pc := 8) (o := 210) C dL_firstRepeat_8 (hI2 210 rfl) ⟨rfl, rfl⟩ ?_
    refine x_goto (pc := 9) (tgt := 15) C dL_firstRepeat_9 (by decide) ?_
    refine x_iconst (pc := 15) C (0) dL_firstRepeat_15 (by decide) ?_
    exact x_iret (pc := 16) C hQ dL_firstRepeat_16 (Or.inl ⟨v, L2, h, rfl, rfl⟩) (by omega) (by omega)
set_option maxRecDepth 100000 in
set_option maxHeartbeats 4000000 in
theorem c_L_ifOverrun {l : Launch} {V : VV} {L : LL} {N : NN} {I : List Nat} (hI : PI I) {D1 mc ms : Nat} {P : PP} (p0 p1 p2 : Int32) (hR : Runs l D1 mc ms yX6_ifOverrun (Cond.code yX6_ifOverrun cX6_ifOverrun 4 (some .int)) [aR 0, aI p0, aI p1, aI p2] V L N I P) (hP : ∀ r V2 L2 N2 I2, P r V2 L2 N2 I2 → PI I2 ∧ ((∃ v, r = .inl (some (aI v))) ∨ r = .inr "java/lang/IndexOutOfBoundsException" ∨ r = .inr "java/lang/IllegalArgumentException" ∨ r = .inr "java/lang/IllegalStateException")) :
    Runs l (D1 + 1) mc ms yL_ifOverrun (Cond.codeWith yL_ifOverrun cL_ifOverrun 6 (some .int) [(0, 12, 15, 13), (0, 12, 19, 15), (0, 12, 23, 24)]) [aR 0, aI p0, aI p1, aI p2, aR 210] V L N I (LwP P ["java/lang/IndexOutOfBoundsException", "java/lang/IllegalArgumentException", "java/lang/IllegalStateException"]) := by
  refine run_ofW RL (by decide +kernel) rfl (Nat.le_of_ble_eq_true rfl) (fun E hE C hQ hT => ?_)
  subst hE
  refine x_aload (pc := 0) C dL_ifOverrun_0 rfl ?_
  refine x_iconst (pc := 2) C (0) dL_ifOverrun_2 (by decide) ?_
  refine x_aload_n (pc := 3) C dL_ifOverrun_3 rfl ?_
  refine x_iload_n (pc := 4) C dL_ifOverrun_4 rfl ?_
  refine x_iload_n (pc := 5) C dL_ifOverrun_5 rfl ?_
  refine x_iload_n (pc := 6) C dL_ifOverrun_6 rfl ?_
  refine x_callV (pc := 7) (o := 0) (As := [aI p0, aI p1, aI p2]) (st := [aI 0, aR 210]) C v_L_79 dL_ifOverrun_7 hR (hI 0 rfl) rfl rfl (Nat.le_refl _) (okB_s rfl) (by decide) ⟨by omega, by omega⟩ (fun X V2 L2 N2 I2 h => ?_) (fun r V2 L2 N2 I2 h => ?_)
  · obtain ⟨hI2, hc⟩ := hP _ _ _ _ _ h
    rcases hc with ⟨v, e⟩ | e | e | e
    · cases e
    · cases e
      refine x_catch C hT [] (⟨0, 12, 15, 13⟩ : ExceptionTableEntry) [(⟨0, 12, 19, 15⟩ : ExceptionTableEntry), (⟨0, 12, 23, 24⟩ : ExceptionTableEntry)] rfl (fun z hz => absurd hz List.not_mem_nil) (by decide) (by decide) (u0_in 571 (by decide +kernel) rfl) (List.mem_of_getElem? (i := 500) (by decide +kernel)) (fun q => ?_)
      refine y_astoreq (pc := 15) C dL_ifOverrun_15 (by decide) rfl ?_
      refine x_iconst (pc := 17) C (nI 1) dL_ifOverrun_17 (by decide) ?_
      exact x_iret (pc := 18) C hQ dL_ifOverrun_18 (Or.inr ⟨_, 0, h, rfl, rfl⟩) (by omega) (by omega)
    · cases e
      refine x_catch C hT [(⟨0, 12, 15, 13⟩ : ExceptionTableEntry)] (⟨0, 12, 19, 15⟩ : ExceptionTableEntry) [(⟨0, 12, 23, 24⟩ : ExceptionTableEntry)] rfl (fun z hz => by
        simp only [List.mem_cons, List.not_mem_nil, or_false] at hz
        rcases hz with rfl
        · exact ⟨by decide, "java/lang/IndexOutOfBoundsException", u0_in 571 (by decide +kernel) rfl, by decide⟩) (by decide) (by decide) (u0_in 572 (by decide +kernel) rfl) (List.mem_of_getElem? (i := 572) (by decide +kernel)) (fun q => ?_)
      refine y_astoreq (pc := 19) C dL_ifOverrun_19 (by decide) rfl ?_
      refine x_iconst (pc := 21) C (nI 2) dL_ifOverrun_21 (by decide) ?_
      exact x_iret (pc := 22) C hQ dL_ifOverrun_22 (Or.inr ⟨_, 1, h, rfl, rfl⟩) (by omega) (by omega)
    · cases e
      refine x_catch C hT [(⟨0, 12, 15, 13⟩ : ExceptionTableEntry), (⟨0, 12, 19, 15⟩ : ExceptionTableEntry)] (⟨0, 12, 23, 24⟩ : ExceptionTableEntry) [] rfl (fun z hz => by
        simp only [List.mem_cons, List.not_mem_nil, or_false] at hz
        rcases hz with rfl | rfl
        · exact ⟨by decide, "java/lang/IndexOutOfBoundsException", u0_in 571 (by decide +kernel) rfl, by decide⟩
        · exact ⟨by decide, "java/lang/IllegalArgumentException", u0_in 572 (by decide +kernel) rfl, by decide⟩) (by decide) (by decide) (u0_in 690 (by decide +kernel) rfl) (List.mem_of_getElem? (i := 637) (by decide +kernel)) (fun q => ?_)
      refine y_astoreq (pc := 23) C dL_ifOverrun_23 (by decide) rfl ?_
      refine x_iconst (pc := 25) C (nI 3) dL_ifOverrun_25 (by decide) ?_
      exact x_iret (pc := 26) C hQ dL_ifOverrun_26 (Or.inr ⟨_, 2, h, rfl, rfl⟩) (by omega) (by omega)
  · obtain ⟨hI2, hc⟩ := hP _ _ _ _ _ h
    have hv : ∃ v, r = some (aI v) := by
      rcases hc with ⟨v, e⟩ | e | e | e
      · cases e; exact ⟨v, rfl⟩
      · cases e
      · cases e
      · cases e
    obtain ⟨v, rfl⟩ := hv
    refine x_i2l (pc := 10) C dL_ifOverrun_10 ?_
    refine x_last (pc := 11) (o := 210) C dL_ifOverrun_11 (hI2 210 rfl) ⟨rfl, rfl⟩ ?_
    refine x_goto (pc := 12) (tgt := 27) C dL_ifOverrun_12 (by decide) ?_
    refine x_iconst (pc := 27) C (0) dL_ifOverrun_27 (by decide) ?_
    exact x_iret (pc := 28) C hQ dL_ifOverrun_28 (Or.inl ⟨v, L2, h, rfl, rfl⟩) (by omega) (by omega)
set_option maxRecDepth 100000 in
set_option maxHeartbeats 4000000 in
theorem c_L_greatestOverrun {l : Launch} {V : VV} {L : LL} {N : NN} {I : List Nat} (hI : PI I) {D1 mc ms : Nat} {P : PP} (p0 : Int32) (hR : Runs l D1 mc ms yX6_greatestOverrun (Cond.code yX6_greatestOverrun cX6_greatestOverrun 2 (some .int)) [aR 0, aI p0] V L N I P) (hP : ∀ r V2 L2 N2 I2, P r V2 L2 N2 I2 → PI I2 ∧ ((∃ v, r = .inl (some (aI v))) ∨ r = .inr "java/lang/IndexOutOfBoundsException" ∨ r = .inr "java/lang/IllegalStateException")) :
    Runs l (D1 + 1) mc ms yL_greatestOverrun (Cond.codeWith yL_greatestOverrun cL_greatestOverrun 4 (some .int) [(0, 9, 12, 13), (0, 9, 15, 24)]) [aR 0, aI p0, aR 210] V L N I (LwP P ["java/lang/IndexOutOfBoundsException", "java/lang/IllegalStateException"]) := by
  refine run_ofW RL (by decide +kernel) rfl (Nat.le_of_ble_eq_true rfl) (fun E hE C hQ hT => ?_)
  subst hE
  refine x_aload_n (pc := 0) C dL_greatestOverrun_0 rfl ?_
  refine x_iconst (pc := 1) C (0) dL_greatestOverrun_1 (by decide) ?_
  refine x_aload_n (pc := 2) C dL_greatestOverrun_2 rfl ?_
  refine x_iload_n (pc := 3) C dL_greatestOverrun_3 rfl ?_
  refine x_callV (pc := 4) (o := 0) (As := [aI p0]) (st := [aI 0, aR 210]) C v_L_82 dL_greatestOverrun_4 hR (hI 0 rfl) rfl rfl (Nat.le_refl _) (okB_s rfl) (by decide) ⟨by omega, by omega⟩ (fun X V2 L2 N2 I2 h => ?_) (fun r V2 L2 N2 I2 h => ?_)
  · obtain ⟨hI2, hc⟩ := hP _ _ _ _ _ h
    rcases hc with ⟨v, e⟩ | e | e
    · cases e
    · cases e
      refine x_catch C hT [] (⟨0, 9, 12, 13⟩ : ExceptionTableEntry) [(⟨0, 9, 15, 24⟩ : ExceptionTableEntry)] rfl (fun z hz => absurd hz List.not_mem_nil) (by decide) (by decide) (u0_in 571 (by decide +kernel) rfl) (List.mem_of_getElem? (i := 500) (by decide +kernel)) (fun q => ?_)
      refine y_astore_nq (pc := 12) C dL_greatestOverrun_12 (by decide) rfl ?_
      refine x_iconst (pc := 13) C (nI 1) dL_greatestOverrun_13 (by decide) ?_
      exact x_iret (pc := 14) C hQ dL_greatestOverrun_14 (Or.inr ⟨_, 0, h, rfl, rfl⟩) (by omega) (by omega)
    · cases e
      refine x_catch C hT [(⟨0, 9, 12, 13⟩ : ExceptionTableEntry)] (⟨0, 9, 15, 24⟩ : ExceptionTableEntry) [] rfl (fun z hz => by
        simp only [List.mem_cons, List.not_mem_nil, or_false] at hz
        rcases hz with rfl
        · exact ⟨by decide, "java/lang/IndexOutOfBoundsException", u0_in 571 (by decide +kernel) rfl, by decide⟩) (by decide) (by decide) (u0_in 690 (by decide +kernel) rfl) (List.mem_of_getElem? (i := 637) (by decide +kernel)) (fun q => ?_)
      refine y_astore_nq (pc := 15) C dL_greatestOverrun_15 (by decide) rfl ?_
      refine x_iconst (pc := 16) C (nI 2) dL_greatestOverrun_16 (by decide) ?_
      exact x_iret (pc := 17) C hQ dL_greatestOverrun_17 (Or.inr ⟨_, 1, h, rfl, rfl⟩) (by omega) (by omega)
  · obtain ⟨hI2, hc⟩ := hP _ _ _ _ _ h
    have hv : ∃ v, r = some (aI v) := by
      rcases hc with ⟨v, e⟩ | e | e
      · cases e; exact ⟨v, rfl⟩
      · cases e
      · cases e
    obtain ⟨v, rfl⟩ := hv
    refine x_i2l (pc := 7) C dL_greatestOverrun_7 ?_
    refine x_last (pc := 8) (o := 210) C dL_greatestOverrun_8 (hI2 210 rfl) ⟨rfl, rfl⟩ ?_
    refine x_goto (pc := 9) (tgt := 18) C dL_greatestOverrun_9 (by decide) ?_
    refine x_iconst (pc := 18) C (0) dL_greatestOverrun_18 (by decide) ?_
    exact x_iret (pc := 19) C hQ dL_greatestOverrun_19 (Or.inl ⟨v, L2, h, rfl, rfl⟩) (by omega) (by omega)
