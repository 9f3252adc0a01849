/-- the history, as the class has it -/
def HH (V : VV) (N : NN) (I : List Nat) (o m : Nat) : Prop := IN N I ∧ V 1 1 = nI o ∧ o < 6 ∧ V 1 2 = nI m ∧ m ≤ 6
theorem svP_lt {o m : Nat} : svP o m < 6 := by unfold svP; omega
theorem SavP.no {V V1 : VV} {N N1 : NN} {o m i : Nat} (h : SavP V N o m V1 N1) (hi : i < 40 ∨ 157 ≤ i) (h1 : i ≠ 1) : V1 i = V i := by
  have hp := svP_lt (o := o) (m := m)
  exact funext fun j => h.1 i j (by omega) (by omega)
/-- behind a saving, f of the memory -/
def SvR (V : VV) (L : LL) (N : NN) (o m : Nat) (f : VV → VV) (r : Int32) : PP := fun r1 V2 L2 N2 I2 => ∃ V1, SavP V N o m V1 N2 ∧ V2 = f V1 ∧ r1 = .inl (some (aI r)) ∧ L2 = L ∧ IN N2 I2
section
variable {E : EE} {own : String} {cc : ByteArray} {ret : Option FieldType} {nL D MC MS pc : Nat} {ls : zLS} {st : List AV} {V : VV} {L : LL} {N : NN} {I : List Nat} {a b : Nat}
theorem x_save (C : OK E own cc nL ret D MC MS) {idx o m : Nat} (d : decode cc pc = .ok (.invokevirtual idx, 3)) (w : CVk own idx 2 1 yX2_save cX2_save 3 none) (hH : HH V N I o m) (hDD : 3 + 1 ≤ D) (hok : okB ls st = true) (hroom : a + 15 ≤ MC ∧ b + 246 ≤ MS)
    (K : ∀ V1 N1 I1, SavP V N o m V1 N1 → IN N1 I1 → Wx E (pc + 3) ls st V1 L N1 I1 (a + 15) (b + 246)) : Wx E pc ls (aR 20 :: aR 1 :: st) V L N I a b :=
  x_callV (Post := SvC V L N o m) (As := [aR 20]) C w d (c_X2_save hH.1 hH.2.1 hH.2.2.1 hH.2.2.2.1 hH.2.2.2.2) (hH.1.1 1 rfl) rfl rfl hDD (okB_s hok) (okB_c hok) hroom (fun X V1 L1 N1 I1 h => by cases h.1) (fun r1 V1 L1 N1 I1 h => by obtain ⟨h1, h2, rfl, h4⟩ := h; cases h1; exact K V1 N1 I1 h2 h4)
end
set_option maxRecDepth 100000 in
set_option maxHeartbeats 4000000 in
theorem c_X6_set {l : Launch} {V : VV} {L : LL} {N : NN} {I : List Nat} {o m : Nat} (hH : HH V N I o m) (x y : Int32) : Runs l 6 15 246 yX6_set (Cond.code yX6_set cX6_set 4 (some .int)) [aR 0, aI x, aI y] V L N I (Ei (withinB x 0 7) "java/lang/IndexOutOfBoundsException" (Ei (isValB x.toNatClampNeg y) "java/lang/IllegalArgumentException" (SvR V L N o m (fun V1 => up V1 21 x.toNatClampNeg y) (V 21 x.toNatClampNeg)) V L N I) V L N I) := by
  refine run_of RX6 (by decide +kernel) rfl (Nat.le_of_ble_eq_true rfl) (fun E hE C hQ hN => ?_)
  subst hE
  have hI := hH.1.1
  refine x_iload_n (pc := 0) C dX6_set_0 rfl ?_
  refine x_iconst (pc := 1) C (0) dX6_set_1 (by decide) ?_
  refine x_bipush (pc := 2) C (7) dX6_set_2 (by decide) ?_
  refine x_cS3 (pc := 4) C s_X6_51 dX6_set_4 (c_X6_isWithin _ _ _) (by decide) rfl ⟨by decide, by decide⟩ ?_
  refine x_if_ne (pc := 7) (tgt := 20) C dX6_set_7 (by decide) (fun h7 => ?_) (fun h7 => ?_)
  · have hw := b2i_t h7
    obtain ⟨s, hs, rfl⟩ := win_of (k := 7) (by decide) hw
    have hcl : (nI s).toNatClampNeg = s := nI_clamp (by omega)
    refine x_iload_n (pc := 20) C dX6_set_20 rfl ?_
    refine x_gets (pc := 21) (j := 0) C (by decide) g_X6_62 dX6_set_21 (fun t1 ht1 => ?_)
    refine x_iload_n (pc := 24) C dX6_set_24 rfl ?_
    refine x_tld (pc := 25) C ht1 dX6_set_25 (by omega) ?_
    refine x_gets (pc := 26) (j := 1) C (by decide) g_X6_66 dX6_set_26 (fun t2 ht2 => ?_)
    refine x_iload_n (pc := 29) C dX6_set_29 rfl ?_
    refine x_tld (pc := 30) C ht2 dX6_set_30 (by omega) ?_
    refine x_cS3 (pc := 31) C s_X6_51 dX6_set_31 (c_X6_isWithin _ _ _) (by decide) rfl ⟨by decide, by decide⟩ ?_
    refine x_if_ne (pc := 34) (tgt := 47) C dX6_set_34 (by decide) (fun h34 => ?_) (fun h34 => ?_)
    · have hw2 : isValB s y = true := b2i_t h34
      refine x_aload_n (pc := 47) C dX6_set_47 rfl ?_
      refine x_getR (pc := 48) (o := 0) (j := 1) C f_X6_19 dX6_set_48 (hI 0 rfl) ⟨rfl, rfl⟩ ?_
      refine x_aload_n (pc := 51) C dX6_set_51 rfl ?_
      refine x_getR (pc := 52) (o := 0) (j := 20) C f_X6_10 dX6_set_52 (hI 0 rfl) ⟨rfl, rfl⟩ ?_
      refine x_save (pc := 55) C dX6_set_55 v_X6_74 hH (by decide) rfl ⟨by decide, by decide⟩ (fun V1 N1 I1 hs1 hIN1 => ?_)
      have hI := hIN1.1
      refine x_aload_n (pc := 58) C dX6_set_58 rfl ?_
      refine x_getR (pc := 59) (o := 0) (j := 20) C f_X6_10 dX6_set_59 (hI 0 rfl) ⟨rfl, rfl⟩ ?_
      refine x_getR (pc := 62) (o := 20) (j := 21) C f_X6_78 dX6_set_62 (hI 20 rfl) ⟨rfl, rfl⟩ ?_
      refine x_iload_n (pc := 65) C dX6_set_65 rfl ?_
      refine x_iald (pc := 66) (o := 21) C dX6_set_66 (hI 21 rfl) ⟨rfl, rfl⟩ (show _ < 8 by omega) (by decide) ?_
      refine y_istore_n (pc := 67) C dX6_set_67 (by decide) rfl ?_
      refine x_aload_n (pc := 68) C dX6_set_68 rfl ?_
      refine x_getR (pc := 69) (o := 0) (j := 20) C f_X6_10 dX6_set_69 (hI 0 rfl) ⟨rfl, rfl⟩ ?_
      refine x_getR (pc := 72) (o := 20) (j := 21) C f_X6_78 dX6_set_72 (hI 20 rfl) ⟨rfl, rfl⟩ ?_
      refine x_iload_n (pc := 75) C dX6_set_75 rfl ?_
      refine x_iload_n (pc := 76) C dX6_set_76 rfl ?_
      refine x_iast (pc := 77) (o := 21) C dX6_set_77 (hI 21 rfl) ⟨rfl, rfl⟩ (show _ < 8 by omega) (by decide) ?_
      refine x_iload_n (pc := 78) C dX6_set_78 rfl ?_
      exact x_iret (pc := 79) C hQ dX6_set_79 (ei_t hw (ei_t (by rw [hcl]; exact hw2) ⟨V1, hs1, by rw [hcl], by rw [hcl, hs1.no (Or.inl (by decide)) (by decide)], rfl, hIN1⟩)) (Nat.le_of_ble_eq_true rfl) (Nat.le_of_ble_eq_true rfl)
    · exact x_throw (pc := 37) C hQ hN t_X6_69_71_73 dX6_set_37 dX6_set_40 dX6_set_41 dX6_set_43 dX6_set_46 (by decide) rfl ⟨by decide, by decide, by decide, by decide⟩ (ei_t hw (ei_f (by rw [hcl]; exact b2i_f h34)))
  · exact x_throw (pc := 10) C hQ hN t_X6_55_57_59 dX6_set_10 dX6_set_13 dX6_set_14 dX6_set_16 dX6_set_19 (by decide) rfl ⟨by decide, by decide, by decide, by decide⟩ (ei_f (b2i_f h7))
set_option maxRecDepth 100000 in
set_option maxHeartbeats 4000000 in
theorem c_X6_setQuota {l : Launch} {V : VV} {L : LL} {N : NN} {I : List Nat} {o m : Nat} (hH : HH V N I o m) (x y : Int32) : Runs l 6 15 246 yX6_setQuota (Cond.code yX6_setQuota cX6_setQuota 4 (some .int)) [aR 0, aI x, aI y] V L N I (Ei (withinB x 0 5) "java/lang/IndexOutOfBoundsException" (Ei (withinB y 0 2000) "java/lang/IllegalArgumentException" (SvR V L N o m (fun V1 => up V1 22 x.toNatClampNeg y) (V 22 x.toNatClampNeg)) V L N I) V L N I) := by
  refine run_of RX6 (by decide +kernel) rfl (Nat.le_of_ble_eq_true rfl) (fun E hE C hQ hN => ?_)
  subst hE
  have hI := hH.1.1
  refine x_iload_n (pc := 0) C dX6_setQuota_0 rfl ?_
  refine x_iconst (pc := 1) C (0) dX6_setQuota_1 (by decide) ?_
  refine x_iconst (pc := 2) C (5) dX6_setQuota_2 (by decide) ?_
  refine x_cS3 (pc := 3) C s_X6_51 dX6_setQuota_3 (c_X6_isWithin _ _ _) (by decide) rfl ⟨by decide, by decide⟩ ?_
  refine x_if_ne (pc := 6) (tgt := 19) C dX6_setQuota_6 (by decide) (fun h6 => ?_) (fun h6 => ?_)
  · have hw := b2i_t h6
    obtain ⟨s, hs, rfl⟩ := win_of (k := 5) (by decide) hw
    have hcl : (nI s).toNatClampNeg = s := nI_clamp (by omega)
    refine x_iload_n (pc := 19) C dX6_setQuota_19 rfl ?_
    refine x_iconst (pc := 20) C (0) dX6_setQuota_20 (by decide) ?_
    refine x_sipush (pc := 21) C (2000) dX6_setQuota_21 (by decide) ?_
    refine x_cS3 (pc := 24) C s_X6_51 dX6_setQuota_24 (c_X6_isWithin _ _ _) (by decide) rfl ⟨by decide, by decide⟩ ?_
    refine x_if_ne (pc := 27) (tgt := 40) C dX6_setQuota_27 (by decide) (fun h27 => ?_) (fun h27 => ?_)
    · have hw2 := b2i_t h27
      refine x_aload_n (pc := 40) C dX6_setQuota_40 rfl ?_
      refine x_getR (pc := 41) (o := 0) (j := 1) C f_X6_19 dX6_setQuota_41 (hI 0 rfl) ⟨rfl, rfl⟩ ?_
      refine x_aload_n (pc := 44) C dX6_setQuota_44 rfl ?_
      refine x_getR (pc := 45) (o := 0) (j := 20) C f_X6_10 dX6_setQuota_45 (hI 0 rfl) ⟨rfl, rfl⟩ ?_
      refine x_save (pc := 48) C dX6_setQuota_48 v_X6_74 hH (by decide) rfl ⟨by decide, by decide⟩ (fun V1 N1 I1 hs1 hIN1 => ?_)
      have hI := hIN1.1
      refine x_aload_n (pc := 51) C dX6_setQuota_51 rfl ?_
      refine x_getR (pc := 52) (o := 0) (j := 20) C f_X6_10 dX6_setQuota_52 (hI 0 rfl) ⟨rfl, rfl⟩ ?_
      refine x_getR (pc := 55) (o := 20) (j := 22) C f_X6_85 dX6_setQuota_55 (hI 20 rfl) ⟨rfl, rfl⟩ ?_
      refine x_iload_n (pc := 58) C dX6_setQuota_58 rfl ?_
      refine x_iald (pc := 59) (o := 22) C dX6_setQuota_59 (hI 22 rfl) ⟨rfl, rfl⟩ (show _ < 6 by omega) (by decide) ?_
      refine y_istore_n (pc := 60) C dX6_setQuota_60 (by decide) rfl ?_
      refine x_aload_n (pc := 61) C dX6_setQuota_61 rfl ?_
      refine x_getR (pc := 62) (o := 0) (j := 20) C f_X6_10 dX6_setQuota_62 (hI 0 rfl) ⟨rfl, rfl⟩ ?_
      refine x_getR (pc := 65) (o := 20) (j := 22) C f_X6_85 dX6_setQuota_65 (hI 20 rfl) ⟨rfl, rfl⟩ ?_
      refine x_iload_n (pc := 68) C dX6_setQuota_68 rfl ?_
      refine x_iload_n (pc := 69) C dX6_setQuota_69 rfl ?_
      refine x_iast (pc := 70) (o := 22) C dX6_setQuota_70 (hI 22 rfl) ⟨rfl, rfl⟩ (show _ < 6 by omega) (by decide) ?_
      refine x_iload_n (pc := 71) C dX6_setQuota_71 rfl ?_
      exact x_iret (pc := 72) C hQ dX6_setQuota_72 (ei_t hw (ei_t hw2 ⟨V1, hs1, by rw [hcl], by rw [hcl, hs1.no (Or.inl (by decide)) (by decide)], rfl, hIN1⟩)) (Nat.le_of_ble_eq_true rfl) (Nat.le_of_ble_eq_true rfl)
    · exact x_throw (pc := 30) C hQ hN t_X6_69_83_73 dX6_setQuota_30 dX6_setQuota_33 dX6_setQuota_34 dX6_setQuota_36 dX6_setQuota_39 (by decide) rfl ⟨by decide, by decide, by decide, by decide⟩ (ei_t hw (ei_f (b2i_f h27)))
  · exact x_throw (pc := 9) C hQ hN t_X6_55_81_59 dX6_setQuota_9 dX6_setQuota_12 dX6_setQuota_13 dX6_setQuota_15 dX6_setQuota_18 (by decide) rfl ⟨by decide, by decide, by decide, by decide⟩ (ei_f (b2i_f h6))
set_option maxRecDepth 100000 in
set_option maxHeartbeats 4000000 in
theorem c_X6_overrun {l : Launch} {V : VV} {L : LL} {N : NN} {I : List Nat} {o m : Nat} (hH : HH V N I o m) {n : Nat} (hn : V 20 7 = nI n) (hn24 : n ≤ 24) (x y : Int32) : Runs l 6 15 246 yX6_overrun (Cond.code yX6_overrun cX6_overrun 4 (some .int)) [aR 0, aI x, aI y] V L N I (Ei (decide (¬ x < 0 ∧ x < nI n)) "java/lang/IndexOutOfBoundsException" (Ei (withinB y (-60) 120) "java/lang/IllegalArgumentException" (Ei (decide (V 29 x.toNatClampNeg = 0)) "java/lang/IllegalStateException" (SvR V L N o m (fun V1 => up V1 35 x.toNatClampNeg y) (V 35 x.toNatClampNeg)) V L N I) V L N I) V L N I) := by
  refine run_of RX6 (by decide +kernel) rfl (Nat.le_of_ble_eq_true rfl) (fun E hE C hQ hN => ?_)
  subst hE
  have hI := hH.1.1
  refine x_aload_n (pc := 0) C dX6_overrun_0 rfl ?_
  refine x_getR (pc := 1) (o := 0) (j := 20) C f_X6_10 dX6_overrun_1 (hI 0 rfl) ⟨rfl, rfl⟩ ?_
  refine x_iload_n (pc := 4) C dX6_overrun_4 rfl ?_
  refine x_cV1 (pc := 5) (o := 20) C v_X6_114 dX6_overrun_5 (c_X3_hasShow hI hn hn24 _) (hI 20 rfl) rfl (by decide) rfl ⟨by decide, by decide⟩ ?_
  refine x_if_ne (pc := 8) (tgt := 21) C dX6_overrun_8 (by decide) (fun h8 => ?_) (fun h8 => ?_)
  · have hw := b2i_t h8
    have hd := of_decide_eq_true hw
    obtain ⟨s, hs, hsl⟩ := nI_in_of hd.1 hd.2 hn24
    subst hs
    have hcl : (nI s).toNatClampNeg = s := nI_clamp (by omega)
    refine x_iload_n (pc := 21) C dX6_overrun_21 rfl ?_
    refine x_bipush (pc := 22) C (-60) dX6_overrun_22 (by decide) ?_
    refine x_bipush (pc := 24) C (120) dX6_overrun_24 (by decide) ?_
    refine x_cS3 (pc := 26) C s_X6_51 dX6_overrun_26 (c_X6_isWithin _ _ _) (by decide) rfl ⟨by decide, by decide⟩ ?_
    refine x_if_ne (pc := 29) (tgt := 42) C dX6_overrun_29 (by decide) (fun h29 => ?_) (fun h29 => ?_)
    · have hw2 := b2i_t h29
      refine x_aload_n (pc := 42) C dX6_overrun_42 rfl ?_
      refine x_getR (pc := 43) (o := 0) (j := 20) C f_X6_10 dX6_overrun_43 (hI 0 rfl) ⟨rfl, rfl⟩ ?_
      refine x_getR (pc := 46) (o := 20) (j := 29) C f_X6_124 dX6_overrun_46 (hI 20 rfl) ⟨rfl, rfl⟩ ?_
      refine x_iload_n (pc := 49) C dX6_overrun_49 rfl ?_
      refine x_iald (pc := 50) (o := 29) C dX6_overrun_50 (hI 29 rfl) ⟨rfl, rfl⟩ (show _ < 24 by omega) (by decide) ?_
      refine x_if_eq (pc := 51) (tgt := 64) C dX6_overrun_51 (by decide) (fun h51 => ?_) (fun h51 => ?_)
      · have hw3 : decide (V 29 (nI s).toNatClampNeg = 0) = true := decide_eq_true (by rw [hcl]; exact h51)
        refine x_aload_n (pc := 64) C dX6_overrun_64 rfl ?_
        refine x_getR (pc := 65) (o := 0) (j := 1) C f_X6_19 dX6_overrun_65 (hI 0 rfl) ⟨rfl, rfl⟩ ?_
        refine x_aload_n (pc := 68) C dX6_overrun_68 rfl ?_
        refine x_getR (pc := 69) (o := 0) (j := 20) C f_X6_10 dX6_overrun_69 (hI 0 rfl) ⟨rfl, rfl⟩ ?_
        refine x_save (pc := 72) C dX6_overrun_72 v_X6_74 hH (by decide) rfl ⟨by decide, by decide⟩ (fun V1 N1 I1 hs1 hIN1 => ?_)
        have hI := hIN1.1
        refine x_aload_n (pc := 75) C dX6_overrun_75 rfl ?_
        refine x_getR (pc := 76) (o := 0) (j := 20) C f_X6_10 dX6_overrun_76 (hI 0 rfl) ⟨rfl, rfl⟩ ?_
        refine x_getR (pc := 79) (o := 20) (j := 35) C f_X6_132 dX6_overrun_79 (hI 20 rfl) ⟨rfl, rfl⟩ ?_
        refine x_iload_n (pc := 82) C dX6_overrun_82 rfl ?_
        refine x_iald (pc := 83) (o := 35) C dX6_overrun_83 (hI 35 rfl) ⟨rfl, rfl⟩ (show _ < 24 by omega) (by decide) ?_
        refine y_istore_n (pc := 84) C dX6_overrun_84 (by decide) rfl ?_
        refine x_aload_n (pc := 85) C dX6_overrun_85 rfl ?_
        refine x_getR (pc := 86) (o := 0) (j := 20) C f_X6_10 dX6_overrun_86 (hI 0 rfl) ⟨rfl, rfl⟩ ?_
        refine x_getR (pc := 89) (o := 20) (j := 35) C f_X6_132 dX6_overrun_89 (hI 20 rfl) ⟨rfl, rfl⟩ ?_
        refine x_iload_n (pc := 92) C dX6_overrun_92 rfl ?_
        refine x_iload_n (pc := 93) C dX6_overrun_93 rfl ?_
        refine x_iast (pc := 94) (o := 35) C dX6_overrun_94 (hI 35 rfl) ⟨rfl, rfl⟩ (show _ < 24 by omega) (by decide) ?_
        refine x_iload_n (pc := 95) C dX6_overrun_95 rfl ?_
        exact x_iret (pc := 96) C hQ dX6_overrun_96 (ei_t hw (ei_t hw2 (ei_t hw3 ⟨V1, hs1, by rw [hcl], by rw [hcl, hs1.no (Or.inl (by decide)) (by decide)], rfl, hIN1⟩))) (Nat.le_of_ble_eq_true rfl) (Nat.le_of_ble_eq_true rfl)
      · exact x_throw (pc := 54) C hQ hN t_X6_127_129_131 dX6_overrun_54 dX6_overrun_57 dX6_overrun_58 dX6_overrun_60 dX6_overrun_63 (by decide) rfl ⟨by decide, by decide, by decide, by decide⟩ (ei_t hw (ei_t hw2 (ei_f (decide_eq_false (by rw [hcl]; exact h51)))))
    · exact x_throw (pc := 32) C hQ hN t_X6_69_122_73 dX6_overrun_32 dX6_overrun_35 dX6_overrun_36 dX6_overrun_38 dX6_overrun_41 (by decide) rfl ⟨by decide, by decide, by decide, by decide⟩ (ei_t hw (ei_f (b2i_f h29)))
  · exact x_throw (pc := 11) C hQ hN t_X6_55_110_59 dX6_overrun_11 dX6_overrun_14 dX6_overrun_15 dX6_overrun_17 dX6_overrun_20 (by decide) rfl ⟨by decide, by decide, by decide, by decide⟩ (ei_f (b2i_f h8))
set_option maxRecDepth 100000 in
set_option maxHeartbeats 4000000 in
theorem c_X6_remove {l : Launch} {V : VV} {L : LL} {N : NN} {I : List Nat} {o m : Nat} (hH : HH V N I o m) {n : Nat} (hn : V 20 7 = nI n) (hn24 : n ≤ 24) (x : Int32) : Runs l 6 15 246 yX6_remove (Cond.code yX6_remove cX6_remove 2 (some .int)) [aR 0, aI x] V L N I (Ei (decide (¬ x < 0 ∧ x < nI n)) "java/lang/IndexOutOfBoundsException" (fun r1 V2 L2 N2 I2 => ∃ V1, SavP V N o m V1 N2 ∧ V2 = delV (remL x.toNatClampNeg (n - 1 - x.toNatClampNeg) V1 n).1 ((remL x.toNatClampNeg (n - 1 - x.toNatClampNeg) V1 n).2 - 1) x.toNatClampNeg ∧ r1 = .inl (some (aI (nI n - nI ((remL x.toNatClampNeg (n - 1 - x.toNatClampNeg) V1 n).2 - 1)))) ∧ L2 = L ∧ IN N2 I2) V L N I) := by
  refine run_of RX6 (by decide +kernel) rfl (Nat.le_of_ble_eq_true rfl) (fun E hE C hQ hN => ?_)
  subst hE
  have hI := hH.1.1
  refine x_aload_n (pc := 0) C dX6_remove_0 rfl ?_
  refine x_getR (pc := 1) (o := 0) (j := 20) C f_X6_10 dX6_remove_1 (hI 0 rfl) ⟨rfl, rfl⟩ ?_
  refine x_iload_n (pc := 4) C dX6_remove_4 rfl ?_
  refine x_cV1 (pc := 5) (o := 20) C v_X6_114 dX6_remove_5 (c_X3_hasShow hI hn hn24 _) (hI 20 rfl) rfl (by decide) rfl ⟨by decide, by decide⟩ ?_
  refine x_if_ne (pc := 8) (tgt := 21) C dX6_remove_8 (by decide) (fun h8 => ?_) (fun h8 => ?_)
  · have hw := b2i_t h8
    have hd := of_decide_eq_true hw
    obtain ⟨s, hs, hsl⟩ := nI_in_of hd.1 hd.2 hn24
    subst hs
    have hcl : (nI s).toNatClampNeg = s := nI_clamp (by omega)
    refine x_aload_n (pc := 21) C dX6_remove_21 rfl ?_
    refine x_getR (pc := 22) (o := 0) (j := 1) C f_X6_19 dX6_remove_22 (hI 0 rfl) ⟨rfl, rfl⟩ ?_
    refine x_aload_n (pc := 25) C dX6_remove_25 rfl ?_
    refine x_getR (pc := 26) (o := 0) (j := 20) C f_X6_10 dX6_remove_26 (hI 0 rfl) ⟨rfl, rfl⟩ ?_
    refine x_save (pc := 29) C dX6_remove_29 v_X6_74 hH (by decide) rfl ⟨by decide, by decide⟩ (fun V1 N1 I1 hs1 hIN1 => ?_)
    have hI := hIN1.1
    refine x_aload_n (pc := 32) C dX6_remove_32 rfl ?_
    refine x_getR (pc := 33) (o := 0) (j := 20) C f_X6_10 dX6_remove_33 (hI 0 rfl) ⟨rfl, rfl⟩ ?_
    refine x_iload_n (pc := 36) C dX6_remove_36 rfl ?_
    refine x_cV1 (pc := 37) (o := 20) C v_X6_118 dX6_remove_37 (c_X3_takeOutWithRepeats (V := V1) hI (by rw [hs1.no (Or.inl (by decide)) (by decide)]; exact hn) hn24 s hsl) (hI 20 rfl) rfl (by decide) rfl ⟨by decide, by decide⟩ ?_
    exact x_iret (pc := 40) C hQ dX6_remove_40 (ei_t hw ⟨V1, hs1, by rw [hcl], by rw [hcl], rfl, hIN1⟩) (Nat.le_of_ble_eq_true rfl) (Nat.le_of_ble_eq_true rfl)
  · exact x_throw (pc := 11) C hQ hN t_X6_55_110_59 dX6_remove_11 dX6_remove_14 dX6_remove_15 dX6_remove_17 dX6_remove_20 (by decide) rfl ⟨by decide, by decide, by decide, by decide⟩ (ei_f (b2i_f h8))
set_option maxRecDepth 100000 in
set_option maxHeartbeats 4000000 in
theorem c_X6_undo {l : Launch} {V : VV} {L : LL} {N : NN} {I : List Nat} {o m : Nat} (hH : HH V N I o m) (hNr : 0 < m → N (rsP o m) = false) : Runs l 6 15 246 yX6_undo (Cond.code yX6_undo cX6_undo 1 (some .int)) [aR 0] V L N I (Ei (decide (0 < m)) "java/lang/IllegalStateException" (Is (some (aI (nI (m - 1)))) (cfV (up V 1 2 (nI (m - 1))) (40 + 20 * rsP o m) 20) L N I) V L N I) := by
  refine run_of RX6 (by decide +kernel) rfl (Nat.le_of_ble_eq_true rfl) (fun E hE C hQ hN => ?_)
  subst hE
  have hI := hH.1.1
  refine x_aload_n (pc := 0) C dX6_undo_0 rfl ?_
  refine x_getR (pc := 1) (o := 0) (j := 1) C f_X6_19 dX6_undo_1 (hI 0 rfl) ⟨rfl, rfl⟩ ?_
  refine x_getI (pc := 4) (o := 1) C f_X6_186 dX6_undo_4 (hI 1 rfl) ⟨rfl, rfl, rfl⟩ ?_
  refine x_topi (nI m) hH.2.2.2.1 ?_
  refine x_if_ne (pc := 7) (tgt := 20) C dX6_undo_7 (by decide) (fun h7 => ?_) (fun h7 => ?_)
  · have hm0 : 0 < m := Nat.pos_of_ne_zero (fun q => h7 (by rw [q]; rfl))
    refine x_aload_n (pc := 20) C dX6_undo_20 rfl ?_
    refine x_getR (pc := 21) (o := 0) (j := 1) C f_X6_19 dX6_undo_21 (hI 0 rfl) ⟨rfl, rfl⟩ ?_
    refine x_aload_n (pc := 24) C dX6_undo_24 rfl ?_
    refine x_getR (pc := 25) (o := 0) (j := 20) C f_X6_10 dX6_undo_25 (hI 0 rfl) ⟨rfl, rfl⟩ ?_
    refine x_cV1 (pc := 28) (o := 1) C v_X6_191 dX6_undo_28 (c_X2_restore hH.1 hH.2.1 hH.2.2.1 hH.2.2.2.1 hm0 hH.2.2.2.2 (hNr hm0)) (hI 1 rfl) rfl (by decide) rfl ⟨by decide, by decide⟩ ?_
    refine x_aload_n (pc := 31) C dX6_undo_31 rfl ?_
    refine x_getR (pc := 32) (o := 0) (j := 1) C f_X6_19 dX6_undo_32 (hI 0 rfl) ⟨rfl, rfl⟩ ?_
    refine x_getI (pc := 35) (o := 1) C f_X6_186 dX6_undo_35 (hI 1 rfl) ⟨rfl, rfl, rfl⟩ ?_
    refine x_topi (nI (m - 1)) (by rw [cf_no (by omega)]; exact up_ss) ?_
    exact x_iret (pc := 38) C hQ dX6_undo_38 (ei_t (decide_eq_true hm0) (is_iv rfl rfl)) (Nat.le_of_ble_eq_true rfl) (Nat.le_of_ble_eq_true rfl)
  · exact x_throw (pc := 10) C hQ hN t_X6_127_189_131 dX6_undo_10 dX6_undo_13 dX6_undo_14 dX6_undo_16 dX6_undo_19 (by decide) rfl ⟨by decide, by decide, by decide, by decide⟩ (ei_f (decide_eq_false (fun q => absurd ((nI_eq (a := m) (b := 0) (by have := hH.2.2.2.2; omega) (by decide)).mp h7) (by omega))))
