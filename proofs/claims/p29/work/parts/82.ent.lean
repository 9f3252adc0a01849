set_option maxRecDepth 100000 in
set_option maxHeartbeats 4000000 in
theorem c_X6_enterProposal {l : Launch} {V : VV} {L : LL} {N : NN} {I : List Nat} {o m : Nat} (hH : HH V N I o m) {n : Nat} (hn : V 20 7 = nI n) (hn24 : n ≤ 24) {g : Nat} {q : Nat} (hk : V 5 0 = 2 → V 5 6 = nI q ∧ q < n) (hg : V 5 1 = nI g) (hg6 : g < 6) : Runs l 6 15 246 yX6_enterProposal (Cond.code yX6_enterProposal cX6_enterProposal 1 (some .int)) [aR 0] V L N I (EpR V L N I o m n (rfS V n g q)) := by
  refine run_of RX6 (by decide +kernel) rfl (Nat.le_of_ble_eq_true rfl) (fun E hE C hQ hN => ?_)
  subst hE
  have hI := hH.1.1
  refine x_aload_n (pc := 0) C dX6_enterProposal_0 rfl ?_
  refine x_aload_n (pc := 1) C dX6_enterProposal_1 rfl ?_
  refine x_getR (pc := 2) (o := 0) (j := 20) C f_X6_10 dX6_enterProposal_2 (hI 0 rfl) ⟨rfl, rfl⟩ ?_
  refine x_aload_n (pc := 5) C dX6_enterProposal_5 rfl ?_
  refine x_getR (pc := 6) (o := 0) (j := 5) C f_X6_33 dX6_enterProposal_6 (hI 0 rfl) ⟨rfl, rfl⟩ ?_
  refine x_cV1 (pc := 9) (o := 20) C v_X6_224 dX6_enterProposal_9 (c_X3_refusal hI hn hn24 hk hg hg6) (hI 20 rfl) rfl (by decide) rfl ⟨by decide, by decide⟩ ?_
  refine x_topi (rfS V n g q) rfl ?_
  refine x_putI (pc := 12) (o := 0) C p_X6_47 dX6_enterProposal_12 (hI 0 rfl) ⟨rfl, rfl, rfl⟩ ?_
  refine x_aload_n (pc := 15) C dX6_enterProposal_15 rfl ?_
  refine x_getI (pc := 16) (o := 0) C f_X6_47 dX6_enterProposal_16 (hI 0 rfl) ⟨rfl, rfl, rfl⟩ ?_
  refine x_topi (rfS V n g q) up_ss ?_
  refine x_if_eq (pc := 19) (tgt := 33) C dX6_enterProposal_19 (by decide) (fun h19 => ?_) (fun h19 => ?_)
  · rw [h19]
    have hH : HH (up V 0 6 0) N I o m := hH
    refine x_aload_n (pc := 33) C dX6_enterProposal_33 rfl ?_
    refine x_getR (pc := 34) (o := 0) (j := 1) C f_X6_19 dX6_enterProposal_34 (hI 0 rfl) ⟨rfl, rfl⟩ ?_
    refine x_aload_n (pc := 37) C dX6_enterProposal_37 rfl ?_
    refine x_getR (pc := 38) (o := 0) (j := 20) C f_X6_10 dX6_enterProposal_38 (hI 0 rfl) ⟨rfl, rfl⟩ ?_
    refine x_save (pc := 41) C dX6_enterProposal_41 v_X6_74 hH (by decide) rfl ⟨by decide, by decide⟩ (fun V1 N1 I1 hs1 hIN1 => ?_)
    have hI := hIN1.1
    refine x_aload_n (pc := 44) C dX6_enterProposal_44 rfl ?_
    refine x_getR (pc := 45) (o := 0) (j := 20) C f_X6_10 dX6_enterProposal_45 (hI 0 rfl) ⟨rfl, rfl⟩ ?_
    refine x_aload_n (pc := 48) C dX6_enterProposal_48 rfl ?_
    refine x_getR (pc := 49) (o := 0) (j := 5) C f_X6_33 dX6_enterProposal_49 (hI 0 rfl) ⟨rfl, rfl⟩ ?_
    refine x_cV1 (pc := 52) (o := 20) C v_X6_182 dX6_enterProposal_52 (c_X3_insert (V := V1) hI (by rw [hs1.no (Or.inl (by decide)) (by decide)]; exact hn) hn24 (rfS_lt hn24 h19)) (hI 20 rfl) rfl (by decide) rfl ⟨by decide, by decide⟩ ?_
    exact x_iret (pc := 55) C hQ dX6_enterProposal_55 ((by unfold EpR; rw [if_pos h19]; exact ⟨V1, hs1, rfl, rfl, rfl, hIN1⟩)) (Nat.le_of_ble_eq_true rfl) (Nat.le_of_ble_eq_true rfl)
  · exact x_throwW (pc := 22) C hQ hN t_X6_127_281_131 dX6_enterProposal_22 dX6_enterProposal_25 dX6_enterProposal_26 dX6_enterProposal_29 dX6_enterProposal_32 (by decide) rfl ⟨by decide, by decide, by decide, by decide⟩ (by unfold EpR; rw [if_neg h19]; exact ⟨rfl, rfl, rfl, rfl, rfl⟩)
theorem ep_r {V : VV} {L : LL} {N : NN} {I : List Nat} {o m n : Nat} {R : Int32} {r : Option AV} {V2 : VV} {L2 : LL} {N2 : NN} {I2 : List Nat} (h : EpR V L N I o m n R (.inl r) V2 L2 N2 I2) : ∃ v, r = some (aI v) := by
  unfold EpR at h
  split at h
  · obtain ⟨V1, _, _, h, _⟩ := h
    cases h
    exact ⟨_, rfl⟩
  · cases h.1
theorem sm5_b5 {V : VV} {k g d s l sp o : Int32} (i : Nat) (h : i ≠ 5) : becomeV V k g d s l sp o i = V i := funext fun j => sm5_b i j h
set_option maxRecDepth 100000 in
set_option maxHeartbeats 4000000 in
theorem c_X6_add {l : Launch} {V : VV} {L : LL} {N : NN} {I : List Nat} {o m : Nat} (hH : HH V N I o m) {n : Nat} (hn : V 20 7 = nI n) (hn24 : n ≤ 24) (x g d s l2 sp : Int32) : Runs l 7 15 246 yX6_add (Cond.code yX6_add cX6_add 7 (some .int)) [aR 0, aI x, aI g, aI d, aI s, aI l2, aI sp] V L N I (Ei (rangeB g d s l2 sp) "java/lang/IllegalArgumentException" (EpR (becomeV V (kdB x) g d s l2 sp (-1)) L N I o m n (rfS (becomeV V (kdB x) g d s l2 sp (-1)) n g.toNatClampNeg 0)) (becomeV V (kdB x) g d s l2 sp (-1)) L N I) := by
  refine run_of RX6 (by decide +kernel) rfl (Nat.le_of_ble_eq_true rfl) (fun E hE C hQ hN => ?_)
  subst hE
  have hI := hH.1.1
  refine x_aload_n (pc := 0) C dX6_add_0 rfl ?_
  refine x_getR (pc := 1) (o := 0) (j := 5) C f_X6_33 dX6_add_1 (hI 0 rfl) ⟨rfl, rfl⟩ ?_
  refine x_iload_n (pc := 4) C dX6_add_4 rfl ?_
  refine x_if_eq (pc := 5) (tgt := 12) C dX6_add_5 (by decide) (fun h5 => ?_) (fun h5 => ?_)
  · refine x_iconst (pc := 12) C (1) dX6_add_12 (by decide) ?_
    refine x_topi (kdB x) (kdB_0 h5) ?_
    refine x_iload_n (pc := 13) C dX6_add_13 rfl ?_
    refine x_iload_n (pc := 14) C dX6_add_14 rfl ?_
    refine x_iload (pc := 15) C dX6_add_15 rfl ?_
    refine x_iload (pc := 17) C dX6_add_17 rfl ?_
    refine x_iload (pc := 19) C dX6_add_19 rfl ?_
    refine x_cV6 (pc := 21) (o := 5) C v_X6_88 dX6_add_21 (c_X4_become hI (kdB x) g d s l2 sp) (hI 5 rfl) rfl (by decide) rfl ⟨by decide, by decide⟩ ?_
    refine x_aload_n (pc := 24) C dX6_add_24 rfl ?_
    refine x_getR (pc := 25) (o := 0) (j := 5) C f_X6_33 dX6_add_25 (hI 0 rfl) ⟨rfl, rfl⟩ ?_
    refine x_cV0 (pc := 28) (o := 5) C v_X6_92 dX6_add_28 (c_X4_isInRange (V := (becomeV V (kdB x) g d s l2 sp (-1))) hI) (hI 5 rfl) rfl (by decide) rfl ⟨by decide, by decide⟩ ?_
    refine x_topi (b2i (rangeB g d s l2 sp)) (by simp [becomeV, up]) ?_
    refine x_if_ne (pc := 31) (tgt := 44) C dX6_add_31 (by decide) (fun h31 => ?_) (fun h31 => ?_)
    · have hw := b2i_t h31
      obtain ⟨g2, hg2, rfl⟩ := range_g hw
      have hcl : (nI g2).toNatClampNeg = g2 := nI_clamp (by omega)
      refine x_aload_n (pc := 44) C dX6_add_44 rfl ?_
      refine x_callV (pc := 45) (o := 0) (As := []) (st := []) C v_X6_98 dX6_add_45 (c_X6_enterProposal (V := (becomeV V (kdB x) (nI g2) d s l2 sp (-1))) (g := g2) (q := 0) hH hn hn24 (fun h2 => absurd h2 (by show ¬ kdB x = 2; unfold kdB; split <;> decide)) (by simp [becomeV, up]) hg2) (hI 0 rfl) rfl rfl (by decide) (okB_s rfl) (by decide) ⟨by decide, by decide⟩ (fun X V2 L2 N2 I2 h => ?_) (fun r V2 L2 N2 I2 h => ?_)
      · exact x_out C hQ hN (by decide) (by decide) (ei_t hw (by rw [hcl]; exact h))
      · obtain ⟨v, rfl⟩ := ep_r h
        exact x_iret (pc := 48) C hQ dX6_add_48 (ei_t hw (by rw [hcl]; exact h)) (by decide) (by decide)
    · exact x_throw (pc := 34) C hQ hN t_X6_69_96_73 dX6_add_34 dX6_add_37 dX6_add_38 dX6_add_40 dX6_add_43 (by decide) rfl ⟨by decide, by decide, by decide, by decide⟩ (ei_f (b2i_f h31))
  · refine x_iconst (pc := 8) C (0) dX6_add_8 (by decide) ?_
    refine x_topi (kdB x) (kdB_1 h5) ?_
    refine x_goto (pc := 9) (tgt := 13) C dX6_add_9 (by decide) ?_
    refine x_iload_n (pc := 13) C dX6_add_13 rfl ?_
    refine x_iload_n (pc := 14) C dX6_add_14 rfl ?_
    refine x_iload (pc := 15) C dX6_add_15 rfl ?_
    refine x_iload (pc := 17) C dX6_add_17 rfl ?_
    refine x_iload (pc := 19) C dX6_add_19 rfl ?_
    refine x_cV6 (pc := 21) (o := 5) C v_X6_88 dX6_add_21 (c_X4_become hI (kdB x) g d s l2 sp) (hI 5 rfl) rfl (by decide) rfl ⟨by decide, by decide⟩ ?_
    refine x_aload_n (pc := 24) C dX6_add_24 rfl ?_
    refine x_getR (pc := 25) (o := 0) (j := 5) C f_X6_33 dX6_add_25 (hI 0 rfl) ⟨rfl, rfl⟩ ?_
    refine x_cV0 (pc := 28) (o := 5) C v_X6_92 dX6_add_28 (c_X4_isInRange (V := (becomeV V (kdB x) g d s l2 sp (-1))) hI) (hI 5 rfl) rfl (by decide) rfl ⟨by decide, by decide⟩ ?_
    refine x_topi (b2i (rangeB g d s l2 sp)) (by simp [becomeV, up]) ?_
    refine x_if_ne (pc := 31) (tgt := 44) C dX6_add_31 (by decide) (fun h31 => ?_) (fun h31 => ?_)
    · have hw := b2i_t h31
      obtain ⟨g2, hg2, rfl⟩ := range_g hw
      have hcl : (nI g2).toNatClampNeg = g2 := nI_clamp (by omega)
      refine x_aload_n (pc := 44) C dX6_add_44 rfl ?_
      refine x_callV (pc := 45) (o := 0) (As := []) (st := []) C v_X6_98 dX6_add_45 (c_X6_enterProposal (V := (becomeV V (kdB x) (nI g2) d s l2 sp (-1))) (g := g2) (q := 0) hH hn hn24 (fun h2 => absurd h2 (by show ¬ kdB x = 2; unfold kdB; split <;> decide)) (by simp [becomeV, up]) hg2) (hI 0 rfl) rfl rfl (by decide) (okB_s rfl) (by decide) ⟨by decide, by decide⟩ (fun X V2 L2 N2 I2 h => ?_) (fun r V2 L2 N2 I2 h => ?_)
      · exact x_out C hQ hN (by decide) (by decide) (ei_t hw (by rw [hcl]; exact h))
      · obtain ⟨v, rfl⟩ := ep_r h
        exact x_iret (pc := 48) C hQ dX6_add_48 (ei_t hw (by rw [hcl]; exact h)) (by decide) (by decide)
    · exact x_throw (pc := 34) C hQ hN t_X6_69_96_73 dX6_add_34 dX6_add_37 dX6_add_38 dX6_add_40 dX6_add_43 (by decide) rfl ⟨by decide, by decide, by decide, by decide⟩ (ei_f (b2i_f h31))
set_option maxRecDepth 100000 in
set_option maxHeartbeats 4000000 in
theorem c_X6_repeat {l : Launch} {V : VV} {L : LL} {N : NN} {I : List Nat} {o m : Nat} (hH : HH V N I o m) {n : Nat} (hn : V 20 7 = nI n) (hn24 : n ≤ 24) (hsg : ∀ s, s < n → ∃ g, g < 6 ∧ V 30 s = nI g) (x d s : Int32) : Runs l 7 15 246 yX6_repeat (Cond.code yX6_repeat cX6_repeat 4 (some .int)) [aR 0, aI x, aI d, aI s] V L N I (Ei (decide (¬ x < 0 ∧ x < nI n)) "java/lang/IndexOutOfBoundsException" (Ei (rangeB (V 30 x.toNatClampNeg) d s (V 33 x.toNatClampNeg) 0) "java/lang/IllegalArgumentException" (EpR (rpV V x.toNatClampNeg d s) L N I o m n (rfS (rpV V x.toNatClampNeg d s) n (V 30 x.toNatClampNeg).toNatClampNeg x.toNatClampNeg)) (rpV V x.toNatClampNeg d s) L N I) (becomeV V 2 0 d s 0 0 x) L N I) := by
  refine run_of RX6 (by decide +kernel) rfl (Nat.le_of_ble_eq_true rfl) (fun E hE C hQ hN => ?_)
  subst hE
  have hI := hH.1.1
  refine x_aload_n (pc := 0) C dX6_repeat_0 rfl ?_
  refine x_getR (pc := 1) (o := 0) (j := 5) C f_X6_33 dX6_repeat_1 (hI 0 rfl) ⟨rfl, rfl⟩ ?_
  refine x_iload_n (pc := 4) C dX6_repeat_4 rfl ?_
  refine x_iload_n (pc := 5) C dX6_repeat_5 rfl ?_
  refine x_iload_n (pc := 6) C dX6_repeat_6 rfl ?_
  refine x_cV3 (pc := 7) (o := 5) C v_X6_102 dX6_repeat_7 (c_X4_becomeRepeat hI x d s) (hI 5 rfl) rfl (by decide) rfl ⟨by decide, by decide⟩ ?_
  refine x_aload_n (pc := 10) C dX6_repeat_10 rfl ?_
  refine x_getR (pc := 11) (o := 0) (j := 20) C f_X6_10 dX6_repeat_11 (hI 0 rfl) ⟨rfl, rfl⟩ ?_
  refine x_aload_n (pc := 14) C dX6_repeat_14 rfl ?_
  refine x_getR (pc := 15) (o := 0) (j := 5) C f_X6_33 dX6_repeat_15 (hI 0 rfl) ⟨rfl, rfl⟩ ?_
  refine x_cV1 (pc := 18) (o := 20) C v_X6_106 dX6_repeat_18 (c_X3_inheritFromOriginal (V := (becomeV V 2 0 d s 0 0 x)) hI hn hn24) (hI 20 rfl) rfl (by decide) rfl ⟨by decide, by decide⟩ ?_
  have e6 : (becomeV V 2 0 d s 0 0 x) 5 6 = x := by simp [becomeV, up]
  rw [e6]
  refine x_if_ne (pc := 21) (tgt := 34) C dX6_repeat_21 (by decide) (fun h21 => ?_) (fun h21 => ?_)
  · have hw := b2i_t h21
    have hd := of_decide_eq_true hw
    rw [if_pos hd]
    obtain ⟨q, hq, hql⟩ := nI_in_of hd.1 hd.2 hn24
    subst hq
    have hcl : (nI q).toNatClampNeg = q := nI_clamp (by omega)
    refine x_mem (V2 := (rpV V q d s)) (by rw [hcl]; unfold rpV; rw [show becomeV V 2 0 d s 0 0 (nI q) 30 = V 30 from sm5_b5 30 (by decide), show becomeV V 2 0 d s 0 0 (nI q) 33 = V 33 from sm5_b5 33 (by decide)]) ?_
    refine x_aload_n (pc := 34) C dX6_repeat_34 rfl ?_
    refine x_getR (pc := 35) (o := 0) (j := 5) C f_X6_33 dX6_repeat_35 (hI 0 rfl) ⟨rfl, rfl⟩ ?_
    refine x_cV0 (pc := 38) (o := 5) C v_X6_92 dX6_repeat_38 (c_X4_isInRange (V := (rpV V q d s)) hI) (hI 5 rfl) rfl (by decide) rfl ⟨by decide, by decide⟩ ?_
    refine x_topi (b2i (rangeB (V 30 q) d s (V 33 q) 0)) (by simp [rpV, becomeV, up]) ?_
    refine x_if_ne (pc := 41) (tgt := 54) C dX6_repeat_41 (by decide) (fun h41 => ?_) (fun h41 => ?_)
    · have hw2 := b2i_t h41
      obtain ⟨g2, hg2, hgq⟩ := hsg q hql
      have hcl2 : (V 30 q).toNatClampNeg = g2 := by rw [hgq]; exact nI_clamp (by omega)
      refine x_aload_n (pc := 54) C dX6_repeat_54 rfl ?_
      refine x_callV (pc := 55) (o := 0) (As := []) (st := []) C v_X6_98 dX6_repeat_55 (c_X6_enterProposal (V := (rpV V q d s)) (g := g2) (q := q) hH hn hn24 (fun _ => ⟨by simp [rpV, becomeV, up], hql⟩) (by simp [rpV, up, hgq]) hg2) (hI 0 rfl) rfl rfl (by decide) (okB_s rfl) (by decide) ⟨by decide, by decide⟩ (fun X V2 L2 N2 I2 h => ?_) (fun r V2 L2 N2 I2 h => ?_)
      · exact x_out C hQ hN (by decide) (by decide) (ei_t hw (by rw [hcl]; exact ei_t hw2 (by rw [hcl2]; exact h)))
      · obtain ⟨v, rfl⟩ := ep_r h
        exact x_iret (pc := 58) C hQ dX6_repeat_58 (ei_t hw (by rw [hcl]; exact ei_t hw2 (by rw [hcl2]; exact h))) (by decide) (by decide)
    · exact x_throw (pc := 44) C hQ hN t_X6_69_112_73 dX6_repeat_44 dX6_repeat_47 dX6_repeat_48 dX6_repeat_50 dX6_repeat_53 (by decide) rfl ⟨by decide, by decide, by decide, by decide⟩ (ei_t hw (by rw [hcl]; exact ei_f (b2i_f h41)))
  · exact x_throw (pc := 24) C hQ hN t_X6_55_110_59 dX6_repeat_24 dX6_repeat_27 dX6_repeat_28 dX6_repeat_30 dX6_repeat_33 (by decide) rfl ⟨by decide, by decide, by decide, by decide⟩ (by rw [if_neg (b2i_nd h21)]; exact ei_f (b2i_f h21))
