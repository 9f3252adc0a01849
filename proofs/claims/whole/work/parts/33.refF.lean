set_option maxRecDepth 100000 in
set_option maxHeartbeats 4000000 in
theorem c_X7_added {l : Launch} {V : VV} {L : LL} {N : NN} {I : List Nat} (hI : PI I) {n : Nat} (hn : V 201 39 = nI n) (hn24 : n ≤ 24) {m : Nat} (hm : V 200 2 = nI m) (hm6 : m ≤ 6) {g o : Nat} (hk : V 204 0 = 2 → V 204 7 = nI o ∧ o < 24) (hg : V 204 1 = nI g) (hg6 : g < 6) (c : Int32) (hc : 0 < c) : Runs l 6 0 0 yX7_added (Cond.code yX7_added cX7_added 2 (some .int)) [aR 200, aI c] V L N I (Is (some (aI (if rfN V n g o = 0 then nI (plN V n) else 0))) (if rfN V n g o = 0 then addedV V m n else up (up V 200 4 (rfN V n g o)) 200 0 c) (L) N I) := by
  refine run_of RX7 (by decide +kernel) rfl (Nat.le_of_ble_eq_true rfl) (fun E hE C hQ hN => ?_)
  subst hE
  refine x_aload_n (pc := 0) C dX7_added_0 rfl ?_
  refine x_aload_n (pc := 1) C dX7_added_1 rfl ?_
  refine x_cV0 (pc := 2) (o := 200) C v_X7_135 dX7_added_2 (c_X7_refusal hI hn hn24 hk hg hg6) (hI 200 rfl) rfl (by decide) rfl ⟨Nat.le_refl _, Nat.le_refl _⟩ ?_
  refine x_topi (rfN V n g o) rfl ?_
  refine x_putI (pc := 5) (o := 200) C p_X7_139 dX7_added_5 (hI 200 rfl) ⟨rfl, rfl, rfl⟩ ?_
  refine x_aload_n (pc := 8) C dX7_added_8 rfl ?_
  refine x_aload_n (pc := 9) C dX7_added_9 rfl ?_
  refine x_getI (pc := 10) (o := 200) C f_X7_139 dX7_added_10 (hI 200 rfl) ⟨rfl, rfl, rfl⟩ ?_
  refine x_topi (rfN V n g o) up_ss ?_
  refine x_if_ne (pc := 13) (tgt := 20) C dX7_added_13 (by decide) (fun h13 => ?_) (fun h13 => ?_)
  · refine x_iload_n (pc := 20) C dX7_added_20 rfl ?_
    refine x_putI (pc := 21) (o := 200) C p_X7_37 dX7_added_21 (hI 200 rfl) ⟨rfl, rfl, rfl⟩ ?_
    refine x_aload_n (pc := 24) C dX7_added_24 rfl ?_
    refine x_getI (pc := 25) (o := 200) C f_X7_37 dX7_added_25 (hI 200 rfl) ⟨rfl, rfl, rfl⟩ ?_
    refine x_topi c up_ss ?_
    refine x_if_le (pc := 28) (tgt := 33) C dX7_added_28 (by decide) (fun h28 => absurd h28 (by exact Int32.not_le.mpr hc)) (fun h28 => ?_)
    refine x_iconst (pc := 31) C (0) dX7_added_31 (by decide) ?_
    exact x_iret (pc := 32) C hQ dX7_added_32 (is_iv (if_neg h13).symm (by rw [if_neg h13])) (Nat.le_of_ble_eq_true rfl) (Nat.le_of_ble_eq_true rfl)
  · refine x_iconst (pc := 16) C (0) dX7_added_16 (by decide) ?_
    refine x_goto (pc := 17) (tgt := 21) C dX7_added_17 (by decide) ?_
    refine x_putI (pc := 21) (o := 200) C p_X7_37 dX7_added_21 (hI 200 rfl) ⟨rfl, rfl, rfl⟩ ?_
    refine x_aload_n (pc := 24) C dX7_added_24 rfl ?_
    refine x_getI (pc := 25) (o := 200) C f_X7_37 dX7_added_25 (hI 200 rfl) ⟨rfl, rfl, rfl⟩ ?_
    refine x_topi 0 up_ss ?_
    refine x_if_le (pc := 28) (tgt := 33) C dX7_added_28 (by decide) (fun h28 => ?_) (fun h28 => absurd (by decide) h28)
    refine x_aload_n (pc := 33) C dX7_added_33 rfl ?_
    refine x_cV0 (pc := 34) (o := 200) C v_X7_109 dX7_added_34 (c_X7_save (V := up (up V 200 4 (rfN V n g o)) 200 0 0) hI hm hm6) (hI 200 rfl) rfl (by decide) rfl ⟨Nat.le_refl _, Nat.le_refl _⟩ ?_
    refine x_aload_n (pc := 37) C dX7_added_37 rfl ?_
    refine x_cV0 (pc := 38) (o := 200) C v_X7_142 dX7_added_38 (c_X7_putIn (V := svR (up (up V 200 4 (rfN V n g o)) 200 0 0) m) hI (by rw [svR_z]; exact hn) hn24 (refR_lt hn24 h13)) (hI 200 rfl) rfl (by decide) rfl ⟨Nat.le_refl _, Nat.le_refl _⟩ ?_
    exact x_iret (pc := 41) C hQ dX7_added_41 (is_iv (by rw [if_pos h13]; exact congrArg nI plN_sv) (by rw [if_pos h13, h13]; unfold addedV; exact congrArg (insR _ n) plN_sv)) (Nat.le_of_ble_eq_true rfl) (Nat.le_of_ble_eq_true rfl)
set_option maxRecDepth 100000 in
set_option maxHeartbeats 4000000 in
theorem c_X7_add {l : Launch} {V : VV} {L : LL} {N : NN} {I : List Nat} (hI : PI I) {n : Nat} (hn : V 201 39 = nI n) (hn24 : n ≤ 24) {m : Nat} (hm : V 200 2 = nI m) (hm6 : m ≤ 6) (lv g d s l2 sp : Int32) (hlv : lv = 0 ∨ lv = 1) : Runs l 7 0 0 yX7_add (Cond.code yX7_add cX7_add 7 (some .int)) [aR 200, aI lv, aI g, aI d, aI s, aI l2, aI sp] V L N I (Is (some (aI (if rightB g d s l2 sp = true then (if rfN (tapeV (up V 200 0 0) (1 - lv) g d s l2 sp (-1)) n g.toNatClampNeg 0 = 0 then nI (plN (tapeV (up V 200 0 0) (1 - lv) g d s l2 sp (-1)) n) else 0) else 0))) (if rightB g d s l2 sp = true then (if rfN (tapeV (up V 200 0 0) (1 - lv) g d s l2 sp (-1)) n g.toNatClampNeg 0 = 0 then addedV (tapeV (up V 200 0 0) (1 - lv) g d s l2 sp (-1)) m n else up (up (tapeV (up V 200 0 0) (1 - lv) g d s l2 sp (-1)) 200 4 (rfN (tapeV (up V 200 0 0) (1 - lv) g d s l2 sp (-1)) n g.toNatClampNeg 0)) 200 0 2) else up V 200 0 1) (L) N I) := by
  refine run_of RX7 (by decide +kernel) rfl (Nat.le_of_ble_eq_true rfl) (fun E hE C hQ hN => ?_)
  subst hE
  refine x_aload_n (pc := 0) C dX7_add_0 rfl ?_
  refine x_iload_n (pc := 1) C dX7_add_1 rfl ?_
  refine x_iload_n (pc := 2) C dX7_add_2 rfl ?_
  refine x_iload (pc := 3) C dX7_add_3 rfl ?_
  refine x_iload (pc := 5) C dX7_add_5 rfl ?_
  refine x_iload (pc := 7) C dX7_add_7 rfl ?_
  refine x_cS5 (pc := 9) C s_X7_145 dX7_add_9 (c_X7_areRight _ _ _ _ _) (by decide) rfl ⟨Nat.le_refl _, Nat.le_refl _⟩ ?_
  refine x_if_eq (pc := 12) (tgt := 19) C dX7_add_12 (by decide) (fun h12 => ?_) (fun h12 => ?_)
  · refine x_iconst (pc := 19) C (1) dX7_add_19 (by decide) ?_
    refine x_putI (pc := 20) (o := 200) C p_X7_37 dX7_add_20 (hI 200 rfl) ⟨rfl, rfl, rfl⟩ ?_
    refine x_aload_n (pc := 23) C dX7_add_23 rfl ?_
    refine x_getI (pc := 24) (o := 200) C f_X7_37 dX7_add_24 (hI 200 rfl) ⟨rfl, rfl, rfl⟩ ?_
    refine x_topi 1 up_ss ?_
    refine x_if_le (pc := 27) (tgt := 32) C dX7_add_27 (by decide) (fun h27 => absurd h27 (by decide)) (fun h27 => ?_)
    refine x_iconst (pc := 30) C (0) dX7_add_30 (by decide) ?_
    exact x_iret (pc := 31) C hQ dX7_add_31 (is_iv (if_neg (b2i_n h12)).symm (by rw [if_neg (b2i_n h12)])) (Nat.le_of_ble_eq_true rfl) (Nat.le_of_ble_eq_true rfl)
  · obtain ⟨g, hg6, rfl⟩ := right_g (b2i_t h12)
    have hcl : (nI g).toNatClampNeg = g := nI_clamp (by omega)
    refine x_iconst (pc := 15) C (0) dX7_add_15 (by decide) ?_
    refine x_goto (pc := 16) (tgt := 20) C dX7_add_16 (by decide) ?_
    refine x_putI (pc := 20) (o := 200) C p_X7_37 dX7_add_20 (hI 200 rfl) ⟨rfl, rfl, rfl⟩ ?_
    refine x_aload_n (pc := 23) C dX7_add_23 rfl ?_
    refine x_getI (pc := 24) (o := 200) C f_X7_37 dX7_add_24 (hI 200 rfl) ⟨rfl, rfl, rfl⟩ ?_
    refine x_topi 0 up_ss ?_
    refine x_if_le (pc := 27) (tgt := 32) C dX7_add_27 (by decide) (fun h27 => ?_) (fun h27 => absurd (by decide) h27)
    refine x_aload_n (pc := 32) C dX7_add_32 rfl ?_
    refine x_iload_n (pc := 33) C dX7_add_33 rfl ?_
    refine x_if_eq (pc := 34) (tgt := 41) C dX7_add_34 (by decide) (fun h34 => ?_) (fun h34 => ?_)
    · refine x_iconst (pc := 41) C (1) dX7_add_41 (by decide) ?_
      refine x_topi (1 - lv) (by rcases hlv with q | q; rw [q]; decide; exact absurd q (by rw [h34]; decide)) ?_
      refine x_iload_n (pc := 42) C dX7_add_42 rfl ?_
      refine x_iload_n (pc := 43) C dX7_add_43 rfl ?_
      refine x_iload (pc := 44) C dX7_add_44 rfl ?_
      refine x_iload (pc := 46) C dX7_add_46 rfl ?_
      refine x_iload (pc := 48) C dX7_add_48 rfl ?_
      refine x_cV6 (pc := 50) (o := 200) C v_X7_49 dX7_add_50 (c_X7_tape (V := up V 200 0 0) hI _ _ _ _ _ _) (hI 200 rfl) rfl (by decide) rfl ⟨Nat.le_refl _, Nat.le_refl _⟩ ?_
      refine x_aload_n (pc := 53) C dX7_add_53 rfl ?_
      refine x_iconst (pc := 54) C (2) dX7_add_54 (by decide) ?_
      refine x_cV1 (pc := 55) (o := 200) C v_X7_149 dX7_add_55 (c_X7_added (V := tapeV (up V 200 0 0) (1 - lv) (nI g) d s l2 sp (-1)) hI (hn) hn24 hm hm6 (g := g) (o := 0) (fun q => absurd q (lv_k hlv)) rfl hg6 2 (by decide)) (hI 200 rfl) rfl (by decide) rfl ⟨Nat.le_refl _, Nat.le_refl _⟩ ?_
      exact x_iret (pc := 58) C hQ dX7_add_58 (is_iv (by rw [if_pos (b2i_t h12), hcl]) (by rw [if_pos (b2i_t h12), hcl])) (Nat.le_of_ble_eq_true rfl) (Nat.le_of_ble_eq_true rfl)
    · refine x_iconst (pc := 37) C (0) dX7_add_37 (by decide) ?_
      refine x_goto (pc := 38) (tgt := 42) C dX7_add_38 (by decide) ?_
      refine x_topi (1 - lv) (by rcases hlv with q | q; exact absurd q h34; rw [q]; decide) ?_
      refine x_iload_n (pc := 42) C dX7_add_42 rfl ?_
      refine x_iload_n (pc := 43) C dX7_add_43 rfl ?_
      refine x_iload (pc := 44) C dX7_add_44 rfl ?_
      refine x_iload (pc := 46) C dX7_add_46 rfl ?_
      refine x_iload (pc := 48) C dX7_add_48 rfl ?_
      refine x_cV6 (pc := 50) (o := 200) C v_X7_49 dX7_add_50 (c_X7_tape (V := up V 200 0 0) hI _ _ _ _ _ _) (hI 200 rfl) rfl (by decide) rfl ⟨Nat.le_refl _, Nat.le_refl _⟩ ?_
      refine x_aload_n (pc := 53) C dX7_add_53 rfl ?_
      refine x_iconst (pc := 54) C (2) dX7_add_54 (by decide) ?_
      refine x_cV1 (pc := 55) (o := 200) C v_X7_149 dX7_add_55 (c_X7_added (V := tapeV (up V 200 0 0) (1 - lv) (nI g) d s l2 sp (-1)) hI (hn) hn24 hm hm6 (g := g) (o := 0) (fun q => absurd q (lv_k hlv)) rfl hg6 2 (by decide)) (hI 200 rfl) rfl (by decide) rfl ⟨Nat.le_refl _, Nat.le_refl _⟩ ?_
      exact x_iret (pc := 58) C hQ dX7_add_58 (is_iv (by rw [if_pos (b2i_t h12), hcl]) (by rw [if_pos (b2i_t h12), hcl])) (Nat.le_of_ble_eq_true rfl) (Nat.le_of_ble_eq_true rfl)
set_option maxRecDepth 100000 in
set_option maxHeartbeats 4000000 in
theorem c_X7_repeat {l : Launch} {V : VV} {L : LL} {N : NN} {I : List Nat} (hI : PI I) {n : Nat} (hn : V 201 39 = nI n) (hn24 : n ≤ 24) {m : Nat} (hm : V 200 2 = nI m) (hm6 : m ≤ 6) (hsg : ∀ s, s < n → ∃ g, g < 6 ∧ RF V 1 s = nI g) (x d s : Int32) : Runs l 7 0 0 yX7_repeat (Cond.code yX7_repeat cX7_repeat 4 (some .int)) [aR 200, aI x, aI d, aI s] V L N I (Is (some (aI (if th2 (withinB x 0 (nI n - 1)) (withinB d 0 6 && withinB s 0 1439) = 0 then (if rfN (agV V x.toNatClampNeg d s) n (RF V 1 x.toNatClampNeg).toNatClampNeg x.toNatClampNeg = 0 then nI (plN (agV V x.toNatClampNeg d s) n) else 0) else 0))) (if th2 (withinB x 0 (nI n - 1)) (withinB d 0 6 && withinB s 0 1439) = 0 then (if rfN (agV V x.toNatClampNeg d s) n (RF V 1 x.toNatClampNeg).toNatClampNeg x.toNatClampNeg = 0 then addedV (agV V x.toNatClampNeg d s) m n else up (up (agV V x.toNatClampNeg d s) 200 4 (rfN (agV V x.toNatClampNeg d s) n (RF V 1 x.toNatClampNeg).toNatClampNeg x.toNatClampNeg)) 200 0 3) else up V 200 0 (th2 (withinB x 0 (nI n - 1)) (withinB d 0 6 && withinB s 0 1439))) (L) N I) := by
  refine run_of RX7 (by decide +kernel) rfl (Nat.le_of_ble_eq_true rfl) (fun E hE C hQ hN => ?_)
  subst hE
  refine x_aload_n (pc := 0) C dX7_repeat_0 rfl ?_
  refine x_aload_n (pc := 1) C dX7_repeat_1 rfl ?_
  refine x_iload_n (pc := 2) C dX7_repeat_2 rfl ?_
  refine x_cV1 (pc := 3) (o := 200) C v_X7_152 dX7_repeat_3 (c_X7_isShow hI hn hn24 _) (hI 200 rfl) rfl (by decide) rfl ⟨Nat.le_refl _, Nat.le_refl _⟩ ?_
  refine x_if_ne (pc := 6) (tgt := 13) C dX7_repeat_6 (by decide) (fun h6 => ?_) (fun h6 => ?_)
  · obtain ⟨o, ho, rfl⟩ := shNat hn24 (b2i_t h6)
    have hcl : (nI o).toNatClampNeg = o := nI_clamp (by omega)
    obtain ⟨g, hg6, hog⟩ := hsg o ho
    refine x_iload_n (pc := 13) C dX7_repeat_13 rfl ?_
    refine x_cS1 (pc := 14) C s_X7_126 dX7_repeat_14 (c_X7_isDay _) (by decide) rfl ⟨Nat.le_refl _, Nat.le_refl _⟩ ?_
    refine x_if_eq (pc := 17) (tgt := 31) C dX7_repeat_17 (by decide) (fun h17 => ?_) (fun h17 => ?_)
    · refine x_iconst (pc := 31) C (2) dX7_repeat_31 (by decide) ?_
      refine x_putI (pc := 32) (o := 200) C p_X7_37 dX7_repeat_32 (hI 200 rfl) ⟨rfl, rfl, rfl⟩ ?_
      refine x_aload_n (pc := 35) C dX7_repeat_35 rfl ?_
      refine x_getI (pc := 36) (o := 200) C f_X7_37 dX7_repeat_36 (hI 200 rfl) ⟨rfl, rfl, rfl⟩ ?_
      refine x_topi 2 up_ss ?_
      refine x_if_le (pc := 39) (tgt := 44) C dX7_repeat_39 (by decide) (fun h39 => absurd h39 (by decide)) (fun h39 => ?_)
      refine x_iconst (pc := 42) C (0) dX7_repeat_42 (by decide) ?_
      exact x_iret (pc := 43) C hQ dX7_repeat_43 (is_iv (if0_2 (th2_2 (b2i_t h6) (by rw [b2i_f h17]; rfl))).symm (by rw [if0_2 (th2_2 (b2i_t h6) (by rw [b2i_f h17]; rfl)), th2_2 (b2i_t h6) (by rw [b2i_f h17]; rfl)])) (Nat.le_of_ble_eq_true rfl) (Nat.le_of_ble_eq_true rfl)
    · refine x_iload_n (pc := 20) C dX7_repeat_20 rfl ?_
      refine x_cS1 (pc := 21) C s_X7_129 dX7_repeat_21 (c_X7_isStart _) (by decide) rfl ⟨Nat.le_refl _, Nat.le_refl _⟩ ?_
      refine x_if_eq (pc := 24) (tgt := 31) C dX7_repeat_24 (by decide) (fun h24 => ?_) (fun h24 => ?_)
      · refine x_iconst (pc := 31) C (2) dX7_repeat_31 (by decide) ?_
        refine x_putI (pc := 32) (o := 200) C p_X7_37 dX7_repeat_32 (hI 200 rfl) ⟨rfl, rfl, rfl⟩ ?_
        refine x_aload_n (pc := 35) C dX7_repeat_35 rfl ?_
        refine x_getI (pc := 36) (o := 200) C f_X7_37 dX7_repeat_36 (hI 200 rfl) ⟨rfl, rfl, rfl⟩ ?_
        refine x_topi 2 up_ss ?_
        refine x_if_le (pc := 39) (tgt := 44) C dX7_repeat_39 (by decide) (fun h39 => absurd h39 (by decide)) (fun h39 => ?_)
        refine x_iconst (pc := 42) C (0) dX7_repeat_42 (by decide) ?_
        exact x_iret (pc := 43) C hQ dX7_repeat_43 (is_iv (if0_2 (th2_2 (b2i_t h6) (by rw [b2i_f h24, Bool.and_false]))).symm (by rw [if0_2 (th2_2 (b2i_t h6) (by rw [b2i_f h24, Bool.and_false])), th2_2 (b2i_t h6) (by rw [b2i_f h24, Bool.and_false])])) (Nat.le_of_ble_eq_true rfl) (Nat.le_of_ble_eq_true rfl)
      · have hth : th2 (withinB (nI o) 0 (nI n - 1)) (withinB d 0 6 && withinB s 0 1439) = 0 := th2_0 (b2i_t h6) (by rw [b2i_t h17, b2i_t h24]; rfl)
        refine x_iconst (pc := 27) C (0) dX7_repeat_27 (by decide) ?_
        refine x_goto (pc := 28) (tgt := 32) C dX7_repeat_28 (by decide) ?_
        refine x_putI (pc := 32) (o := 200) C p_X7_37 dX7_repeat_32 (hI 200 rfl) ⟨rfl, rfl, rfl⟩ ?_
        refine x_aload_n (pc := 35) C dX7_repeat_35 rfl ?_
        refine x_getI (pc := 36) (o := 200) C f_X7_37 dX7_repeat_36 (hI 200 rfl) ⟨rfl, rfl, rfl⟩ ?_
        refine x_topi 0 up_ss ?_
        refine x_if_le (pc := 39) (tgt := 44) C dX7_repeat_39 (by decide) (fun h39 => ?_) (fun h39 => absurd (by decide) h39)
        refine x_aload_n (pc := 44) C dX7_repeat_44 rfl ?_
        refine x_iload_n (pc := 45) C dX7_repeat_45 rfl ?_
        refine x_iload_n (pc := 46) C dX7_repeat_46 rfl ?_
        refine x_iload_n (pc := 47) C dX7_repeat_47 rfl ?_
        refine x_cV3 (pc := 48) (o := 200) C v_X7_155 dX7_repeat_48 (c_X7_again (V := up V 200 0 0) hI o (by omega) _ _) (hI 200 rfl) rfl (by decide) rfl ⟨Nat.le_refl _, Nat.le_refl _⟩ ?_
        refine x_aload_n (pc := 51) C dX7_repeat_51 rfl ?_
        refine x_iconst (pc := 52) C (3) dX7_repeat_52 (by decide) ?_
        refine x_cV1 (pc := 53) (o := 200) C v_X7_149 dX7_repeat_53 (c_X7_added (V := agV V o d s) hI hn hn24 hm hm6 (g := g) (o := o) (fun _ => ⟨rfl, by omega⟩) hog hg6 3 (by decide)) (hI 200 rfl) rfl (by decide) rfl ⟨Nat.le_refl _, Nat.le_refl _⟩ ?_
        exact x_iret (pc := 56) C hQ dX7_repeat_56 (is_iv (by rw [if_pos hth, hcl, hog, nI_clamp (by omega)]) (by rw [if_pos hth, hcl, hog, nI_clamp (by omega)])) (Nat.le_of_ble_eq_true rfl) (Nat.le_of_ble_eq_true rfl)
  · refine x_iconst (pc := 9) C (1) dX7_repeat_9 (by decide) ?_
    refine x_goto (pc := 10) (tgt := 32) C dX7_repeat_10 (by decide) ?_
    refine x_putI (pc := 32) (o := 200) C p_X7_37 dX7_repeat_32 (hI 200 rfl) ⟨rfl, rfl, rfl⟩ ?_
    refine x_aload_n (pc := 35) C dX7_repeat_35 rfl ?_
    refine x_getI (pc := 36) (o := 200) C f_X7_37 dX7_repeat_36 (hI 200 rfl) ⟨rfl, rfl, rfl⟩ ?_
    refine x_topi 1 up_ss ?_
    refine x_if_le (pc := 39) (tgt := 44) C dX7_repeat_39 (by decide) (fun h39 => absurd h39 (by decide)) (fun h39 => ?_)
    refine x_iconst (pc := 42) C (0) dX7_repeat_42 (by decide) ?_
    exact x_iret (pc := 43) C hQ dX7_repeat_43 (is_iv (if0_1 (th2_1 (b2i_f h6))).symm (by rw [if0_1 (th2_1 (b2i_f h6)), th2_1 (b2i_f h6)])) (Nat.le_of_ble_eq_true rfl) (Nat.le_of_ble_eq_true rfl)
set_option maxRecDepth 100000 in
set_option maxHeartbeats 4000000 in
theorem c_X7_overrun {l : Launch} {V : VV} {L : LL} {N : NN} {I : List Nat} (hI : PI I) {n : Nat} (hn : V 201 39 = nI n) (hn24 : n ≤ 24) {m : Nat} (hm : V 200 2 = nI m) (hm6 : m ≤ 6) (x v : Int32) : Runs l 3 0 0 yX7_overrun (Cond.code yX7_overrun cX7_overrun 3 (some .int)) [aR 200, aI x, aI v] V L N I (Is (some (aI (if th3 (withinB x 0 (nI n - 1)) (withinB v (-60) 120) (decide (RF V 0 x.toNatClampNeg = 0)) = 0 then RF V 6 x.toNatClampNeg else 0))) (if th3 (withinB x 0 (nI n - 1)) (withinB v (-60) 120) (decide (RF V 0 x.toNatClampNeg = 0)) = 0 then up (svR (up V 200 0 0) m) 201 (40 + 8 * x.toNatClampNeg + 6) v else up V 200 0 (th3 (withinB x 0 (nI n - 1)) (withinB v (-60) 120) (decide (RF V 0 x.toNatClampNeg = 0)))) (L) N I) := by
  refine run_of RX7 (by decide +kernel) rfl (Nat.le_of_ble_eq_true rfl) (fun E hE C hQ hN => ?_)
  subst hE
  refine x_aload_n (pc := 0) C dX7_overrun_0 rfl ?_
  refine x_aload_n (pc := 1) C dX7_overrun_1 rfl ?_
  refine x_iload_n (pc := 2) C dX7_overrun_2 rfl ?_
  refine x_cV1 (pc := 3) (o := 200) C v_X7_152 dX7_overrun_3 (c_X7_isShow hI hn hn24 _) (hI 200 rfl) rfl (by decide) rfl ⟨Nat.le_refl _, Nat.le_refl _⟩ ?_
  refine x_if_ne (pc := 6) (tgt := 13) C dX7_overrun_6 (by decide) (fun h6 => ?_) (fun h6 => ?_)
  · obtain ⟨o, ho, rfl⟩ := shNat hn24 (b2i_t h6)
    have hcl : (nI o).toNatClampNeg = o := nI_clamp (by omega)
    refine x_iload_n (pc := 13) C dX7_overrun_13 rfl ?_
    refine x_cS1 (pc := 14) C s_X7_161 dX7_overrun_14 (c_X7_isOverrun _) (by decide) rfl ⟨Nat.le_refl _, Nat.le_refl _⟩ ?_
    refine x_if_ne (pc := 17) (tgt := 24) C dX7_overrun_17 (by decide) (fun h17 => ?_) (fun h17 => ?_)
    · refine x_aload_n (pc := 24) C dX7_overrun_24 rfl ?_
      refine x_iload_n (pc := 25) C dX7_overrun_25 rfl ?_
      refine x_cV1 (pc := 26) (o := 200) C v_X7_164 dX7_overrun_26 (c_X7_isLive hI o (by omega)) (hI 200 rfl) rfl (by decide) rfl ⟨Nat.le_refl _, Nat.le_refl _⟩ ?_
      refine x_if_eq (pc := 29) (tgt := 36) C dX7_overrun_29 (by decide) (fun h29 => ?_) (fun h29 => ?_)
      · refine x_iconst (pc := 36) C (3) dX7_overrun_36 (by decide) ?_
        refine x_putI (pc := 37) (o := 200) C p_X7_37 dX7_overrun_37 (hI 200 rfl) ⟨rfl, rfl, rfl⟩ ?_
        refine x_aload_n (pc := 40) C dX7_overrun_40 rfl ?_
        refine x_getI (pc := 41) (o := 200) C f_X7_37 dX7_overrun_41 (hI 200 rfl) ⟨rfl, rfl, rfl⟩ ?_
        refine x_topi 3 up_ss ?_
        refine x_if_le (pc := 44) (tgt := 51) C dX7_overrun_44 (by decide) (fun h44 => absurd h44 (by decide)) (fun h44 => ?_)
        refine x_iconst (pc := 47) C (0) dX7_overrun_47 (by decide) ?_
        refine x_goto (pc := 48) (tgt := 66) C dX7_overrun_48 (by decide) ?_
        exact x_iret (pc := 66) C hQ dX7_overrun_66 (is_iv (if0_3 (th3_3 (b2i_t h6) (b2i_t h17) (by rw [hcl]; exact b2i_f h29))).symm (by rw [if0_3 (th3_3 (b2i_t h6) (b2i_t h17) (by rw [hcl]; exact b2i_f h29)), th3_3 (b2i_t h6) (b2i_t h17) (by rw [hcl]; exact b2i_f h29)])) (Nat.le_of_ble_eq_true rfl) (Nat.le_of_ble_eq_true rfl)
      · have hth : th3 (withinB (nI o) 0 (nI n - 1)) (withinB v (-60) 120) (decide (RF V 0 (nI o).toNatClampNeg = 0)) = 0 := th3_0 (b2i_t h6) (b2i_t h17) (by rw [hcl]; exact b2i_t h29)
        refine x_iconst (pc := 32) C (0) dX7_overrun_32 (by decide) ?_
        refine x_goto (pc := 33) (tgt := 37) C dX7_overrun_33 (by decide) ?_
        refine x_putI (pc := 37) (o := 200) C p_X7_37 dX7_overrun_37 (hI 200 rfl) ⟨rfl, rfl, rfl⟩ ?_
        refine x_aload_n (pc := 40) C dX7_overrun_40 rfl ?_
        refine x_getI (pc := 41) (o := 200) C f_X7_37 dX7_overrun_41 (hI 200 rfl) ⟨rfl, rfl, rfl⟩ ?_
        refine x_topi 0 up_ss ?_
        refine x_if_le (pc := 44) (tgt := 51) C dX7_overrun_44 (by decide) (fun h44 => ?_) (fun h44 => absurd (by decide) h44)
        refine x_aload_n (pc := 51) C dX7_overrun_51 rfl ?_
        refine x_bipush (pc := 52) C (40) dX7_overrun_52 (by decide) ?_
        refine x_bipush (pc := 54) C (8) dX7_overrun_54 (by decide) ?_
        refine x_iload_n (pc := 56) C dX7_overrun_56 rfl ?_
        refine x_imul (pc := 57) C dX7_overrun_57 ?_
        refine x_iadd (pc := 58) C dX7_overrun_58 ?_
        refine x_bipush (pc := 59) C (6) dX7_overrun_59 (by decide) ?_
        refine x_iadd (pc := 61) C dX7_overrun_61 ?_
        refine x_topi (nI (40 + 8 * o + 6)) (z_ix (a := 40) (b := 8) (c := 6)) ?_
        refine x_iload_n (pc := 62) C dX7_overrun_62 rfl ?_
        refine x_cV2 (pc := 63) (o := 200) C v_X7_120 dX7_overrun_63 (c_X7_replaced (V := up V 200 0 0) hI hm hm6 (40 + 8 * o + 6) (by omega) v) (hI 200 rfl) rfl (by decide) rfl ⟨Nat.le_refl _, Nat.le_refl _⟩ ?_
        exact x_iret (pc := 66) C hQ dX7_overrun_66 (is_iv (by rw [if_pos hth, hcl]; rfl) (by rw [if_pos hth, hcl])) (Nat.le_of_ble_eq_true rfl) (Nat.le_of_ble_eq_true rfl)
    · refine x_iconst (pc := 20) C (2) dX7_overrun_20 (by decide) ?_
      refine x_goto (pc := 21) (tgt := 37) C dX7_overrun_21 (by decide) ?_
      refine x_putI (pc := 37) (o := 200) C p_X7_37 dX7_overrun_37 (hI 200 rfl) ⟨rfl, rfl, rfl⟩ ?_
      refine x_aload_n (pc := 40) C dX7_overrun_40 rfl ?_
      refine x_getI (pc := 41) (o := 200) C f_X7_37 dX7_overrun_41 (hI 200 rfl) ⟨rfl, rfl, rfl⟩ ?_
      refine x_topi 2 up_ss ?_
      refine x_if_le (pc := 44) (tgt := 51) C dX7_overrun_44 (by decide) (fun h44 => absurd h44 (by decide)) (fun h44 => ?_)
      refine x_iconst (pc := 47) C (0) dX7_overrun_47 (by decide) ?_
      refine x_goto (pc := 48) (tgt := 66) C dX7_overrun_48 (by decide) ?_
      exact x_iret (pc := 66) C hQ dX7_overrun_66 (is_iv (if0_2 (th3_2 (b2i_t h6) (b2i_f h17))).symm (by rw [if0_2 (th3_2 (b2i_t h6) (b2i_f h17)), th3_2 (b2i_t h6) (b2i_f h17)])) (Nat.le_of_ble_eq_true rfl) (Nat.le_of_ble_eq_true rfl)
  · refine x_iconst (pc := 9) C (1) dX7_overrun_9 (by decide) ?_
    refine x_goto (pc := 10) (tgt := 37) C dX7_overrun_10 (by decide) ?_
    refine x_putI (pc := 37) (o := 200) C p_X7_37 dX7_overrun_37 (hI 200 rfl) ⟨rfl, rfl, rfl⟩ ?_
    refine x_aload_n (pc := 40) C dX7_overrun_40 rfl ?_
    refine x_getI (pc := 41) (o := 200) C f_X7_37 dX7_overrun_41 (hI 200 rfl) ⟨rfl, rfl, rfl⟩ ?_
    refine x_topi 1 up_ss ?_
    refine x_if_le (pc := 44) (tgt := 51) C dX7_overrun_44 (by decide) (fun h44 => absurd h44 (by decide)) (fun h44 => ?_)
    refine x_iconst (pc := 47) C (0) dX7_overrun_47 (by decide) ?_
    refine x_goto (pc := 48) (tgt := 66) C dX7_overrun_48 (by decide) ?_
    exact x_iret (pc := 66) C hQ dX7_overrun_66 (is_iv (if0_1 (th3_1 (b2i_f h6))).symm (by rw [if0_1 (th3_1 (b2i_f h6)), th3_1 (b2i_f h6)])) (Nat.le_of_ble_eq_true rfl) (Nat.le_of_ble_eq_true rfl)
