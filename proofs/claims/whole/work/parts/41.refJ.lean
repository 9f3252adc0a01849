set_option maxRecDepth 100000 in
set_option maxHeartbeats 4000000 in
theorem c_X7_remove {l : Launch} {V : VV} {L : LL} {N : NN} {I : List Nat} (hI : PI I) {n : Nat} (hn : V 201 39 = nI n) (hn24 : n ≤ 24) {m : Nat} (hm : V 200 2 = nI m) (hm6 : m ≤ 6) (x : Int32) (hfin : (rmR n (svR (up V 200 0 0) m) n x.toNatClampNeg 1).2.2.1 < (rmR n (svR (up V 200 0 0) m) n x.toNatClampNeg 1).2.1) : Runs l 4 0 0 yX7_remove (Cond.code yX7_remove cX7_remove 5 (some .int)) [aR 200, aI x] V L N I (Is (some (aI (if th1 (withinB x 0 (nI n - 1)) = 0 then nI (rmR n (svR (up V 200 0 0) m) n x.toNatClampNeg 1).2.2.2 else 0))) (if th1 (withinB x 0 (nI n - 1)) = 0 then delR (rmR n (svR (up V 200 0 0) m) n x.toNatClampNeg 1).1 ((rmR n (svR (up V 200 0 0) m) n x.toNatClampNeg 1).2.1 - 1) (rmR n (svR (up V 200 0 0) m) n x.toNatClampNeg 1).2.2.1 else up V 200 0 (th1 (withinB x 0 (nI n - 1)))) (L) N I) := by
  refine run_of RX7 (by decide +kernel) rfl (Nat.le_of_ble_eq_true rfl) (fun E hE C hQ hN => ?_)
  subst hE
  refine x_aload_n (pc := 0) C dX7_remove_0 rfl ?_
  refine x_aload_n (pc := 1) C dX7_remove_1 rfl ?_
  refine x_iload_n (pc := 2) C dX7_remove_2 rfl ?_
  refine x_cV1 (pc := 3) (o := 200) C v_X7_152 dX7_remove_3 (c_X7_isShow hI hn hn24 _) (hI 200 rfl) rfl (by decide) rfl ⟨Nat.le_refl _, Nat.le_refl _⟩ ?_
  refine x_if_eq (pc := 6) (tgt := 13) C dX7_remove_6 (by decide) (fun h6 => ?_) (fun h6 => ?_)
  · refine x_iconst (pc := 13) C (1) dX7_remove_13 (by decide) ?_
    refine x_putI (pc := 14) (o := 200) C p_X7_37 dX7_remove_14 (hI 200 rfl) ⟨rfl, rfl, rfl⟩ ?_
    refine x_aload_n (pc := 17) C dX7_remove_17 rfl ?_
    refine x_getI (pc := 18) (o := 200) C f_X7_37 dX7_remove_18 (hI 200 rfl) ⟨rfl, rfl, rfl⟩ ?_
    refine x_topi 1 up_ss ?_
    refine x_if_le (pc := 21) (tgt := 26) C dX7_remove_21 (by decide) (fun h21 => absurd h21 (by decide)) (fun h21 => ?_)
    refine x_iconst (pc := 24) C (0) dX7_remove_24 (by decide) ?_
    exact x_iret (pc := 25) C hQ dX7_remove_25 (is_iv (if0_1 (th1_1 (b2i_f h6))).symm (by rw [if0_1 (th1_1 (b2i_f h6)), th1_1 (b2i_f h6)])) (Nat.le_of_ble_eq_true rfl) (Nat.le_of_ble_eq_true rfl)
  · obtain ⟨p, hp, rfl⟩ := shNat hn24 (b2i_t h6)
    have hcl : (nI p).toNatClampNeg = p := nI_clamp (by omega)
    rw [hcl] at hfin hQ
    refine x_iconst (pc := 9) C (0) dX7_remove_9 (by decide) ?_
    refine x_goto (pc := 10) (tgt := 14) C dX7_remove_10 (by decide) ?_
    refine x_putI (pc := 14) (o := 200) C p_X7_37 dX7_remove_14 (hI 200 rfl) ⟨rfl, rfl, rfl⟩ ?_
    refine x_aload_n (pc := 17) C dX7_remove_17 rfl ?_
    refine x_getI (pc := 18) (o := 200) C f_X7_37 dX7_remove_18 (hI 200 rfl) ⟨rfl, rfl, rfl⟩ ?_
    refine x_topi 0 up_ss ?_
    refine x_if_le (pc := 21) (tgt := 26) C dX7_remove_21 (by decide) (fun h21 => ?_) (fun h21 => absurd (by decide) h21)
    refine x_aload_n (pc := 26) C dX7_remove_26 rfl ?_
    refine x_cV0 (pc := 27) (o := 200) C v_X7_109 dX7_remove_27 (c_X7_save (V := up V 200 0 0) hI hm hm6) (hI 200 rfl) rfl (by decide) rfl ⟨Nat.le_refl _, Nat.le_refl _⟩ ?_
    refine x_iconst (pc := 30) C (1) dX7_remove_30 (by decide) ?_
    refine y_istore_n (pc := 31) C dX7_remove_31 (by decide) rfl ?_
    refine x_iload_n (pc := 32) C dX7_remove_32 rfl ?_
    refine y_istore_n (pc := 33) C dX7_remove_33 (by decide) rfl ?_
    refine x_aload_n (pc := 34) C dX7_remove_34 rfl ?_
    refine x_getR (pc := 35) (o := 200) (j := 201) C f_X7_7 dX7_remove_35 (hI 200 rfl) ⟨rfl, rfl⟩ ?_
    refine x_bipush (pc := 38) C (39) dX7_remove_38 (by decide) ?_
    refine x_topi (nI 39) (by decide) ?_
    refine x_iald (pc := 40) (o := 201) C dX7_remove_40 (hI 201 rfl) ⟨rfl, rfl⟩ (show _ < 232 by decide) (by decide) ?_
    refine x_topi (nI n) (by rw [svR_z]; exact hn) ?_
    refine x_iconst (pc := 41) C (1) dX7_remove_41 (by decide) ?_
    refine x_isub (pc := 42) C dX7_remove_42 ?_
    refine x_topi (nI n - 1) rfl ?_
    refine y_istore (pc := 43) C dX7_remove_43 (by decide) rfl ?_
    suffices key : ∀ (k : Nat) (V1 : VV) (n1 p1 c1 : Nat), k ≤ n1 → n1 ≤ 24 → V1 201 39 = nI n1 → p1 < 24 → rmR n (svR (up V 200 0 0) m) n p 1 = rmR k V1 n1 p1 c1 → Wx E 45 [some (aR 200), some (aI (nI p)), some (aI (nI c1)), some (aI (nI p1)), some (aI (nI k - 1))] [] V1 L N I 0 0 by
      exact key n (svR (up V 200 0 0) m) n p 1 (Nat.le_refl _) hn24 (by rw [svR_z]; exact hn) (by omega) rfl
    intro k
    induction k with
    | zero =>
      intro V1 n1 p1 c1 hk h24 hn1 hp1 hr
      rw [hr] at hfin hQ
      have hfin : p1 < n1 := hfin
      obtain ⟨q, rfl⟩ : ∃ q, n1 = q + 1 := ⟨n1 - 1, by omega⟩
      refine x_iload (pc := 45) C dX7_remove_45 rfl ?_
      refine x_if_lt (pc := 47) (tgt := 91) C dX7_remove_47 (by decide) (fun h47 => ?_) (fun h47 => absurd (by decide) h47)
      refine x_aload_n (pc := 91) C dX7_remove_91 rfl ?_
      refine x_iload_n (pc := 92) C dX7_remove_92 rfl ?_
      refine x_cV1 (pc := 93) (o := 200) C v_X7_158 dX7_remove_93 (c_X7_takeOut (V := V1) (n := q) hI hn1 (by omega) p1 (by omega)) (hI 200 rfl) rfl (by decide) rfl ⟨Nat.le_refl _, Nat.le_refl _⟩ ?_
      refine x_iload_n (pc := 96) C dX7_remove_96 rfl ?_
      exact x_iret (pc := 97) C hQ dX7_remove_97 (is_iv (by rw [if_pos (th1_0 (b2i_t h6))]; rfl) (by rw [if_pos (th1_0 (b2i_t h6))]; rfl)) (Nat.le_of_ble_eq_true rfl) (Nat.le_of_ble_eq_true rfl)
    | succ k ih =>
      intro V1 n1 p1 c1 hk h24 hn1 hp1 hr
      refine x_loc (ls2 := [some (aR 200), some (aI (nI p)), some (aI (nI c1)), some (aI (nI p1)), some (aI (nI k))]) (by rw [nI_pred]) ?_
      refine x_iload (pc := 45) C dX7_remove_45 rfl ?_
      refine x_if_lt (pc := 47) (tgt := 91) C dX7_remove_47 (by decide) (fun h47 => absurd h47 (by exact nI_pos (by omega))) (fun h47 => ?_)
      refine x_aload_n (pc := 50) C dX7_remove_50 rfl ?_
      refine x_iload (pc := 51) C dX7_remove_51 rfl ?_
      refine x_bipush (pc := 53) C (7) dX7_remove_53 (by decide) ?_
      refine x_cV2 (pc := 55) (o := 200) C v_X7_45 dX7_remove_55 (c_X7_of hI (k) (7) (by omega)) (hI 200 rfl) rfl (by decide) rfl ⟨Nat.le_refl _, Nat.le_refl _⟩ ?_
      refine x_topi (RF V1 7 k) rfl ?_
      refine x_iload_n (pc := 58) C dX7_remove_58 rfl ?_
      refine x_icmp_ne (pc := 59) (tgt := 85) C dX7_remove_59 (by decide) (fun h59 => ?_) (fun h59 => ?_)
      · refine y_iinc (pc := 85) C (nI k - 1) dX7_remove_85 rfl (by exact dec1 _) (by decide) rfl ?_
        refine x_goto (pc := 88) (tgt := 45) C dX7_remove_88 (by decide) ?_
        exact ih V1 n1 p1 c1 (by omega) h24 hn1 hp1 (by rw [hr, rmR, if_neg h59])
      · obtain ⟨q, rfl⟩ : ∃ q, n1 = q + 1 := ⟨n1 - 1, by omega⟩
        refine x_aload_n (pc := 62) C dX7_remove_62 rfl ?_
        refine x_iload (pc := 63) C dX7_remove_63 rfl ?_
        refine x_cV1 (pc := 65) (o := 200) C v_X7_158 dX7_remove_65 (c_X7_takeOut (V := V1) (n := q) hI hn1 (by omega) k (by omega)) (hI 200 rfl) rfl (by decide) rfl ⟨Nat.le_refl _, Nat.le_refl _⟩ ?_
        refine x_iload_n (pc := 68) C dX7_remove_68 rfl ?_
        refine x_iload (pc := 69) C dX7_remove_69 rfl ?_
        refine x_iload_n (pc := 71) C dX7_remove_71 rfl ?_
        have J80 : Wx E 80 [some (aR 200), some (aI (nI p)), some (aI (nI c1)), some (aI (nI p1)), some (aI (nI k))] [aI (if k < p1 then 1 else 0), aI (nI p1)] (delR V1 q k) L N I 0 0 := by
          refine x_isub (pc := 80) C dX7_remove_80 ?_
          refine x_topi (nI (if k < p1 then p1 - 1 else p1)) (gone_eq) ?_
          refine y_istore_n (pc := 81) C dX7_remove_81 (by decide) rfl ?_
          refine y_iinc (pc := 82) C (nI (c1 + 1)) dX7_remove_82 rfl (by exact nI_1 c1) (by decide) rfl ?_
          refine y_iinc (pc := 85) C (nI k - 1) dX7_remove_85 rfl (by exact dec1 _) (by decide) rfl ?_
          refine x_goto (pc := 88) (tgt := 45) C dX7_remove_88 (by decide) ?_
          exact ih _ q _ (c1 + 1) (by omega) (by omega) delR_39 (by split <;> omega) (by rw [hr, rmR, if_pos h59, Nat.add_sub_cancel])
        refine x_icmp_ge (pc := 72) (tgt := 79) C dX7_remove_72 (by decide) (fun h72 => ?_) (fun h72 => ?_)
        · refine x_iconst (pc := 79) C (0) dX7_remove_79 (by decide) ?_
          refine x_topi (if k < p1 then 1 else 0) (by rw [if_neg (fun z => absurd (nI_lt z (by omega)) (Int32.not_lt.mpr h72))]) ?_
          exact J80
        · refine x_iconst (pc := 75) C (1) dX7_remove_75 (by decide) ?_
          refine x_goto (pc := 76) (tgt := 80) C dX7_remove_76 (by decide) ?_
          refine x_topi (if k < p1 then 1 else 0) (by rw [if_pos ((nI_ltI (by omega) (by omega)).mp (Int32.not_le.mp h72))]) ?_
          exact J80
set_option maxRecDepth 100000 in
set_option maxHeartbeats 4000000 in
theorem c_X7_closeGroup {l : Launch} {V : VV} {L : LL} {N : NN} {I : List Nat} (hI : PI I) {n : Nat} (hn : V 201 39 = nI n) (hn24 : n ≤ 24) (hdy : ∀ s, s < n → ∃ d, d < 7 ∧ RF V 2 s = nI d) (g : Nat) (hg : g < 6) : Runs l 6 0 0 yX7_closeGroup (Cond.code yX7_closeGroup cX7_closeGroup 6 none) [aR 200, aI (nI g)] V L N I (Pm none (fun V2 => SmL (cgR V g (awS V n (nI g))) V2) L N I) := by
  refine run_of RX7 (by decide +kernel) rfl (Nat.le_of_ble_eq_true rfl) (fun E hE C hQ hN => ?_)
  subst hE
  refine x_bipush (pc := 0) C (8) dX7_closeGroup_0 (by decide) ?_
  refine x_iconst (pc := 2) C (5) dX7_closeGroup_2 (by decide) ?_
  refine x_iload_n (pc := 3) C dX7_closeGroup_3 rfl ?_
  refine x_imul (pc := 4) C dX7_closeGroup_4 ?_
  refine x_iadd (pc := 5) C dX7_closeGroup_5 ?_
  refine x_topi (nI (8 + 5 * g)) (z_ix2 (a := 8) (b := 5)) ?_
  refine y_istore_n (pc := 6) C dX7_closeGroup_6 (by decide) rfl ?_
  refine x_aload_n (pc := 7) C dX7_closeGroup_7 rfl ?_
  refine x_iload_n (pc := 8) C dX7_closeGroup_8 rfl ?_
  refine x_pV1 (pc := 9) (o := 200) C v_X7_167 dX7_closeGroup_9 (c_X7_airWorth hI hn hn24 hdy _) (hI 200 rfl) rfl (by decide) rfl ⟨Nat.le_refl _, Nat.le_refl _⟩ (fun V1 hV1 => ?_)
  refine y_istore_n (pc := 12) C dX7_closeGroup_12 (by decide) rfl ?_
  refine x_aload_n (pc := 13) C dX7_closeGroup_13 rfl ?_
  refine x_iload_n (pc := 14) C dX7_closeGroup_14 rfl ?_
  refine x_cV1 (pc := 15) (o := 200) C v_X7_74 dX7_closeGroup_15 (c_X7_allowance (V := V1) hI g hg) (hI 200 rfl) rfl (by decide) rfl ⟨Nat.le_refl _, Nat.le_refl _⟩ ?_
  refine x_topi (alN V g) (by unfold alN; rw [hV1.z]) ?_
  refine x_iload_n (pc := 18) C dX7_closeGroup_18 rfl ?_
  refine x_isub (pc := 19) C dX7_closeGroup_19 ?_
  refine y_istore (pc := 20) C dX7_closeGroup_20 (by decide) rfl ?_
  refine x_iload (pc := 22) C dX7_closeGroup_22 rfl ?_
  refine x_aload_n (pc := 24) C dX7_closeGroup_24 rfl ?_
  refine x_getR (pc := 25) (o := 200) (j := 201) C f_X7_7 dX7_closeGroup_25 (hI 200 rfl) ⟨rfl, rfl⟩ ?_
  refine x_bipush (pc := 28) C (7) dX7_closeGroup_28 (by decide) ?_
  refine x_topi (nI 7) (by decide) ?_
  refine x_iald (pc := 30) (o := 201) C dX7_closeGroup_30 (hI 201 rfl) ⟨rfl, rfl⟩ (show _ < 232 by decide) (by decide) ?_
  refine x_topi (V 201 7) (by rw [hV1.z]) ?_
  refine x_ineg (pc := 31) C dX7_closeGroup_31 ?_
  have J70 : Wx E 70 [some (aR 200), some (aI (nI g)), some (aI (nI (8 + 5 * g))), some (aI (awS V n (nI g))), some (aI (alN V g - awS V n (nI g))), none] [aI (carF (alN V g - awS V n (nI g)) (V 201 7))] V1 L N I 0 0 := by
    refine y_istore (pc := 70) C dX7_closeGroup_70 (by decide) rfl ?_
    refine x_aload_n (pc := 72) C dX7_closeGroup_72 rfl ?_
    refine x_getR (pc := 73) (o := 200) (j := 201) C f_X7_7 dX7_closeGroup_73 (hI 200 rfl) ⟨rfl, rfl⟩ ?_
    refine x_iload_n (pc := 76) C dX7_closeGroup_76 rfl ?_
    refine x_iconst (pc := 77) C (2) dX7_closeGroup_77 (by decide) ?_
    refine x_iadd (pc := 78) C dX7_closeGroup_78 ?_
    refine x_topi (nI (8 + 5 * g + 2)) (by rw [show (2 : Int32) = nI 2 from rfl, nI_add]) ?_
    refine x_dup2 (pc := 79) C dX7_closeGroup_79 rfl rfl ?_
    refine x_iald (pc := 80) (o := 201) C dX7_closeGroup_80 (hI 201 rfl) ⟨rfl, rfl⟩ (show _ < 232 by omega) (by decide) ?_
    refine x_topi (V 201 (8 + 5 * g + 2)) (by (repeat rw [up_nk (by omega)]); rw [hV1.z]) ?_
    refine x_aload_n (pc := 81) C dX7_closeGroup_81 rfl ?_
    refine x_getR (pc := 82) (o := 200) (j := 201) C f_X7_7 dX7_closeGroup_82 (hI 200 rfl) ⟨rfl, rfl⟩ ?_
    refine x_iload_n (pc := 85) C dX7_closeGroup_85 rfl ?_
    refine x_iconst (pc := 86) C (0) dX7_closeGroup_86 (by decide) ?_
    refine x_iadd (pc := 87) C dX7_closeGroup_87 ?_
    refine x_topi (nI (8 + 5 * g + 0)) (by rw [show (0 : Int32) = nI 0 from rfl, nI_add]) ?_
    refine x_iald (pc := 88) (o := 201) C dX7_closeGroup_88 (hI 201 rfl) ⟨rfl, rfl⟩ (show _ < 232 by omega) (by decide) ?_
    refine x_topi (V 201 (8 + 5 * g + 0)) (by (repeat rw [up_nk (by omega)]); rw [hV1.z]) ?_
    refine x_iadd (pc := 89) C dX7_closeGroup_89 ?_
    refine x_iast (pc := 90) (o := 201) C dX7_closeGroup_90 (hI 201 rfl) ⟨rfl, rfl⟩ (show _ < 232 by omega) (by decide) ?_
    refine x_aload_n (pc := 91) C dX7_closeGroup_91 rfl ?_
    refine x_getR (pc := 92) (o := 200) (j := 201) C f_X7_7 dX7_closeGroup_92 (hI 200 rfl) ⟨rfl, rfl⟩ ?_
    refine x_iload_n (pc := 95) C dX7_closeGroup_95 rfl ?_
    refine x_iconst (pc := 96) C (3) dX7_closeGroup_96 (by decide) ?_
    refine x_iadd (pc := 97) C dX7_closeGroup_97 ?_
    refine x_topi (nI (8 + 5 * g + 3)) (by rw [show (3 : Int32) = nI 3 from rfl, nI_add]) ?_
    refine x_dup2 (pc := 98) C dX7_closeGroup_98 rfl rfl ?_
    refine x_iald (pc := 99) (o := 201) C dX7_closeGroup_99 (hI 201 rfl) ⟨rfl, rfl⟩ (show _ < 232 by omega) (by decide) ?_
    refine x_topi (V 201 (8 + 5 * g + 3)) (by (repeat rw [up_nk (by omega)]); rw [hV1.z]) ?_
    refine x_iload_n (pc := 100) C dX7_closeGroup_100 rfl ?_
    refine x_iadd (pc := 101) C dX7_closeGroup_101 ?_
    refine x_iast (pc := 102) (o := 201) C dX7_closeGroup_102 (hI 201 rfl) ⟨rfl, rfl⟩ (show _ < 232 by omega) (by decide) ?_
    refine x_aload_n (pc := 103) C dX7_closeGroup_103 rfl ?_
    refine x_getR (pc := 104) (o := 200) (j := 201) C f_X7_7 dX7_closeGroup_104 (hI 200 rfl) ⟨rfl, rfl⟩ ?_
    refine x_iload_n (pc := 107) C dX7_closeGroup_107 rfl ?_
    refine x_iconst (pc := 108) C (4) dX7_closeGroup_108 (by decide) ?_
    refine x_iadd (pc := 109) C dX7_closeGroup_109 ?_
    refine x_topi (nI (8 + 5 * g + 4)) (by rw [show (4 : Int32) = nI 4 from rfl, nI_add]) ?_
    refine x_dup2 (pc := 110) C dX7_closeGroup_110 rfl rfl ?_
    refine x_iald (pc := 111) (o := 201) C dX7_closeGroup_111 (hI 201 rfl) ⟨rfl, rfl⟩ (show _ < 232 by omega) (by decide) ?_
    refine x_topi (V 201 (8 + 5 * g + 4)) (by (repeat rw [up_nk (by omega)]); rw [hV1.z]) ?_
    refine x_iload (pc := 112) C dX7_closeGroup_112 rfl ?_
    refine x_iload (pc := 114) C dX7_closeGroup_114 rfl ?_
    refine x_isub (pc := 116) C dX7_closeGroup_116 ?_
    refine x_iadd (pc := 117) C dX7_closeGroup_117 ?_
    refine x_iast (pc := 118) (o := 201) C dX7_closeGroup_118 (hI 201 rfl) ⟨rfl, rfl⟩ (show _ < 232 by omega) (by decide) ?_
    refine x_aload_n (pc := 119) C dX7_closeGroup_119 rfl ?_
    refine x_getR (pc := 120) (o := 200) (j := 201) C f_X7_7 dX7_closeGroup_120 (hI 200 rfl) ⟨rfl, rfl⟩ ?_
    refine x_iload_n (pc := 123) C dX7_closeGroup_123 rfl ?_
    refine x_iconst (pc := 124) C (1) dX7_closeGroup_124 (by decide) ?_
    refine x_iadd (pc := 125) C dX7_closeGroup_125 ?_
    refine x_topi (nI (8 + 5 * g + 1)) (by rw [show (1 : Int32) = nI 1 from rfl, nI_add]) ?_
    refine x_iload (pc := 126) C dX7_closeGroup_126 rfl ?_
    refine x_iast (pc := 128) (o := 201) C dX7_closeGroup_128 (hI 201 rfl) ⟨rfl, rfl⟩ (show _ < 232 by omega) (by decide) ?_
    exact x_vret (pc := 129) C hQ dX7_closeGroup_129 (pm_v (cgV_of hV1)) (Nat.le_of_ble_eq_true rfl) (Nat.le_of_ble_eq_true rfl)
  refine x_icmp_ge (pc := 32) (tgt := 46) C dX7_closeGroup_32 (by decide) (fun h32 => ?_) (fun h32 => ?_)
  · refine x_iload (pc := 46) C dX7_closeGroup_46 rfl ?_
    refine x_aload_n (pc := 48) C dX7_closeGroup_48 rfl ?_
    refine x_getR (pc := 49) (o := 200) (j := 201) C f_X7_7 dX7_closeGroup_49 (hI 200 rfl) ⟨rfl, rfl⟩ ?_
    refine x_bipush (pc := 52) C (7) dX7_closeGroup_52 (by decide) ?_
    refine x_topi (nI 7) (by decide) ?_
    refine x_iald (pc := 54) (o := 201) C dX7_closeGroup_54 (hI 201 rfl) ⟨rfl, rfl⟩ (show _ < 232 by decide) (by decide) ?_
    refine x_topi (V 201 7) (by rw [hV1.z]) ?_
    refine x_icmp_le (pc := 55) (tgt := 68) C dX7_closeGroup_55 (by decide) (fun h55 => ?_) (fun h55 => ?_)
    · refine x_iload (pc := 68) C dX7_closeGroup_68 rfl ?_
      refine x_topi (carF (alN V g - awS V n (nI g)) (V 201 7)) (by unfold carF; rw [if_neg (Int32.not_lt.mpr h32), if_neg (Int32.not_lt.mpr h55)]) ?_
      exact J70
    · refine x_aload_n (pc := 58) C dX7_closeGroup_58 rfl ?_
      refine x_getR (pc := 59) (o := 200) (j := 201) C f_X7_7 dX7_closeGroup_59 (hI 200 rfl) ⟨rfl, rfl⟩ ?_
      refine x_bipush (pc := 62) C (7) dX7_closeGroup_62 (by decide) ?_
      refine x_topi (nI 7) (by decide) ?_
      refine x_iald (pc := 64) (o := 201) C dX7_closeGroup_64 (hI 201 rfl) ⟨rfl, rfl⟩ (show _ < 232 by decide) (by decide) ?_
      refine x_topi (V 201 7) (by rw [hV1.z]) ?_
      refine x_goto (pc := 65) (tgt := 70) C dX7_closeGroup_65 (by decide) ?_
      refine x_topi (carF (alN V g - awS V n (nI g)) (V 201 7)) (by unfold carF; rw [if_neg (Int32.not_lt.mpr h32), if_pos (Int32.not_le.mp h55)]) ?_
      exact J70
  · refine x_aload_n (pc := 35) C dX7_closeGroup_35 rfl ?_
    refine x_getR (pc := 36) (o := 200) (j := 201) C f_X7_7 dX7_closeGroup_36 (hI 200 rfl) ⟨rfl, rfl⟩ ?_
    refine x_bipush (pc := 39) C (7) dX7_closeGroup_39 (by decide) ?_
    refine x_topi (nI 7) (by decide) ?_
    refine x_iald (pc := 41) (o := 201) C dX7_closeGroup_41 (hI 201 rfl) ⟨rfl, rfl⟩ (show _ < 232 by decide) (by decide) ?_
    refine x_topi (V 201 7) (by rw [hV1.z]) ?_
    refine x_ineg (pc := 42) C dX7_closeGroup_42 ?_
    refine x_goto (pc := 43) (tgt := 70) C dX7_closeGroup_43 (by decide) ?_
    refine x_topi (carF (alN V g - awS V n (nI g)) (V 201 7)) (by unfold carF; rw [if_pos (Int32.not_le.mp h32)]) ?_
    exact J70
