set_option maxRecDepth 100000 in
set_option maxHeartbeats 4000000 in
theorem c_X6_show {l : Launch} {V : VV} {L : LL} {N : NN} {I : List Nat} (hI : PI I) {n : Nat} (hn : V 20 7 = nI n) (hn24 : n ≤ 24) (hdy : ∀ s, s < n → ∃ d, d < 7 ∧ V 31 s = nI d) (x y : Int32) : Runs l 6 1 6 yX6_show (Cond.code yX6_show cX6_show 3 (some .int)) [aR 0, aI x, aI y] V L N I (Ei (decide (¬ x < 0 ∧ x < nI n)) "java/lang/IndexOutOfBoundsException" (Ei (withinB y 0 11) "java/lang/IllegalArgumentException" (Pl (fun V1 => spV V1 x.toNatClampNeg y.toNatClampNeg) n V L N I) V L N I) V L N I) := by
  refine run_of RX6 (by decide +kernel) rfl (Nat.le_of_ble_eq_true rfl) (fun E hE C hQ hN => ?_)
  subst hE
  refine x_aload_n (pc := 0) C dX6_show_0 rfl ?_
  refine x_getR (pc := 1) (o := 0) (j := 20) C f_X6_10 dX6_show_1 (hI 0 rfl) ⟨rfl, rfl⟩ ?_
  refine x_iload_n (pc := 4) C dX6_show_4 rfl ?_
  refine x_cV1 (pc := 5) (o := 20) C v_X6_114 dX6_show_5 (c_X3_hasShow hI hn hn24 _) (hI 20 rfl) rfl (by decide) rfl ⟨by decide, by decide⟩ ?_
  refine x_if_ne (pc := 8) (tgt := 21) C dX6_show_8 (by decide) (fun h8 => ?_) (fun h8 => ?_)
  · have hw := b2i_t h8
    refine x_iload_n (pc := 21) C dX6_show_21 rfl ?_
    refine x_iconst (pc := 22) C (0) dX6_show_22 (by decide) ?_
    refine x_bipush (pc := 23) C (11) dX6_show_23 (by decide) ?_
    refine x_cS3 (pc := 25) C s_X6_51 dX6_show_25 (c_X6_isWithin _ _ _) (by decide) rfl ⟨by decide, by decide⟩ ?_
    refine x_if_ne (pc := 28) (tgt := 41) C dX6_show_28 (by decide) (fun h28 => ?_) (fun h28 => ?_)
    · have hw2 := b2i_t h28
      have hd := of_decide_eq_true hw
      obtain ⟨o, ho, hol⟩ := nI_in_of hd.1 hd.2 hn24
      subst ho
      have hcl : (nI o).toNatClampNeg = o := nI_clamp (by omega)
      obtain ⟨w, hwl, rfl⟩ := win_of (k := 11) (by decide) hw2
      have hcl2 : (nI w).toNatClampNeg = w := nI_clamp (by omega)
      refine x_aload_n (pc := 41) C dX6_show_41 rfl ?_
      refine x_getR (pc := 42) (o := 0) (j := 6) C f_X6_40 dX6_show_42 (hI 0 rfl) ⟨rfl, rfl⟩ ?_
      refine x_aload_n (pc := 45) C dX6_show_45 rfl ?_
      refine x_getR (pc := 46) (o := 0) (j := 20) C f_X6_10 dX6_show_46 (hI 0 rfl) ⟨rfl, rfl⟩ ?_
      refine x_pV1 (pc := 49) (o := 6) C v_X6_140 dX6_show_49 (c_X0_play hI hn hn24 hdy) (hI 6 rfl) rfl (by decide) rfl ⟨by decide, by decide⟩ (fun V1 hV1 => ?_)
      refine x_aload_n (pc := 52) C dX6_show_52 rfl ?_
      refine x_iload_n (pc := 53) C dX6_show_53 rfl ?_
      refine x_iload_n (pc := 54) C dX6_show_54 rfl ?_
      refine x_cV2 (pc := 55) (o := 0) C v_X6_196 dX6_show_55 (c_X6_showProperty (V := V1) hI o w (by omega) (by omega)) (hI 0 rfl) rfl (by decide) rfl ⟨by decide, by decide⟩ ?_
      exact x_iret (pc := 58) C hQ dX6_show_58 (ei_t hw (ei_t hw2 ⟨by rw [hcl, hcl2], hV1, rfl, rfl, rfl⟩)) (Nat.le_of_ble_eq_true rfl) (Nat.le_of_ble_eq_true rfl)
    · exact x_throw (pc := 31) C hQ hN t_X6_69_194_73 dX6_show_31 dX6_show_34 dX6_show_35 dX6_show_37 dX6_show_40 (by decide) rfl ⟨by decide, by decide, by decide, by decide⟩ (ei_t hw (ei_f (b2i_f h28)))
  · exact x_throw (pc := 11) C hQ hN t_X6_55_110_59 dX6_show_11 dX6_show_14 dX6_show_15 dX6_show_17 dX6_show_20 (by decide) rfl ⟨by decide, by decide, by decide, by decide⟩ (ei_f (b2i_f h8))
