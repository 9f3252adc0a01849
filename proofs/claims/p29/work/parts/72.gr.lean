set_option maxRecDepth 100000 in
set_option maxHeartbeats 4000000 in
theorem c_X6_group {l : Launch} {V : VV} {L : LL} {N : NN} {I : List Nat} (hI : PI I) {n : Nat} (hn : V 20 7 = nI n) (hn24 : n ≤ 24) (hdy : ∀ s, s < n → ∃ d, d < 7 ∧ V 31 s = nI d) (x y : Int32) : Runs l 6 1 6 yX6_group (Cond.code yX6_group cX6_group 3 (some .int)) [aR 0, aI x, aI y] V L N I (Ei (withinB x 0 5) "java/lang/IndexOutOfBoundsException" (Ei (withinB y 0 8) "java/lang/IllegalArgumentException" (Pl (fun V1 => gpV V1 n x.toNatClampNeg y.toNatClampNeg) n V L N I) V L N I) V L N I) := by
  refine run_of RX6 (by decide +kernel) rfl (Nat.le_of_ble_eq_true rfl) (fun E hE C hQ hN => ?_)
  subst hE
  refine x_iload_n (pc := 0) C dX6_group_0 rfl ?_
  refine x_iconst (pc := 1) C (0) dX6_group_1 (by decide) ?_
  refine x_iconst (pc := 2) C (5) dX6_group_2 (by decide) ?_
  refine x_cS3 (pc := 3) C s_X6_51 dX6_group_3 (c_X6_isWithin _ _ _) (by decide) rfl ⟨by decide, by decide⟩ ?_
  refine x_if_ne (pc := 6) (tgt := 19) C dX6_group_6 (by decide) (fun h6 => ?_) (fun h6 => ?_)
  · have hw := b2i_t h6
    refine x_iload_n (pc := 19) C dX6_group_19 rfl ?_
    refine x_iconst (pc := 20) C (0) dX6_group_20 (by decide) ?_
    refine x_bipush (pc := 21) C (8) dX6_group_21 (by decide) ?_
    refine x_cS3 (pc := 23) C s_X6_51 dX6_group_23 (c_X6_isWithin _ _ _) (by decide) rfl ⟨by decide, by decide⟩ ?_
    refine x_if_ne (pc := 26) (tgt := 39) C dX6_group_26 (by decide) (fun h26 => ?_) (fun h26 => ?_)
    · have hw2 := b2i_t h26
      obtain ⟨g, hg, rfl⟩ := win_of (k := 5) (by decide) hw
      have hcl : (nI g).toNatClampNeg = g := nI_clamp (by omega)
      obtain ⟨w, hwl, rfl⟩ := win_of (k := 8) (by decide) hw2
      have hcl2 : (nI w).toNatClampNeg = w := nI_clamp (by omega)
      refine x_aload_n (pc := 39) C dX6_group_39 rfl ?_
      refine x_getR (pc := 40) (o := 0) (j := 6) C f_X6_40 dX6_group_40 (hI 0 rfl) ⟨rfl, rfl⟩ ?_
      refine x_aload_n (pc := 43) C dX6_group_43 rfl ?_
      refine x_getR (pc := 44) (o := 0) (j := 20) C f_X6_10 dX6_group_44 (hI 0 rfl) ⟨rfl, rfl⟩ ?_
      refine x_pV1 (pc := 47) (o := 6) C v_X6_140 dX6_group_47 (c_X0_play hI hn hn24 hdy) (hI 6 rfl) rfl (by decide) rfl ⟨by decide, by decide⟩ (fun V1 hV1 => ?_)
      have hn1 : V1 20 7 = nI n := (congrFun (airI_20 hV1) 7).trans hn
      refine x_aload_n (pc := 50) C dX6_group_50 rfl ?_
      refine x_iload_n (pc := 51) C dX6_group_51 rfl ?_
      refine x_iload_n (pc := 52) C dX6_group_52 rfl ?_
      refine x_cV2 (pc := 53) (o := 0) C v_X6_202 dX6_group_53 (c_X6_groupProperty (V := V1) hI hn1 hn24 g w (by omega) (by omega)) (hI 0 rfl) rfl (by decide) rfl ⟨by decide, by decide⟩ ?_
      exact x_iret (pc := 56) C hQ dX6_group_56 (ei_t hw (ei_t hw2 ⟨by rw [hcl, hcl2], hV1, rfl, rfl, rfl⟩)) (Nat.le_of_ble_eq_true rfl) (Nat.le_of_ble_eq_true rfl)
    · exact x_throw (pc := 29) C hQ hN t_X6_69_200_73 dX6_group_29 dX6_group_32 dX6_group_33 dX6_group_35 dX6_group_38 (by decide) rfl ⟨by decide, by decide, by decide, by decide⟩ (ei_t hw (ei_f (b2i_f h26)))
  · exact x_throw (pc := 9) C hQ hN t_X6_55_81_59 dX6_group_9 dX6_group_12 dX6_group_13 dX6_group_15 dX6_group_18 (by decide) rfl ⟨by decide, by decide, by decide, by decide⟩ (ei_f (b2i_f h6))
