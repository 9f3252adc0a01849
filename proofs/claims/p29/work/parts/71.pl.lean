set_option maxRecDepth 100000 in
set_option maxHeartbeats 4000000 in
theorem c_X6_count {l : Launch} {V : VV} {L : LL} {N : NN} {I : List Nat} (hI : PI I) {n : Nat} (hn : V 20 7 = nI n) (hn24 : n ≤ 24) (hdy : ∀ s, s < n → ∃ d, d < 7 ∧ V 31 s = nI d) (x : Int32) : Runs l 7 1 6 yX6_count (Cond.code yX6_count cX6_count 2 (some .int)) [aR 0, aI x] V L N I (Ei (withinB x 0 7) "java/lang/IllegalArgumentException" (Pl (fun V1 => wnV V1 n x.toNatClampNeg) n V L N I) V L N I) := by
  refine run_of RX6 (by decide +kernel) rfl (Nat.le_of_ble_eq_true rfl) (fun E hE C hQ hN => ?_)
  subst hE
  refine x_iload_n (pc := 0) C dX6_count_0 rfl ?_
  refine x_iconst (pc := 1) C (0) dX6_count_1 (by decide) ?_
  refine x_bipush (pc := 2) C (7) dX6_count_2 (by decide) ?_
  refine x_cS3 (pc := 4) C s_X6_51 dX6_count_4 (c_X6_isWithin _ _ _) (by decide) rfl ⟨by decide, by decide⟩ ?_
  refine x_if_ne (pc := 7) (tgt := 20) C dX6_count_7 (by decide) (fun h7 => ?_) (fun h7 => ?_)
  · have hw := b2i_t h7
    obtain ⟨s, hs, rfl⟩ := win_of (k := 7) (by decide) hw
    have hcl : (nI s).toNatClampNeg = s := nI_clamp (by omega)
    refine x_aload_n (pc := 20) C dX6_count_20 rfl ?_
    refine x_getR (pc := 21) (o := 0) (j := 6) C f_X6_40 dX6_count_21 (hI 0 rfl) ⟨rfl, rfl⟩ ?_
    refine x_aload_n (pc := 24) C dX6_count_24 rfl ?_
    refine x_getR (pc := 25) (o := 0) (j := 20) C f_X6_10 dX6_count_25 (hI 0 rfl) ⟨rfl, rfl⟩ ?_
    refine x_pV1 (pc := 28) (o := 6) C v_X6_140 dX6_count_28 (c_X0_play hI hn hn24 hdy) (hI 6 rfl) rfl (by decide) rfl ⟨by decide, by decide⟩ (fun V1 hV1 => ?_)
    have hn1 : V1 20 7 = nI n := (congrFun (airI_20 hV1) 7).trans hn
    refine x_aload_n (pc := 31) C dX6_count_31 rfl ?_
    refine x_iload_n (pc := 32) C dX6_count_32 rfl ?_
    refine x_cV1 (pc := 33) (o := 0) C v_X6_221 dX6_count_33 (c_X6_countOf (V := V1) hI hn1 hn24 s (by omega)) (hI 0 rfl) rfl (by decide) rfl ⟨by decide, by decide⟩ ?_
    exact x_iret (pc := 36) C hQ dX6_count_36 (ei_t hw ⟨by rw [hcl], hV1, rfl, rfl, rfl⟩) (Nat.le_of_ble_eq_true rfl) (Nat.le_of_ble_eq_true rfl)
  · exact x_throw (pc := 10) C hQ hN t_X6_69_216_73 dX6_count_10 dX6_count_13 dX6_count_14 dX6_count_16 dX6_count_19 (by decide) rfl ⟨by decide, by decide, by decide, by decide⟩ (ei_f (b2i_f h7))
