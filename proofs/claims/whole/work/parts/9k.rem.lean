-- removing, closing, appending, undoing
set_option maxRecDepth 100000 in
set_option maxHeartbeats 4000000 in
theorem c_X7_removeX {l : Launch} {V : VV} {L : LL} {N : NN} {I : List Nat} (hI : PI I) {n : Nat} (hn : V 201 39 = nI n) (hn24 : n ≤ 24) (x : Int32) (hx : withinB x 0 (nI n - 1) = false) : Runs l 4 0 0 yX7_remove (Cond.code yX7_remove cX7_remove 5 (some .int)) [aR 200, aI x] V L N I (Is (some (aI 0)) (up V 200 0 1) L N I) := by
  refine run_of RX7 (by decide +kernel) rfl (Nat.le_of_ble_eq_true rfl) (fun E hE C hQ hN => ?_)
  subst hE
  refine x_aload_n (pc := 0) C dX7_remove_0 rfl ?_
  refine x_aload_n (pc := 1) C dX7_remove_1 rfl ?_
  refine x_iload_n (pc := 2) C dX7_remove_2 rfl ?_
  refine x_cV1 (pc := 3) (o := 200) C v_X7_152 dX7_remove_3 (c_X7_isShow hI hn hn24 _) (hI 200 rfl) rfl (by decide) rfl ⟨Nat.le_refl _, Nat.le_refl _⟩ ?_
  refine x_if_eq (pc := 6) (tgt := 13) C dX7_remove_6 (by decide) (fun h6 => ?_) (fun h6 => absurd (hx.symm.trans (b2i_t h6)) (by decide))
  refine x_iconst (pc := 13) C (1) dX7_remove_13 (by decide) ?_
  refine x_putI (pc := 14) (o := 200) C p_X7_37 dX7_remove_14 (hI 200 rfl) ⟨rfl, rfl, rfl⟩ ?_
  refine x_aload_n (pc := 17) C dX7_remove_17 rfl ?_
  refine x_getI (pc := 18) (o := 200) C f_X7_37 dX7_remove_18 (hI 200 rfl) ⟨rfl, rfl, rfl⟩ ?_
  refine x_topi 1 up_ss ?_
  refine x_if_le (pc := 21) (tgt := 26) C dX7_remove_21 (by decide) (fun h21 => absurd h21 (by decide)) (fun h21 => ?_)
  refine x_iconst (pc := 24) C (0) dX7_remove_24 (by decide) ?_
  exact x_iret (pc := 25) C hQ dX7_remove_25 (is_iv rfl rfl) (Nat.le_of_ble_eq_true rfl) (Nat.le_of_ble_eq_true rfl)
section
variable {l : Launch} {V : VV} {L : LL} {N : NN} {I : List Nat} {n o m l0 : Nat}
/-- the frame of a change: what neither plan nor row of numbers is -/
theorem mut_fr {V1 V2 V3 : VV} {N2 : NN} {I2 : List Nat} {n2 : Nat} (h : InvX V N I n o m l0) (hsv : SavP V N o m V1 N2) (hIN : IN N2 I2) (hV2 : ∀ i, i = 0 ∨ i = 1 ∨ i = 3 ∨ i = 4 ∨ 40 ≤ i → V2 i = V1 i) (hV3 : ∀ i, i ≠ 200 → i ≠ 201 → i < 204 → V3 i = svR (up V2 200 0 0) m i) (hV3j : ∀ j, j = 2 ∨ j = 4 ∨ j = 5 → V3 200 j = svR (up V2 200 0 0) m 200 j) (hP3 : P2 V3 20 (V3 201) n2) (hR3 : Rw (V3 201) n2) : Inv V3 N2 I2 := by
  obtain ⟨h1, h2, h3, h4, h5, h6, h7, h8, h9, h10, a, h11⟩ := h
  have e1 : ∀ i, i ≠ 1 → (i < 40 ∨ 157 ≤ i) → V1 i = V i := fun i a b => hsv.no b a
  have e3 : ∀ i, i ≠ 200 → i ≠ 201 → i ≠ 202 → i < 204 → V3 i = V2 i := fun i a b c d => by rw [hV3 i a b d, svR_i c a, up_nf a]
  have e30 : ∀ j, j = 4 ∨ j = 5 → V3 200 j = V2 200 j := fun j a => by rw [hV3j j (by omega), svR_j (by omega), up_nk (by omega)]
  have eU : ∀ i, i ≠ 200 → (up V2 200 0 0) i = V2 i := fun i hi => up_nf hi
  refine mut_inv (U := up V2 200 0 0) (l2 := l0) (a := a) h3.2.2.1 h3.2.2.2.2 h4 h1 h2 hsv (fun i a b => ?_) ?_ ?_ ?_ ?_ ?_ hIN hP3 hR3 ?_ ?_ ?_ h9 (fun i hi => ?_) ?_
  · rw [e3 i (by omega) (by omega) (by omega) (by omega), hV2 i (by omega)]
  · rw [e3 1 (by decide) (by decide) (by decide) (by decide), hV2 1 (by omega)]
  · rw [eU 201 (by decide), hV2 201 (by omega), e1 201 (by decide) (by decide)]
  · rw [eU 202 (by decide), hV2 202 (by omega), e1 202 (by decide) (by decide)]
  · exact hV3 202 (by decide) (by decide) (by decide)
  · exact hV3j 2 (by decide)
  · rw [e3 0 (by decide) (by decide) (by decide) (by decide), hV2 0 (by omega), e1 0 (by decide) (by decide), e30 4 (by decide), hV2 200 (by omega), e1 200 (by decide) (by decide)]
    exact h6
  · rw [e3 3 (by decide) (by decide) (by decide) (by decide), hV2 3 (by omega), e1 3 (by decide) (by decide)]; exact h7
  · rw [e30 5 (by decide), hV2 200 (by omega), e1 200 (by decide) (by decide)]; exact h8
  · rw [e3 4 (by decide) (by decide) (by decide) (by decide), hV2 4 (by omega), e1 4 (by decide) (by decide), e3 203 (by decide) (by decide) (by decide) (by decide), hV2 203 (by omega), e1 203 (by decide) (by decide)]; exact h10 i hi
  · rw [e3 3 (by decide) (by decide) (by decide) (by decide), hV2 3 (by omega), e1 3 (by decide) (by decide)]; exact h11
theorem no_orig {z : Nat → Int32} {p : Nat} (hR : Rw z n) (hp : p < n) : ∀ s, p + (n - 1 - p) < s → s < n → zF z 7 s ≠ nI p := fun s a b => by omega
theorem s_remove (h : InvX V N I n o m l0) (x : Int32) : ∃ P, Runs l 6 15 246 yX6_remove (Cond.code yX6_remove cX6_remove 2 (some .int)) [aR 0, aI x] V L N I P ∧ SP P (fun V2 L' N2 I2 PM => Runs l 4 0 0 yX7_remove (Cond.code yX7_remove cX7_remove 5 (some .int)) [aR 200, aI x] V2 L' N2 I2 PM) [xO] := by
  have hI := h.2.2.1.1.1
  have hm := h.2.2.2.2.1
  have hm6 := h.2.2.1.2.2.2.2
  have hn24 := h.2.1.1
  refine ⟨_, c_X6_remove h.2.2.1 h.1.2.2.2.1 hn24 x, fun r V2 L2 N2 I2 hp => ?_⟩
  rcases ei_c hp with ⟨b1, hp⟩ | ⟨b1, rfl, rfl, rfl, rfl, rfl⟩
  · rw [num_eq hn24] at b1
    obtain ⟨V1, hsv, hV2, rfl, rfl, hIN⟩ := hp
    obtain ⟨p, hp, rfl⟩ := shNat hn24 b1
    have hcl : (nI p).toNatClampNeg = p := nI_clamp (by omega)
    rw [hcl] at hV2
    have e1 : ∀ i, i ≠ 1 → (i < 40 ∨ 157 ≤ i) → V1 i = V i := fun i a b => hsv.no b a
    have ez1 : V1 201 = V 201 := e1 201 (by decide) (by decide)
    have hP1 : ∀ U : VV, U 201 = V 201 → P2 V1 20 (U 201) n := fun U hU => P2.cg hn24 (fun i a b => e1 i (by omega) (by omega)) (fun j _ => congrFun hU j) h.1
    have hR1 : ∀ U : VV, U 201 = V 201 → Rw (U 201) n := fun U hU => Rw.cg (fun j _ => congrFun hU j) h.2.1
    have hk : p + (n - 1 - p) + 1 = n := by omega
    have rA := rm_rel (p := p) (k := n - 1 - p) (V := V1) (U := V1) (n := n) (c := 1) (by omega) (hP1 V1 ez1) (hR1 V1 ez1) (fun s a b => by omega)
    obtain ⟨_, _, _, _, i5, i6, _, _, _, i10⟩ := rA
    have f2 : ∀ i, i < 20 ∨ 36 < i → V2 i = V1 i := fun i hi => by rw [hV2, del_nf (by omega) (by omega)]; exact i10 i hi
    have e201 : V2 201 = V 201 := (f2 201 (by omega)).trans ez1
    have e200 : V2 200 = V 200 := (f2 200 (by omega)).trans (e1 200 (by decide) (by decide))
    have hS : (svR (up V2 200 0 0) m) 201 = V 201 := by rw [svR_i (by decide) (by decide), up_nf (by decide), e201]
    have rB := rm_rel (p := p) (k := n - 1 - p) (V := V1) (U := svR (up V2 200 0 0) m) (n := n) (c := 1) (by omega) (hP1 _ hS) (hR1 _ hS) (fun s a b => by omega)
    rw [hk] at rB
    obtain ⟨j1, j2, j3, j4, j5, j6, j7, j8, j9, _⟩ := rB
    obtain ⟨n2, hn2⟩ : ∃ n2, (remL p (n - 1 - p) V1 n).2 = n2 + 1 := ⟨(remL p (n - 1 - p) V1 n).2 - 1, by omega⟩
    refine ⟨hIN, 0, _, by decide, Or.inl ⟨_, rfl, rfl, ?_⟩, fun L' => ⟨_, is_pm (c_X7_remove hIN.1 (by rw [e201]; exact h.2.1.2.1) hn24 (by rw [e200]; exact hm) hm6 _ (by rw [hcl, j2, j3]; exact j5)), fun V3 z => ?_⟩⟩
    · rw [if_pos (th1_0 b1), hcl, hn2, Nat.add_sub_cancel, nI_subn (by omega)]
      rw [hn2] at j4
      exact congrArg nI (by omega)
    · rw [if_pos (th1_0 b1), hcl, j2, j3, hn2, Nat.add_sub_cancel] at z
      rw [hn2, Nat.add_sub_cancel] at hV2
      rw [hn2] at j1 j7 j8 j5
      have f3 : ∀ i, i ≠ 201 → V3 i = svR (up V2 200 0 0) m i := fun i hi => by rw [z, delR_no hi]; exact j9 i hi
      refine ⟨by rw [f3 200 (by decide), svR_j (by decide), up_ss]; rfl, mut_fr (n2 := n2) h hsv hIN (fun i hi => f2 i (by omega)) (fun i a b _ => f3 i b) (fun j _ => congrFun (f3 200 (by decide)) j) ?_ ?_⟩
      · have := del_rel (p := p) j1
        rw [← hV2, ← z] at this
        exact P2.cg (by omega) (fun i a b => by rw [f3 i (by omega), svR_i (by omega) (by omega), up_nf (by omega)]) (fun _ _ => rfl) this
      · rw [z]
        exact del_row j7 (by omega) (fun s hs => j8 s (by omega))
  · rw [num_eq hn24] at b1
    exact sp_exc h (k := 0) (by decide) rfl nd_1 sx_r fun L' => ⟨_, is_pm (c_X7_removeX hI h.2.1.2.1 hn24 x b1), fun V3 z => by
      rw [z]; exact ⟨up_ss, sx_th⟩⟩
theorem s_closeWeek (h : InvX V N I n o m l0) : ∃ P, Runs l 6 15 246 yX6_closeWeek (Cond.code yX6_closeWeek cX6_closeWeek 2 (some .int)) [aR 0] V L N I P ∧ SP P (fun V2 L' N2 I2 PM => Runs l 7 0 0 yX7_closeWeek (Cond.code yX7_closeWeek cX7_closeWeek 2 (some .int)) [aR 200] V2 L' N2 I2 PM) [xS] := by
  have hI := h.2.2.1.1.1
  have hm := h.2.2.2.2.1
  have hm6 := h.2.2.1.2.2.2.2
  have hn24 := h.2.1.1
  have hw : V 20 6 = V 201 38 := h.1.2.2.1
  refine ⟨_, c_X6_closeWeek h.2.2.1 h.1.2.2.2.1 hn24 h.d, fun r V2 L2 N2 I2 hp => ?_⟩
  rcases ei_c hp with ⟨b1, hp⟩ | ⟨b1, rfl, rfl, rfl, rfl, rfl⟩
  · obtain ⟨V1, Va, hsv, hA, hV2, rfl, rfl, hIN⟩ := hp
    rw [hw] at b1
    have e1 : ∀ i, i ≠ 1 → (i < 40 ∨ 157 ≤ i) → V1 i = V i := fun i a b => hsv.no b a
    have ez1 : V1 201 = V 201 := e1 201 (by decide) (by decide)
    have hq : Pq Va n := pq_of (P2.cg hn24 (fun i a b => e1 i (by omega) (by omega)) (fun j _ => congrFun ez1 j) h.1) (Rw.cg (fun j _ => congrFun ez1 j) h.2.1) hA
    have f2 : ∀ i, i < 6 ∨ (11 < i ∧ i < 20) ∨ 36 < i → V2 i = V1 i := fun i hi => by
      rw [hV2]
      unfold bwV
      rw [up_nf (by omega)]
      have : zeroV (clN n Va 6) n i = clN n Va 6 i := by funext j; unfold zeroV; rw [if_neg (by omega)]
      rw [this, clN_nf (by omega)]
      exact hA.1 i (by omega)
    have e201 : V2 201 = V 201 := (f2 201 (by omega)).trans ez1
    have e200 : V2 200 = V 200 := (f2 200 (by omega)).trans (e1 200 (by decide) (by decide))
    have eza : Va 201 = V 201 := (hA.1 201 (by decide)).trans ez1
    have hS : (svR (up V2 200 0 0) m) 201 = V 201 := by rw [svR_i (by decide) (by decide), up_nf (by decide), e201]
    have hSa : (svR (up V2 200 0 0) m) 201 = Va 201 := hS.trans eza.symm
    have hcl := cl_rel (V := Va) (U := svR (up V2 200 0 0) m) (n := n) (P2.cg hn24 (fun _ _ _ => rfl) (fun j _ => congrFun hSa j) hq.1) (by rw [hSa]; exact rw_gb hq.2.1) (fun g hg => by
      rw [awS_sm hSa]
      exact wog_b (bth_of hq.1 hq.2.1) hq.2.2 rfl rfl) (g := 6) (Nat.le_refl 6)
    have hbw := bw_rel hcl
    have hcw := cw_row (U := svR (up V2 200 0 0) m) (n := n) (Rw.cg (fun j _ => congrFun hS j) h.2.1)
    rw [← hV2] at hbw
    have b1' : decide (V2 201 38 < 1000) = true := by rw [e201]; exact b1
    refine ⟨hIN, 0, _, by decide, Or.inl ⟨_, rfl, rfl, ?_⟩, fun L' => ⟨_, c_X7_closeWeek hIN.1 (by rw [e201]; exact h.2.1.2.1) hn24 (by rw [e200]; exact hm) hm6 (fun s hs => by
      obtain ⟨d, a, b⟩ := rw_d h.2.1 hs
      exact ⟨d, a, by rw [RF_z e201]; exact b⟩), fun V3 z => ?_⟩⟩
    · rw [if_pos (th1_0 b1'), e201, hw]
    · rw [if_pos (th1_0 b1')] at z
      have fc : ∀ i, i ≠ 201 → cwR (svR (up V2 200 0 0) m) n i = svR (up V2 200 0 0) m i := fun i hi => by
        unfold cwR
        rw [up_nf hi]
        have hz : zrR (cgN (svR (up V2 200 0 0) m) n 6) n i = cgN (svR (up V2 200 0 0) m) n 6 i := by funext j; unfold zrR; rw [if_neg (fun q => hi q.1)]
        rw [hz]
        have hg : ∀ g, cgN (svR (up V2 200 0 0) m) n g i = svR (up V2 200 0 0) m i := fun g => by
          induction g with
          | zero => rfl
          | succ g ih => rw [cgN]; unfold cgR; rw [up_nf hi, up_nf hi, up_nf hi, up_nf hi]; exact ih
        exact hg 6
      have f3 : ∀ i, i ≠ 200 → i ≠ 201 → i < 204 → V3 i = svR (up V2 200 0 0) m i := fun i a b c => by
        rw [← fc i b]
        funext j
        exact z i j (by omega) (by omega)
      have f30 : ∀ j, j ≠ 12 → V3 200 j = svR (up V2 200 0 0) m 200 j := fun j hj => by
        rw [← fc 200 (by decide)]
        exact z 200 j (by omega) (by omega)
      have e3z : V3 201 = cwR (svR (up V2 200 0 0) m) n 201 := funext fun j => z 201 j (by omega) (by omega)
      refine ⟨by rw [f30 0 (by decide), svR_j (by decide), up_ss]; rfl, mut_fr (n2 := n) h hsv hIN (fun i hi => f2 i (by omega)) (fun i a b c => f3 i a b c) (fun j hj => f30 j (by omega)) ?_ ?_⟩
      · rw [e3z]
        exact P2.cg hn24 (fun i a b => by rw [f3 i (by omega) (by omega) (by omega), svR_i (by omega) (by omega), up_nf (by omega)]) (fun _ _ => rfl) hbw
      · rw [e3z]; exact hcw
  · rw [hw] at b1
    exact sp_exc h (k := 0) (by decide) rfl nd_1 sx_r fun L' => ⟨_, c_X7_closeWeek hI h.2.1.2.1 hn24 hm hm6 (fun s hs => rw_d h.2.1 hs), fun V3 z => by
      rw [if_neg (by rw [th1_1 b1]; decide)] at z
      exact ⟨(z 200 0 (by decide) (by decide)).trans up_ss, sx_t sx_th (sx_sml z)⟩⟩
theorem s_append (h : InvX V N I n o m l0) (x : Int32) : ∃ P, Runs l 6 1 6 yX6_append (Cond.code yX6_append cX6_append 2 (some .int)) [aR 0, aI x] V L N I P ∧ SP P (fun V2 L' N2 I2 PM => Runs l 2 0 0 yX7_append (Cond.code yX7_append cX7_append 2 (some .int)) [aR 200, aI x] V2 L' N2 I2 PM) [xA, xS] := by
  have hI := h.2.2.1.1.1
  obtain ⟨h1, h2, h3, h4, h5, h6, h7, h8, h9, h10, a, h11⟩ := id h
  refine ⟨_, c_X6_append hI h7 h9 x, fun r V2 L2 N2 I2 hp => ?_⟩
  rcases ei_c hp with ⟨b1, hp⟩ | ⟨b1, rfl, rfl, rfl, rfl, rfl⟩
  · rcases ei_c hp with ⟨b2, hp⟩ | ⟨b2, rfl, rfl, rfl, rfl, rfl⟩
    · obtain ⟨rfl, rfl, rfl, rfl, rfl⟩ := hp
      refine ⟨h3.1, 0, _, by decide, Or.inl ⟨_, rfl, rfl, ?_⟩, fun L' => ⟨_, is_pm (c_X7_append hI (l0 := l0) (by rw [up_no (by decide), up_no (by decide)]; exact h8) h9 _), fun V3 z => ?_⟩⟩
      · rw [if_pos (th2_0 b1 b2)]
      · rw [if_pos (th2_0 b1 b2)] at z
        have hl : l0 ≠ 60 := of_decide_eq_true b2
        have e : ∀ i, i ≠ 4 → i ≠ 3 → i ≠ 200 → i ≠ 203 → V3 i = V i := fun i a b c d => by rw [z, up_nf c, up_nf d, up_nf c, up_nf b, up_nf a]
        have e20 : ∀ j, j ≠ 0 → j ≠ 5 → V3 200 j = V 200 j := fun j a b => by rw [z, up_nk b, up_no (by decide), up_nk a, up_no (by decide), up_no (by decide)]
        have e3 : ∀ j, j ≠ 1 → V3 3 j = V 3 j := fun j a => by rw [z, up_no (by decide), up_no (by decide), up_no (by decide), up_nk a, up_no (by decide)]
        have ez : V3 201 = V 201 := e 201 (by decide) (by decide) (by decide) (by decide)
        have e1 : V3 1 = V 1 := e 1 (by decide) (by decide) (by decide) (by decide)
        refine ⟨by rw [z, up_nk (by decide), up_no (by decide), up_ss]; rfl, n, o, m, l0 + 1, P2.cg h2.1 (fun i a b => e i (by omega) (by omega) (by omega) (by omega)) (fun j _ => congrFun ez j) h1, Rw.cg (fun j _ => congrFun ez j) h2, ⟨h3.1, by rw [e1]; exact h3.2.1, h3.2.2.1, by rw [e1]; exact h3.2.2.2.1, h3.2.2.2.2⟩, SvI.cg (fun i a b => e i (by omega) (by omega) (by omega) (by omega)) (e 202 (by decide) (by decide) (by decide) (by decide)) h4, ?_, ?_, ?_, ?_, by omega, fun i hi => ?_, a, ?_⟩
        · rw [e20 2 (by decide) (by decide)]; exact h5
        · rw [e20 4 (by decide) (by decide), e 0 (by decide) (by decide) (by decide) (by decide)]; exact h6
        · rw [z, up_no (by decide), up_no (by decide), up_no (by decide), up_ss]
        · rw [z, up_ss]
        · have ea : V3 4 i = if i = l0 then x else V 4 i := by
            rw [z, up_no (by decide), up_no (by decide), up_no (by decide), up_no (by decide)]
            by_cases w : i = l0
            · rw [if_pos w, w, up_ss]
            · rw [if_neg w, up_nk w]
          have eb : V3 203 i = if i = l0 then x else V 203 i := by
            rw [z, up_no (by decide)]
            by_cases w : i = l0
            · rw [if_pos w, w, up_ss]
            · rw [if_neg w, up_nk w, up_no (by decide), up_no (by decide), up_no (by decide)]
          rw [ea, eb]
          by_cases w : i = l0
          · rw [if_pos w, if_pos w]
          · rw [if_neg w, if_neg w]; exact h10 i (by omega)
        · rw [e3 2 (by decide)]; exact h11
    · exact sp_exc h (k := 1) (by decide) rfl nd_2b sx_r fun L' => ⟨_, is_pm (c_X7_append hI h8 h9 _), fun V3 z => by
        rw [if_neg (by rw [th2_2 b1 b2]; decide)] at z
        rw [z]; exact ⟨up_ss.trans (th2_2 b1 b2), sx_th⟩⟩
  · exact sp_exc h (k := 0) (by decide) rfl nd_2b sx_r fun L' => ⟨_, is_pm (c_X7_append hI h8 h9 _), fun V3 z => by
      rw [if_neg (by rw [th2_1 b1]; decide)] at z
      rw [z]; exact ⟨up_ss.trans (th2_1 b1), sx_th⟩⟩
theorem cf_out {V : VV} {s d i : Nat} (h : i < d ∨ d + 16 < i) : cfV V s d i = V i := by
  unfold cfV
  have hc : ∀ {W : VV} {a b k : Nat}, i ≠ b → cpy W a b k i = W i := fun {W a b k} hb => cpy_no hb
  rw [hc (by omega), hc (by omega), hc (by omega), hc (by omega), hc (by omega), hc (by omega), hc (by omega), hc (by omega), up_nf (by omega), up_nf (by omega), hc (by omega), hc (by omega), hc (by omega), hc (by omega), hc (by omega), hc (by omega)]
theorem s_undo (h : InvX V N I n o m l0) : ∃ P, Runs l 6 15 246 yX6_undo (Cond.code yX6_undo cX6_undo 1 (some .int)) [aR 0] V L N I P ∧ SP P (fun V2 L' N2 I2 PM => Runs l 1 0 0 yX7_undo (Cond.code yX7_undo cX7_undo 2 (some .int)) [aR 200] V2 L' N2 I2 PM) [xS] := by
  have hI := h.2.2.1.1.1
  obtain ⟨h1, h2, h3, h4, h5, h6, h7, h8, h9, h10, a, h11⟩ := id h
  refine ⟨_, c_X6_undo h3 (fun hm => (h4 (m - 1) (by omega)).1), fun r V2 L2 N2 I2 hp => ?_⟩
  rcases ei_c hp with ⟨b1, hp⟩ | ⟨b1, rfl, rfl, rfl, rfl, rfl⟩
  · obtain ⟨rfl, hV2, rfl, rfl, rfl⟩ := hp
    have hm0 : 0 < m := of_decide_eq_true b1
    have hsl : 40 + 20 * rsP o m = slot o (m - 1) := rfl
    have hsb : 40 ≤ slot o (m - 1) ∧ slot o (m - 1) ≤ 140 := by unfold slot; omega
    rw [hsl] at hV2
    have f2 : ∀ i, i ≠ 1 → i < 20 ∨ 36 < i → V2 i = V i := fun i a b => by rw [hV2, cf_out (by omega), up_nf a]
    have e200 : V2 200 = V 200 := f2 200 (by decide) (by omega)
    refine ⟨h3.1, 0, _, by decide, Or.inl ⟨_, rfl, rfl, ?_⟩, fun L' => ⟨_, is_pm (c_X7_undo hI (m := m) (by rw [e200]; exact h5) h3.2.2.2.2), fun V3 z => ?_⟩⟩
    · rw [if_neg (by omega)]
    · rw [if_neg (by omega)] at z
      have f3 : ∀ i, i ≠ 201 → V3 i = up (up V2 200 0 0) 200 2 (nI (m - 1)) i := fun i hi => by
        rw [z]; funext j; unfold unR; rw [if_neg (fun q => hi q.1)]
      have f4 : ∀ i, i ≠ 201 → i ≠ 200 → V3 i = V2 i := fun i a b => by rw [f3 i a, up_nf b, up_nf b]
      have f5 : ∀ j, j ≠ 0 → j ≠ 2 → V3 200 j = V 200 j := fun j a b => by rw [f3 200 (by decide), up_nk b, up_nk a, e200]
      have hzz : ∀ j, j < 232 → V3 201 j = V 202 (232 * (m - 1) + j) := fun j hj => by
        rw [z]; unfold unR
        rw [if_pos ⟨rfl, hj⟩, up_no (by decide), up_no (by decide), f2 202 (by decide) (by omega)]
      have hE : PlEq (up V 1 2 (nI (m - 1))) (slot o (m - 1)) V2 20 := by rw [hV2]; exact plEq_cf (by omega)
      have hE2 : PlEq V (slot o (m - 1)) V2 20 := by
        have e : ∀ i, slot o (m - 1) ≤ i → (up V 1 2 (nI (m - 1))) i = V i := fun i hi => up_nf (by omega)
        obtain ⟨q1, q2, q3, q4, q5⟩ := hE
        refine ⟨fun j hj => ?_, fun k hk j hj => ?_, ?_, ?_, fun k hk j hj => ?_⟩
        · rw [q1 j hj, e _ (by omega)]
        · rw [q2 k hk j hj, e _ (by omega)]
        · rw [q3, e _ (by omega)]
        · rw [q4, e _ (by omega)]
        · rw [q5 k hk j hj, e _ (by omega)]
      obtain ⟨n2, w1, w2⟩ := un_rel (V3 := V3) h3.2.2.1 h3.2.2.2.2 hm0 h4 hE2 (fun i a b => f4 i (by omega) (by omega)) hzz
      have g1 : ∀ j, V3 1 j = if j = 2 then nI (m - 1) else V 1 j := fun j => by
        rw [f4 1 (by decide) (by decide), hV2, cf_out (by omega)]
        by_cases w : j = 2
        · rw [if_pos w, w, up_ss]
        · rw [if_neg w, up_nk w]
      have g : ∀ i, i ≠ 1 → i ≠ 200 → i ≠ 201 → i < 20 ∨ 36 < i → V3 i = V i := fun i a b c d => (f4 i c b).trans (f2 i a d)
      refine ⟨by rw [f3 200 (by decide), up_nk (by decide), up_ss]; rfl, n2, o, m - 1, l0, w2, w1, ⟨h3.1, by rw [g1, if_neg (by decide)]; exact h3.2.1, h3.2.2.1, by rw [g1, if_pos rfl], by have := h3.2.2.2.2; omega⟩, ?_, ?_, ?_, ?_, ?_, h9, fun i hi => ?_, a, ?_⟩
      · have := SvI.cg (V1 := V3) (fun i a b => g i (by omega) (by omega) (by omega) (by omega)) (g 202 (by decide) (by decide) (by decide) (by omega)) h4
        exact fun j hj => this j (by omega)
      · rw [f3 200 (by decide), up_ss]
      · rw [g 0 (by decide) (by decide) (by decide) (by omega), f5 4 (by decide) (by decide)]; exact h6
      · rw [g 3 (by decide) (by decide) (by decide) (by omega)]; exact h7
      · rw [f5 5 (by decide) (by decide)]; exact h8
      · rw [g 4 (by decide) (by decide) (by decide) (by omega), g 203 (by decide) (by decide) (by decide) (by omega)]; exact h10 i hi
      · rw [g 3 (by decide) (by decide) (by decide) (by omega)]; exact h11
  · have hm0 : m = 0 := by have := of_decide_eq_false b1; omega
    exact sp_exc h (k := 0) (by decide) rfl nd_1 sx_r fun L' => ⟨_, is_pm (c_X7_undo hI h5 h3.2.2.2.2), fun V3 z => by
      rw [if_pos hm0] at z
      rw [z]; exact ⟨up_ss, sx_th⟩⟩
end
