-- calls that change something
theorem svR_i {U : VV} {m i : Nat} (h : i ≠ 202) (h2 : i ≠ 200) : svR U m i = U i := funext fun j => svR_no ⟨h, fun q => h2 q.1⟩
theorem svR_j {U : VV} {m j : Nat} (h : j ≠ 2) : svR U m 200 j = U 200 j := svR_no ⟨by decide, fun q => h q.2⟩
theorem svR_2 {U : VV} {m : Nat} : svR U m 200 2 = nI (svM m + 1) := by
  unfold svR svM
  split
  · rw [up_ss]
  · rw [up_ss]
theorem svO_lt {o m : Nat} (ho : o < 6) : svO o m < 6 := by unfold svO; split <;> omega
theorem svM_le {m : Nat} (hm : m ≤ 6) : svM m + 1 ≤ 6 := by unfold svM; split <;> omega
theorem mut_inv {Vp V1 V3 U : VV} {N N2 : NN} {I2 : List Nat} {n o m n2 l2 a : Nat} (ho : o < 6) (hm : m ≤ 6) (hS : SvI Vp N o m) (hP : P2 Vp 20 (Vp 201) n) (hR : Rw (Vp 201) n) (hsv : SavP Vp N o m V1 N2) (h3 : ∀ i, 40 ≤ i → i ≤ 156 → V3 i = V1 i) (h31 : V3 1 = V1 1) (hU1 : U 201 = Vp 201) (hU2 : U 202 = Vp 202)
    (hz : V3 202 = svR U m 202) (hz2 : V3 200 2 = svR U m 200 2) (hIN : IN N2 I2) (hP3 : P2 V3 20 (V3 201) n2) (hR3 : Rw (V3 201) n2) (h6 : V3 0 6 = V3 200 4) (h7 : V3 3 1 = nI l2) (h8 : V3 200 5 = nI l2) (h9 : l2 ≤ 60) (h10 : ∀ i, i < l2 → V3 4 i = V3 203 i) (h11 : V3 3 2 = nI a) : Inv V3 N2 I2 := by
  refine ⟨n2, svO o m, svM m + 1, l2, hP3, hR3, ⟨hIN, ?_, svO_lt ho, ?_, svM_le hm⟩, sv_rel ho hm hS hP hR hsv h3 hU1 hU2 hz, ?_, h6, h7, h8, h9, h10, a, h11⟩
  · rw [h31]; exact hsv.2.1
  · rw [h31]; exact hsv.2.2.1
  · rw [hz2]; exact svR_2
section
variable {l : Launch} {V : VV} {L : LL} {N : NN} {I : List Nat} {n o m l0 : Nat}
/-- one number of the plan changes, and one of the row -/
theorem one_inv {V1 V2 V3 : VV} {N2 : NN} {I2 : List Nat} (h : InvX V N I n o m l0) (hsv : SavP V N o m V1 N2) (hIN : IN N2 I2) {ra p q : Nat} {v : Int32} (hra : 21 ≤ ra ∧ ra ≤ 36) (hV2 : V2 = up V1 ra p v) (hV3 : V3 = up (svR (up V2 200 0 0) m) 201 q v) (hP3 : P2 V3 20 (V3 201) n) (hR3 : Rw (V3 201) n) : V3 200 0 = nI 0 ∧ Inv V3 N2 I2 := by
  obtain ⟨h1, h2, h3, h4, h5, h6, h7, h8, h9, h10, a, h11⟩ := h
  have e1 : ∀ i, i ≠ 1 → (i < 40 ∨ 157 ≤ i) → V1 i = V i := fun i a b => hsv.no b a
  have e2 : ∀ i, i ≠ ra → V2 i = V1 i := fun i hi => by rw [hV2]; exact up_nf hi
  have e3 : ∀ i, i ≠ 200 → i ≠ 201 → i ≠ 202 → V3 i = V2 i := fun i a b c => by rw [hV3, up_nf b, svR_i c a, up_nf a]
  have e30 : ∀ j, j ≠ 0 → j ≠ 2 → V3 200 j = V2 200 j := fun j a b => by rw [hV3, up_no (by decide), svR_j b, up_nk a]
  have eU : ∀ i, i ≠ 200 → (up V2 200 0 0) i = V2 i := fun i hi => up_nf hi
  refine ⟨by rw [hV3, up_no (by decide), svR_j (by decide), up_ss]; rfl, ?_⟩
  refine mut_inv (U := up V2 200 0 0) (l2 := l0) (a := a) h3.2.2.1 h3.2.2.2.2 h4 h1 h2 hsv (fun i a b => ?_) ?_ ?_ ?_ ?_ ?_ hIN hP3 hR3 ?_ ?_ ?_ h9 (fun i hi => ?_) ?_
  · rw [e3 i (by omega) (by omega) (by omega), e2 i (by omega)]
  · rw [e3 1 (by decide) (by decide) (by decide), e2 1 (by omega)]
  · rw [eU 201 (by decide), e2 201 (by omega), e1 201 (by decide) (by decide)]
  · rw [eU 202 (by decide), e2 202 (by omega), e1 202 (by decide) (by decide)]
  · rw [hV3, up_nf (by decide)]
  · rw [hV3, up_no (by decide)]
  · rw [e3 0 (by decide) (by decide) (by decide), e2 0 (by omega), e1 0 (by decide) (by decide), e30 4 (by decide) (by decide), e2 200 (by omega), e1 200 (by decide) (by decide)]
    exact h6
  · rw [e3 3 (by decide) (by decide) (by decide), e2 3 (by omega), e1 3 (by decide) (by decide)]; exact h7
  · rw [e30 5 (by decide) (by decide), e2 200 (by omega), e1 200 (by decide) (by decide)]; exact h8
  · rw [e3 4 (by decide) (by decide) (by decide), e2 4 (by omega), e1 4 (by decide) (by decide), e3 203 (by decide) (by decide) (by decide), e2 203 (by omega), e1 203 (by decide) (by decide)]; exact h10 i hi
  · rw [e3 3 (by decide) (by decide) (by decide), e2 3 (by omega), e1 3 (by decide) (by decide)]; exact h11
/-- the plan and the row behind one change -/
theorem one_p2 {V1 V3 : VV} {N2 : NN} (h : InvX V N I n o m l0) (hsv : SavP V N o m V1 N2) {ra p q : Nat} {v : Int32} (hV3 : V3 = up (svR (up (up V1 ra p v) 200 0 0) m) 201 q v)
    (hc : (ra = 21 ∧ p < 8 ∧ q = p) ∨ (ra = 22 ∧ p < 6 ∧ q = 8 + 5 * p) ∨ (ra = 35 ∧ p < n ∧ q = 40 + 8 * p + 6)) : P2 V3 20 (V3 201) n := by
  obtain ⟨⟨p1, p2, p3, p4, p5⟩, h2, h3, _⟩ := h
  have hn := h2.1
  have eV : ∀ i, i ≠ 1 → i < 40 → V3 i = up V ra p v i := fun i a b => by
    rw [hV3, up_nf (by omega), svR_i (by omega) (by omega), up_nf (by omega)]
    funext j
    dsimp only [up]
    rw [hsv.no (Or.inl b) a]
  have ez : ∀ j, V3 201 j = if j = q then v else V 201 j := fun j => by
    rw [hV3]
    by_cases w : j = q
    · rw [if_pos w, w, up_ss]
    · rw [if_neg w, up_nk w, svR_i (by decide) (by decide), up_nf (by decide), up_nf (by omega), hsv.no (Or.inr (by decide)) (by decide)]
  refine ⟨fun k hk => ?_, fun g hg k hk => ?_, ?_, ?_, fun k hk s hs => ?_⟩
  · rw [eV _ (by decide) (by decide), ez]
    rcases hc with ⟨rfl, a, rfl⟩ | ⟨rfl, a, rfl⟩ | ⟨rfl, a, rfl⟩
    · by_cases w : k = q
      · rw [if_pos w, w, up_ss]
      · rw [if_neg w, up_nk w]; exact p1 k hk
    · rw [if_neg (by omega), up_no (by decide)]; exact p1 k hk
    · rw [if_neg (by omega), up_no (by decide)]; exact p1 k hk
  · rw [eV _ (by omega) (by omega), ez]
    rcases hc with ⟨rfl, a, rfl⟩ | ⟨rfl, a, rfl⟩ | ⟨rfl, a, rfl⟩
    · rw [if_neg (by omega), up_no (by omega)]; exact p2 g hg k hk
    · by_cases w : g = p ∧ k = 0
      · obtain ⟨rfl, rfl⟩ := w
        rw [if_pos (by omega)]
        exact up_ss
      · rw [if_neg (by omega)]
        by_cases w2 : k = 0
        · rw [up_nk (fun z => w ⟨z, w2⟩)]; exact p2 g hg k hk
        · rw [up_no (by omega)]; exact p2 g hg k hk
    · rw [if_neg (by omega), up_no (by omega)]; exact p2 g hg k hk
  · rw [eV _ (by decide) (by decide), ez, if_neg (by omega), up_no (by omega)]; exact p3
  · rw [eV _ (by decide) (by decide), up_no (by omega)]; exact p4
  · rw [eV _ (by omega) (by omega)]
    unfold zF
    rw [ez]
    rcases hc with ⟨rfl, a, rfl⟩ | ⟨rfl, a, rfl⟩ | ⟨rfl, a, rfl⟩
    · rw [if_neg (by omega), up_no (by omega)]; exact p5 k hk s hs
    · rw [if_neg (by omega), up_no (by omega)]; exact p5 k hk s hs
    · by_cases w : s = p ∧ k = 6
      · obtain ⟨rfl, rfl⟩ := w
        rw [if_pos rfl]
        exact up_ss
      · rw [if_neg (by omega)]
        by_cases w2 : k = 6
        · subst w2
          rw [up_nk (fun z => w ⟨z, rfl⟩)]; exact p5 6 hk s hs
        · rw [up_no (by omega)]; exact p5 k hk s hs
theorem one_rw {V1 V3 : VV} {N2 : NN} (h : InvX V N I n o m l0) (hsv : SavP V N o m V1 N2) {ra p q : Nat} {v : Int32} (hra : ra < 40) (hV3 : V3 = up (svR (up (up V1 ra p v) 200 0 0) m) 201 q v)
    (hc : (q < 8 ∧ isValB q v = true) ∨ (8 ≤ q ∧ q < 38) ∨ ∃ s, s < n ∧ q = 40 + 8 * s + 6 ∧ -60 ≤ v.toInt ∧ v.toInt ≤ 120) : Rw (V3 201) n := by
  obtain ⟨_, ⟨r1, r2, r3, r4, r5, r6⟩, h3, _⟩ := h
  have ez : ∀ j, V3 201 j = if j = q then v else V 201 j := fun j => by
    rw [hV3]
    by_cases w : j = q
    · rw [if_pos w, w, up_ss]
    · rw [if_neg w, up_nk w, svR_i (by decide) (by decide), up_nf (by decide), up_nf (by omega), hsv.no (Or.inr (by decide)) (by decide)]
  have ek : ∀ k, k < 8 → k ≠ 6 → ∀ s, zF (V3 201) k s = zF (V 201) k s := fun k hk k6 s => by
    unfold zF
    rw [ez, if_neg (by rcases hc with c | c | ⟨s, _, c, _⟩ <;> omega)]
  refine ⟨r1, ?_, fun k hk => ?_, fun s hs => ?_, fun s hs => ?_, fun s t hst ht => ?_⟩
  · rw [ez, if_neg (by rcases hc with c | c | ⟨s, _, c, _⟩ <;> omega)]; exact r2
  · rw [ez]
    by_cases w : k = q
    · rw [if_pos w, w]
      rcases hc with c | c | ⟨s, _, c, _⟩
      · exact c.2
      · omega
      · omega
    · rw [if_neg w]; exact r3 k hk
  · obtain ⟨b0, b1, b2, b3, b4, b5, b6⟩ := r4 s hs
    unfold ShB
    rw [ek 0 (by decide) (by decide), ek 1 (by decide) (by decide), ek 2 (by decide) (by decide), ek 3 (by decide) (by decide), ek 4 (by decide) (by decide), ek 5 (by decide) (by decide)]
    refine ⟨b0, b1, b2, b3, b4, b5, ?_⟩
    show -60 ≤ (V3 201 (40 + 8 * s + 6)).toInt ∧ _
    unfold zF
    rw [ez]
    by_cases w : 40 + 8 * s + 6 = q
    · rw [if_pos w]
      rcases hc with c | c | ⟨s, _, c, d⟩
      · omega
      · omega
      · exact d
    · rw [if_neg w]; exact b6
  · rw [ek 7 (by decide) (by decide), ek 0 (by decide) (by decide)]
    rcases r5 s hs with c | ⟨c1, o, c2, c3, c4⟩
    · exact Or.inl c
    · exact Or.inr ⟨c1, o, c2, c3, by rw [ek 0 (by decide) (by decide)]; exact c4⟩
  · unfold keyT
    rw [ek 2 (by decide) (by decide), ek 3 (by decide) (by decide), ek 2 (by decide) (by decide), ek 3 (by decide) (by decide)]
    exact r6 s t hst ht
theorem sp_exc (h : InvX V N I n o m l0) {cs : List String} {X : String} {k : Nat} {V2 : VV} {RM : RMT} (hk : k ≤ 2) (hcs : cs[k]? = some X) (hnd : cs.Nodup) (hs : Sx V V2) {w : Int32} (hr : ∀ L', ∃ Q : VV → Prop, RM V2 L' N I (Pm (some (aI w)) Q L' N I) ∧ ∀ V3, Q V3 → V3 200 0 = nI (k + 1) ∧ Sx V2 V3) :
    IN N I ∧ ∃ (k : Nat) (w : Int32), k ≤ 3 ∧ Mt cs (.inr X) k w ∧ ∀ L', ∃ Q : VV → Prop, RM V2 L' N I (Pm (some (aI w)) Q L' N I) ∧ ∀ V3, Q V3 → V3 200 0 = nI k ∧ Inv V3 N I := by
  refine ⟨h.2.2.1.1, k + 1, w, by omega, mt_x hcs hnd, fun L' => ?_⟩
  obtain ⟨Q, q1, q2⟩ := hr L'
  exact ⟨Q, q1, fun V3 z => ⟨(q2 V3 z).1, n, o, m, l0, h.sx (sx_t hs (q2 V3 z).2)⟩⟩
theorem is_pm {D : Nat} {y : MethodName} {c : Cond} {args : List AV} {V2 V' : VV} {L2 L' : LL} {N2 N' : NN} {I2 I' : List Nat} {r : Option AV} (h : Runs l D 0 0 y c args V2 L2 N2 I2 (Is r V' L' N' I')) : Runs l D 0 0 y c args V2 L2 N2 I2 (Pm r (fun W => W = V') L' N' I') := h
theorem if_th {x a : Int32} {A B : VV} (h : x = 0) : (if x = 0 then A else B) = A := if_pos h
theorem s_set (h : InvX V N I n o m l0) (x y : Int32) : ∃ P, Runs l 6 15 246 yX6_set (Cond.code yX6_set cX6_set 4 (some .int)) [aR 0, aI x, aI y] V L N I P ∧ SP P (fun V2 L' N2 I2 PM => Runs l 3 0 0 yX7_set (Cond.code yX7_set cX7_set 3 (some .int)) [aR 200, aI x, aI y] V2 L' N2 I2 PM) [xO, xA] := by
  have hI := h.2.2.1.1.1
  have hm := h.2.2.2.2.1
  have hm6 := h.2.2.1.2.2.2.2
  refine ⟨_, c_X6_set h.2.2.1 x y, fun r V2 L2 N2 I2 hp => ?_⟩
  rcases ei_c hp with ⟨b1, hp⟩ | ⟨b1, rfl, rfl, rfl, rfl, rfl⟩
  · rcases ei_c hp with ⟨b2, hp⟩ | ⟨b2, rfl, rfl, rfl, rfl, rfl⟩
    · obtain ⟨V1, hsv, hV2, rfl, rfl, hIN⟩ := hp
      obtain ⟨s, hs, rfl⟩ := win_of (k := 7) (by decide) b1
      have hcl : (nI s).toNatClampNeg = s := nI_clamp (by omega)
      rw [hcl] at b2 hV2
      dsimp only at hV2
      have t0 : th2 (withinB (nI s) 0 7) (isValB (nI s).toNatClampNeg y) = 0 := th2_0 b1 (by rw [hcl]; exact b2)
      have e201 : V2 201 = V 201 := by rw [hV2, up_nf (by decide)]; exact hsv.no (Or.inr (by decide)) (by decide)
      have e200 : V2 200 = V 200 := by rw [hV2, up_nf (by decide)]; exact hsv.no (Or.inr (by decide)) (by decide)
      refine ⟨hIN, 0, _, by decide, Or.inl ⟨_, rfl, rfl, ?_⟩, fun L' => ⟨_, is_pm (c_X7_set hIN.1 (by rw [e200]; exact hm) hm6 _ _), fun V3 z => ?_⟩⟩
      · rw [if_pos t0, hcl, e201]; exact (h.1.1 s (by omega)).symm
      · rw [if_pos t0, hcl] at z
        rw [hV2] at z
        exact one_inv h hsv hIN (ra := 21) (by decide) rfl z (one_p2 h hsv z (Or.inl ⟨rfl, by omega, rfl⟩)) (one_rw h hsv (by decide) z (Or.inl ⟨by omega, b2⟩))
    · exact sp_exc h (k := 1) (by decide) rfl nd_2a sx_r fun L' => ⟨_, is_pm (c_X7_set hI hm hm6 _ _), fun V3 z => by
        rw [if_neg (by rw [th2_2 b1 b2]; decide)] at z
        rw [z]; exact ⟨up_ss.trans (th2_2 b1 b2), sx_th⟩⟩
  · exact sp_exc h (k := 0) (by decide) rfl nd_2a sx_r fun L' => ⟨_, is_pm (c_X7_set hI hm hm6 _ _), fun V3 z => by
      rw [if_neg (by rw [th2_1 b1]; decide)] at z
      rw [z]; exact ⟨up_ss.trans (th2_1 b1), sx_th⟩⟩
theorem s_setQuota (h : InvX V N I n o m l0) (x y : Int32) : ∃ P, Runs l 6 15 246 yX6_setQuota (Cond.code yX6_setQuota cX6_setQuota 4 (some .int)) [aR 0, aI x, aI y] V L N I P ∧ SP P (fun V2 L' N2 I2 PM => Runs l 3 0 0 yX7_setQuota (Cond.code yX7_setQuota cX7_setQuota 3 (some .int)) [aR 200, aI x, aI y] V2 L' N2 I2 PM) [xO, xA] := by
  have hI := h.2.2.1.1.1
  have hm := h.2.2.2.2.1
  have hm6 := h.2.2.1.2.2.2.2
  refine ⟨_, c_X6_setQuota h.2.2.1 x y, fun r V2 L2 N2 I2 hp => ?_⟩
  rcases ei_c hp with ⟨b1, hp⟩ | ⟨b1, rfl, rfl, rfl, rfl, rfl⟩
  · rcases ei_c hp with ⟨b2, hp⟩ | ⟨b2, rfl, rfl, rfl, rfl, rfl⟩
    · obtain ⟨V1, hsv, hV2, rfl, rfl, hIN⟩ := hp
      obtain ⟨s, hs, rfl⟩ := win_of (k := 5) (by decide) b1
      have hcl : (nI s).toNatClampNeg = s := nI_clamp (by omega)
      rw [hcl] at hV2
      dsimp only at hV2
      have t0 : th2 (withinB (nI s) 0 5) (withinB y 0 2000) = 0 := th2_0 b1 b2
      have e201 : V2 201 = V 201 := by rw [hV2, up_nf (by decide)]; exact hsv.no (Or.inr (by decide)) (by decide)
      have e200 : V2 200 = V 200 := by rw [hV2, up_nf (by decide)]; exact hsv.no (Or.inr (by decide)) (by decide)
      refine ⟨hIN, 0, _, by decide, Or.inl ⟨_, rfl, rfl, ?_⟩, fun L' => ⟨_, is_pm (c_X7_setQuota hIN.1 (by rw [e200]; exact hm) hm6 _ _), fun V3 z => ?_⟩⟩
      · rw [if_pos t0, hcl, e201]; exact (h.1.2.1 s (by omega) 0 (by decide)).symm
      · rw [if_pos t0, hcl] at z
        rw [hV2] at z
        exact one_inv h hsv hIN (ra := 22) (by decide) rfl z (one_p2 h hsv z (Or.inr (Or.inl ⟨rfl, by omega, rfl⟩))) (one_rw h hsv (by decide) z (Or.inr (Or.inl ⟨by omega, by omega⟩)))
    · exact sp_exc h (k := 1) (by decide) rfl nd_2a sx_r fun L' => ⟨_, is_pm (c_X7_setQuota hI hm hm6 _ _), fun V3 z => by
        rw [if_neg (by rw [th2_2 b1 b2]; decide)] at z
        rw [z]; exact ⟨up_ss.trans (th2_2 b1 b2), sx_th⟩⟩
  · exact sp_exc h (k := 0) (by decide) rfl nd_2a sx_r fun L' => ⟨_, is_pm (c_X7_setQuota hI hm hm6 _ _), fun V3 z => by
      rw [if_neg (by rw [th2_1 b1]; decide)] at z
      rw [z]; exact ⟨up_ss.trans (th2_1 b1), sx_th⟩⟩
theorem s_overrun (h : InvX V N I n o m l0) (x y : Int32) : ∃ P, Runs l 6 15 246 yX6_overrun (Cond.code yX6_overrun cX6_overrun 4 (some .int)) [aR 0, aI x, aI y] V L N I P ∧ SP P (fun V2 L' N2 I2 PM => Runs l 3 0 0 yX7_overrun (Cond.code yX7_overrun cX7_overrun 3 (some .int)) [aR 200, aI x, aI y] V2 L' N2 I2 PM) [xO, xA, xS] := by
  have hI := h.2.2.1.1.1
  have hm := h.2.2.2.2.1
  have hm6 := h.2.2.1.2.2.2.2
  have hn24 := h.2.1.1
  refine ⟨_, c_X6_overrun h.2.2.1 h.1.2.2.2.1 hn24 x y, fun r V2 L2 N2 I2 hp => ?_⟩
  rcases ei_c hp with ⟨b1, hp⟩ | ⟨b1, rfl, rfl, rfl, rfl, rfl⟩
  · rw [num_eq hn24] at b1
    rcases ei_c hp with ⟨b2, hp⟩ | ⟨b2, rfl, rfl, rfl, rfl, rfl⟩
    · obtain ⟨s, hs, rfl⟩ := shNat hn24 b1
      have hcl : (nI s).toNatClampNeg = s := nI_clamp (by omega)
      have e29 : V 29 s = RF V 0 s := h.1.2.2.2.2 0 (by decide) s hs
      rcases ei_c hp with ⟨b3, hp⟩ | ⟨b3, rfl, rfl, rfl, rfl, rfl⟩
      · obtain ⟨V1, hsv, hV2, rfl, rfl, hIN⟩ := hp
        rw [hcl, e29] at b3
        rw [hcl] at hV2
        dsimp only at hV2
        have e201 : V2 201 = V 201 := by rw [hV2, up_nf (by decide)]; exact hsv.no (Or.inr (by decide)) (by decide)
        have e200 : V2 200 = V 200 := by rw [hV2, up_nf (by decide)]; exact hsv.no (Or.inr (by decide)) (by decide)
        have t0 : th3 (withinB (nI s) 0 (nI n - 1)) (withinB y (-60) 120) (decide (RF V2 0 (nI s).toNatClampNeg = 0)) = 0 := th3_0 b1 b2 (by rw [hcl, RF_z e201]; exact b3)
        refine ⟨hIN, 0, _, by decide, Or.inl ⟨_, rfl, rfl, ?_⟩, fun L' => ⟨_, is_pm (c_X7_overrun hIN.1 (by rw [e201]; exact h.2.1.2.1) hn24 (by rw [e200]; exact hm) hm6 _ _), fun V3 z => ?_⟩⟩
        · rw [if_pos t0, hcl, RF_z e201]; exact (h.1.2.2.2.2 6 (by decide) s hs).symm
        · rw [if_pos t0, hcl] at z
          rw [hV2] at z
          exact one_inv h hsv hIN (ra := 35) (by decide) rfl z (one_p2 h hsv z (Or.inr (Or.inr ⟨rfl, hs, rfl⟩))) (one_rw h hsv (by decide) z (Or.inr (Or.inr ⟨s, hs, rfl, win_t.mp b2⟩)))
      · rw [hcl, e29] at b3
        have b3' : decide (RF V2 0 (nI s).toNatClampNeg = 0) = false := by rw [hcl]; exact b3
        exact sp_exc h (k := 2) (by decide) rfl nd_3 sx_r fun L' => ⟨_, is_pm (c_X7_overrun hI h.2.1.2.1 hn24 hm hm6 _ _), fun V3 z => by
          rw [if_neg (by rw [th3_3 b1 b2 b3']; decide)] at z
          rw [z]; exact ⟨up_ss.trans (th3_3 b1 b2 b3'), sx_th⟩⟩
    · exact sp_exc h (k := 1) (by decide) rfl nd_3 sx_r fun L' => ⟨_, is_pm (c_X7_overrun hI h.2.1.2.1 hn24 hm hm6 _ _), fun V3 z => by
        rw [if_neg (by rw [th3_2 b1 b2]; decide)] at z
        rw [z]; exact ⟨up_ss.trans (th3_2 b1 b2), sx_th⟩⟩
  · rw [num_eq hn24] at b1
    exact sp_exc h (k := 0) (by decide) rfl nd_3 sx_r fun L' => ⟨_, is_pm (c_X7_overrun hI h.2.1.2.1 hn24 hm hm6 _ _), fun V3 z => by
      rw [if_neg (by rw [th3_1 b1]; decide)] at z
      rw [z]; exact ⟨up_ss.trans (th3_1 b1), sx_th⟩⟩
end
